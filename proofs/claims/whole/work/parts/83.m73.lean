/-! the class reads drills: its tokens -/
def f_km (T V kd va : Int) : Prop := (kd = 0 ↔ T = 0) ∧ (kd = 3 ↔ T = 2) ∧ (kd = 3 → va = V) ∧ (kd = 2 ∧ va = 6 ↔ T = 15) ∧ (kd = 2 ∧ va = 1 ↔ T = 16) ∧ ((kd = 2 ∧ 0 ≤ va) ∧ va ≠ 1 ∧ va ≠ 6 ↔ 10 ≤ T ∧ T ≤ 14) ∧ ((kd = 2 ∧ 0 ≤ va) ∧ va ≠ 1 ∧ va ≠ 6 → va = f_kd T) ∧ ∀ c, 40 ≤ c → (kd = 1 ∧ va = c ↔ T = 100 + c)
theorem f_km_w {V va : Int} (h : 0 ≤ va ∧ va < 7) : f_km (f_wcode 3 va) V 2 va := by
  have h2 : va = 0 ∨ va = 1 ∨ va = 2 ∨ va = 3 ∨ va = 4 ∨ va = 5 ∨ va = 6 := by omega
  rcases h2 with rfl | rfl | rfl | rfl | rfl | rfl | rfl
  · rw [show f_wcode 3 0 = 10 by decide]
    exact ⟨by decide, by decide, fun q => absurd q (by decide), by decide, by decide, by decide, by decide, fun c hc => by omega⟩
  · rw [show f_wcode 3 1 = 16 by decide]
    exact ⟨by decide, by decide, fun q => absurd q (by decide), by decide, by decide, by decide, by decide, fun c hc => by omega⟩
  · rw [show f_wcode 3 2 = 11 by decide]
    exact ⟨by decide, by decide, fun q => absurd q (by decide), by decide, by decide, by decide, by decide, fun c hc => by omega⟩
  · rw [show f_wcode 3 3 = 12 by decide]
    exact ⟨by decide, by decide, fun q => absurd q (by decide), by decide, by decide, by decide, by decide, fun c hc => by omega⟩
  · rw [show f_wcode 3 4 = 13 by decide]
    exact ⟨by decide, by decide, fun q => absurd q (by decide), by decide, by decide, by decide, by decide, fun c hc => by omega⟩
  · rw [show f_wcode 3 5 = 14 by decide]
    exact ⟨by decide, by decide, fun q => absurd q (by decide), by decide, by decide, by decide, by decide, fun c hc => by omega⟩
  · rw [show f_wcode 3 6 = 15 by decide]
    exact ⟨by decide, by decide, fun q => absurd q (by decide), by decide, by decide, by decide, by decide, fun c hc => by omega⟩
theorem f_kv_3 {T V kd va : Int} (h : f_kv 3 T V kd va) : f_km T V kd va := by
  unfold f_kv at h
  have key : (T = 0 ∧ kd = 0) ∨ (T = 1 ∧ kd = 4) ∨ (T = 2 ∧ kd = 3 ∧ va = V) ∨ (kd = 1 ∧ T = 100 + va ∧ f_sgn va) → f_km T V kd va := by
    intro h
    unfold f_sgn at h
    have h2 : kd ≠ 2 := by omega
    exact ⟨by omega, by omega, by omega, by omega, by omega, by omega, fun q => absurd q.1.1 h2, fun c hc => by omega⟩
  rcases h with h | h | h | h | ⟨rfl, h2, rfl⟩
  · exact key (Or.inl h)
  · exact key (Or.inr (Or.inl h))
  · exact key (Or.inr (Or.inr (Or.inl h)))
  · exact key (Or.inr (Or.inr (Or.inr h)))
  · exact f_km_w h2
theorem km_0 {T V kd va : Int} (h : f_km T V kd va) : kd = 0 ↔ T = 0 := h.1
theorem km_n {T V kd va : Int} (h : f_km T V kd va) : kd = 3 ↔ T = 2 := h.2.1
theorem km_V {T V kd va : Int} (h : f_km T V kd va) (h3 : kd = 3) : va = V := h.2.2.1 h3
theorem km_a {T V kd va : Int} (h : f_km T V kd va) : kd = 2 ∧ va = 6 ↔ T = 15 := h.2.2.2.1
theorem km_t {T V kd va : Int} (h : f_km T V kd va) : kd = 2 ∧ va = 1 ↔ T = 16 := h.2.2.2.2.1
theorem km_k {T V kd va : Int} (h : f_km T V kd va) : (kd = 2 ∧ 0 ≤ va) ∧ va ≠ 1 ∧ va ≠ 6 ↔ 10 ≤ T ∧ T ≤ 14 := h.2.2.2.2.2.1
theorem km_v {T V kd va : Int} (h : f_km T V kd va) (h2 : (kd = 2 ∧ 0 ≤ va) ∧ va ≠ 1 ∧ va ≠ 6) : va = f_kd T := h.2.2.2.2.2.2.1 h2
theorem km_s {T V kd va : Int} (h : f_km T V kd va) (c : Int) (hc : 40 ≤ c) : kd = 1 ∧ va = c ↔ T = 100 + c := h.2.2.2.2.2.2.2 c hc
def f_mst (k : Int) : Int := if k = 0 then 5 else if k = 2 then 23 else if k = 3 then 99 else if k = 4 then 9 else 30
theorem f_mst_kd {T : Int} (h : 10 ≤ T ∧ T ≤ 14) : f_mst (f_kd T) = f_gst T ∧ (f_kd T = 0 ↔ T = 10) ∧ (f_kd T = 5 ↔ T = 14) := by
  have h2 : T = 10 ∨ T = 11 ∨ T = 12 ∨ T = 13 ∨ T = 14 := by omega
  rcases h2 with rfl | rfl | rfl | rfl | rfl <;> decide
def f_pco (K V S : Int → Int) (x2 x3 : Int) (r : f_Rs) (M2 : ax_Mem) : Prop := match r with
  | .inl (k, s) => M2 58 2 = k ∧ M2 58 3 = s
  | .inr (L2, _) => f_cc 3 K V S (M2 58 8) L2 ∧ M2 58 2 = x2 ∧ M2 58 3 = x3
theorem f_pco_no {K V S : Int → Int} {x2 x3 : Int} {r : f_Rs} {M2 : ax_Mem} {k s : Int} (e : r = .inl (k, s)) (h1 : M2 58 2 = k) (h2 : M2 58 3 = s) : f_pco K V S x2 x3 r M2 := by
  rw [e]
  exact ⟨h1, h2⟩
theorem f_pco_ok {K V S : Int → Int} {x2 x3 : Int} {r : f_Rs} {M2 : ax_Mem} {L2 : List f_Tk} {o : List f_Op} {n : Int} (e : r = .inr (L2, o)) (h1 : M2 58 8 = n) (hc : f_cc 3 K V S n L2) (h4 : M2 58 2 = x2) (h5 : M2 58 3 = x3) : f_pco K V S x2 x3 r M2 := by
  rw [e]
  refine ⟨?_, h4, h5⟩
  rw [h1]
  exact hc
theorem f_pco_0 {K V S : Int → Int} {x2 x3 : Int} {r : f_Rs} {M2 : ax_Mem} (h : f_pco K V S x2 x3 r M2) (h1 : f_rb r = 0) : r = .inl (M2 58 2, M2 58 3) := by
  match r, h, h1 with
  | .inl (k, s), h, _ =>
    obtain ⟨rfl, rfl⟩ := h
    rfl
theorem f_pco_n {K V S : Int → Int} {x2 x3 : Int} {lo hi : Int} {L : List f_Tk} {M2 : ax_Mem} (h : f_pco K V S x2 x3 (f_nbr lo hi L) M2) (h1 : f_rb (f_nbr lo hi L) ≠ 0) : (f_nbr lo hi L = .inr (L.tail, []) ∧ M2 58 2 = x2 ∧ M2 58 3 = x3) ∧ f_cc 3 K V S (M2 58 8) L.tail ∧ f_T L = 2 ∧ lo ≤ f_V L ∧ f_V L ≤ hi := by
  obtain ⟨L2, o, e⟩ := f_rb_ok h1
  rw [e] at h
  obtain ⟨h2, rfl, rfl⟩ := f_nbr_inr e
  exact ⟨⟨e, h.2⟩, h.1, h2⟩
theorem f_pco_d {K V S : Int → Int} {x2 x3 : Int} {t : Int} {L : List f_Tk} {M2 : ax_Mem} (h : f_pco K V S x2 x3 (f_ned t L) M2) (h1 : f_rb (f_ned t L) ≠ 0) : (f_ned t L = .inr (L.tail, []) ∧ M2 58 2 = x2 ∧ M2 58 3 = x3) ∧ f_cc 3 K V S (M2 58 8) L.tail ∧ f_T L = t := by
  obtain ⟨L2, o, e⟩ := f_rb_ok h1
  rw [e] at h
  obtain ⟨h2, rfl, rfl⟩ := f_ned_inr e
  exact ⟨⟨e, h.2⟩, h.1, h2⟩
def f_stq (L : List f_Tk) : f_Rd := if 10 ≤ f_T L ∧ f_T L ≤ 14 then f_stp L else .inl (1, f_S L)
def f_ad (f : Int → Int) (n v : Int) : Int → Int := if n < 150 then f_up f n v else f
def f_dco (K V S kn ff sc : Int → Int) (cn x2 x3 : Int) (r : f_Rd) (M2 : ax_Mem) : Prop := match r with
  | .inl (k, s) => M2 58 2 = k ∧ M2 58 3 = s
  | .inr (L2, ss) => f_cc 3 K V S (M2 58 8) L2 ∧ ∃ s, ss = [s] ∧ M2 66 = f_ad kn cn (f_kd s.1) ∧ M2 67 = f_ad ff cn s.2.1 ∧ M2 68 = f_ad sc cn s.2.2 ∧ M2 65 0 = cn + 1 ∧ M2 58 2 = x2 ∧ M2 58 3 = x3
theorem f_dco_no {K V S kn ff sc : Int → Int} {cn x2 x3 : Int} {r : f_Rd} {M2 : ax_Mem} {k s : Int} (e : r = .inl (k, s)) (h1 : M2 58 2 = k) (h2 : M2 58 3 = s) : f_dco K V S kn ff sc cn x2 x3 r M2 := by
  rw [e]
  exact ⟨h1, h2⟩
def f_agq (op : Int) (L : List f_Tk) : f_Rd := if op = 4 then .inl (3, f_S L) else f_bd (f_nbr 1 9 L.tail) (fun L2 => f_bd (f_ned 140 L2) (fun L3 => .inr (L3, [])))
def f_aco (K V S tm sr : Int → Int) (op cn x2 x3 : Int) (L : List f_Tk) (r : f_Rd) (M2 : ax_Mem) : Prop := match r with
  | .inl (k, s) => M2 58 2 = k ∧ M2 58 3 = s
  | .inr (L2, _) => f_cc 3 K V S (M2 58 8) L2 ∧ M2 69 = f_up tm op (f_V L.tail) ∧ M2 70 = f_up sr op cn ∧ M2 65 4 = op + 1 ∧ (1 ≤ f_V L.tail ∧ f_V L.tail ≤ 9) ∧ M2 58 2 = x2 ∧ M2 58 3 = x3
theorem f_aco_no {K V S tm sr : Int → Int} {op cn x2 x3 : Int} {L : List f_Tk} {r : f_Rd} {M2 : ax_Mem} {k s : Int} (e : r = .inl (k, s)) (h1 : M2 58 2 = k) (h2 : M2 58 3 = s) : f_aco K V S tm sr op cn x2 x3 L r M2 := by
  rw [e]
  exact ⟨h1, h2⟩
set_option maxRecDepth 20000 in
theorem s_ps3 (E : ax_Env) (l : Launch) (d : Nat) (hd : 1 ≤ d) (M : ax_Mem) (kd vl : Int) (t : Int) (L : List f_Tk) {kk : Int → Int} (hkk : M 60 = kk) {vv : Int → Int} (hvv : M 61 = vv) {ss : Int → Int} (hss : M 62 = ss) {nx : Int} (hnx : M 58 8 = nx) {x2 : Int} (hx2 : M 58 2 = x2) {x3 : Int} (hx3 : M 58 3 = x3) (hg0 : f_cc 3 kk vv ss nx L) (hg1 : kd ≠ 0 ∧ t ≠ 0) (hg2 : kk nx = kd ∧ vv nx = vl ↔ f_T L = t) : ax_G E l d iX8_pass [.inr 58, .inl kd, .inl vl] M (fun z0 M2 => z0 = some (.inl (f_rb (f_ned t L))) ∧ (∀ x0 i0 : Int, ¬ ((x0 = 58 ∧ i0 = 8) ∨ (x0 = 58 ∧ i0 = 2) ∨ (x0 = 58 ∧ i0 = 3)) → M2 x0 i0 = M x0 i0) ∧ (f_pco kk vv ss x2 x3 (f_ned t L) M2)) := by
  obtain ⟨d, rfl⟩ : ∃ d0, d = d0 + 1 := ⟨d - 1, by omega⟩
  refine ax_start rfl (Nat.le_of_ble_eq_true rfl) (ls := [some (.inr 58), some (.inl kd), some (.inl vl)]) rfl (fun hav hcm => ?_)
  have hc1 : -2147483648 ≤ kd ∧ kd < 2147483648 := hav (.inl kd) (by simp)
  have hc2 : -2147483648 ≤ vl ∧ vl < 2147483648 := hav (.inl vl) (by simp)
  clear hav
  have qK := f_kv_3 (f_cc_hd hg0).1.1
  have qs := (f_cc_hd hg0).1.2
  have qR := f_cc_rg hg0
  refine ax_aload_n dX8_pass_0 rfl rfl (pc' := 1) rfl ?_
  refine ax_getr (v := 60) dX8_pass_1 flX8_19 rfl sh_58 rfl (pc' := 4) rfl ?_
  refine ax_aload_n dX8_pass_4 rfl rfl (pc' := 5) rfl ?_
  refine ax_geti (v := nx) dX8_pass_5 flX8_34 rfl sh_58 hnx rfl (pc' := 8) rfl ?_
  refine ax_iald (v := kk nx) dX8_pass_8 sh_60 rfl (by omega) (by omega) ((congrFun hkk nx).trans rfl) (pc' := 9) rfl ?_
  refine ax_iload_n dX8_pass_9 rfl rfl (pc' := 10) rfl ?_
  refine ax_icmp_ne (tgt := 26) dX8_pass_10 (by decide) (pc' := 13) rfl (fun h10 => ?_) (fun h10 => ?_)
  · have qz : f_ned t L = .inl (1, ss nx) := by
      unfold f_ned
      rw [if_neg (fun h => h10 (hg2.mpr h).1), qs]
    refine ax_aload_n dX8_pass_26 rfl rfl (pc' := 27) rfl ?_
    refine ax_iconst dX8_pass_27 (by decide) (pc' := 28) rfl ?_
    refine ax_invG [.inl 1] [] dX8_pass_28 mlX8_83 sh_58 rfl rfl rfl (Nat.le_of_ble_eq_true rfl) (s_X8_fail E l _ (by omega) _ 1 hss hnx (by first | omega | assumption)) (pc' := 31) rfl (fun vv M_28 hq co28 hcm28 => ?_)
    obtain ⟨rfl, frM_28, msM_28_0, msM_28_1⟩ := hq
    refine ax_reS (st2 := [.inl 0]) rfl ?_
    refine ax_zret dX8_pass_31 rfl (by decide) ?_
    refine ⟨rfl, ?_, ?_, ?_⟩
    · refine congrArg (fun z => some (Sum.inl z)) ?_
      rw [qz]
      rfl
    · intro x0 i0 hai
      exact ((frM_28 x0 i0 (fun h => h.elim (fun h => hai (Or.inr (Or.inl h))) (fun h => hai (Or.inr (Or.inr h))))).trans rfl)
    · exact f_pco_no qz msM_28_0 msM_28_1
  · refine ax_aload_n dX8_pass_13 rfl rfl (pc' := 14) rfl ?_
    refine ax_getr (v := 61) dX8_pass_14 flX8_22 rfl sh_58 rfl (pc' := 17) rfl ?_
    refine ax_aload_n dX8_pass_17 rfl rfl (pc' := 18) rfl ?_
    refine ax_geti (v := nx) dX8_pass_18 flX8_34 rfl sh_58 hnx rfl (pc' := 21) rfl ?_
    refine ax_iald (v := vv nx) dX8_pass_21 sh_61 rfl (by omega) (by omega) ((congrFun hvv nx).trans rfl) (pc' := 22) rfl ?_
    refine ax_iload_n dX8_pass_22 rfl rfl (pc' := 23) rfl ?_
    refine ax_icmp_eq (tgt := 32) dX8_pass_23 (by decide) (pc' := 26) rfl (fun h23 => ?_) (fun h23 => ?_)
    · have qT := hg2.mp ⟨h10, h23⟩
      have qz : f_ned t L = .inr (L.tail, []) := by
        unfold f_ned
        rw [if_pos qT]
      obtain ⟨xc, xl, xn⟩ := f_cc_nx hg0 (by omega)
      have xK := f_kv_3 (f_cc_hd xc).1.1
      have xs := (f_cc_hd xc).1.2
      have xR := f_cc_rg xc
      refine ax_aload_n dX8_pass_32 rfl rfl (pc' := 33) rfl ?_
      refine ax_invG [] [] dX8_pass_33 mlX8_86 sh_58 rfl rfl rfl (Nat.le_of_ble_eq_true rfl) (s_X8_step E l _ (by omega) _ hkk hnx (by first | omega | assumption) (by first | omega | assumption)) (pc' := 36) rfl (fun vv M_33 hq co33 hcm33 => ?_)
      obtain ⟨rfl, frM_33, msM_33_0⟩ := hq
      refine ax_reS (st2 := []) rfl ?_
      refine ax_iconst dX8_pass_36 (by decide) (pc' := 37) rfl ?_
      refine ax_zret dX8_pass_37 rfl (by decide) ?_
      refine ⟨rfl, ?_, ?_, ?_⟩
      · refine congrArg (fun z => some (Sum.inl z)) ?_
        rw [qz]
        rfl
      · intro x0 i0 hai
        exact ((frM_33 x0 i0 (fun h => hai (Or.inl h))).trans rfl)
      · exact f_pco_ok qz msM_33_0 xc ((frM_33 58 2 (fun h => absurd h.2 (by decide))).trans hx2) ((frM_33 58 3 (fun h => absurd h.2 (by decide))).trans hx3)
    · have qz : f_ned t L = .inl (1, ss nx) := by
        unfold f_ned
        rw [if_neg (fun h => h23 (hg2.mpr h).2), qs]
      refine ax_aload_n dX8_pass_26 rfl rfl (pc' := 27) rfl ?_
      refine ax_iconst dX8_pass_27 (by decide) (pc' := 28) rfl ?_
      refine ax_invG [.inl 1] [] dX8_pass_28 mlX8_83 sh_58 rfl rfl rfl (Nat.le_of_ble_eq_true rfl) (s_X8_fail E l _ (by omega) _ 1 hss hnx (by first | omega | assumption)) (pc' := 31) rfl (fun vv M_28 hq co28 hcm28 => ?_)
      obtain ⟨rfl, frM_28, msM_28_0, msM_28_1⟩ := hq
      refine ax_reS (st2 := [.inl 0]) rfl ?_
      refine ax_zret dX8_pass_31 rfl (by decide) ?_
      refine ⟨rfl, ?_, ?_, ?_⟩
      · refine congrArg (fun z => some (Sum.inl z)) ?_
        rw [qz]
        rfl
      · intro x0 i0 hai
        exact ((frM_28 x0 i0 (fun h => h.elim (fun h => hai (Or.inr (Or.inl h))) (fun h => hai (Or.inr (Or.inr h))))).trans rfl)
      · exact f_pco_no qz msM_28_0 msM_28_1
set_option maxRecDepth 20000 in
theorem s_pN3 (E : ax_Env) (l : Launch) (d : Nat) (hd : 1 ≤ d) (M : ax_Mem) (le mo : Int) (L : List f_Tk) {kk : Int → Int} (hkk : M 60 = kk) {vv : Int → Int} (hvv : M 61 = vv) {ss : Int → Int} (hss : M 62 = ss) {nx : Int} (hnx : M 58 8 = nx) {x2 : Int} (hx2 : M 58 2 = x2) {x3 : Int} (hx3 : M 58 3 = x3) (hg0 : f_cc 3 kk vv ss nx L) : ax_G E l d iX8_passNumber [.inr 58, .inl le, .inl mo] M (fun z0 M2 => z0 = some (.inl (f_rb (f_nbr le mo L))) ∧ (∀ x0 i0 : Int, ¬ ((x0 = 58 ∧ i0 = 8) ∨ (x0 = 58 ∧ i0 = 2) ∨ (x0 = 58 ∧ i0 = 3)) → M2 x0 i0 = M x0 i0) ∧ (f_pco kk vv ss x2 x3 (f_nbr le mo L) M2)) := by
  obtain ⟨d, rfl⟩ : ∃ d0, d = d0 + 1 := ⟨d - 1, by omega⟩
  refine ax_start rfl (Nat.le_of_ble_eq_true rfl) (ls := [some (.inr 58), some (.inl le), some (.inl mo)]) rfl (fun hav hcm => ?_)
  have hc1 : -2147483648 ≤ le ∧ le < 2147483648 := hav (.inl le) (by simp)
  have hc2 : -2147483648 ≤ mo ∧ mo < 2147483648 := hav (.inl mo) (by simp)
  clear hav
  have qK := f_kv_3 (f_cc_hd hg0).1.1
  have qs := (f_cc_hd hg0).1.2
  have qR := f_cc_rg hg0
  refine ax_aload_n dX8_passNumber_0 rfl rfl (pc' := 1) rfl ?_
  refine ax_getr (v := 60) dX8_passNumber_1 flX8_19 rfl sh_58 rfl (pc' := 4) rfl ?_
  refine ax_aload_n dX8_passNumber_4 rfl rfl (pc' := 5) rfl ?_
  refine ax_geti (v := nx) dX8_passNumber_5 flX8_34 rfl sh_58 hnx rfl (pc' := 8) rfl ?_
  refine ax_iald (v := kk nx) dX8_passNumber_8 sh_60 rfl (by omega) (by omega) ((congrFun hkk nx).trans rfl) (pc' := 9) rfl ?_
  refine ax_iconst dX8_passNumber_9 (by decide) (pc' := 10) rfl ?_
  refine ax_icmp_eq (tgt := 19) dX8_passNumber_10 (by decide) (pc' := 13) rfl (fun h10 => ?_) (fun h10 => ?_)
  · have qT := (km_n qK).mp h10
    have qV := km_V qK h10
    refine ax_aload_n dX8_passNumber_19 rfl rfl (pc' := 20) rfl ?_
    refine ax_getr (v := 61) dX8_passNumber_20 flX8_22 rfl sh_58 rfl (pc' := 23) rfl ?_
    refine ax_aload_n dX8_passNumber_23 rfl rfl (pc' := 24) rfl ?_
    refine ax_geti (v := nx) dX8_passNumber_24 flX8_34 rfl sh_58 hnx rfl (pc' := 27) rfl ?_
    refine ax_iald (v := vv nx) dX8_passNumber_27 sh_61 rfl (by omega) (by omega) ((congrFun hvv nx).trans rfl) (pc' := 28) rfl ?_
    refine ax_iload_n dX8_passNumber_28 rfl rfl (pc' := 29) rfl ?_
    refine ax_icmp_lt (tgt := 45) dX8_passNumber_29 (by decide) (pc' := 32) rfl (fun h29 => ?_) (fun h29 => ?_)
    · have qz : f_nbr le mo L = .inl (2, ss nx) := by
        unfold f_nbr
        rw [if_neg (fun h => h qT), if_pos (by rw [← qV]; omega), qs]
      refine ax_aload_n dX8_passNumber_45 rfl rfl (pc' := 46) rfl ?_
      refine ax_iconst dX8_passNumber_46 (by decide) (pc' := 47) rfl ?_
      refine ax_invG [.inl 2] [] dX8_passNumber_47 mlX8_83 sh_58 rfl rfl rfl (Nat.le_of_ble_eq_true rfl) (s_X8_fail E l _ (by omega) _ 2 hss hnx (by first | omega | assumption)) (pc' := 50) rfl (fun vv M_47 hq co47 hcm47 => ?_)
      obtain ⟨rfl, frM_47, msM_47_0, msM_47_1⟩ := hq
      refine ax_reS (st2 := [.inl 0]) rfl ?_
      refine ax_zret dX8_passNumber_50 rfl (by decide) ?_
      refine ⟨rfl, ?_, ?_, ?_⟩
      · refine congrArg (fun z => some (Sum.inl z)) ?_
        rw [qz]
        rfl
      · intro x0 i0 hai
        exact ((frM_47 x0 i0 (fun h => h.elim (fun h => hai (Or.inr (Or.inl h))) (fun h => hai (Or.inr (Or.inr h))))).trans rfl)
      · exact f_pco_no qz msM_47_0 msM_47_1
    · refine ax_aload_n dX8_passNumber_32 rfl rfl (pc' := 33) rfl ?_
      refine ax_getr (v := 61) dX8_passNumber_33 flX8_22 rfl sh_58 rfl (pc' := 36) rfl ?_
      refine ax_aload_n dX8_passNumber_36 rfl rfl (pc' := 37) rfl ?_
      refine ax_geti (v := nx) dX8_passNumber_37 flX8_34 rfl sh_58 hnx rfl (pc' := 40) rfl ?_
      refine ax_iald (v := vv nx) dX8_passNumber_40 sh_61 rfl (by omega) (by omega) ((congrFun hvv nx).trans rfl) (pc' := 41) rfl ?_
      refine ax_iload_n dX8_passNumber_41 rfl rfl (pc' := 42) rfl ?_
      refine ax_icmp_le (tgt := 51) dX8_passNumber_42 (by decide) (pc' := 45) rfl (fun h42 => ?_) (fun h42 => ?_)
      · have qz : f_nbr le mo L = .inr (L.tail, []) := by
          unfold f_nbr
          rw [if_neg (fun h => h qT), if_neg (by rw [← qV]; omega)]
        obtain ⟨xc, xl, xn⟩ := f_cc_nx hg0 (by omega)
        have xK := f_kv_3 (f_cc_hd xc).1.1
        have xs := (f_cc_hd xc).1.2
        have xR := f_cc_rg xc
        refine ax_aload_n dX8_passNumber_51 rfl rfl (pc' := 52) rfl ?_
        refine ax_invG [] [] dX8_passNumber_52 mlX8_86 sh_58 rfl rfl rfl (Nat.le_of_ble_eq_true rfl) (s_X8_step E l _ (by omega) _ hkk hnx (by first | omega | assumption) (by first | omega | assumption)) (pc' := 55) rfl (fun vv M_52 hq co52 hcm52 => ?_)
        obtain ⟨rfl, frM_52, msM_52_0⟩ := hq
        refine ax_reS (st2 := []) rfl ?_
        refine ax_iconst dX8_passNumber_55 (by decide) (pc' := 56) rfl ?_
        refine ax_zret dX8_passNumber_56 rfl (by decide) ?_
        refine ⟨rfl, ?_, ?_, ?_⟩
        · refine congrArg (fun z => some (Sum.inl z)) ?_
          rw [qz]
          rfl
        · intro x0 i0 hai
          exact ((frM_52 x0 i0 (fun h => hai (Or.inl h))).trans rfl)
        · exact f_pco_ok qz msM_52_0 xc ((frM_52 58 2 (fun h => absurd h.2 (by decide))).trans hx2) ((frM_52 58 3 (fun h => absurd h.2 (by decide))).trans hx3)
      · have qz : f_nbr le mo L = .inl (2, ss nx) := by
          unfold f_nbr
          rw [if_neg (fun h => h qT), if_pos (by rw [← qV]; omega), qs]
        refine ax_aload_n dX8_passNumber_45 rfl rfl (pc' := 46) rfl ?_
        refine ax_iconst dX8_passNumber_46 (by decide) (pc' := 47) rfl ?_
        refine ax_invG [.inl 2] [] dX8_passNumber_47 mlX8_83 sh_58 rfl rfl rfl (Nat.le_of_ble_eq_true rfl) (s_X8_fail E l _ (by omega) _ 2 hss hnx (by first | omega | assumption)) (pc' := 50) rfl (fun vv M_47 hq co47 hcm47 => ?_)
        obtain ⟨rfl, frM_47, msM_47_0, msM_47_1⟩ := hq
        refine ax_reS (st2 := [.inl 0]) rfl ?_
        refine ax_zret dX8_passNumber_50 rfl (by decide) ?_
        refine ⟨rfl, ?_, ?_, ?_⟩
        · refine congrArg (fun z => some (Sum.inl z)) ?_
          rw [qz]
          rfl
        · intro x0 i0 hai
          exact ((frM_47 x0 i0 (fun h => h.elim (fun h => hai (Or.inr (Or.inl h))) (fun h => hai (Or.inr (Or.inr h))))).trans rfl)
        · exact f_pco_no qz msM_47_0 msM_47_1
  · have qz : f_nbr le mo L = .inl (1, ss nx) := by
      unfold f_nbr
      rw [if_pos (fun h => h10 ((km_n qK).mpr h)), qs]
    refine ax_aload_n dX8_passNumber_13 rfl rfl (pc' := 14) rfl ?_
    refine ax_iconst dX8_passNumber_14 (by decide) (pc' := 15) rfl ?_
    refine ax_invG [.inl 1] [] dX8_passNumber_15 mlX8_83 sh_58 rfl rfl rfl (Nat.le_of_ble_eq_true rfl) (s_X8_fail E l _ (by omega) _ 1 hss hnx (by first | omega | assumption)) (pc' := 18) rfl (fun vv M_15 hq co15 hcm15 => ?_)
    obtain ⟨rfl, frM_15, msM_15_0, msM_15_1⟩ := hq
    refine ax_reS (st2 := [.inl 0]) rfl ?_
    refine ax_zret dX8_passNumber_18 rfl (by decide) ?_
    refine ⟨rfl, ?_, ?_, ?_⟩
    · refine congrArg (fun z => some (Sum.inl z)) ?_
      rw [qz]
      rfl
    · intro x0 i0 hai
      exact ((frM_15 x0 i0 (fun h => h.elim (fun h => hai (Or.inr (Or.inl h))) (fun h => hai (Or.inr (Or.inr h))))).trans rfl)
    · exact f_pco_no qz msM_15_0 msM_15_1
set_option maxRecDepth 20000 in
theorem s_X1_addStep (E : ax_Env) (l : Launch) (d : Nat) (hd : 0 ≤ d) (M : ax_Mem) (ak af az : Int) {kn : Int → Int} (hkn : M 66 = kn) {ff : Int → Int} (hff : M 67 = ff) {sc : Int → Int} (hsc : M 68 = sc) {cn : Int} (hcn : M 65 0 = cn) (hg0 : 0 ≤ cn ∧ cn ≤ 100000) : ax_G E l d iX1_addStep [.inr 65, .inl ak, .inl af, .inl az] M (fun z0 M2 => z0 = none ∧ (∀ x0 i0 : Int, ¬ (x0 = 66 ∨ x0 = 67 ∨ x0 = 68 ∨ (x0 = 65 ∧ i0 = 0)) → M2 x0 i0 = M x0 i0) ∧ M2 66 = f_ad kn cn ak ∧ M2 67 = f_ad ff cn af ∧ M2 68 = f_ad sc cn az ∧ M2 65 0 = cn + 1) := by
  refine ax_start rfl (Nat.le_of_ble_eq_true rfl) (ls := [some (.inr 65), some (.inl ak), some (.inl af), some (.inl az)]) rfl (fun hav hcm => ?_)
  have hc1 : -2147483648 ≤ ak ∧ ak < 2147483648 := hav (.inl ak) (by simp)
  have hc2 : -2147483648 ≤ af ∧ af < 2147483648 := hav (.inl af) (by simp)
  have hc3 : -2147483648 ≤ az ∧ az < 2147483648 := hav (.inl az) (by simp)
  clear hav
  refine ax_aload_n dX1_addStep_0 rfl rfl (pc' := 1) rfl ?_
  refine ax_geti (v := cn) dX1_addStep_1 flX1_27 rfl sh_65 hcn rfl (pc' := 4) rfl ?_
  refine ax_sipush dX1_addStep_4 (by decide) (pc' := 7) rfl ?_
  refine ax_icmp_ge (tgt := 40) dX1_addStep_7 (by decide) (pc' := 10) rfl (fun h7 => ?_) (fun h7 => ?_)
  · refine ax_aload_n dX1_addStep_40 rfl rfl (pc' := 41) rfl ?_
    refine ax_dup dX1_addStep_41 (pc' := 42) rfl ?_
    refine ax_geti (v := cn) dX1_addStep_42 flX1_27 rfl sh_65 hcn rfl (pc' := 45) rfl ?_
    refine ax_iconst dX1_addStep_45 (by decide) (pc' := 46) rfl ?_
    refine ax_iadd dX1_addStep_46 (by omega) (pc' := 47) rfl ?_
    refine ax_puti dX1_addStep_47 flX1_27 (Or.inl rfl) sh_65 rfl (pc' := 50) rfl ?_
    refine ax_vret dX1_addStep_50 rfl ?_
    refine ⟨rfl, rfl, ?_, ?_, ?_, ?_, ?_⟩
    · intro x0 i0 hai
      exact (ax_up_miss (fun h => hai (Or.inr (Or.inr (Or.inr h)))) rfl)
    · refine Eq.trans (ax_up_rowmiss (by decide) hkn) ?_
      unfold f_ad
      first | rw [if_pos (by omega)] | rw [if_neg (by omega)]
    · refine Eq.trans (ax_up_rowmiss (by decide) hff) ?_
      unfold f_ad
      first | rw [if_pos (by omega)] | rw [if_neg (by omega)]
    · refine Eq.trans (ax_up_rowmiss (by decide) hsc) ?_
      unfold f_ad
      first | rw [if_pos (by omega)] | rw [if_neg (by omega)]
    · exact (ax_up_hit _ _ _ _)
  · refine ax_aload_n dX1_addStep_10 rfl rfl (pc' := 11) rfl ?_
    refine ax_getr (v := 66) dX1_addStep_11 flX1_11 rfl sh_65 rfl (pc' := 14) rfl ?_
    refine ax_aload_n dX1_addStep_14 rfl rfl (pc' := 15) rfl ?_
    refine ax_geti (v := cn) dX1_addStep_15 flX1_27 rfl sh_65 hcn rfl (pc' := 18) rfl ?_
    refine ax_iload_n dX1_addStep_18 rfl rfl (pc' := 19) rfl ?_
    refine ax_iast dX1_addStep_19 sh_66 rfl (by omega) (by omega) (pc' := 20) rfl ?_
    refine ax_aload_n dX1_addStep_20 rfl rfl (pc' := 21) rfl ?_
    refine ax_getr (v := 67) dX1_addStep_21 flX1_15 rfl sh_65 rfl (pc' := 24) rfl ?_
    refine ax_aload_n dX1_addStep_24 rfl rfl (pc' := 25) rfl ?_
    refine ax_geti (v := cn) dX1_addStep_25 flX1_27 rfl sh_65 (show (ax_up M 66 cn ak) 65 0 = cn from (ax_up_miss (fun h => absurd h.1 (by decide)) hcn)) rfl (pc' := 28) rfl ?_
    refine ax_iload_n dX1_addStep_28 rfl rfl (pc' := 29) rfl ?_
    refine ax_iast dX1_addStep_29 sh_67 rfl (by omega) (by omega) (pc' := 30) rfl ?_
    refine ax_aload_n dX1_addStep_30 rfl rfl (pc' := 31) rfl ?_
    refine ax_getr (v := 68) dX1_addStep_31 flX1_18 rfl sh_65 rfl (pc' := 34) rfl ?_
    refine ax_aload_n dX1_addStep_34 rfl rfl (pc' := 35) rfl ?_
    refine ax_geti (v := cn) dX1_addStep_35 flX1_27 rfl sh_65 (show (ax_up (ax_up M 66 cn ak) 67 cn af) 65 0 = cn from (ax_up_miss (fun h => absurd h.1 (by decide)) (ax_up_miss (fun h => absurd h.1 (by decide)) hcn))) rfl (pc' := 38) rfl ?_
    refine ax_iload_n dX1_addStep_38 rfl rfl (pc' := 39) rfl ?_
    refine ax_iast dX1_addStep_39 sh_68 rfl (by omega) (by omega) (pc' := 40) rfl ?_
    refine ax_aload_n dX1_addStep_40 rfl rfl (pc' := 41) rfl ?_
    refine ax_dup dX1_addStep_41 (pc' := 42) rfl ?_
    refine ax_geti (v := cn) dX1_addStep_42 flX1_27 rfl sh_65 (show (ax_up (ax_up (ax_up M 66 cn ak) 67 cn af) 68 cn az) 65 0 = cn from (ax_up_miss (fun h => absurd h.1 (by decide)) (ax_up_miss (fun h => absurd h.1 (by decide)) (ax_up_miss (fun h => absurd h.1 (by decide)) hcn)))) rfl (pc' := 45) rfl ?_
    refine ax_iconst dX1_addStep_45 (by decide) (pc' := 46) rfl ?_
    refine ax_iadd dX1_addStep_46 (by omega) (pc' := 47) rfl ?_
    refine ax_puti dX1_addStep_47 flX1_27 (Or.inl rfl) sh_65 rfl (pc' := 50) rfl ?_
    refine ax_vret dX1_addStep_50 rfl ?_
    refine ⟨rfl, rfl, ?_, ?_, ?_, ?_, ?_⟩
    · intro x0 i0 hai
      exact (ax_up_miss (fun h => hai (Or.inr (Or.inr (Or.inr h)))) (ax_up_miss (fun h => hai (Or.inr (Or.inr (Or.inl h.1)))) (ax_up_miss (fun h => hai (Or.inr (Or.inl h.1))) (ax_up_miss (fun h => hai (Or.inl h.1)) rfl))))
    · refine Eq.trans (ax_up_rowmiss (by decide) (ax_up_rowmiss (by decide) (ax_up_rowmiss (by decide) (ax_up_rowhit hkn)))) ?_
      unfold f_ad
      first | rw [if_pos (by omega)] | rw [if_neg (by omega)]
    · refine Eq.trans (ax_up_rowmiss (by decide) (ax_up_rowmiss (by decide) (ax_up_rowhit (ax_up_rowmiss (by decide) hff)))) ?_
      unfold f_ad
      first | rw [if_pos (by omega)] | rw [if_neg (by omega)]
    · refine Eq.trans (ax_up_rowmiss (by decide) (ax_up_rowhit (ax_up_rowmiss (by decide) (ax_up_rowmiss (by decide) hsc)))) ?_
      unfold f_ad
      first | rw [if_pos (by omega)] | rw [if_neg (by omega)]
    · exact (ax_up_hit _ _ _ _)
set_option maxRecDepth 20000 in
theorem s_X1_mostOf (E : ax_Env) (l : Launch) (d : Nat) (hd : 0 ≤ d) (M : ax_Mem) (k : Int) : ax_G E l d iX1_mostOf [.inl k] M (fun z0 M2 => z0 = some (.inl (f_mst k)) ∧ M = M2) := by
  refine ax_start rfl (Nat.le_of_ble_eq_true rfl) (ls := [some (.inl k)]) rfl (fun hav hcm => ?_)
  have hc0 : -2147483648 ≤ k ∧ k < 2147483648 := hav (.inl k) (by simp)
  clear hav
  refine ax_iload_n dX1_mostOf_0 rfl rfl (pc' := 1) rfl ?_
  by_cases h1_0 : k = 0
  · refine ax_reS (st2 := [.inl 0]) (by rw [h1_0]) ?_
    refine ax_tabIn (tgt := 36) dX1_mostOf_1 (by decide) (by decide) rfl (by decide) ?_
    refine ax_iconst dX1_mostOf_36 (by decide) (pc' := 37) rfl ?_
    refine ax_iret dX1_mostOf_37 rfl ?_
    refine ⟨rfl, ?_, ?_⟩
    · refine congrArg (fun z => some (Sum.inl z)) ?_
      unfold f_mst
      repeat' split
      all_goals first | rfl | omega | (exfalso; omega)
    · rfl
  by_cases h1_1 : k = 1
  · refine ax_reS (st2 := [.inl 1]) (by rw [h1_1]) ?_
    refine ax_tabIn (tgt := 47) dX1_mostOf_1 (by decide) (by decide) rfl (by decide) ?_
    refine ax_bipush dX1_mostOf_47 (by decide) (pc' := 49) rfl ?_
    refine ax_iret dX1_mostOf_49 rfl ?_
    refine ⟨rfl, ?_, ?_⟩
    · refine congrArg (fun z => some (Sum.inl z)) ?_
      unfold f_mst
      repeat' split
      all_goals first | rfl | omega | (exfalso; omega)
    · rfl
  by_cases h1_2 : k = 2
  · refine ax_reS (st2 := [.inl 2]) (by rw [h1_2]) ?_
    refine ax_tabIn (tgt := 38) dX1_mostOf_1 (by decide) (by decide) rfl (by decide) ?_
    refine ax_bipush dX1_mostOf_38 (by decide) (pc' := 40) rfl ?_
    refine ax_iret dX1_mostOf_40 rfl ?_
    refine ⟨rfl, ?_, ?_⟩
    · refine congrArg (fun z => some (Sum.inl z)) ?_
      unfold f_mst
      repeat' split
      all_goals first | rfl | omega | (exfalso; omega)
    · rfl
  by_cases h1_3 : k = 3
  · refine ax_reS (st2 := [.inl 3]) (by rw [h1_3]) ?_
    refine ax_tabIn (tgt := 41) dX1_mostOf_1 (by decide) (by decide) rfl (by decide) ?_
    refine ax_bipush dX1_mostOf_41 (by decide) (pc' := 43) rfl ?_
    refine ax_iret dX1_mostOf_43 rfl ?_
    refine ⟨rfl, ?_, ?_⟩
    · refine congrArg (fun z => some (Sum.inl z)) ?_
      unfold f_mst
      repeat' split
      all_goals first | rfl | omega | (exfalso; omega)
    · rfl
  by_cases h1_4 : k = 4
  · refine ax_reS (st2 := [.inl 4]) (by rw [h1_4]) ?_
    refine ax_tabIn (tgt := 44) dX1_mostOf_1 (by decide) (by decide) rfl (by decide) ?_
    refine ax_bipush dX1_mostOf_44 (by decide) (pc' := 46) rfl ?_
    refine ax_iret dX1_mostOf_46 rfl ?_
    refine ⟨rfl, ?_, ?_⟩
    · refine congrArg (fun z => some (Sum.inl z)) ?_
      unfold f_mst
      repeat' split
      all_goals first | rfl | omega | (exfalso; omega)
    · rfl
  refine ax_tabOut (tgt := 47) dX1_mostOf_1 (by omega) (by decide) ?_
  refine ax_bipush dX1_mostOf_47 (by decide) (pc' := 49) rfl ?_
  refine ax_iret dX1_mostOf_49 rfl ?_
  refine ⟨rfl, ?_, ?_⟩
  · refine congrArg (fun z => some (Sum.inl z)) ?_
    unfold f_mst
    repeat' split
    all_goals first | rfl | omega | (exfalso; omega)
  · rfl
set_option maxRecDepth 20000 in
theorem s_X1_readStep (E : ax_Env) (l : Launch) (d : Nat) (hd : 2 ≤ d) (M : ax_Mem) (L : List f_Tk) {kk : Int → Int} (hkk : M 60 = kk) {vv : Int → Int} (hvv : M 61 = vv) {ss : Int → Int} (hss : M 62 = ss) {kn : Int → Int} (hkn : M 66 = kn) {ff : Int → Int} (hff : M 67 = ff) {sc : Int → Int} (hsc : M 68 = sc) {nx : Int} (hnx : M 58 8 = nx) {cn : Int} (hcn : M 65 0 = cn) {x2 : Int} (hx2 : M 58 2 = x2) {x3 : Int} (hx3 : M 58 3 = x3) (hg0 : f_cc 3 kk vv ss nx L) (hg1 : f_T L ≠ 15) (hg2 : 0 ≤ cn ∧ cn ≤ 100000) : ax_G E l d iX1_readStep [.inr 65, .inr 58] M (fun z0 M2 => z0 = some (.inl (f_rdb (f_stq L))) ∧ (∀ x0 i0 : Int, ¬ ((x0 = 58 ∧ i0 = 8) ∨ (x0 = 58 ∧ i0 = 2) ∨ (x0 = 58 ∧ i0 = 3) ∨ x0 = 66 ∨ x0 = 67 ∨ x0 = 68 ∨ (x0 = 65 ∧ i0 = 0)) → M2 x0 i0 = M x0 i0) ∧ (f_dco kk vv ss kn ff sc cn x2 x3 (f_stq L) M2)) := by
  obtain ⟨d, rfl⟩ : ∃ d0, d = d0 + 1 := ⟨d - 1, by omega⟩
  refine ax_start rfl (Nat.le_of_ble_eq_true rfl) (ls := [some (.inr 65), some (.inr 58), none, none, none]) rfl (fun hav hcm => ?_)
  clear hav
  have qK := f_kv_3 (f_cc_hd hg0).1.1
  have qs := (f_cc_hd hg0).1.2
  have qR := f_cc_rg hg0
  refine ax_aload_n dX1_readStep_0 rfl rfl (pc' := 1) rfl ?_
  refine ax_invG [] [] dX1_readStep_1 mlX1_69 sh_58 rfl rfl rfl (Nat.le_of_ble_eq_true rfl) (s_X8_value E l _ (by omega) _ hvv hnx (by first | omega | assumption)) (pc' := 4) rfl (fun vv M_1 hq co1 hcm1 => ?_)
  obtain ⟨rfl, rfl⟩ := hq
  refine ax_reS (st2 := [.inl (vv nx)]) rfl ?_
  have cc1 : -2147483648 ≤ vv nx ∧ vv nx < 2147483648 := co1 _ rfl
  refine ax_istore_n dX1_readStep_4 rfl (by decide) (ls' := [some (.inr 65), some (.inr 58), some (.inl (vv nx)), none, none]) rfl (pc' := 5) rfl ?_
  refine ax_aload_n dX1_readStep_5 rfl rfl (pc' := 6) rfl ?_
  refine ax_iconst dX1_readStep_6 (by decide) (pc' := 7) rfl ?_
  refine ax_invG [.inl 0] [] dX1_readStep_7 mlX1_84 sh_58 rfl rfl rfl (Nat.le_of_ble_eq_true rfl) (s_X8_isAsked E l _ (by omega) _ 0 hkk hvv hnx (by first | omega | assumption)) (pc' := 10) rfl (fun vv M_7 hq co7 hcm7 => ?_)
  obtain ⟨rfl, rfl⟩ := hq
  refine ax_reS (st2 := [.inl (f_b (kk nx = 2 ∧ 0 ≤ vv nx))]) rfl ?_
  refine ax_if_eq (tgt := 18) dX1_readStep_10 (by decide) (pc' := 13) rfl (fun h10 => ?_) (fun h10 => ?_)
  · replace h10 := f_b_0 h10
    have qz : f_stq L = .inl (1, ss nx) := by
      unfold f_stq
      rw [if_neg (fun h => h10 ((km_k qK).mpr h).1), qs]
    refine ax_aload_n dX1_readStep_18 rfl rfl (pc' := 19) rfl ?_
    refine ax_iconst dX1_readStep_19 (by decide) (pc' := 20) rfl ?_
    refine ax_invG [.inl 1] [] dX1_readStep_20 mlX1_66 sh_58 rfl rfl rfl (Nat.le_of_ble_eq_true rfl) (s_X8_fail E l _ (by omega) _ 1 hss hnx (by first | omega | assumption)) (pc' := 23) rfl (fun vv M_20 hq co20 hcm20 => ?_)
    obtain ⟨rfl, frM_20, msM_20_0, msM_20_1⟩ := hq
    refine ax_reS (st2 := [.inl 0]) rfl ?_
    refine ax_zret dX1_readStep_23 rfl (by decide) ?_
    refine ⟨rfl, ?_, ?_, ?_⟩
    · refine congrArg (fun z => some (Sum.inl z)) ?_
      rw [qz]
      rfl
    · intro x0 i0 hai
      exact ((frM_20 x0 i0 (fun h => h.elim (fun h => hai (Or.inr (Or.inl h))) (fun h => hai (Or.inr (Or.inr (Or.inl h)))))).trans rfl)
    · exact f_dco_no qz msM_20_0 msM_20_1
  · replace h10 := f_b_1 h10
    refine ax_iload_n dX1_readStep_13 rfl rfl (pc' := 14) rfl ?_
    refine ax_iconst dX1_readStep_14 (by decide) (pc' := 15) rfl ?_
    refine ax_icmp_ne (tgt := 24) dX1_readStep_15 (by decide) (pc' := 18) rfl (fun h15 => ?_) (fun h15 => ?_)
    · have q6 : vv nx ≠ 6 := fun h => hg1 ((km_a qK).mp ⟨h10.1, h⟩)
      have qT := (km_k qK).mp ⟨h10, h15, q6⟩
      have qv := km_v qK ⟨h10, h15, q6⟩
      have qmk := f_mst_kd qT
      rw [← qv] at qmk
      obtain ⟨xc, xl, xn⟩ := f_cc_nx hg0 (by omega)
      have xK := f_kv_3 (f_cc_hd xc).1.1
      have xs := (f_cc_hd xc).1.2
      have xR := f_cc_rg xc
      refine ax_aload_n dX1_readStep_24 rfl rfl (pc' := 25) rfl ?_
      refine ax_invG [] [] dX1_readStep_25 mlX1_50 sh_58 rfl rfl rfl (Nat.le_of_ble_eq_true rfl) (s_X8_step E l _ (by omega) _ hkk hnx (by first | omega | assumption) (by first | omega | assumption)) (pc' := 28) rfl (fun vv M_25 hq co25 hcm25 => ?_)
      obtain ⟨rfl, frM_25, msM_25_0⟩ := hq
      refine ax_reS (st2 := []) rfl ?_
      refine ax_aload_n dX1_readStep_28 rfl rfl (pc' := 29) rfl ?_
      refine ax_invG [] [] dX1_readStep_29 mlX1_69 sh_58 rfl rfl rfl (Nat.le_of_ble_eq_true rfl) (s_X8_value E l _ (by omega) _ ((funext fun i0 => frM_25 61 i0 (fun h => absurd h.1 (by decide))).trans hvv) msM_25_0 (by first | omega | assumption)) (pc' := 32) rfl (fun vv M_29 hq co29 hcm29 => ?_)
      obtain ⟨rfl, rfl⟩ := hq
      refine ax_reS (st2 := [.inl (vv (nx + 1))]) rfl ?_
      have cc29 : -2147483648 ≤ vv (nx + 1) ∧ vv (nx + 1) < 2147483648 := co29 _ rfl
      refine ax_istore_n dX1_readStep_32 rfl (by decide) (ls' := [some (.inr 65), some (.inr 58), some (.inl (vv nx)), some (.inl (vv (nx + 1))), none]) rfl (pc' := 33) rfl ?_
      refine ax_aload_n dX1_readStep_33 rfl rfl (pc' := 34) rfl ?_
      refine ax_iload_n dX1_readStep_34 rfl rfl (pc' := 35) rfl ?_
      refine ax_iconst dX1_readStep_35 (by decide) (pc' := 36) rfl ?_
      refine ax_icmp_ne (tgt := 43) dX1_readStep_36 (by decide) (pc' := 39) rfl (fun h36 => ?_) (fun h36 => ?_)
      · have qlo : (if f_T L = 14 then (1 : Int) else 0) = 0 := if_neg (fun h => h36 (qmk.2.2.mpr h))
        refine ax_iconst dX1_readStep_43 (by decide) (pc' := 44) rfl ?_
        refine ax_iload_n dX1_readStep_44 rfl rfl (pc' := 45) rfl ?_
        refine ax_insG [.inl (vv nx)] [.inl 0, .inr 58] dX1_readStep_45 mlX1_87 rfl rfl (Nat.le_of_ble_eq_true rfl) (s_X1_mostOf E l _ (by omega) _ (vv nx)) (pc' := 48) rfl (fun vv M_45 hq co45 hcm45 => ?_)
        obtain ⟨rfl, rfl⟩ := hq
        refine ax_reS (st2 := [.inl (f_mst (vv nx)), .inl 0, .inr 58]) rfl ?_
        have cc45 : -2147483648 ≤ f_mst (vv nx) ∧ f_mst (vv nx) < 2147483648 := co45 _ rfl
        have qb : f_stq L = f_bd (f_nbr 0 (f_mst (vv nx)) L.tail) (fun L2 => if f_T L = 10 then f_stT (f_V L.tail) L2 else f_stE (f_T L, f_V L.tail, 0) L2) := by
          unfold f_stq
          rw [if_pos qT]
          unfold f_stp
          rw [qlo, qmk.1]
        refine ax_invG [.inl 0, .inl (f_mst (vv nx))] [] dX1_readStep_48 mlX1_73 sh_58 rfl rfl rfl (Nat.le_of_ble_eq_true rfl) (s_pN3 E l _ (by omega) _ 0 (f_mst (vv nx)) L.tail ((funext fun i0 => frM_25 60 i0 (fun h => absurd h.1 (by decide))).trans hkk) ((funext fun i0 => frM_25 61 i0 (fun h => absurd h.1 (by decide))).trans hvv) ((funext fun i0 => frM_25 62 i0 (fun h => absurd h.1 (by decide))).trans hss) msM_25_0 ((frM_25 58 2 (fun h => absurd h.2 (by decide))).trans hx2) ((frM_25 58 3 (fun h => absurd h.2 (by decide))).trans hx3) xc) (pc' := 51) rfl (fun vv M_48 hq co48 hcm48 => ?_)
        obtain ⟨rfl, frM_48, fa48_0⟩ := hq
        refine ax_reS (st2 := [.inl (f_rb (f_nbr 0 (f_mst (vv nx)) L.tail))]) rfl ?_
        have cc48 : -2147483648 ≤ f_rb (f_nbr 0 (f_mst (vv nx)) L.tail) ∧ f_rb (f_nbr 0 (f_mst (vv nx)) L.tail) < 2147483648 := co48 _ rfl
        refine ax_if_ne (tgt := 56) dX1_readStep_51 (by decide) (pc' := 54) rfl (fun h51 => ?_) (fun h51 => ?_)
        · obtain ⟨⟨qe2, qa2x, qa3x⟩, qc2, qn2, -⟩ := f_pco_n fa48_0 h51
          have qV := km_V xK ((km_n xK).mpr qn2)
          have qb2 : f_stq L = if f_T L = 10 then f_stT (f_V L.tail) L.tail.tail else f_stE (f_T L, f_V L.tail, 0) L.tail.tail := by
            rw [qb, qe2]
            rfl
          have yK := f_kv_3 (f_cc_hd qc2).1.1
          have ys := (f_cc_hd qc2).1.2
          have yR := f_cc_rg qc2
          refine ax_iconst dX1_readStep_56 (by decide) (pc' := 57) rfl ?_
          refine ax_istore dX1_readStep_57 (by decide) (ls' := [some (.inr 65), some (.inr 58), some (.inl (vv nx)), some (.inl (vv (nx + 1))), some (.inl 0)]) rfl (pc' := 59) rfl ?_
          refine ax_iload_n dX1_readStep_59 rfl rfl (pc' := 60) rfl ?_
          refine ax_if_ne (tgt := 92) dX1_readStep_60 (by decide) (pc' := 63) rfl (fun h60 => ?_) (fun h60 => ?_)
          · have qzz : f_stq L = f_stE (f_T L, f_V L.tail, 0) L.tail.tail := by
              rw [qb2, if_neg (fun h => h60 (qmk.2.1.mpr h))]
            refine ax_aload_n dX1_readStep_92 rfl rfl (pc' := 93) rfl ?_
            refine ax_iload_n dX1_readStep_93 rfl rfl (pc' := 94) rfl ?_
            refine ax_iload_n dX1_readStep_94 rfl rfl (pc' := 95) rfl ?_
            refine ax_iload dX1_readStep_95 rfl (pc' := 97) rfl ?_
            refine ax_invG [.inl (vv nx), .inl (vv (nx + 1)), .inl 0] [] dX1_readStep_97 mlX1_80 sh_65 rfl rfl rfl (Nat.le_of_ble_eq_true rfl) (s_X1_addStep E l _ (by omega) _ (vv nx) (vv (nx + 1)) 0 ((funext fun i0 => frM_48 66 i0 (fun h => h.elim (fun h => absurd h.1 (by decide)) (fun h => h.elim (fun h => absurd h.1 (by decide)) (fun h => absurd h.1 (by decide))))).trans ((funext fun i0 => frM_25 66 i0 (fun h => absurd h.1 (by decide))).trans hkn)) ((funext fun i0 => frM_48 67 i0 (fun h => h.elim (fun h => absurd h.1 (by decide)) (fun h => h.elim (fun h => absurd h.1 (by decide)) (fun h => absurd h.1 (by decide))))).trans ((funext fun i0 => frM_25 67 i0 (fun h => absurd h.1 (by decide))).trans hff)) ((funext fun i0 => frM_48 68 i0 (fun h => h.elim (fun h => absurd h.1 (by decide)) (fun h => h.elim (fun h => absurd h.1 (by decide)) (fun h => absurd h.1 (by decide))))).trans ((funext fun i0 => frM_25 68 i0 (fun h => absurd h.1 (by decide))).trans hsc)) ((frM_48 65 0 (fun h => h.elim (fun h => absurd h.1 (by decide)) (fun h => h.elim (fun h => absurd h.1 (by decide)) (fun h => absurd h.1 (by decide))))).trans ((frM_25 65 0 (fun h => absurd h.1 (by decide))).trans hcn)) (by first | omega | assumption)) (pc' := 100) rfl (fun vv M_97 hq co97 hcm97 => ?_)
            obtain ⟨rfl, frM_97, mrM_97_0, mrM_97_1, mrM_97_2, msM_97_0⟩ := hq
            refine ax_reS (st2 := []) rfl ?_
            refine ax_aload_n dX1_readStep_100 rfl rfl (pc' := 101) rfl ?_
            refine ax_iconst dX1_readStep_101 (by decide) (pc' := 102) rfl ?_
            refine ax_bipush dX1_readStep_102 (by decide) (pc' := 104) rfl ?_
            refine ax_invG [.inl 1, .inl 59] [] dX1_readStep_104 mlX1_77 sh_58 rfl rfl rfl (Nat.le_of_ble_eq_true rfl) (s_ps3 E l _ (by omega) _ 1 59 159 L.tail.tail ((funext fun i0 => frM_97 60 i0 (fun h => h.elim (fun h => absurd h (by decide)) (fun h => h.elim (fun h => absurd h (by decide)) (fun h => h.elim (fun h => absurd h (by decide)) (fun h => absurd h.1 (by decide)))))).trans ((funext fun i0 => frM_48 60 i0 (fun h => h.elim (fun h => absurd h.1 (by decide)) (fun h => h.elim (fun h => absurd h.1 (by decide)) (fun h => absurd h.1 (by decide))))).trans ((funext fun i0 => frM_25 60 i0 (fun h => absurd h.1 (by decide))).trans hkk))) ((funext fun i0 => frM_97 61 i0 (fun h => h.elim (fun h => absurd h (by decide)) (fun h => h.elim (fun h => absurd h (by decide)) (fun h => h.elim (fun h => absurd h (by decide)) (fun h => absurd h.1 (by decide)))))).trans ((funext fun i0 => frM_48 61 i0 (fun h => h.elim (fun h => absurd h.1 (by decide)) (fun h => h.elim (fun h => absurd h.1 (by decide)) (fun h => absurd h.1 (by decide))))).trans ((funext fun i0 => frM_25 61 i0 (fun h => absurd h.1 (by decide))).trans hvv))) ((funext fun i0 => frM_97 62 i0 (fun h => h.elim (fun h => absurd h (by decide)) (fun h => h.elim (fun h => absurd h (by decide)) (fun h => h.elim (fun h => absurd h (by decide)) (fun h => absurd h.1 (by decide)))))).trans ((funext fun i0 => frM_48 62 i0 (fun h => h.elim (fun h => absurd h.1 (by decide)) (fun h => h.elim (fun h => absurd h.1 (by decide)) (fun h => absurd h.1 (by decide))))).trans ((funext fun i0 => frM_25 62 i0 (fun h => absurd h.1 (by decide))).trans hss))) ((frM_97 58 8 (fun h => h.elim (fun h => absurd h (by decide)) (fun h => h.elim (fun h => absurd h (by decide)) (fun h => h.elim (fun h => absurd h (by decide)) (fun h => absurd h.1 (by decide)))))).trans rfl) ((frM_97 58 2 (fun h => h.elim (fun h => absurd h (by decide)) (fun h => h.elim (fun h => absurd h (by decide)) (fun h => h.elim (fun h => absurd h (by decide)) (fun h => absurd h.1 (by decide)))))).trans rfl) ((frM_97 58 3 (fun h => h.elim (fun h => absurd h (by decide)) (fun h => h.elim (fun h => absurd h (by decide)) (fun h => h.elim (fun h => absurd h (by decide)) (fun h => absurd h.1 (by decide)))))).trans rfl) qc2 (by first | omega | assumption) (km_s yK 59 (by decide))) (pc' := 107) rfl (fun vv M_104 hq co104 hcm104 => ?_)
            obtain ⟨rfl, frM_104, fa104_0⟩ := hq
            refine ax_reS (st2 := [.inl (f_rb (f_ned 159 L.tail.tail))]) rfl ?_
            have cc104 : -2147483648 ≤ f_rb (f_ned 159 L.tail.tail) ∧ f_rb (f_ned 159 L.tail.tail) < 2147483648 := co104 _ rfl
            refine ax_zret dX1_readStep_107 rfl (f_rb_01 _) ?_
            refine ⟨rfl, ?_, ?_, ?_⟩
            · refine congrArg (fun z => some (Sum.inl z)) ?_
              rw [qzz]
              unfold f_stE
              cases f_ned 159 _ <;> rfl
            · intro x0 i0 hai
              exact ((frM_104 x0 i0 (fun h => h.elim (fun h => hai (Or.inl h)) (fun h => h.elim (fun h => hai (Or.inr (Or.inl h))) (fun h => hai (Or.inr (Or.inr (Or.inl h))))))).trans ((frM_97 x0 i0 (fun h => h.elim (fun h => hai (Or.inr (Or.inr (Or.inr (Or.inl h))))) (fun h => h.elim (fun h => hai (Or.inr (Or.inr (Or.inr (Or.inr (Or.inl h)))))) (fun h => h.elim (fun h => hai (Or.inr (Or.inr (Or.inr (Or.inr (Or.inr (Or.inl h))))))) (fun h => hai (Or.inr (Or.inr (Or.inr (Or.inr (Or.inr (Or.inr h))))))))))).trans ((frM_48 x0 i0 (fun h => h.elim (fun h => hai (Or.inl h)) (fun h => h.elim (fun h => hai (Or.inr (Or.inl h))) (fun h => hai (Or.inr (Or.inr (Or.inl h))))))).trans ((frM_25 x0 i0 (fun h => hai (Or.inl h))).trans rfl))))
            · rcases f_rb_01 (f_ned 159 L.tail.tail) with qn | qn
              · have qe := f_pco_0 fa104_0 qn
                exact f_dco_no (qzz.trans (by unfold f_stE; rw [qe]; rfl)) rfl rfl
              · obtain ⟨⟨qe, qe2x, qe3x⟩, qcE, -⟩ := f_pco_d fa104_0 (by omega)
                rw [show f_stq L = .inr (L.tail.tail.tail, [(f_T L, f_V L.tail, 0)]) from qzz.trans (by unfold f_stE; rw [qe]; rfl)]
                exact ⟨qcE, _, rfl, Eq.trans ((funext fun i0 => frM_104 66 i0 (fun h => h.elim (fun h => absurd h.1 (by decide)) (fun h => h.elim (fun h => absurd h.1 (by decide)) (fun h => absurd h.1 (by decide))))).trans mrM_97_0) (by rw [qv]), Eq.trans ((funext fun i0 => frM_104 67 i0 (fun h => h.elim (fun h => absurd h.1 (by decide)) (fun h => h.elim (fun h => absurd h.1 (by decide)) (fun h => absurd h.1 (by decide))))).trans mrM_97_1) (by rw [qV]), Eq.trans ((funext fun i0 => frM_104 68 i0 (fun h => h.elim (fun h => absurd h.1 (by decide)) (fun h => h.elim (fun h => absurd h.1 (by decide)) (fun h => absurd h.1 (by decide))))).trans mrM_97_2) rfl, ((frM_104 65 0 (fun h => h.elim (fun h => absurd h.1 (by decide)) (fun h => h.elim (fun h => absurd h.1 (by decide)) (fun h => absurd h.1 (by decide))))).trans msM_97_0), Eq.trans qe2x qa2x, Eq.trans qe3x qa3x⟩
          · have q10 := qmk.2.1.mp h60
            have qb3 : f_stq L = f_stT (f_V L.tail) L.tail.tail := by
              rw [qb2, if_pos q10]
            refine ax_aload_n dX1_readStep_63 rfl rfl (pc' := 64) rfl ?_
            refine ax_iconst dX1_readStep_64 (by decide) (pc' := 65) rfl ?_
            refine ax_iconst dX1_readStep_65 (by decide) (pc' := 66) rfl ?_
            refine ax_invG [.inl 2, .inl 1] [] dX1_readStep_66 mlX1_77 sh_58 rfl rfl rfl (Nat.le_of_ble_eq_true rfl) (s_ps3 E l _ (by omega) _ 2 1 16 L.tail.tail ((funext fun i0 => frM_48 60 i0 (fun h => h.elim (fun h => absurd h.1 (by decide)) (fun h => h.elim (fun h => absurd h.1 (by decide)) (fun h => absurd h.1 (by decide))))).trans ((funext fun i0 => frM_25 60 i0 (fun h => absurd h.1 (by decide))).trans hkk)) ((funext fun i0 => frM_48 61 i0 (fun h => h.elim (fun h => absurd h.1 (by decide)) (fun h => h.elim (fun h => absurd h.1 (by decide)) (fun h => absurd h.1 (by decide))))).trans ((funext fun i0 => frM_25 61 i0 (fun h => absurd h.1 (by decide))).trans hvv)) ((funext fun i0 => frM_48 62 i0 (fun h => h.elim (fun h => absurd h.1 (by decide)) (fun h => h.elim (fun h => absurd h.1 (by decide)) (fun h => absurd h.1 (by decide))))).trans ((funext fun i0 => frM_25 62 i0 (fun h => absurd h.1 (by decide))).trans hss)) rfl rfl rfl qc2 (by first | omega | assumption) (km_t yK)) (pc' := 69) rfl (fun vv M_66 hq co66 hcm66 => ?_)
            obtain ⟨rfl, frM_66, fa66_0⟩ := hq
            refine ax_reS (st2 := [.inl (f_rb (f_ned 16 L.tail.tail))]) rfl ?_
            have cc66 : -2147483648 ≤ f_rb (f_ned 16 L.tail.tail) ∧ f_rb (f_ned 16 L.tail.tail) < 2147483648 := co66 _ rfl
            refine ax_if_ne (tgt := 74) dX1_readStep_69 (by decide) (pc' := 72) rfl (fun h69 => ?_) (fun h69 => ?_)
            · obtain ⟨⟨qe3, qd2, qd3⟩, qc3, qn3⟩ := f_pco_d fa66_0 h69
              have qb4 : f_stq L = f_bd (f_nbr 0 23 L.tail.tail.tail) (f_stE (10, f_V L.tail, f_V L.tail.tail.tail)) := by
                rw [qb3]
                unfold f_stT
                rw [qe3]
                rfl
              have wK := f_kv_3 (f_cc_hd qc3).1.1
              have ws := (f_cc_hd qc3).1.2
              have wR := f_cc_rg qc3
              refine ax_aload_n dX1_readStep_74 rfl rfl (pc' := 75) rfl ?_
              refine ax_invG [] [] dX1_readStep_75 mlX1_69 sh_58 rfl rfl rfl (Nat.le_of_ble_eq_true rfl) (s_X8_value E l _ (by omega) _ ((funext fun i0 => frM_66 61 i0 (fun h => h.elim (fun h => absurd h.1 (by decide)) (fun h => h.elim (fun h => absurd h.1 (by decide)) (fun h => absurd h.1 (by decide))))).trans ((funext fun i0 => frM_48 61 i0 (fun h => h.elim (fun h => absurd h.1 (by decide)) (fun h => h.elim (fun h => absurd h.1 (by decide)) (fun h => absurd h.1 (by decide))))).trans ((funext fun i0 => frM_25 61 i0 (fun h => absurd h.1 (by decide))).trans hvv))) rfl (by first | omega | assumption)) (pc' := 78) rfl (fun vv M_75 hq co75 hcm75 => ?_)
              obtain ⟨rfl, rfl⟩ := hq
              refine ax_reS (st2 := [.inl (vv (M_66 58 8))]) rfl ?_
              have cc75 : -2147483648 ≤ vv (M_66 58 8) ∧ vv (M_66 58 8) < 2147483648 := co75 _ rfl
              refine ax_istore dX1_readStep_78 (by decide) (ls' := [some (.inr 65), some (.inr 58), some (.inl (vv nx)), some (.inl (vv (nx + 1))), some (.inl (vv (M_66 58 8)))]) rfl (pc' := 80) rfl ?_
              refine ax_aload_n dX1_readStep_80 rfl rfl (pc' := 81) rfl ?_
              refine ax_iconst dX1_readStep_81 (by decide) (pc' := 82) rfl ?_
              refine ax_bipush dX1_readStep_82 (by decide) (pc' := 84) rfl ?_
              refine ax_invG [.inl 0, .inl 23] [] dX1_readStep_84 mlX1_73 sh_58 rfl rfl rfl (Nat.le_of_ble_eq_true rfl) (s_pN3 E l _ (by omega) _ 0 23 L.tail.tail.tail ((funext fun i0 => frM_66 60 i0 (fun h => h.elim (fun h => absurd h.1 (by decide)) (fun h => h.elim (fun h => absurd h.1 (by decide)) (fun h => absurd h.1 (by decide))))).trans ((funext fun i0 => frM_48 60 i0 (fun h => h.elim (fun h => absurd h.1 (by decide)) (fun h => h.elim (fun h => absurd h.1 (by decide)) (fun h => absurd h.1 (by decide))))).trans ((funext fun i0 => frM_25 60 i0 (fun h => absurd h.1 (by decide))).trans hkk))) ((funext fun i0 => frM_66 61 i0 (fun h => h.elim (fun h => absurd h.1 (by decide)) (fun h => h.elim (fun h => absurd h.1 (by decide)) (fun h => absurd h.1 (by decide))))).trans ((funext fun i0 => frM_48 61 i0 (fun h => h.elim (fun h => absurd h.1 (by decide)) (fun h => h.elim (fun h => absurd h.1 (by decide)) (fun h => absurd h.1 (by decide))))).trans ((funext fun i0 => frM_25 61 i0 (fun h => absurd h.1 (by decide))).trans hvv))) ((funext fun i0 => frM_66 62 i0 (fun h => h.elim (fun h => absurd h.1 (by decide)) (fun h => h.elim (fun h => absurd h.1 (by decide)) (fun h => absurd h.1 (by decide))))).trans ((funext fun i0 => frM_48 62 i0 (fun h => h.elim (fun h => absurd h.1 (by decide)) (fun h => h.elim (fun h => absurd h.1 (by decide)) (fun h => absurd h.1 (by decide))))).trans ((funext fun i0 => frM_25 62 i0 (fun h => absurd h.1 (by decide))).trans hss))) rfl rfl rfl qc3) (pc' := 87) rfl (fun vv M_84 hq co84 hcm84 => ?_)
              obtain ⟨rfl, frM_84, fa84_0⟩ := hq
              refine ax_reS (st2 := [.inl (f_rb (f_nbr 0 23 L.tail.tail.tail))]) rfl ?_
              have cc84 : -2147483648 ≤ f_rb (f_nbr 0 23 L.tail.tail.tail) ∧ f_rb (f_nbr 0 23 L.tail.tail.tail) < 2147483648 := co84 _ rfl
              refine ax_if_ne (tgt := 92) dX1_readStep_87 (by decide) (pc' := 90) rfl (fun h87 => ?_) (fun h87 => ?_)
              · obtain ⟨⟨qe4, qf2, qf3⟩, qc4, qn4, -⟩ := f_pco_n fa84_0 h87
                have qV4 := km_V wK ((km_n wK).mpr qn4)
                have qzz : f_stq L = f_stE (f_T L, f_V L.tail, f_V L.tail.tail.tail) L.tail.tail.tail.tail := by
                  rw [qb4, qe4, q10]
                  rfl
                have uK := f_kv_3 (f_cc_hd qc4).1.1
                have us := (f_cc_hd qc4).1.2
                have uR := f_cc_rg qc4
                refine ax_aload_n dX1_readStep_92 rfl rfl (pc' := 93) rfl ?_
                refine ax_iload_n dX1_readStep_93 rfl rfl (pc' := 94) rfl ?_
                refine ax_iload_n dX1_readStep_94 rfl rfl (pc' := 95) rfl ?_
                refine ax_iload dX1_readStep_95 rfl (pc' := 97) rfl ?_
                refine ax_invG [.inl (vv nx), .inl (vv (nx + 1)), .inl (vv (M_66 58 8))] [] dX1_readStep_97 mlX1_80 sh_65 rfl rfl rfl (Nat.le_of_ble_eq_true rfl) (s_X1_addStep E l _ (by omega) _ (vv nx) (vv (nx + 1)) (vv (M_66 58 8)) ((funext fun i0 => frM_84 66 i0 (fun h => h.elim (fun h => absurd h.1 (by decide)) (fun h => h.elim (fun h => absurd h.1 (by decide)) (fun h => absurd h.1 (by decide))))).trans ((funext fun i0 => frM_66 66 i0 (fun h => h.elim (fun h => absurd h.1 (by decide)) (fun h => h.elim (fun h => absurd h.1 (by decide)) (fun h => absurd h.1 (by decide))))).trans ((funext fun i0 => frM_48 66 i0 (fun h => h.elim (fun h => absurd h.1 (by decide)) (fun h => h.elim (fun h => absurd h.1 (by decide)) (fun h => absurd h.1 (by decide))))).trans ((funext fun i0 => frM_25 66 i0 (fun h => absurd h.1 (by decide))).trans hkn)))) ((funext fun i0 => frM_84 67 i0 (fun h => h.elim (fun h => absurd h.1 (by decide)) (fun h => h.elim (fun h => absurd h.1 (by decide)) (fun h => absurd h.1 (by decide))))).trans ((funext fun i0 => frM_66 67 i0 (fun h => h.elim (fun h => absurd h.1 (by decide)) (fun h => h.elim (fun h => absurd h.1 (by decide)) (fun h => absurd h.1 (by decide))))).trans ((funext fun i0 => frM_48 67 i0 (fun h => h.elim (fun h => absurd h.1 (by decide)) (fun h => h.elim (fun h => absurd h.1 (by decide)) (fun h => absurd h.1 (by decide))))).trans ((funext fun i0 => frM_25 67 i0 (fun h => absurd h.1 (by decide))).trans hff)))) ((funext fun i0 => frM_84 68 i0 (fun h => h.elim (fun h => absurd h.1 (by decide)) (fun h => h.elim (fun h => absurd h.1 (by decide)) (fun h => absurd h.1 (by decide))))).trans ((funext fun i0 => frM_66 68 i0 (fun h => h.elim (fun h => absurd h.1 (by decide)) (fun h => h.elim (fun h => absurd h.1 (by decide)) (fun h => absurd h.1 (by decide))))).trans ((funext fun i0 => frM_48 68 i0 (fun h => h.elim (fun h => absurd h.1 (by decide)) (fun h => h.elim (fun h => absurd h.1 (by decide)) (fun h => absurd h.1 (by decide))))).trans ((funext fun i0 => frM_25 68 i0 (fun h => absurd h.1 (by decide))).trans hsc)))) ((frM_84 65 0 (fun h => h.elim (fun h => absurd h.1 (by decide)) (fun h => h.elim (fun h => absurd h.1 (by decide)) (fun h => absurd h.1 (by decide))))).trans ((frM_66 65 0 (fun h => h.elim (fun h => absurd h.1 (by decide)) (fun h => h.elim (fun h => absurd h.1 (by decide)) (fun h => absurd h.1 (by decide))))).trans ((frM_48 65 0 (fun h => h.elim (fun h => absurd h.1 (by decide)) (fun h => h.elim (fun h => absurd h.1 (by decide)) (fun h => absurd h.1 (by decide))))).trans ((frM_25 65 0 (fun h => absurd h.1 (by decide))).trans hcn)))) (by first | omega | assumption)) (pc' := 100) rfl (fun vv M_97 hq co97 hcm97 => ?_)
                obtain ⟨rfl, frM_97, mrM_97_0, mrM_97_1, mrM_97_2, msM_97_0⟩ := hq
                refine ax_reS (st2 := []) rfl ?_
                refine ax_aload_n dX1_readStep_100 rfl rfl (pc' := 101) rfl ?_
                refine ax_iconst dX1_readStep_101 (by decide) (pc' := 102) rfl ?_
                refine ax_bipush dX1_readStep_102 (by decide) (pc' := 104) rfl ?_
                refine ax_invG [.inl 1, .inl 59] [] dX1_readStep_104 mlX1_77 sh_58 rfl rfl rfl (Nat.le_of_ble_eq_true rfl) (s_ps3 E l _ (by omega) _ 1 59 159 L.tail.tail.tail.tail ((funext fun i0 => frM_97 60 i0 (fun h => h.elim (fun h => absurd h (by decide)) (fun h => h.elim (fun h => absurd h (by decide)) (fun h => h.elim (fun h => absurd h (by decide)) (fun h => absurd h.1 (by decide)))))).trans ((funext fun i0 => frM_84 60 i0 (fun h => h.elim (fun h => absurd h.1 (by decide)) (fun h => h.elim (fun h => absurd h.1 (by decide)) (fun h => absurd h.1 (by decide))))).trans ((funext fun i0 => frM_66 60 i0 (fun h => h.elim (fun h => absurd h.1 (by decide)) (fun h => h.elim (fun h => absurd h.1 (by decide)) (fun h => absurd h.1 (by decide))))).trans ((funext fun i0 => frM_48 60 i0 (fun h => h.elim (fun h => absurd h.1 (by decide)) (fun h => h.elim (fun h => absurd h.1 (by decide)) (fun h => absurd h.1 (by decide))))).trans ((funext fun i0 => frM_25 60 i0 (fun h => absurd h.1 (by decide))).trans hkk))))) ((funext fun i0 => frM_97 61 i0 (fun h => h.elim (fun h => absurd h (by decide)) (fun h => h.elim (fun h => absurd h (by decide)) (fun h => h.elim (fun h => absurd h (by decide)) (fun h => absurd h.1 (by decide)))))).trans ((funext fun i0 => frM_84 61 i0 (fun h => h.elim (fun h => absurd h.1 (by decide)) (fun h => h.elim (fun h => absurd h.1 (by decide)) (fun h => absurd h.1 (by decide))))).trans ((funext fun i0 => frM_66 61 i0 (fun h => h.elim (fun h => absurd h.1 (by decide)) (fun h => h.elim (fun h => absurd h.1 (by decide)) (fun h => absurd h.1 (by decide))))).trans ((funext fun i0 => frM_48 61 i0 (fun h => h.elim (fun h => absurd h.1 (by decide)) (fun h => h.elim (fun h => absurd h.1 (by decide)) (fun h => absurd h.1 (by decide))))).trans ((funext fun i0 => frM_25 61 i0 (fun h => absurd h.1 (by decide))).trans hvv))))) ((funext fun i0 => frM_97 62 i0 (fun h => h.elim (fun h => absurd h (by decide)) (fun h => h.elim (fun h => absurd h (by decide)) (fun h => h.elim (fun h => absurd h (by decide)) (fun h => absurd h.1 (by decide)))))).trans ((funext fun i0 => frM_84 62 i0 (fun h => h.elim (fun h => absurd h.1 (by decide)) (fun h => h.elim (fun h => absurd h.1 (by decide)) (fun h => absurd h.1 (by decide))))).trans ((funext fun i0 => frM_66 62 i0 (fun h => h.elim (fun h => absurd h.1 (by decide)) (fun h => h.elim (fun h => absurd h.1 (by decide)) (fun h => absurd h.1 (by decide))))).trans ((funext fun i0 => frM_48 62 i0 (fun h => h.elim (fun h => absurd h.1 (by decide)) (fun h => h.elim (fun h => absurd h.1 (by decide)) (fun h => absurd h.1 (by decide))))).trans ((funext fun i0 => frM_25 62 i0 (fun h => absurd h.1 (by decide))).trans hss))))) ((frM_97 58 8 (fun h => h.elim (fun h => absurd h (by decide)) (fun h => h.elim (fun h => absurd h (by decide)) (fun h => h.elim (fun h => absurd h (by decide)) (fun h => absurd h.1 (by decide)))))).trans rfl) ((frM_97 58 2 (fun h => h.elim (fun h => absurd h (by decide)) (fun h => h.elim (fun h => absurd h (by decide)) (fun h => h.elim (fun h => absurd h (by decide)) (fun h => absurd h.1 (by decide)))))).trans rfl) ((frM_97 58 3 (fun h => h.elim (fun h => absurd h (by decide)) (fun h => h.elim (fun h => absurd h (by decide)) (fun h => h.elim (fun h => absurd h (by decide)) (fun h => absurd h.1 (by decide)))))).trans rfl) qc4 (by first | omega | assumption) (km_s uK 59 (by decide))) (pc' := 107) rfl (fun vv M_104 hq co104 hcm104 => ?_)
                obtain ⟨rfl, frM_104, fa104_0⟩ := hq
                refine ax_reS (st2 := [.inl (f_rb (f_ned 159 L.tail.tail.tail.tail))]) rfl ?_
                have cc104 : -2147483648 ≤ f_rb (f_ned 159 L.tail.tail.tail.tail) ∧ f_rb (f_ned 159 L.tail.tail.tail.tail) < 2147483648 := co104 _ rfl
                refine ax_zret dX1_readStep_107 rfl (f_rb_01 _) ?_
                refine ⟨rfl, ?_, ?_, ?_⟩
                · refine congrArg (fun z => some (Sum.inl z)) ?_
                  rw [qzz]
                  unfold f_stE
                  cases f_ned 159 _ <;> rfl
                · intro x0 i0 hai
                  exact ((frM_104 x0 i0 (fun h => h.elim (fun h => hai (Or.inl h)) (fun h => h.elim (fun h => hai (Or.inr (Or.inl h))) (fun h => hai (Or.inr (Or.inr (Or.inl h))))))).trans ((frM_97 x0 i0 (fun h => h.elim (fun h => hai (Or.inr (Or.inr (Or.inr (Or.inl h))))) (fun h => h.elim (fun h => hai (Or.inr (Or.inr (Or.inr (Or.inr (Or.inl h)))))) (fun h => h.elim (fun h => hai (Or.inr (Or.inr (Or.inr (Or.inr (Or.inr (Or.inl h))))))) (fun h => hai (Or.inr (Or.inr (Or.inr (Or.inr (Or.inr (Or.inr h))))))))))).trans ((frM_84 x0 i0 (fun h => h.elim (fun h => hai (Or.inl h)) (fun h => h.elim (fun h => hai (Or.inr (Or.inl h))) (fun h => hai (Or.inr (Or.inr (Or.inl h))))))).trans ((frM_66 x0 i0 (fun h => h.elim (fun h => hai (Or.inl h)) (fun h => h.elim (fun h => hai (Or.inr (Or.inl h))) (fun h => hai (Or.inr (Or.inr (Or.inl h))))))).trans ((frM_48 x0 i0 (fun h => h.elim (fun h => hai (Or.inl h)) (fun h => h.elim (fun h => hai (Or.inr (Or.inl h))) (fun h => hai (Or.inr (Or.inr (Or.inl h))))))).trans ((frM_25 x0 i0 (fun h => hai (Or.inl h))).trans rfl))))))
                · rcases f_rb_01 (f_ned 159 L.tail.tail.tail.tail) with qn | qn
                  · have qe := f_pco_0 fa104_0 qn
                    exact f_dco_no (qzz.trans (by unfold f_stE; rw [qe]; rfl)) rfl rfl
                  · obtain ⟨⟨qe, qe2x, qe3x⟩, qcE, -⟩ := f_pco_d fa104_0 (by omega)
                    rw [show f_stq L = .inr (L.tail.tail.tail.tail.tail, [(f_T L, f_V L.tail, f_V L.tail.tail.tail)]) from qzz.trans (by unfold f_stE; rw [qe]; rfl)]
                    exact ⟨qcE, _, rfl, Eq.trans ((funext fun i0 => frM_104 66 i0 (fun h => h.elim (fun h => absurd h.1 (by decide)) (fun h => h.elim (fun h => absurd h.1 (by decide)) (fun h => absurd h.1 (by decide))))).trans mrM_97_0) (by rw [qv]), Eq.trans ((funext fun i0 => frM_104 67 i0 (fun h => h.elim (fun h => absurd h.1 (by decide)) (fun h => h.elim (fun h => absurd h.1 (by decide)) (fun h => absurd h.1 (by decide))))).trans mrM_97_1) (by rw [qV]), Eq.trans ((funext fun i0 => frM_104 68 i0 (fun h => h.elim (fun h => absurd h.1 (by decide)) (fun h => h.elim (fun h => absurd h.1 (by decide)) (fun h => absurd h.1 (by decide))))).trans mrM_97_2) (by rw [qV4]), ((frM_104 65 0 (fun h => h.elim (fun h => absurd h.1 (by decide)) (fun h => h.elim (fun h => absurd h.1 (by decide)) (fun h => absurd h.1 (by decide))))).trans msM_97_0), Eq.trans qe2x (qf2.trans (qd2.trans qa2x)), Eq.trans qe3x (qf3.trans (qd3.trans qa3x))⟩
              · have qz : f_stq L = .inl (M_84 58 2, M_84 58 3) := by
                  rw [qb4, f_pco_0 fa84_0 h87]
                  rfl
                refine ax_iconst dX1_readStep_90 (by decide) (pc' := 91) rfl ?_
                refine ax_zret dX1_readStep_91 rfl (by decide) ?_
                refine ⟨rfl, ?_, ?_, ?_⟩
                · refine congrArg (fun z => some (Sum.inl z)) ?_
                  rw [qz]
                  rfl
                · intro x0 i0 hai
                  exact ((frM_84 x0 i0 (fun h => h.elim (fun h => hai (Or.inl h)) (fun h => h.elim (fun h => hai (Or.inr (Or.inl h))) (fun h => hai (Or.inr (Or.inr (Or.inl h))))))).trans ((frM_66 x0 i0 (fun h => h.elim (fun h => hai (Or.inl h)) (fun h => h.elim (fun h => hai (Or.inr (Or.inl h))) (fun h => hai (Or.inr (Or.inr (Or.inl h))))))).trans ((frM_48 x0 i0 (fun h => h.elim (fun h => hai (Or.inl h)) (fun h => h.elim (fun h => hai (Or.inr (Or.inl h))) (fun h => hai (Or.inr (Or.inr (Or.inl h))))))).trans ((frM_25 x0 i0 (fun h => hai (Or.inl h))).trans rfl))))
                · exact f_dco_no qz rfl rfl
            · have qz : f_stq L = .inl (M_66 58 2, M_66 58 3) := by
                rw [qb3]
                unfold f_stT
                rw [f_pco_0 fa66_0 h69]
                rfl
              refine ax_iconst dX1_readStep_72 (by decide) (pc' := 73) rfl ?_
              refine ax_zret dX1_readStep_73 rfl (by decide) ?_
              refine ⟨rfl, ?_, ?_, ?_⟩
              · refine congrArg (fun z => some (Sum.inl z)) ?_
                rw [qz]
                rfl
              · intro x0 i0 hai
                exact ((frM_66 x0 i0 (fun h => h.elim (fun h => hai (Or.inl h)) (fun h => h.elim (fun h => hai (Or.inr (Or.inl h))) (fun h => hai (Or.inr (Or.inr (Or.inl h))))))).trans ((frM_48 x0 i0 (fun h => h.elim (fun h => hai (Or.inl h)) (fun h => h.elim (fun h => hai (Or.inr (Or.inl h))) (fun h => hai (Or.inr (Or.inr (Or.inl h))))))).trans ((frM_25 x0 i0 (fun h => hai (Or.inl h))).trans rfl)))
              · exact f_dco_no qz rfl rfl
        · have qz : f_stq L = .inl (M_48 58 2, M_48 58 3) := by
            rw [qb, f_pco_0 fa48_0 h51]
            rfl
          refine ax_iconst dX1_readStep_54 (by decide) (pc' := 55) rfl ?_
          refine ax_zret dX1_readStep_55 rfl (by decide) ?_
          refine ⟨rfl, ?_, ?_, ?_⟩
          · refine congrArg (fun z => some (Sum.inl z)) ?_
            rw [qz]
            rfl
          · intro x0 i0 hai
            exact ((frM_48 x0 i0 (fun h => h.elim (fun h => hai (Or.inl h)) (fun h => h.elim (fun h => hai (Or.inr (Or.inl h))) (fun h => hai (Or.inr (Or.inr (Or.inl h))))))).trans ((frM_25 x0 i0 (fun h => hai (Or.inl h))).trans rfl))
          · exact f_dco_no qz rfl rfl
      · have qlo : (if f_T L = 14 then (1 : Int) else 0) = 1 := if_pos (qmk.2.2.mp h36)
        refine ax_iconst dX1_readStep_39 (by decide) (pc' := 40) rfl ?_
        refine ax_goto dX1_readStep_40 (pc' := 44) (by decide) ?_
        refine ax_iload_n dX1_readStep_44 rfl rfl (pc' := 45) rfl ?_
        refine ax_insG [.inl (vv nx)] [.inl 1, .inr 58] dX1_readStep_45 mlX1_87 rfl rfl (Nat.le_of_ble_eq_true rfl) (s_X1_mostOf E l _ (by omega) _ (vv nx)) (pc' := 48) rfl (fun vv M_45 hq co45 hcm45 => ?_)
        obtain ⟨rfl, rfl⟩ := hq
        refine ax_reS (st2 := [.inl (f_mst (vv nx)), .inl 1, .inr 58]) rfl ?_
        have cc45 : -2147483648 ≤ f_mst (vv nx) ∧ f_mst (vv nx) < 2147483648 := co45 _ rfl
        have qb : f_stq L = f_bd (f_nbr 1 (f_mst (vv nx)) L.tail) (fun L2 => if f_T L = 10 then f_stT (f_V L.tail) L2 else f_stE (f_T L, f_V L.tail, 0) L2) := by
          unfold f_stq
          rw [if_pos qT]
          unfold f_stp
          rw [qlo, qmk.1]
        refine ax_invG [.inl 1, .inl (f_mst (vv nx))] [] dX1_readStep_48 mlX1_73 sh_58 rfl rfl rfl (Nat.le_of_ble_eq_true rfl) (s_pN3 E l _ (by omega) _ 1 (f_mst (vv nx)) L.tail ((funext fun i0 => frM_25 60 i0 (fun h => absurd h.1 (by decide))).trans hkk) ((funext fun i0 => frM_25 61 i0 (fun h => absurd h.1 (by decide))).trans hvv) ((funext fun i0 => frM_25 62 i0 (fun h => absurd h.1 (by decide))).trans hss) msM_25_0 ((frM_25 58 2 (fun h => absurd h.2 (by decide))).trans hx2) ((frM_25 58 3 (fun h => absurd h.2 (by decide))).trans hx3) xc) (pc' := 51) rfl (fun vv M_48 hq co48 hcm48 => ?_)
        obtain ⟨rfl, frM_48, fa48_0⟩ := hq
        refine ax_reS (st2 := [.inl (f_rb (f_nbr 1 (f_mst (vv nx)) L.tail))]) rfl ?_
        have cc48 : -2147483648 ≤ f_rb (f_nbr 1 (f_mst (vv nx)) L.tail) ∧ f_rb (f_nbr 1 (f_mst (vv nx)) L.tail) < 2147483648 := co48 _ rfl
        refine ax_if_ne (tgt := 56) dX1_readStep_51 (by decide) (pc' := 54) rfl (fun h51 => ?_) (fun h51 => ?_)
        · obtain ⟨⟨qe2, qa2x, qa3x⟩, qc2, qn2, -⟩ := f_pco_n fa48_0 h51
          have qV := km_V xK ((km_n xK).mpr qn2)
          have qb2 : f_stq L = if f_T L = 10 then f_stT (f_V L.tail) L.tail.tail else f_stE (f_T L, f_V L.tail, 0) L.tail.tail := by
            rw [qb, qe2]
            rfl
          have yK := f_kv_3 (f_cc_hd qc2).1.1
          have ys := (f_cc_hd qc2).1.2
          have yR := f_cc_rg qc2
          refine ax_iconst dX1_readStep_56 (by decide) (pc' := 57) rfl ?_
          refine ax_istore dX1_readStep_57 (by decide) (ls' := [some (.inr 65), some (.inr 58), some (.inl (vv nx)), some (.inl (vv (nx + 1))), some (.inl 0)]) rfl (pc' := 59) rfl ?_
          refine ax_iload_n dX1_readStep_59 rfl rfl (pc' := 60) rfl ?_
          refine ax_if_ne (tgt := 92) dX1_readStep_60 (by decide) (pc' := 63) rfl (fun h60 => ?_) (fun h60 => ?_)
          · have qzz : f_stq L = f_stE (f_T L, f_V L.tail, 0) L.tail.tail := by
              rw [qb2, if_neg (fun h => h60 (qmk.2.1.mpr h))]
            refine ax_aload_n dX1_readStep_92 rfl rfl (pc' := 93) rfl ?_
            refine ax_iload_n dX1_readStep_93 rfl rfl (pc' := 94) rfl ?_
            refine ax_iload_n dX1_readStep_94 rfl rfl (pc' := 95) rfl ?_
            refine ax_iload dX1_readStep_95 rfl (pc' := 97) rfl ?_
            refine ax_invG [.inl (vv nx), .inl (vv (nx + 1)), .inl 0] [] dX1_readStep_97 mlX1_80 sh_65 rfl rfl rfl (Nat.le_of_ble_eq_true rfl) (s_X1_addStep E l _ (by omega) _ (vv nx) (vv (nx + 1)) 0 ((funext fun i0 => frM_48 66 i0 (fun h => h.elim (fun h => absurd h.1 (by decide)) (fun h => h.elim (fun h => absurd h.1 (by decide)) (fun h => absurd h.1 (by decide))))).trans ((funext fun i0 => frM_25 66 i0 (fun h => absurd h.1 (by decide))).trans hkn)) ((funext fun i0 => frM_48 67 i0 (fun h => h.elim (fun h => absurd h.1 (by decide)) (fun h => h.elim (fun h => absurd h.1 (by decide)) (fun h => absurd h.1 (by decide))))).trans ((funext fun i0 => frM_25 67 i0 (fun h => absurd h.1 (by decide))).trans hff)) ((funext fun i0 => frM_48 68 i0 (fun h => h.elim (fun h => absurd h.1 (by decide)) (fun h => h.elim (fun h => absurd h.1 (by decide)) (fun h => absurd h.1 (by decide))))).trans ((funext fun i0 => frM_25 68 i0 (fun h => absurd h.1 (by decide))).trans hsc)) ((frM_48 65 0 (fun h => h.elim (fun h => absurd h.1 (by decide)) (fun h => h.elim (fun h => absurd h.1 (by decide)) (fun h => absurd h.1 (by decide))))).trans ((frM_25 65 0 (fun h => absurd h.1 (by decide))).trans hcn)) (by first | omega | assumption)) (pc' := 100) rfl (fun vv M_97 hq co97 hcm97 => ?_)
            obtain ⟨rfl, frM_97, mrM_97_0, mrM_97_1, mrM_97_2, msM_97_0⟩ := hq
            refine ax_reS (st2 := []) rfl ?_
            refine ax_aload_n dX1_readStep_100 rfl rfl (pc' := 101) rfl ?_
            refine ax_iconst dX1_readStep_101 (by decide) (pc' := 102) rfl ?_
            refine ax_bipush dX1_readStep_102 (by decide) (pc' := 104) rfl ?_
            refine ax_invG [.inl 1, .inl 59] [] dX1_readStep_104 mlX1_77 sh_58 rfl rfl rfl (Nat.le_of_ble_eq_true rfl) (s_ps3 E l _ (by omega) _ 1 59 159 L.tail.tail ((funext fun i0 => frM_97 60 i0 (fun h => h.elim (fun h => absurd h (by decide)) (fun h => h.elim (fun h => absurd h (by decide)) (fun h => h.elim (fun h => absurd h (by decide)) (fun h => absurd h.1 (by decide)))))).trans ((funext fun i0 => frM_48 60 i0 (fun h => h.elim (fun h => absurd h.1 (by decide)) (fun h => h.elim (fun h => absurd h.1 (by decide)) (fun h => absurd h.1 (by decide))))).trans ((funext fun i0 => frM_25 60 i0 (fun h => absurd h.1 (by decide))).trans hkk))) ((funext fun i0 => frM_97 61 i0 (fun h => h.elim (fun h => absurd h (by decide)) (fun h => h.elim (fun h => absurd h (by decide)) (fun h => h.elim (fun h => absurd h (by decide)) (fun h => absurd h.1 (by decide)))))).trans ((funext fun i0 => frM_48 61 i0 (fun h => h.elim (fun h => absurd h.1 (by decide)) (fun h => h.elim (fun h => absurd h.1 (by decide)) (fun h => absurd h.1 (by decide))))).trans ((funext fun i0 => frM_25 61 i0 (fun h => absurd h.1 (by decide))).trans hvv))) ((funext fun i0 => frM_97 62 i0 (fun h => h.elim (fun h => absurd h (by decide)) (fun h => h.elim (fun h => absurd h (by decide)) (fun h => h.elim (fun h => absurd h (by decide)) (fun h => absurd h.1 (by decide)))))).trans ((funext fun i0 => frM_48 62 i0 (fun h => h.elim (fun h => absurd h.1 (by decide)) (fun h => h.elim (fun h => absurd h.1 (by decide)) (fun h => absurd h.1 (by decide))))).trans ((funext fun i0 => frM_25 62 i0 (fun h => absurd h.1 (by decide))).trans hss))) ((frM_97 58 8 (fun h => h.elim (fun h => absurd h (by decide)) (fun h => h.elim (fun h => absurd h (by decide)) (fun h => h.elim (fun h => absurd h (by decide)) (fun h => absurd h.1 (by decide)))))).trans rfl) ((frM_97 58 2 (fun h => h.elim (fun h => absurd h (by decide)) (fun h => h.elim (fun h => absurd h (by decide)) (fun h => h.elim (fun h => absurd h (by decide)) (fun h => absurd h.1 (by decide)))))).trans rfl) ((frM_97 58 3 (fun h => h.elim (fun h => absurd h (by decide)) (fun h => h.elim (fun h => absurd h (by decide)) (fun h => h.elim (fun h => absurd h (by decide)) (fun h => absurd h.1 (by decide)))))).trans rfl) qc2 (by first | omega | assumption) (km_s yK 59 (by decide))) (pc' := 107) rfl (fun vv M_104 hq co104 hcm104 => ?_)
            obtain ⟨rfl, frM_104, fa104_0⟩ := hq
            refine ax_reS (st2 := [.inl (f_rb (f_ned 159 L.tail.tail))]) rfl ?_
            have cc104 : -2147483648 ≤ f_rb (f_ned 159 L.tail.tail) ∧ f_rb (f_ned 159 L.tail.tail) < 2147483648 := co104 _ rfl
            refine ax_zret dX1_readStep_107 rfl (f_rb_01 _) ?_
            refine ⟨rfl, ?_, ?_, ?_⟩
            · refine congrArg (fun z => some (Sum.inl z)) ?_
              rw [qzz]
              unfold f_stE
              cases f_ned 159 _ <;> rfl
            · intro x0 i0 hai
              exact ((frM_104 x0 i0 (fun h => h.elim (fun h => hai (Or.inl h)) (fun h => h.elim (fun h => hai (Or.inr (Or.inl h))) (fun h => hai (Or.inr (Or.inr (Or.inl h))))))).trans ((frM_97 x0 i0 (fun h => h.elim (fun h => hai (Or.inr (Or.inr (Or.inr (Or.inl h))))) (fun h => h.elim (fun h => hai (Or.inr (Or.inr (Or.inr (Or.inr (Or.inl h)))))) (fun h => h.elim (fun h => hai (Or.inr (Or.inr (Or.inr (Or.inr (Or.inr (Or.inl h))))))) (fun h => hai (Or.inr (Or.inr (Or.inr (Or.inr (Or.inr (Or.inr h))))))))))).trans ((frM_48 x0 i0 (fun h => h.elim (fun h => hai (Or.inl h)) (fun h => h.elim (fun h => hai (Or.inr (Or.inl h))) (fun h => hai (Or.inr (Or.inr (Or.inl h))))))).trans ((frM_25 x0 i0 (fun h => hai (Or.inl h))).trans rfl))))
            · rcases f_rb_01 (f_ned 159 L.tail.tail) with qn | qn
              · have qe := f_pco_0 fa104_0 qn
                exact f_dco_no (qzz.trans (by unfold f_stE; rw [qe]; rfl)) rfl rfl
              · obtain ⟨⟨qe, qe2x, qe3x⟩, qcE, -⟩ := f_pco_d fa104_0 (by omega)
                rw [show f_stq L = .inr (L.tail.tail.tail, [(f_T L, f_V L.tail, 0)]) from qzz.trans (by unfold f_stE; rw [qe]; rfl)]
                exact ⟨qcE, _, rfl, Eq.trans ((funext fun i0 => frM_104 66 i0 (fun h => h.elim (fun h => absurd h.1 (by decide)) (fun h => h.elim (fun h => absurd h.1 (by decide)) (fun h => absurd h.1 (by decide))))).trans mrM_97_0) (by rw [qv]), Eq.trans ((funext fun i0 => frM_104 67 i0 (fun h => h.elim (fun h => absurd h.1 (by decide)) (fun h => h.elim (fun h => absurd h.1 (by decide)) (fun h => absurd h.1 (by decide))))).trans mrM_97_1) (by rw [qV]), Eq.trans ((funext fun i0 => frM_104 68 i0 (fun h => h.elim (fun h => absurd h.1 (by decide)) (fun h => h.elim (fun h => absurd h.1 (by decide)) (fun h => absurd h.1 (by decide))))).trans mrM_97_2) rfl, ((frM_104 65 0 (fun h => h.elim (fun h => absurd h.1 (by decide)) (fun h => h.elim (fun h => absurd h.1 (by decide)) (fun h => absurd h.1 (by decide))))).trans msM_97_0), Eq.trans qe2x qa2x, Eq.trans qe3x qa3x⟩
          · have q10 := qmk.2.1.mp h60
            have qb3 : f_stq L = f_stT (f_V L.tail) L.tail.tail := by
              rw [qb2, if_pos q10]
            refine ax_aload_n dX1_readStep_63 rfl rfl (pc' := 64) rfl ?_
            refine ax_iconst dX1_readStep_64 (by decide) (pc' := 65) rfl ?_
            refine ax_iconst dX1_readStep_65 (by decide) (pc' := 66) rfl ?_
            refine ax_invG [.inl 2, .inl 1] [] dX1_readStep_66 mlX1_77 sh_58 rfl rfl rfl (Nat.le_of_ble_eq_true rfl) (s_ps3 E l _ (by omega) _ 2 1 16 L.tail.tail ((funext fun i0 => frM_48 60 i0 (fun h => h.elim (fun h => absurd h.1 (by decide)) (fun h => h.elim (fun h => absurd h.1 (by decide)) (fun h => absurd h.1 (by decide))))).trans ((funext fun i0 => frM_25 60 i0 (fun h => absurd h.1 (by decide))).trans hkk)) ((funext fun i0 => frM_48 61 i0 (fun h => h.elim (fun h => absurd h.1 (by decide)) (fun h => h.elim (fun h => absurd h.1 (by decide)) (fun h => absurd h.1 (by decide))))).trans ((funext fun i0 => frM_25 61 i0 (fun h => absurd h.1 (by decide))).trans hvv)) ((funext fun i0 => frM_48 62 i0 (fun h => h.elim (fun h => absurd h.1 (by decide)) (fun h => h.elim (fun h => absurd h.1 (by decide)) (fun h => absurd h.1 (by decide))))).trans ((funext fun i0 => frM_25 62 i0 (fun h => absurd h.1 (by decide))).trans hss)) rfl rfl rfl qc2 (by first | omega | assumption) (km_t yK)) (pc' := 69) rfl (fun vv M_66 hq co66 hcm66 => ?_)
            obtain ⟨rfl, frM_66, fa66_0⟩ := hq
            refine ax_reS (st2 := [.inl (f_rb (f_ned 16 L.tail.tail))]) rfl ?_
            have cc66 : -2147483648 ≤ f_rb (f_ned 16 L.tail.tail) ∧ f_rb (f_ned 16 L.tail.tail) < 2147483648 := co66 _ rfl
            refine ax_if_ne (tgt := 74) dX1_readStep_69 (by decide) (pc' := 72) rfl (fun h69 => ?_) (fun h69 => ?_)
            · obtain ⟨⟨qe3, qd2, qd3⟩, qc3, qn3⟩ := f_pco_d fa66_0 h69
              have qb4 : f_stq L = f_bd (f_nbr 0 23 L.tail.tail.tail) (f_stE (10, f_V L.tail, f_V L.tail.tail.tail)) := by
                rw [qb3]
                unfold f_stT
                rw [qe3]
                rfl
              have wK := f_kv_3 (f_cc_hd qc3).1.1
              have ws := (f_cc_hd qc3).1.2
              have wR := f_cc_rg qc3
              refine ax_aload_n dX1_readStep_74 rfl rfl (pc' := 75) rfl ?_
              refine ax_invG [] [] dX1_readStep_75 mlX1_69 sh_58 rfl rfl rfl (Nat.le_of_ble_eq_true rfl) (s_X8_value E l _ (by omega) _ ((funext fun i0 => frM_66 61 i0 (fun h => h.elim (fun h => absurd h.1 (by decide)) (fun h => h.elim (fun h => absurd h.1 (by decide)) (fun h => absurd h.1 (by decide))))).trans ((funext fun i0 => frM_48 61 i0 (fun h => h.elim (fun h => absurd h.1 (by decide)) (fun h => h.elim (fun h => absurd h.1 (by decide)) (fun h => absurd h.1 (by decide))))).trans ((funext fun i0 => frM_25 61 i0 (fun h => absurd h.1 (by decide))).trans hvv))) rfl (by first | omega | assumption)) (pc' := 78) rfl (fun vv M_75 hq co75 hcm75 => ?_)
              obtain ⟨rfl, rfl⟩ := hq
              refine ax_reS (st2 := [.inl (vv (M_66 58 8))]) rfl ?_
              have cc75 : -2147483648 ≤ vv (M_66 58 8) ∧ vv (M_66 58 8) < 2147483648 := co75 _ rfl
              refine ax_istore dX1_readStep_78 (by decide) (ls' := [some (.inr 65), some (.inr 58), some (.inl (vv nx)), some (.inl (vv (nx + 1))), some (.inl (vv (M_66 58 8)))]) rfl (pc' := 80) rfl ?_
              refine ax_aload_n dX1_readStep_80 rfl rfl (pc' := 81) rfl ?_
              refine ax_iconst dX1_readStep_81 (by decide) (pc' := 82) rfl ?_
              refine ax_bipush dX1_readStep_82 (by decide) (pc' := 84) rfl ?_
              refine ax_invG [.inl 0, .inl 23] [] dX1_readStep_84 mlX1_73 sh_58 rfl rfl rfl (Nat.le_of_ble_eq_true rfl) (s_pN3 E l _ (by omega) _ 0 23 L.tail.tail.tail ((funext fun i0 => frM_66 60 i0 (fun h => h.elim (fun h => absurd h.1 (by decide)) (fun h => h.elim (fun h => absurd h.1 (by decide)) (fun h => absurd h.1 (by decide))))).trans ((funext fun i0 => frM_48 60 i0 (fun h => h.elim (fun h => absurd h.1 (by decide)) (fun h => h.elim (fun h => absurd h.1 (by decide)) (fun h => absurd h.1 (by decide))))).trans ((funext fun i0 => frM_25 60 i0 (fun h => absurd h.1 (by decide))).trans hkk))) ((funext fun i0 => frM_66 61 i0 (fun h => h.elim (fun h => absurd h.1 (by decide)) (fun h => h.elim (fun h => absurd h.1 (by decide)) (fun h => absurd h.1 (by decide))))).trans ((funext fun i0 => frM_48 61 i0 (fun h => h.elim (fun h => absurd h.1 (by decide)) (fun h => h.elim (fun h => absurd h.1 (by decide)) (fun h => absurd h.1 (by decide))))).trans ((funext fun i0 => frM_25 61 i0 (fun h => absurd h.1 (by decide))).trans hvv))) ((funext fun i0 => frM_66 62 i0 (fun h => h.elim (fun h => absurd h.1 (by decide)) (fun h => h.elim (fun h => absurd h.1 (by decide)) (fun h => absurd h.1 (by decide))))).trans ((funext fun i0 => frM_48 62 i0 (fun h => h.elim (fun h => absurd h.1 (by decide)) (fun h => h.elim (fun h => absurd h.1 (by decide)) (fun h => absurd h.1 (by decide))))).trans ((funext fun i0 => frM_25 62 i0 (fun h => absurd h.1 (by decide))).trans hss))) rfl rfl rfl qc3) (pc' := 87) rfl (fun vv M_84 hq co84 hcm84 => ?_)
              obtain ⟨rfl, frM_84, fa84_0⟩ := hq
              refine ax_reS (st2 := [.inl (f_rb (f_nbr 0 23 L.tail.tail.tail))]) rfl ?_
              have cc84 : -2147483648 ≤ f_rb (f_nbr 0 23 L.tail.tail.tail) ∧ f_rb (f_nbr 0 23 L.tail.tail.tail) < 2147483648 := co84 _ rfl
              refine ax_if_ne (tgt := 92) dX1_readStep_87 (by decide) (pc' := 90) rfl (fun h87 => ?_) (fun h87 => ?_)
              · obtain ⟨⟨qe4, qf2, qf3⟩, qc4, qn4, -⟩ := f_pco_n fa84_0 h87
                have qV4 := km_V wK ((km_n wK).mpr qn4)
                have qzz : f_stq L = f_stE (f_T L, f_V L.tail, f_V L.tail.tail.tail) L.tail.tail.tail.tail := by
                  rw [qb4, qe4, q10]
                  rfl
                have uK := f_kv_3 (f_cc_hd qc4).1.1
                have us := (f_cc_hd qc4).1.2
                have uR := f_cc_rg qc4
                refine ax_aload_n dX1_readStep_92 rfl rfl (pc' := 93) rfl ?_
                refine ax_iload_n dX1_readStep_93 rfl rfl (pc' := 94) rfl ?_
                refine ax_iload_n dX1_readStep_94 rfl rfl (pc' := 95) rfl ?_
                refine ax_iload dX1_readStep_95 rfl (pc' := 97) rfl ?_
                refine ax_invG [.inl (vv nx), .inl (vv (nx + 1)), .inl (vv (M_66 58 8))] [] dX1_readStep_97 mlX1_80 sh_65 rfl rfl rfl (Nat.le_of_ble_eq_true rfl) (s_X1_addStep E l _ (by omega) _ (vv nx) (vv (nx + 1)) (vv (M_66 58 8)) ((funext fun i0 => frM_84 66 i0 (fun h => h.elim (fun h => absurd h.1 (by decide)) (fun h => h.elim (fun h => absurd h.1 (by decide)) (fun h => absurd h.1 (by decide))))).trans ((funext fun i0 => frM_66 66 i0 (fun h => h.elim (fun h => absurd h.1 (by decide)) (fun h => h.elim (fun h => absurd h.1 (by decide)) (fun h => absurd h.1 (by decide))))).trans ((funext fun i0 => frM_48 66 i0 (fun h => h.elim (fun h => absurd h.1 (by decide)) (fun h => h.elim (fun h => absurd h.1 (by decide)) (fun h => absurd h.1 (by decide))))).trans ((funext fun i0 => frM_25 66 i0 (fun h => absurd h.1 (by decide))).trans hkn)))) ((funext fun i0 => frM_84 67 i0 (fun h => h.elim (fun h => absurd h.1 (by decide)) (fun h => h.elim (fun h => absurd h.1 (by decide)) (fun h => absurd h.1 (by decide))))).trans ((funext fun i0 => frM_66 67 i0 (fun h => h.elim (fun h => absurd h.1 (by decide)) (fun h => h.elim (fun h => absurd h.1 (by decide)) (fun h => absurd h.1 (by decide))))).trans ((funext fun i0 => frM_48 67 i0 (fun h => h.elim (fun h => absurd h.1 (by decide)) (fun h => h.elim (fun h => absurd h.1 (by decide)) (fun h => absurd h.1 (by decide))))).trans ((funext fun i0 => frM_25 67 i0 (fun h => absurd h.1 (by decide))).trans hff)))) ((funext fun i0 => frM_84 68 i0 (fun h => h.elim (fun h => absurd h.1 (by decide)) (fun h => h.elim (fun h => absurd h.1 (by decide)) (fun h => absurd h.1 (by decide))))).trans ((funext fun i0 => frM_66 68 i0 (fun h => h.elim (fun h => absurd h.1 (by decide)) (fun h => h.elim (fun h => absurd h.1 (by decide)) (fun h => absurd h.1 (by decide))))).trans ((funext fun i0 => frM_48 68 i0 (fun h => h.elim (fun h => absurd h.1 (by decide)) (fun h => h.elim (fun h => absurd h.1 (by decide)) (fun h => absurd h.1 (by decide))))).trans ((funext fun i0 => frM_25 68 i0 (fun h => absurd h.1 (by decide))).trans hsc)))) ((frM_84 65 0 (fun h => h.elim (fun h => absurd h.1 (by decide)) (fun h => h.elim (fun h => absurd h.1 (by decide)) (fun h => absurd h.1 (by decide))))).trans ((frM_66 65 0 (fun h => h.elim (fun h => absurd h.1 (by decide)) (fun h => h.elim (fun h => absurd h.1 (by decide)) (fun h => absurd h.1 (by decide))))).trans ((frM_48 65 0 (fun h => h.elim (fun h => absurd h.1 (by decide)) (fun h => h.elim (fun h => absurd h.1 (by decide)) (fun h => absurd h.1 (by decide))))).trans ((frM_25 65 0 (fun h => absurd h.1 (by decide))).trans hcn)))) (by first | omega | assumption)) (pc' := 100) rfl (fun vv M_97 hq co97 hcm97 => ?_)
                obtain ⟨rfl, frM_97, mrM_97_0, mrM_97_1, mrM_97_2, msM_97_0⟩ := hq
                refine ax_reS (st2 := []) rfl ?_
                refine ax_aload_n dX1_readStep_100 rfl rfl (pc' := 101) rfl ?_
                refine ax_iconst dX1_readStep_101 (by decide) (pc' := 102) rfl ?_
                refine ax_bipush dX1_readStep_102 (by decide) (pc' := 104) rfl ?_
                refine ax_invG [.inl 1, .inl 59] [] dX1_readStep_104 mlX1_77 sh_58 rfl rfl rfl (Nat.le_of_ble_eq_true rfl) (s_ps3 E l _ (by omega) _ 1 59 159 L.tail.tail.tail.tail ((funext fun i0 => frM_97 60 i0 (fun h => h.elim (fun h => absurd h (by decide)) (fun h => h.elim (fun h => absurd h (by decide)) (fun h => h.elim (fun h => absurd h (by decide)) (fun h => absurd h.1 (by decide)))))).trans ((funext fun i0 => frM_84 60 i0 (fun h => h.elim (fun h => absurd h.1 (by decide)) (fun h => h.elim (fun h => absurd h.1 (by decide)) (fun h => absurd h.1 (by decide))))).trans ((funext fun i0 => frM_66 60 i0 (fun h => h.elim (fun h => absurd h.1 (by decide)) (fun h => h.elim (fun h => absurd h.1 (by decide)) (fun h => absurd h.1 (by decide))))).trans ((funext fun i0 => frM_48 60 i0 (fun h => h.elim (fun h => absurd h.1 (by decide)) (fun h => h.elim (fun h => absurd h.1 (by decide)) (fun h => absurd h.1 (by decide))))).trans ((funext fun i0 => frM_25 60 i0 (fun h => absurd h.1 (by decide))).trans hkk))))) ((funext fun i0 => frM_97 61 i0 (fun h => h.elim (fun h => absurd h (by decide)) (fun h => h.elim (fun h => absurd h (by decide)) (fun h => h.elim (fun h => absurd h (by decide)) (fun h => absurd h.1 (by decide)))))).trans ((funext fun i0 => frM_84 61 i0 (fun h => h.elim (fun h => absurd h.1 (by decide)) (fun h => h.elim (fun h => absurd h.1 (by decide)) (fun h => absurd h.1 (by decide))))).trans ((funext fun i0 => frM_66 61 i0 (fun h => h.elim (fun h => absurd h.1 (by decide)) (fun h => h.elim (fun h => absurd h.1 (by decide)) (fun h => absurd h.1 (by decide))))).trans ((funext fun i0 => frM_48 61 i0 (fun h => h.elim (fun h => absurd h.1 (by decide)) (fun h => h.elim (fun h => absurd h.1 (by decide)) (fun h => absurd h.1 (by decide))))).trans ((funext fun i0 => frM_25 61 i0 (fun h => absurd h.1 (by decide))).trans hvv))))) ((funext fun i0 => frM_97 62 i0 (fun h => h.elim (fun h => absurd h (by decide)) (fun h => h.elim (fun h => absurd h (by decide)) (fun h => h.elim (fun h => absurd h (by decide)) (fun h => absurd h.1 (by decide)))))).trans ((funext fun i0 => frM_84 62 i0 (fun h => h.elim (fun h => absurd h.1 (by decide)) (fun h => h.elim (fun h => absurd h.1 (by decide)) (fun h => absurd h.1 (by decide))))).trans ((funext fun i0 => frM_66 62 i0 (fun h => h.elim (fun h => absurd h.1 (by decide)) (fun h => h.elim (fun h => absurd h.1 (by decide)) (fun h => absurd h.1 (by decide))))).trans ((funext fun i0 => frM_48 62 i0 (fun h => h.elim (fun h => absurd h.1 (by decide)) (fun h => h.elim (fun h => absurd h.1 (by decide)) (fun h => absurd h.1 (by decide))))).trans ((funext fun i0 => frM_25 62 i0 (fun h => absurd h.1 (by decide))).trans hss))))) ((frM_97 58 8 (fun h => h.elim (fun h => absurd h (by decide)) (fun h => h.elim (fun h => absurd h (by decide)) (fun h => h.elim (fun h => absurd h (by decide)) (fun h => absurd h.1 (by decide)))))).trans rfl) ((frM_97 58 2 (fun h => h.elim (fun h => absurd h (by decide)) (fun h => h.elim (fun h => absurd h (by decide)) (fun h => h.elim (fun h => absurd h (by decide)) (fun h => absurd h.1 (by decide)))))).trans rfl) ((frM_97 58 3 (fun h => h.elim (fun h => absurd h (by decide)) (fun h => h.elim (fun h => absurd h (by decide)) (fun h => h.elim (fun h => absurd h (by decide)) (fun h => absurd h.1 (by decide)))))).trans rfl) qc4 (by first | omega | assumption) (km_s uK 59 (by decide))) (pc' := 107) rfl (fun vv M_104 hq co104 hcm104 => ?_)
                obtain ⟨rfl, frM_104, fa104_0⟩ := hq
                refine ax_reS (st2 := [.inl (f_rb (f_ned 159 L.tail.tail.tail.tail))]) rfl ?_
                have cc104 : -2147483648 ≤ f_rb (f_ned 159 L.tail.tail.tail.tail) ∧ f_rb (f_ned 159 L.tail.tail.tail.tail) < 2147483648 := co104 _ rfl
                refine ax_zret dX1_readStep_107 rfl (f_rb_01 _) ?_
                refine ⟨rfl, ?_, ?_, ?_⟩
                · refine congrArg (fun z => some (Sum.inl z)) ?_
                  rw [qzz]
                  unfold f_stE
                  cases f_ned 159 _ <;> rfl
                · intro x0 i0 hai
                  exact ((frM_104 x0 i0 (fun h => h.elim (fun h => hai (Or.inl h)) (fun h => h.elim (fun h => hai (Or.inr (Or.inl h))) (fun h => hai (Or.inr (Or.inr (Or.inl h))))))).trans ((frM_97 x0 i0 (fun h => h.elim (fun h => hai (Or.inr (Or.inr (Or.inr (Or.inl h))))) (fun h => h.elim (fun h => hai (Or.inr (Or.inr (Or.inr (Or.inr (Or.inl h)))))) (fun h => h.elim (fun h => hai (Or.inr (Or.inr (Or.inr (Or.inr (Or.inr (Or.inl h))))))) (fun h => hai (Or.inr (Or.inr (Or.inr (Or.inr (Or.inr (Or.inr h))))))))))).trans ((frM_84 x0 i0 (fun h => h.elim (fun h => hai (Or.inl h)) (fun h => h.elim (fun h => hai (Or.inr (Or.inl h))) (fun h => hai (Or.inr (Or.inr (Or.inl h))))))).trans ((frM_66 x0 i0 (fun h => h.elim (fun h => hai (Or.inl h)) (fun h => h.elim (fun h => hai (Or.inr (Or.inl h))) (fun h => hai (Or.inr (Or.inr (Or.inl h))))))).trans ((frM_48 x0 i0 (fun h => h.elim (fun h => hai (Or.inl h)) (fun h => h.elim (fun h => hai (Or.inr (Or.inl h))) (fun h => hai (Or.inr (Or.inr (Or.inl h))))))).trans ((frM_25 x0 i0 (fun h => hai (Or.inl h))).trans rfl))))))
                · rcases f_rb_01 (f_ned 159 L.tail.tail.tail.tail) with qn | qn
                  · have qe := f_pco_0 fa104_0 qn
                    exact f_dco_no (qzz.trans (by unfold f_stE; rw [qe]; rfl)) rfl rfl
                  · obtain ⟨⟨qe, qe2x, qe3x⟩, qcE, -⟩ := f_pco_d fa104_0 (by omega)
                    rw [show f_stq L = .inr (L.tail.tail.tail.tail.tail, [(f_T L, f_V L.tail, f_V L.tail.tail.tail)]) from qzz.trans (by unfold f_stE; rw [qe]; rfl)]
                    exact ⟨qcE, _, rfl, Eq.trans ((funext fun i0 => frM_104 66 i0 (fun h => h.elim (fun h => absurd h.1 (by decide)) (fun h => h.elim (fun h => absurd h.1 (by decide)) (fun h => absurd h.1 (by decide))))).trans mrM_97_0) (by rw [qv]), Eq.trans ((funext fun i0 => frM_104 67 i0 (fun h => h.elim (fun h => absurd h.1 (by decide)) (fun h => h.elim (fun h => absurd h.1 (by decide)) (fun h => absurd h.1 (by decide))))).trans mrM_97_1) (by rw [qV]), Eq.trans ((funext fun i0 => frM_104 68 i0 (fun h => h.elim (fun h => absurd h.1 (by decide)) (fun h => h.elim (fun h => absurd h.1 (by decide)) (fun h => absurd h.1 (by decide))))).trans mrM_97_2) (by rw [qV4]), ((frM_104 65 0 (fun h => h.elim (fun h => absurd h.1 (by decide)) (fun h => h.elim (fun h => absurd h.1 (by decide)) (fun h => absurd h.1 (by decide))))).trans msM_97_0), Eq.trans qe2x (qf2.trans (qd2.trans qa2x)), Eq.trans qe3x (qf3.trans (qd3.trans qa3x))⟩
              · have qz : f_stq L = .inl (M_84 58 2, M_84 58 3) := by
                  rw [qb4, f_pco_0 fa84_0 h87]
                  rfl
                refine ax_iconst dX1_readStep_90 (by decide) (pc' := 91) rfl ?_
                refine ax_zret dX1_readStep_91 rfl (by decide) ?_
                refine ⟨rfl, ?_, ?_, ?_⟩
                · refine congrArg (fun z => some (Sum.inl z)) ?_
                  rw [qz]
                  rfl
                · intro x0 i0 hai
                  exact ((frM_84 x0 i0 (fun h => h.elim (fun h => hai (Or.inl h)) (fun h => h.elim (fun h => hai (Or.inr (Or.inl h))) (fun h => hai (Or.inr (Or.inr (Or.inl h))))))).trans ((frM_66 x0 i0 (fun h => h.elim (fun h => hai (Or.inl h)) (fun h => h.elim (fun h => hai (Or.inr (Or.inl h))) (fun h => hai (Or.inr (Or.inr (Or.inl h))))))).trans ((frM_48 x0 i0 (fun h => h.elim (fun h => hai (Or.inl h)) (fun h => h.elim (fun h => hai (Or.inr (Or.inl h))) (fun h => hai (Or.inr (Or.inr (Or.inl h))))))).trans ((frM_25 x0 i0 (fun h => hai (Or.inl h))).trans rfl))))
                · exact f_dco_no qz rfl rfl
            · have qz : f_stq L = .inl (M_66 58 2, M_66 58 3) := by
                rw [qb3]
                unfold f_stT
                rw [f_pco_0 fa66_0 h69]
                rfl
              refine ax_iconst dX1_readStep_72 (by decide) (pc' := 73) rfl ?_
              refine ax_zret dX1_readStep_73 rfl (by decide) ?_
              refine ⟨rfl, ?_, ?_, ?_⟩
              · refine congrArg (fun z => some (Sum.inl z)) ?_
                rw [qz]
                rfl
              · intro x0 i0 hai
                exact ((frM_66 x0 i0 (fun h => h.elim (fun h => hai (Or.inl h)) (fun h => h.elim (fun h => hai (Or.inr (Or.inl h))) (fun h => hai (Or.inr (Or.inr (Or.inl h))))))).trans ((frM_48 x0 i0 (fun h => h.elim (fun h => hai (Or.inl h)) (fun h => h.elim (fun h => hai (Or.inr (Or.inl h))) (fun h => hai (Or.inr (Or.inr (Or.inl h))))))).trans ((frM_25 x0 i0 (fun h => hai (Or.inl h))).trans rfl)))
              · exact f_dco_no qz rfl rfl
        · have qz : f_stq L = .inl (M_48 58 2, M_48 58 3) := by
            rw [qb, f_pco_0 fa48_0 h51]
            rfl
          refine ax_iconst dX1_readStep_54 (by decide) (pc' := 55) rfl ?_
          refine ax_zret dX1_readStep_55 rfl (by decide) ?_
          refine ⟨rfl, ?_, ?_, ?_⟩
          · refine congrArg (fun z => some (Sum.inl z)) ?_
            rw [qz]
            rfl
          · intro x0 i0 hai
            exact ((frM_48 x0 i0 (fun h => h.elim (fun h => hai (Or.inl h)) (fun h => h.elim (fun h => hai (Or.inr (Or.inl h))) (fun h => hai (Or.inr (Or.inr (Or.inl h))))))).trans ((frM_25 x0 i0 (fun h => hai (Or.inl h))).trans rfl))
          · exact f_dco_no qz rfl rfl
    · have qz : f_stq L = .inl (1, ss nx) := by
        unfold f_stq
        rw [if_neg (fun h => ((km_k qK).mpr h).2.1 h15), qs]
      refine ax_aload_n dX1_readStep_18 rfl rfl (pc' := 19) rfl ?_
      refine ax_iconst dX1_readStep_19 (by decide) (pc' := 20) rfl ?_
      refine ax_invG [.inl 1] [] dX1_readStep_20 mlX1_66 sh_58 rfl rfl rfl (Nat.le_of_ble_eq_true rfl) (s_X8_fail E l _ (by omega) _ 1 hss hnx (by first | omega | assumption)) (pc' := 23) rfl (fun vv M_20 hq co20 hcm20 => ?_)
      obtain ⟨rfl, frM_20, msM_20_0, msM_20_1⟩ := hq
      refine ax_reS (st2 := [.inl 0]) rfl ?_
      refine ax_zret dX1_readStep_23 rfl (by decide) ?_
      refine ⟨rfl, ?_, ?_, ?_⟩
      · refine congrArg (fun z => some (Sum.inl z)) ?_
        rw [qz]
        rfl
      · intro x0 i0 hai
        exact ((frM_20 x0 i0 (fun h => h.elim (fun h => hai (Or.inr (Or.inl h))) (fun h => hai (Or.inr (Or.inr (Or.inl h)))))).trans rfl)
      · exact f_dco_no qz msM_20_0 msM_20_1
set_option maxRecDepth 20000 in
theorem s_X1_readAgain (E : ax_Env) (l : Launch) (d : Nat) (hd : 2 ≤ d) (M : ax_Mem) (L : List f_Tk) {kk : Int → Int} (hkk : M 60 = kk) {vv : Int → Int} (hvv : M 61 = vv) {ss : Int → Int} (hss : M 62 = ss) {tm : Int → Int} (htm : M 69 = tm) {sr : Int → Int} (hsr : M 70 = sr) {nx : Int} (hnx : M 58 8 = nx) {cn : Int} (hcn : M 65 0 = cn) {op : Int} (hop : M 65 4 = op) {x2 : Int} (hx2 : M 58 2 = x2) {x3 : Int} (hx3 : M 58 3 = x3) (hg0 : f_cc 3 kk vv ss nx L) (hg1 : f_T L = 15) (hg2 : 0 ≤ op ∧ op ≤ 4) : ax_G E l d iX1_readAgain [.inr 65, .inr 58] M (fun z0 M2 => z0 = some (.inl (f_rdb (f_agq op L))) ∧ (∀ x0 i0 : Int, ¬ ((x0 = 58 ∧ i0 = 8) ∨ (x0 = 58 ∧ i0 = 2) ∨ (x0 = 58 ∧ i0 = 3) ∨ x0 = 69 ∨ x0 = 70 ∨ (x0 = 65 ∧ i0 = 4)) → M2 x0 i0 = M x0 i0) ∧ (f_aco kk vv ss tm sr op cn x2 x3 L (f_agq op L) M2)) := by
  obtain ⟨d, rfl⟩ : ∃ d0, d = d0 + 1 := ⟨d - 1, by omega⟩
  refine ax_start rfl (Nat.le_of_ble_eq_true rfl) (ls := [some (.inr 65), some (.inr 58), none]) rfl (fun hav hcm => ?_)
  clear hav
  have qK := f_kv_3 (f_cc_hd hg0).1.1
  have qs := (f_cc_hd hg0).1.2
  have qR := f_cc_rg hg0
  refine ax_aload_n dX1_readAgain_0 rfl rfl (pc' := 1) rfl ?_
  refine ax_geti (v := op) dX1_readAgain_1 flX1_37 rfl sh_65 hop rfl (pc' := 4) rfl ?_
  refine ax_iconst dX1_readAgain_4 (by decide) (pc' := 5) rfl ?_
  refine ax_icmp_lt (tgt := 14) dX1_readAgain_5 (by decide) (pc' := 8) rfl (fun h5 => ?_) (fun h5 => ?_)
  · have qb : f_agq op L = f_bd (f_nbr 1 9 L.tail) (fun L2 => f_bd (f_ned 140 L2) (fun L3 => .inr (L3, []))) := by
      unfold f_agq
      rw [if_neg (by omega)]
    have qk0 : kk nx ≠ 0 := fun h => by
      have e := (km_0 qK).mp h
      omega
    obtain ⟨xc, xl, xn⟩ := f_cc_nx hg0 (by omega)
    have xK := f_kv_3 (f_cc_hd xc).1.1
    have xs := (f_cc_hd xc).1.2
    have xR := f_cc_rg xc
    refine ax_aload_n dX1_readAgain_14 rfl rfl (pc' := 15) rfl ?_
    refine ax_invG [] [] dX1_readAgain_15 mlX1_50 sh_58 rfl rfl rfl (Nat.le_of_ble_eq_true rfl) (s_X8_step E l _ (by omega) _ hkk hnx (by first | omega | assumption) (by first | omega | assumption)) (pc' := 18) rfl (fun vv M_15 hq co15 hcm15 => ?_)
    obtain ⟨rfl, frM_15, msM_15_0⟩ := hq
    refine ax_reS (st2 := []) rfl ?_
    refine ax_aload_n dX1_readAgain_18 rfl rfl (pc' := 19) rfl ?_
    refine ax_invG [] [] dX1_readAgain_19 mlX1_69 sh_58 rfl rfl rfl (Nat.le_of_ble_eq_true rfl) (s_X8_value E l _ (by omega) _ ((funext fun i0 => frM_15 61 i0 (fun h => absurd h.1 (by decide))).trans hvv) msM_15_0 (by first | omega | assumption)) (pc' := 22) rfl (fun vv M_19 hq co19 hcm19 => ?_)
    obtain ⟨rfl, rfl⟩ := hq
    refine ax_reS (st2 := [.inl (vv (nx + 1))]) rfl ?_
    have cc19 : -2147483648 ≤ vv (nx + 1) ∧ vv (nx + 1) < 2147483648 := co19 _ rfl
    refine ax_istore_n dX1_readAgain_22 rfl (by decide) (ls' := [some (.inr 65), some (.inr 58), some (.inl (vv (nx + 1)))]) rfl (pc' := 23) rfl ?_
    refine ax_aload_n dX1_readAgain_23 rfl rfl (pc' := 24) rfl ?_
    refine ax_iconst dX1_readAgain_24 (by decide) (pc' := 25) rfl ?_
    refine ax_bipush dX1_readAgain_25 (by decide) (pc' := 27) rfl ?_
    refine ax_invG [.inl 1, .inl 9] [] dX1_readAgain_27 mlX1_73 sh_58 rfl rfl rfl (Nat.le_of_ble_eq_true rfl) (s_pN3 E l _ (by omega) _ 1 9 L.tail ((funext fun i0 => frM_15 60 i0 (fun h => absurd h.1 (by decide))).trans hkk) ((funext fun i0 => frM_15 61 i0 (fun h => absurd h.1 (by decide))).trans hvv) ((funext fun i0 => frM_15 62 i0 (fun h => absurd h.1 (by decide))).trans hss) msM_15_0 ((frM_15 58 2 (fun h => absurd h.2 (by decide))).trans hx2) ((frM_15 58 3 (fun h => absurd h.2 (by decide))).trans hx3) xc) (pc' := 30) rfl (fun vv M_27 hq co27 hcm27 => ?_)
    obtain ⟨rfl, frM_27, fa27_0⟩ := hq
    refine ax_reS (st2 := [.inl (f_rb (f_nbr 1 9 L.tail))]) rfl ?_
    have cc27 : -2147483648 ≤ f_rb (f_nbr 1 9 L.tail) ∧ f_rb (f_nbr 1 9 L.tail) < 2147483648 := co27 _ rfl
    refine ax_if_eq (tgt := 43) dX1_readAgain_30 (by decide) (pc' := 33) rfl (fun h30 => ?_) (fun h30 => ?_)
    · have qz : f_agq op L = .inl (M_27 58 2, M_27 58 3) := by
        rw [qb, f_pco_0 fa27_0 h30]
        rfl
      refine ax_iconst dX1_readAgain_43 (by decide) (pc' := 44) rfl ?_
      refine ax_zret dX1_readAgain_44 rfl (by decide) ?_
      refine ⟨rfl, ?_, ?_, ?_⟩
      · refine congrArg (fun z => some (Sum.inl z)) ?_
        rw [qz]
        rfl
      · intro x0 i0 hai
        exact ((frM_27 x0 i0 (fun h => h.elim (fun h => hai (Or.inl h)) (fun h => h.elim (fun h => hai (Or.inr (Or.inl h))) (fun h => hai (Or.inr (Or.inr (Or.inl h))))))).trans ((frM_15 x0 i0 (fun h => hai (Or.inl h))).trans rfl))
      · exact f_aco_no qz rfl rfl
    · obtain ⟨⟨qe2, qa2x, qa3x⟩, qc2, qn2⟩ := f_pco_n fa27_0 h30
      have qV := km_V xK ((km_n xK).mpr qn2.1)
      have qb2 : f_agq op L = f_bd (f_ned 140 L.tail.tail) (fun L3 => .inr (L3, [])) := by
        rw [qb, qe2]
        rfl
      have yK := f_kv_3 (f_cc_hd qc2).1.1
      have ys := (f_cc_hd qc2).1.2
      have yR := f_cc_rg qc2
      refine ax_aload_n dX1_readAgain_33 rfl rfl (pc' := 34) rfl ?_
      refine ax_iconst dX1_readAgain_34 (by decide) (pc' := 35) rfl ?_
      refine ax_bipush dX1_readAgain_35 (by decide) (pc' := 37) rfl ?_
      refine ax_invG [.inl 1, .inl 40] [] dX1_readAgain_37 mlX1_77 sh_58 rfl rfl rfl (Nat.le_of_ble_eq_true rfl) (s_ps3 E l _ (by omega) _ 1 40 140 L.tail.tail ((funext fun i0 => frM_27 60 i0 (fun h => h.elim (fun h => absurd h.1 (by decide)) (fun h => h.elim (fun h => absurd h.1 (by decide)) (fun h => absurd h.1 (by decide))))).trans ((funext fun i0 => frM_15 60 i0 (fun h => absurd h.1 (by decide))).trans hkk)) ((funext fun i0 => frM_27 61 i0 (fun h => h.elim (fun h => absurd h.1 (by decide)) (fun h => h.elim (fun h => absurd h.1 (by decide)) (fun h => absurd h.1 (by decide))))).trans ((funext fun i0 => frM_15 61 i0 (fun h => absurd h.1 (by decide))).trans hvv)) ((funext fun i0 => frM_27 62 i0 (fun h => h.elim (fun h => absurd h.1 (by decide)) (fun h => h.elim (fun h => absurd h.1 (by decide)) (fun h => absurd h.1 (by decide))))).trans ((funext fun i0 => frM_15 62 i0 (fun h => absurd h.1 (by decide))).trans hss)) rfl rfl rfl qc2 (by first | omega | assumption) (km_s yK 40 (by decide))) (pc' := 40) rfl (fun vv M_37 hq co37 hcm37 => ?_)
      obtain ⟨rfl, frM_37, fa37_0⟩ := hq
      refine ax_reS (st2 := [.inl (f_rb (f_ned 140 L.tail.tail))]) rfl ?_
      have cc37 : -2147483648 ≤ f_rb (f_ned 140 L.tail.tail) ∧ f_rb (f_ned 140 L.tail.tail) < 2147483648 := co37 _ rfl
      refine ax_if_ne (tgt := 45) dX1_readAgain_40 (by decide) (pc' := 43) rfl (fun h40 => ?_) (fun h40 => ?_)
      · obtain ⟨⟨qe3, qd2, qd3⟩, qc3, qn3⟩ := f_pco_d fa37_0 h40
        have qz : f_agq op L = .inr (L.tail.tail.tail, []) := by
          rw [qb2, qe3]
          rfl
        refine ax_aload_n dX1_readAgain_45 rfl rfl (pc' := 46) rfl ?_
        refine ax_getr (v := 69) dX1_readAgain_46 flX1_21 rfl sh_65 rfl (pc' := 49) rfl ?_
        refine ax_aload_n dX1_readAgain_49 rfl rfl (pc' := 50) rfl ?_
        refine ax_geti (v := op) dX1_readAgain_50 flX1_37 rfl sh_65 ((frM_37 65 4 (fun h => h.elim (fun h => absurd h.1 (by decide)) (fun h => h.elim (fun h => absurd h.1 (by decide)) (fun h => absurd h.1 (by decide))))).trans ((frM_27 65 4 (fun h => h.elim (fun h => absurd h.1 (by decide)) (fun h => h.elim (fun h => absurd h.1 (by decide)) (fun h => absurd h.1 (by decide))))).trans ((frM_15 65 4 (fun h => absurd h.1 (by decide))).trans hop))) rfl (pc' := 53) rfl ?_
        refine ax_iload_n dX1_readAgain_53 rfl rfl (pc' := 54) rfl ?_
        refine ax_iast dX1_readAgain_54 sh_69 rfl (by omega) (by omega) (pc' := 55) rfl ?_
        refine ax_aload_n dX1_readAgain_55 rfl rfl (pc' := 56) rfl ?_
        refine ax_getr (v := 70) dX1_readAgain_56 flX1_24 rfl sh_65 rfl (pc' := 59) rfl ?_
        refine ax_aload_n dX1_readAgain_59 rfl rfl (pc' := 60) rfl ?_
        refine ax_geti (v := op) dX1_readAgain_60 flX1_37 rfl sh_65 (show (ax_up M_37 69 op (vv (nx + 1))) 65 4 = op from (ax_up_miss (fun h => absurd h.1 (by decide)) ((frM_37 65 4 (fun h => h.elim (fun h => absurd h.1 (by decide)) (fun h => h.elim (fun h => absurd h.1 (by decide)) (fun h => absurd h.1 (by decide))))).trans ((frM_27 65 4 (fun h => h.elim (fun h => absurd h.1 (by decide)) (fun h => h.elim (fun h => absurd h.1 (by decide)) (fun h => absurd h.1 (by decide))))).trans ((frM_15 65 4 (fun h => absurd h.1 (by decide))).trans hop))))) rfl (pc' := 63) rfl ?_
        refine ax_aload_n dX1_readAgain_63 rfl rfl (pc' := 64) rfl ?_
        refine ax_geti (v := cn) dX1_readAgain_64 flX1_27 rfl sh_65 (show (ax_up M_37 69 op (vv (nx + 1))) 65 0 = cn from (ax_up_miss (fun h => absurd h.1 (by decide)) ((frM_37 65 0 (fun h => h.elim (fun h => absurd h.1 (by decide)) (fun h => h.elim (fun h => absurd h.1 (by decide)) (fun h => absurd h.1 (by decide))))).trans ((frM_27 65 0 (fun h => h.elim (fun h => absurd h.1 (by decide)) (fun h => h.elim (fun h => absurd h.1 (by decide)) (fun h => absurd h.1 (by decide))))).trans ((frM_15 65 0 (fun h => absurd h.1 (by decide))).trans hcn))))) rfl (pc' := 67) rfl ?_
        refine ax_iast dX1_readAgain_67 sh_70 rfl (by omega) (by omega) (pc' := 68) rfl ?_
        refine ax_aload_n dX1_readAgain_68 rfl rfl (pc' := 69) rfl ?_
        refine ax_dup dX1_readAgain_69 (pc' := 70) rfl ?_
        refine ax_geti (v := op) dX1_readAgain_70 flX1_37 rfl sh_65 (show (ax_up (ax_up M_37 69 op (vv (nx + 1))) 70 op cn) 65 4 = op from (ax_up_miss (fun h => absurd h.1 (by decide)) (ax_up_miss (fun h => absurd h.1 (by decide)) ((frM_37 65 4 (fun h => h.elim (fun h => absurd h.1 (by decide)) (fun h => h.elim (fun h => absurd h.1 (by decide)) (fun h => absurd h.1 (by decide))))).trans ((frM_27 65 4 (fun h => h.elim (fun h => absurd h.1 (by decide)) (fun h => h.elim (fun h => absurd h.1 (by decide)) (fun h => absurd h.1 (by decide))))).trans ((frM_15 65 4 (fun h => absurd h.1 (by decide))).trans hop)))))) rfl (pc' := 73) rfl ?_
        refine ax_iconst dX1_readAgain_73 (by decide) (pc' := 74) rfl ?_
        refine ax_iadd dX1_readAgain_74 (by omega) (pc' := 75) rfl ?_
        refine ax_puti dX1_readAgain_75 flX1_37 (Or.inl rfl) sh_65 rfl (pc' := 78) rfl ?_
        refine ax_iconst dX1_readAgain_78 (by decide) (pc' := 79) rfl ?_
        refine ax_zret dX1_readAgain_79 rfl (by decide) ?_
        refine ⟨rfl, ?_, ?_, ?_⟩
        · refine congrArg (fun z => some (Sum.inl z)) ?_
          rw [qz]
          rfl
        · intro x0 i0 hai
          exact (ax_up_miss (fun h => hai (Or.inr (Or.inr (Or.inr (Or.inr (Or.inr h)))))) (ax_up_miss (fun h => hai (Or.inr (Or.inr (Or.inr (Or.inr (Or.inl h.1)))))) (ax_up_miss (fun h => hai (Or.inr (Or.inr (Or.inr (Or.inl h.1))))) ((frM_37 x0 i0 (fun h => h.elim (fun h => hai (Or.inl h)) (fun h => h.elim (fun h => hai (Or.inr (Or.inl h))) (fun h => hai (Or.inr (Or.inr (Or.inl h))))))).trans ((frM_27 x0 i0 (fun h => h.elim (fun h => hai (Or.inl h)) (fun h => h.elim (fun h => hai (Or.inr (Or.inl h))) (fun h => hai (Or.inr (Or.inr (Or.inl h))))))).trans ((frM_15 x0 i0 (fun h => hai (Or.inl h))).trans rfl))))))
        · rw [qz]
          exact ⟨qc3, Eq.trans (ax_up_rowmiss (by decide) (ax_up_rowmiss (by decide) (ax_up_rowhit ((funext fun i0 => frM_37 69 i0 (fun h => h.elim (fun h => absurd h.1 (by decide)) (fun h => h.elim (fun h => absurd h.1 (by decide)) (fun h => absurd h.1 (by decide))))).trans ((funext fun i0 => frM_27 69 i0 (fun h => h.elim (fun h => absurd h.1 (by decide)) (fun h => h.elim (fun h => absurd h.1 (by decide)) (fun h => absurd h.1 (by decide))))).trans ((funext fun i0 => frM_15 69 i0 (fun h => absurd h.1 (by decide))).trans htm)))))) (by rw [qV]), (ax_up_rowmiss (by decide) (ax_up_rowhit (ax_up_rowmiss (by decide) ((funext fun i0 => frM_37 70 i0 (fun h => h.elim (fun h => absurd h.1 (by decide)) (fun h => h.elim (fun h => absurd h.1 (by decide)) (fun h => absurd h.1 (by decide))))).trans ((funext fun i0 => frM_27 70 i0 (fun h => h.elim (fun h => absurd h.1 (by decide)) (fun h => h.elim (fun h => absurd h.1 (by decide)) (fun h => absurd h.1 (by decide))))).trans ((funext fun i0 => frM_15 70 i0 (fun h => absurd h.1 (by decide))).trans hsr)))))), (ax_up_hit _ _ _ _), qn2.2, Eq.trans (ax_up_miss (fun h => absurd h.1 (by decide)) (ax_up_miss (fun h => absurd h.1 (by decide)) (ax_up_miss (fun h => absurd h.1 (by decide)) rfl))) (qd2.trans qa2x), Eq.trans (ax_up_miss (fun h => absurd h.1 (by decide)) (ax_up_miss (fun h => absurd h.1 (by decide)) (ax_up_miss (fun h => absurd h.1 (by decide)) rfl))) (qd3.trans qa3x)⟩
      · have qz : f_agq op L = .inl (M_37 58 2, M_37 58 3) := by
          rw [qb2, f_pco_0 fa37_0 h40]
          rfl
        refine ax_iconst dX1_readAgain_43 (by decide) (pc' := 44) rfl ?_
        refine ax_zret dX1_readAgain_44 rfl (by decide) ?_
        refine ⟨rfl, ?_, ?_, ?_⟩
        · refine congrArg (fun z => some (Sum.inl z)) ?_
          rw [qz]
          rfl
        · intro x0 i0 hai
          exact ((frM_37 x0 i0 (fun h => h.elim (fun h => hai (Or.inl h)) (fun h => h.elim (fun h => hai (Or.inr (Or.inl h))) (fun h => hai (Or.inr (Or.inr (Or.inl h))))))).trans ((frM_27 x0 i0 (fun h => h.elim (fun h => hai (Or.inl h)) (fun h => h.elim (fun h => hai (Or.inr (Or.inl h))) (fun h => hai (Or.inr (Or.inr (Or.inl h))))))).trans ((frM_15 x0 i0 (fun h => hai (Or.inl h))).trans rfl)))
        · exact f_aco_no qz rfl rfl
  · have qz : f_agq op L = .inl (3, ss nx) := by
      unfold f_agq
      rw [if_pos (by omega), qs]
    refine ax_aload_n dX1_readAgain_8 rfl rfl (pc' := 9) rfl ?_
    refine ax_iconst dX1_readAgain_9 (by decide) (pc' := 10) rfl ?_
    refine ax_invG [.inl 3] [] dX1_readAgain_10 mlX1_66 sh_58 rfl rfl rfl (Nat.le_of_ble_eq_true rfl) (s_X8_fail E l _ (by omega) _ 3 hss hnx (by first | omega | assumption)) (pc' := 13) rfl (fun vv M_10 hq co10 hcm10 => ?_)
    obtain ⟨rfl, frM_10, msM_10_0, msM_10_1⟩ := hq
    refine ax_reS (st2 := [.inl 0]) rfl ?_
    refine ax_zret dX1_readAgain_13 rfl (by decide) ?_
    refine ⟨rfl, ?_, ?_, ?_⟩
    · refine congrArg (fun z => some (Sum.inl z)) ?_
      rw [qz]
      rfl
    · intro x0 i0 hai
      exact ((frM_10 x0 i0 (fun h => h.elim (fun h => hai (Or.inr (Or.inl h))) (fun h => hai (Or.inr (Or.inr (Or.inl h)))))).trans rfl)
    · exact f_aco_no qz msM_10_0 msM_10_1
