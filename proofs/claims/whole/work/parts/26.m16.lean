/-! moves of shapes -/
theorem f_fwd_app {pl : Int → Int} : ∀ {A B : List Int} {i : Int}, f_fwd pl i (A ++ B) → f_fwd pl i A ∧ f_fwd pl (i + (A.length : Int)) B
  | [], B, i, h => ⟨trivial, by
    simp only [List.length_nil]
    rw [show i + ((0 : Nat) : Int) = i by omega]
    exact h⟩
  | x :: A, B, i, h => by
    have e := f_fwd_app (A := A) (i := i + 1) h.2
    refine ⟨⟨h.1, e.1⟩, ?_⟩
    rw [List.length_cons, show i + ((A.length + 1 : Nat) : Int) = i + 1 + (A.length : Int) by omega]
    exact e.2
theorem f_fwd_cat {pl : Int → Int} : ∀ {A B : List Int} {i : Int}, f_fwd pl i A → f_fwd pl (i + (A.length : Int)) B → f_fwd pl i (A ++ B)
  | [], B, i, _, h => by
    simp only [List.length_nil] at h
    rw [show i + ((0 : Nat) : Int) = i by omega] at h
    exact h
  | x :: A, B, i, ha, h => by
    refine ⟨ha.1, f_fwd_cat ha.2 ?_⟩
    rw [List.length_cons, show i + ((A.length + 1 : Nat) : Int) = i + 1 + (A.length : Int) by omega] at h
    exact h
theorem f_fwd_upR {pl : Int → Int} {v : Int} : ∀ {st : List Int} {i x : Int}, i + (st.length : Int) ≤ x → f_fwd pl i st → f_fwd (f_up pl x v) i st
  | [], _, _, _, _ => trivial
  | u :: tl, i, x, hx, h => by
    rw [List.length_cons] at hx
    exact ⟨by unfold f_up; rw [if_neg (by omega)]; exact h.1, f_fwd_upR (by omega) h.2⟩
theorem f_lt3_app {A B : List Int} : f_lt3 (A ++ B) ↔ f_lt3 A ∧ f_lt3 B := by
  constructor
  · exact fun h => ⟨fun x hx => h x (List.mem_append_left _ hx), fun x hx => h x (List.mem_append_right _ hx)⟩
  · intro h x hx
    rcases List.mem_append.mp hx with e | e
    · exact h.1 x e
    · exact h.2 x e
theorem f_lt3_cons {x : Int} {B : List Int} : f_lt3 (x :: B) ↔ (0 ≤ x ∧ x ≤ 2) ∧ f_lt3 B := by
  constructor
  · exact fun h => ⟨h x List.mem_cons_self, fun q hq => h q (List.mem_cons_of_mem _ hq)⟩
  · intro h q hq
    rcases List.mem_cons.mp hq with e | e
    · rw [e]
      exact h.1
    · exact h.2 q e
def f_goe (step : Int) (A : List Int) (x y : Int) (B : List Int) (s : f_Bf) : f_Bf := if x = 2 ∧ y = 2 ∨ x ≠ 2 ∧ y = 1 - x then f_rch (f_code (A ++ B)) step s else s
def f_chg (step : Int) (A : List Int) (x y : Int) (B : List Int) (s : f_Bf) : f_Bf := if x = 2 ∨ y = 2 then f_rch (f_code (A ++ y :: x :: B)) step s else s
set_option maxRecDepth 20000 in
theorem s_X12_goes (E : ax_Env) (l : Launch) (d : Nat) (hd : 2 ≤ d) (M : ax_Mem) (c i step : Int) (A : List Int) (x y : Int) (B : List Int) {lt : Int → Int} (hlt : M 350 = lt) {mv : Int → Int} (hmv : M 348 = mv) {qv : Int → Int} (hqv : M 349 = qv) {qn : Int} (hqn : M 330 43 = qn) (hg0 : c = f_code (A ++ x :: y :: B)) (hg1 : ((A ++ x :: y :: B).length : Int) ≤ 7) (hg2 : f_lt3 (A ++ x :: y :: B)) (hg3 : i = (A.length : Int)) (hg4 : 0 ≤ qn ∧ (mv (f_code (A ++ B)) = -1 → qn < 17496)) : ax_G E l d iX12_goes [.inr 330, .inl c, .inl i, .inl step] M (fun z0 M2 => z0 = none ∧ (∀ x0 i0 : Int, ¬ (x0 = 348 ∨ x0 = 349 ∨ (x0 = 330 ∧ i0 = 43) ∨ x0 = 350 ∨ (x0 = 330 ∧ i0 = 44)) → M2 x0 i0 = M x0 i0) ∧ M2 348 = (f_goe step A x y B (mv, qv, qn)).1 ∧ M2 349 = (f_goe step A x y B (mv, qv, qn)).2.1 ∧ M2 330 43 = (f_goe step A x y B (mv, qv, qn)).2.2) := by
  obtain ⟨d, rfl⟩ : ∃ d0, d = d0 + 1 := ⟨d - 1, by omega⟩
  refine ax_start rfl (Nat.le_of_ble_eq_true rfl) (ls := [some (.inr 330), some (.inl c), some (.inl i), some (.inl step), none]) rfl (fun hav hcm => ?_)
  have hc1 : -2147483648 ≤ c ∧ c < 2147483648 := hav (.inl c) (by simp)
  have hc2 : -2147483648 ≤ i ∧ i < 2147483648 := hav (.inl i) (by simp)
  have hc3 : -2147483648 ≤ step ∧ step < 2147483648 := hav (.inl step) (by simp)
  clear hav
  have ql2 : (A ++ B).length = A.length + B.length := List.length_append
  have ql3 : (A ++ y :: x :: B).length = A.length + (B.length + 1 + 1) := by
    rw [List.length_append]
    rfl
  have ql : (A ++ x :: y :: B).length = A.length + (B.length + 1 + 1) := by
    rw [List.length_append]
    rfl
  have qt := f_lt3_app.mp hg2
  have qt2 := f_lt3_cons.mp qt.2
  have qt3 := f_lt3_cons.mp qt2.2
  refine ax_aload_n dX12_goes_0 rfl rfl (pc' := 1) rfl ?_
  refine ax_iload_n dX12_goes_1 rfl rfl (pc' := 2) rfl ?_
  refine ax_invG [.inl c] [] dX12_goes_2 mlX12_497 sh_330 rfl rfl rfl (Nat.le_of_ble_eq_true rfl) (s_X12_decodes E l _ (by omega) _ c (A ++ x :: y :: B) hlt (by first | omega | assumption) (by first | omega | assumption) (by first | omega | assumption)) (pc' := 5) rfl (fun vv M_2 hq co2 hcm2 => ?_)
  obtain ⟨rfl, frM_2, msM_2_0, fa2_0⟩ := hq
  refine ax_reS (st2 := []) rfl ?_
  have qw := f_fwd_app fa2_0
  have qw1 : M_2 350 i = x := by
    have e := qw.2.1
    rw [show 0 + (A.length : Int) = i by omega] at e
    exact e
  have qw2 : M_2 350 (i + 1) = y := by
    have e := qw.2.2.1
    rw [show 0 + (A.length : Int) + 1 = i + 1 by omega] at e
    exact e
  have qw3 : f_fwd (M_2 350) (i + 2) B := by
    have e := qw.2.2.2
    rw [show 0 + (A.length : Int) + 1 + 1 = i + 2 by omega] at e
    exact e
  refine ax_aload_n dX12_goes_5 rfl rfl (pc' := 6) rfl ?_
  refine ax_getr (v := 350) dX12_goes_6 flX12_71 rfl sh_330 rfl (pc' := 9) rfl ?_
  refine ax_iload_n dX12_goes_9 rfl rfl (pc' := 10) rfl ?_
  refine ax_iald (v := (M_2 350) i) dX12_goes_10 sh_350 rfl (by omega) (by omega) ((congrFun rfl i).trans rfl) (pc' := 11) rfl ?_
  refine ax_reS (st2 := [.inl x]) (congrArg (fun z => Sum.inl z :: _) (by exact qw1)) ?_
  refine ax_aload_n dX12_goes_11 rfl rfl (pc' := 12) rfl ?_
  refine ax_getr (v := 350) dX12_goes_12 flX12_71 rfl sh_330 rfl (pc' := 15) rfl ?_
  refine ax_iload_n dX12_goes_15 rfl rfl (pc' := 16) rfl ?_
  refine ax_iconst dX12_goes_16 (by decide) (pc' := 17) rfl ?_
  refine ax_iadd dX12_goes_17 (by omega) (pc' := 18) rfl ?_
  refine ax_iald (v := (M_2 350) (i + 1)) dX12_goes_18 sh_350 rfl (by omega) (by omega) ((congrFun rfl (i + 1)).trans rfl) (pc' := 19) rfl ?_
  refine ax_reS (st2 := [.inl y, .inl x]) (congrArg (fun z => Sum.inl z :: _) (by exact qw2)) ?_
  refine ax_insG [.inl x, .inl y] [] dX12_goes_19 mlX12_500 rfl rfl (Nat.le_of_ble_eq_true rfl) (s_X12_goesWith E l _ (by omega) _ x y (by first | omega | assumption)) (pc' := 22) rfl (fun vv M_19 hq co19 hcm19 => ?_)
  obtain ⟨rfl, rfl⟩ := hq
  refine ax_reS (st2 := [.inl (f_b (x = 2 ∧ y = 2 ∨ x ≠ 2 ∧ y = 1 - x))]) rfl ?_
  refine ax_if_ne (tgt := 26) dX12_goes_22 (by decide) (pc' := 25) rfl (fun h22 => ?_) (fun h22 => ?_)
  · replace h22 := f_b_1 h22
    have qs : f_goe step A x y B (mv, qv, qn) = f_rch (f_code (A ++ B)) step (mv, qv, qn) := if_pos h22
    refine ax_aload_n dX12_goes_26 rfl rfl (pc' := 27) rfl ?_
    refine ax_dup dX12_goes_27 (pc' := 28) rfl ?_
    refine ax_geti (v := ((A ++ x :: y :: B).length : Int)) dX12_goes_28 flX12_488 rfl sh_330 msM_2_0 rfl (pc' := 31) rfl ?_
    refine ax_iconst dX12_goes_31 (by decide) (pc' := 32) rfl ?_
    refine ax_isub dX12_goes_32 (by omega) (pc' := 33) rfl ?_
    refine ax_puti dX12_goes_33 flX12_488 (Or.inl rfl) sh_330 rfl (pc' := 36) rfl ?_
    refine ax_iload_n dX12_goes_36 rfl rfl (pc' := 37) rfl ?_
    refine ax_istore dX12_goes_37 (by decide) (ls' := [some (.inr 330), some (.inl c), some (.inl i), some (.inl step), some (.inl i)]) rfl (pc' := 39) rfl ?_
    have LP1 : ∀ (kq2 : Nat) (k : Int) (lv : Int → Int) (rem : List Int) (dn : List Int) (M1 : ax_Mem) (hm1 : (A.length : Int) + (B.length : Int) - k < (kq2 : Nat)) (fr1 : ∀ x0 i0 : Int, ¬ (x0 = 350) → M1 x0 i0 = (ax_up M_2 330 44 (((A ++ x :: y :: B).length : Int) - 2)) x0 i0) (mr1_350 : M1 350 = lv) (iv1_0 : k = i + (dn.length : Int) ∧ dn.length + rem.length = B.length) (iv1_1 : dn ++ rem = B) (iv1_2 : f_fwd lv 0 A) (iv1_3 : f_fwd lv i dn) (iv1_4 : f_fwd lv (k + 2) rem), ax_W E l (d + 1) 0 0 iX12_goes 39 [some (.inr 330), some (.inl c), some (.inl i), some (.inl step), some (.inl k)] [] SH M1 (ax_P (fun z0 M2 => z0 = none ∧ (∀ x0 i0 : Int, ¬ (x0 = 348 ∨ x0 = 349 ∨ (x0 = 330 ∧ i0 = 43) ∨ x0 = 350 ∨ (x0 = 330 ∧ i0 = 44)) → M2 x0 i0 = M x0 i0) ∧ M2 348 = (f_goe step A x y B (mv, qv, qn)).1 ∧ M2 349 = (f_goe step A x y B (mv, qv, qn)).2.1 ∧ M2 330 43 = (f_goe step A x y B (mv, qv, qn)).2.2)) := by
      intro kq2
      induction kq2 with
      | zero =>
        intro k lv rem dn M1 hm1 fr1 mr1_350 iv1_0 iv1_1 iv1_2 iv1_3 iv1_4
        exfalso
        omega
      | succ kq2 ih3 =>
        intro k lv rem dn M1 hm1 fr1 mr1_350 iv1_0 iv1_1 iv1_2 iv1_3 iv1_4
        refine ax_iload dX12_goes_39 rfl (pc' := 41) rfl ?_
        refine ax_aload_n dX12_goes_41 rfl rfl (pc' := 42) rfl ?_
        refine ax_geti (v := ((A ++ x :: y :: B).length : Int) - 2) dX12_goes_42 flX12_488 rfl sh_330 (show M1 330 44 = ((A ++ x :: y :: B).length : Int) - 2 from ((fr1 330 44 (by omega)).trans (ax_up_hit _ _ _ _))) rfl (pc' := 45) rfl ?_
        refine ax_icmp_ge (tgt := 70) dX12_goes_45 (by decide) (pc' := 48) rfl (fun h45 => ?_) (fun h45 => ?_)
        · have qd : rem = [] := List.eq_nil_of_length_eq_zero (by omega)
          have qz : f_fwd lv 0 (A ++ B) := by
            rw [qd, List.append_nil] at iv1_1
            rw [← iv1_1]
            refine f_fwd_cat iv1_2 ?_
            rw [show 0 + (A.length : Int) = i by omega]
            exact iv1_3
          refine ax_aload_n dX12_goes_70 rfl rfl (pc' := 71) rfl ?_
          refine ax_iload_n dX12_goes_71 rfl rfl (pc' := 72) rfl ?_
          refine ax_invG [.inl step] [] dX12_goes_72 mlX12_503 sh_330 rfl rfl rfl (Nat.le_of_ble_eq_true rfl) (s_X12_reaches E l _ (by omega) _ step (A ++ B) mr1_350 ((funext fun i0 => fr1 348 i0 (by omega)).trans (ax_up_rowmiss (by decide) ((funext fun i0 => frM_2 348 i0 (by omega)).trans hmv))) ((funext fun i0 => fr1 349 i0 (by omega)).trans (ax_up_rowmiss (by decide) ((funext fun i0 => frM_2 349 i0 (by omega)).trans hqv))) ((fr1 330 44 (by omega)).trans (ax_up_hit _ _ _ _)) ((fr1 330 43 (by omega)).trans (ax_up_miss (by decide) ((frM_2 330 43 (by omega)).trans hqn))) qz (by omega) (f_lt3_app.mpr ⟨qt.1, qt3.2⟩) hg4) (pc' := 75) rfl (fun vv M_72 hq co72 hcm72 => ?_)
          obtain ⟨rfl, frM_72, mrM_72_0, mrM_72_1, msM_72_0⟩ := hq
          refine ax_reS (st2 := []) rfl ?_
          refine ax_vret dX12_goes_75 rfl ?_
          refine ⟨rfl, rfl, ?_, ?_, ?_, ?_⟩
          · intro x0 i0 hai
            exact ((frM_72 x0 i0 (by omega)).trans ((fr1 x0 i0 (by omega)).trans (ax_up_miss (by omega) ((frM_2 x0 i0 (by omega)).trans rfl))))
          · refine Eq.trans mrM_72_0 ?_
            rw [qs]
          · refine Eq.trans mrM_72_1 ?_
            rw [qs]
          · refine Eq.trans msM_72_0 ?_
            rw [qs]
        · obtain ⟨q7, rem2, qd⟩ : ∃ x0 y0, rem = x0 :: y0 := by
            cases rem with
            | nil =>
              simp only [List.length_nil] at iv1_0
              omega
            | cons x0 y0 => exact ⟨x0, y0, rfl⟩
          have qf : f_fwd lv (k + 2) (q7 :: rem2) := qd ▸ iv1_4
          have qd2 : rem.length = rem2.length + 1 := by rw [qd]; rfl
          refine ax_aload_n dX12_goes_48 rfl rfl (pc' := 49) rfl ?_
          refine ax_getr (v := 350) dX12_goes_49 flX12_71 rfl sh_330 rfl (pc' := 52) rfl ?_
          refine ax_iload dX12_goes_52 rfl (pc' := 54) rfl ?_
          refine ax_aload_n dX12_goes_54 rfl rfl (pc' := 55) rfl ?_
          refine ax_getr (v := 350) dX12_goes_55 flX12_71 rfl sh_330 rfl (pc' := 58) rfl ?_
          refine ax_iload dX12_goes_58 rfl (pc' := 60) rfl ?_
          refine ax_iconst dX12_goes_60 (by decide) (pc' := 61) rfl ?_
          refine ax_iadd dX12_goes_61 (by omega) (pc' := 62) rfl ?_
          refine ax_iald (v := lv (k + 2)) dX12_goes_62 sh_350 rfl (by omega) (by omega) ((congrFun mr1_350 (k + 2)).trans rfl) (pc' := 63) rfl ?_
          refine ax_reS (st2 := [.inl q7, .inl k, .inr 350]) (congrArg (fun z => Sum.inl z :: _) (by exact qf.1)) ?_
          refine ax_iast dX12_goes_63 sh_350 rfl (by omega) (by omega) (pc' := 64) rfl ?_
          refine ax_iinc dX12_goes_64 rfl (by decide) (by omega) (ls' := [some (.inr 330), some (.inl c), some (.inl i), some (.inl step), some (.inl (k + 1))]) rfl (pc' := 67) rfl ?_
          refine ax_goto dX12_goes_67 (pc' := 39) (by decide) ?_
          refine ih3 (k + 1) (f_up lv k q7) rem2 (dn ++ [q7]) (ax_up M1 350 k q7) ?_ ?_ ?_ ?_ ?_ ?_ ?_ ?_
          · omega
          · intro x0 i0 hai
            exact (ax_up_miss (by omega) ((fr1 x0 i0 (by omega)).trans rfl))
          · exact (ax_up_rowhit mr1_350)
          · simp only [List.length_append, List.length_cons, List.length_nil]
            omega
          · rw [List.append_assoc, ← iv1_1, qd]
            rfl
          · exact f_fwd_upR (by omega) iv1_2
          · refine f_fwd_cat (f_fwd_upR (by omega) iv1_3) ⟨?_, trivial⟩
            rw [show i + (dn.length : Int) = k by omega]
            exact f_up_same _ _ _
          · rw [show k + 1 + 2 = k + 2 + 1 by omega]
            exact f_fwd_up (by omega) qf.2
    refine LP1 ((A.length : Int) + (B.length : Int) - i : Int).toNat.succ i (M_2 350) B ([]) (ax_up M_2 330 44 (((A ++ x :: y :: B).length : Int) - 2)) ?_ ?_ ?_ ?_ ?_ ?_ ?_ ?_
    · omega
    · exact fun a i _ => rfl
    · exact (ax_up_rowmiss (by decide) rfl)
    · simp only [List.length_nil]
      omega
    · rfl
    · exact qw.1
    · trivial
    · exact qw3
  · replace h22 := f_b_0 h22
    have qs : f_goe step A x y B (mv, qv, qn) = (mv, qv, qn) := if_neg h22
    refine ax_vret dX12_goes_25 rfl ?_
    refine ⟨rfl, rfl, ?_, ?_, ?_, ?_⟩
    · intro x0 i0 hai
      exact ((frM_2 x0 i0 (by omega)).trans rfl)
    · refine Eq.trans ((funext fun i0 => frM_2 348 i0 (by omega)).trans hmv) ?_
      rw [qs]
    · refine Eq.trans ((funext fun i0 => frM_2 349 i0 (by omega)).trans hqv) ?_
      rw [qs]
    · refine Eq.trans ((frM_2 330 43 (by omega)).trans hqn) ?_
      rw [qs]
set_option maxRecDepth 20000 in
theorem s_X12_changes (E : ax_Env) (l : Launch) (d : Nat) (hd : 2 ≤ d) (M : ax_Mem) (c i step : Int) (A : List Int) (x y : Int) (B : List Int) {lt : Int → Int} (hlt : M 350 = lt) {mv : Int → Int} (hmv : M 348 = mv) {qv : Int → Int} (hqv : M 349 = qv) {qn : Int} (hqn : M 330 43 = qn) (hg0 : c = f_code (A ++ x :: y :: B)) (hg1 : ((A ++ x :: y :: B).length : Int) ≤ 7) (hg2 : f_lt3 (A ++ x :: y :: B)) (hg3 : i = (A.length : Int)) (hg4 : 0 ≤ qn ∧ (mv (f_code (A ++ y :: x :: B)) = -1 → qn < 17496)) : ax_G E l d iX12_changes [.inr 330, .inl c, .inl i, .inl step] M (fun z0 M2 => z0 = none ∧ (∀ x0 i0 : Int, ¬ (x0 = 348 ∨ x0 = 349 ∨ (x0 = 330 ∧ i0 = 43) ∨ x0 = 350 ∨ (x0 = 330 ∧ i0 = 44)) → M2 x0 i0 = M x0 i0) ∧ M2 348 = (f_chg step A x y B (mv, qv, qn)).1 ∧ M2 349 = (f_chg step A x y B (mv, qv, qn)).2.1 ∧ M2 330 43 = (f_chg step A x y B (mv, qv, qn)).2.2) := by
  obtain ⟨d, rfl⟩ : ∃ d0, d = d0 + 1 := ⟨d - 1, by omega⟩
  refine ax_start rfl (Nat.le_of_ble_eq_true rfl) (ls := [some (.inr 330), some (.inl c), some (.inl i), some (.inl step), none]) rfl (fun hav hcm => ?_)
  have hc1 : -2147483648 ≤ c ∧ c < 2147483648 := hav (.inl c) (by simp)
  have hc2 : -2147483648 ≤ i ∧ i < 2147483648 := hav (.inl i) (by simp)
  have hc3 : -2147483648 ≤ step ∧ step < 2147483648 := hav (.inl step) (by simp)
  clear hav
  have ql2 : (A ++ B).length = A.length + B.length := List.length_append
  have ql3 : (A ++ y :: x :: B).length = A.length + (B.length + 1 + 1) := by
    rw [List.length_append]
    rfl
  have ql : (A ++ x :: y :: B).length = A.length + (B.length + 1 + 1) := by
    rw [List.length_append]
    rfl
  have qt := f_lt3_app.mp hg2
  have qt2 := f_lt3_cons.mp qt.2
  have qt3 := f_lt3_cons.mp qt2.2
  refine ax_aload_n dX12_changes_0 rfl rfl (pc' := 1) rfl ?_
  refine ax_iload_n dX12_changes_1 rfl rfl (pc' := 2) rfl ?_
  refine ax_invG [.inl c] [] dX12_changes_2 mlX12_497 sh_330 rfl rfl rfl (Nat.le_of_ble_eq_true rfl) (s_X12_decodes E l _ (by omega) _ c (A ++ x :: y :: B) hlt (by first | omega | assumption) (by first | omega | assumption) (by first | omega | assumption)) (pc' := 5) rfl (fun vv M_2 hq co2 hcm2 => ?_)
  obtain ⟨rfl, frM_2, msM_2_0, fa2_0⟩ := hq
  refine ax_reS (st2 := []) rfl ?_
  have qw := f_fwd_app fa2_0
  have qw1 : M_2 350 i = x := by
    have e := qw.2.1
    rw [show 0 + (A.length : Int) = i by omega] at e
    exact e
  have qw2 : M_2 350 (i + 1) = y := by
    have e := qw.2.2.1
    rw [show 0 + (A.length : Int) + 1 = i + 1 by omega] at e
    exact e
  have qw3 : f_fwd (M_2 350) (i + 2) B := by
    have e := qw.2.2.2
    rw [show 0 + (A.length : Int) + 1 + 1 = i + 2 by omega] at e
    exact e
  refine ax_aload_n dX12_changes_5 rfl rfl (pc' := 6) rfl ?_
  refine ax_getr (v := 350) dX12_changes_6 flX12_71 rfl sh_330 rfl (pc' := 9) rfl ?_
  refine ax_iload_n dX12_changes_9 rfl rfl (pc' := 10) rfl ?_
  refine ax_iald (v := (M_2 350) i) dX12_changes_10 sh_350 rfl (by omega) (by omega) ((congrFun rfl i).trans rfl) (pc' := 11) rfl ?_
  refine ax_reS (st2 := [.inl x]) (congrArg (fun z => Sum.inl z :: _) (by exact qw1)) ?_
  refine ax_iconst dX12_changes_11 (by decide) (pc' := 12) rfl ?_
  refine ax_icmp_eq (tgt := 28) dX12_changes_12 (by decide) (pc' := 15) rfl (fun h12 => ?_) (fun h12 => ?_)
  · have qs : f_chg step A x y B (mv, qv, qn) = f_rch (f_code (A ++ y :: x :: B)) step (mv, qv, qn) := if_pos (Or.inl h12)
    refine ax_aload_n dX12_changes_28 rfl rfl (pc' := 29) rfl ?_
    refine ax_getr (v := 350) dX12_changes_29 flX12_71 rfl sh_330 rfl (pc' := 32) rfl ?_
    refine ax_iload_n dX12_changes_32 rfl rfl (pc' := 33) rfl ?_
    refine ax_iald (v := (M_2 350) i) dX12_changes_33 sh_350 rfl (by omega) (by omega) ((congrFun rfl i).trans rfl) (pc' := 34) rfl ?_
    refine ax_reS (st2 := [.inl x]) (congrArg (fun z => Sum.inl z :: _) (by exact qw1)) ?_
    refine ax_istore dX12_changes_34 (by decide) (ls' := [some (.inr 330), some (.inl c), some (.inl i), some (.inl step), some (.inl x)]) rfl (pc' := 36) rfl ?_
    refine ax_aload_n dX12_changes_36 rfl rfl (pc' := 37) rfl ?_
    refine ax_getr (v := 350) dX12_changes_37 flX12_71 rfl sh_330 rfl (pc' := 40) rfl ?_
    refine ax_iload_n dX12_changes_40 rfl rfl (pc' := 41) rfl ?_
    refine ax_aload_n dX12_changes_41 rfl rfl (pc' := 42) rfl ?_
    refine ax_getr (v := 350) dX12_changes_42 flX12_71 rfl sh_330 rfl (pc' := 45) rfl ?_
    refine ax_iload_n dX12_changes_45 rfl rfl (pc' := 46) rfl ?_
    refine ax_iconst dX12_changes_46 (by decide) (pc' := 47) rfl ?_
    refine ax_iadd dX12_changes_47 (by omega) (pc' := 48) rfl ?_
    refine ax_iald (v := (M_2 350) (i + 1)) dX12_changes_48 sh_350 rfl (by omega) (by omega) ((congrFun rfl (i + 1)).trans rfl) (pc' := 49) rfl ?_
    refine ax_reS (st2 := [.inl y, .inl i, .inr 350]) (congrArg (fun z => Sum.inl z :: _) (by exact qw2)) ?_
    refine ax_iast dX12_changes_49 sh_350 rfl (by omega) (by omega) (pc' := 50) rfl ?_
    refine ax_aload_n dX12_changes_50 rfl rfl (pc' := 51) rfl ?_
    refine ax_getr (v := 350) dX12_changes_51 flX12_71 rfl sh_330 rfl (pc' := 54) rfl ?_
    refine ax_iload_n dX12_changes_54 rfl rfl (pc' := 55) rfl ?_
    refine ax_iconst dX12_changes_55 (by decide) (pc' := 56) rfl ?_
    refine ax_iadd dX12_changes_56 (by omega) (pc' := 57) rfl ?_
    refine ax_iload dX12_changes_57 rfl (pc' := 59) rfl ?_
    refine ax_iast dX12_changes_59 sh_350 rfl (by omega) (by omega) (pc' := 60) rfl ?_
    have qz : f_fwd (f_up (f_up (M_2 350) i y) (i + 1) x) 0 (A ++ y :: x :: B) := by
      refine f_fwd_cat (f_fwd_upR (by omega) (f_fwd_upR (by omega) qw.1)) ⟨?_, ?_, ?_⟩
      · rw [show 0 + (A.length : Int) = i by omega]
        exact f_up_ne (by omega) (f_up_same _ _ _)
      · rw [show 0 + (A.length : Int) + 1 = i + 1 by omega]
        exact f_up_same _ _ _
      · rw [show 0 + (A.length : Int) + 1 + 1 = i + 2 by omega]
        exact f_fwd_up (by omega) (f_fwd_up (by omega) qw3)
    refine ax_aload_n dX12_changes_60 rfl rfl (pc' := 61) rfl ?_
    refine ax_iload_n dX12_changes_61 rfl rfl (pc' := 62) rfl ?_
    refine ax_invG [.inl step] [] dX12_changes_62 mlX12_503 sh_330 rfl rfl rfl (Nat.le_of_ble_eq_true rfl) (s_X12_reaches E l _ (by omega) _ step (A ++ y :: x :: B) (ax_up_rowhit (ax_up_rowhit rfl)) (ax_up_rowmiss (by decide) (ax_up_rowmiss (by decide) ((funext fun i0 => frM_2 348 i0 (by omega)).trans hmv))) (ax_up_rowmiss (by decide) (ax_up_rowmiss (by decide) ((funext fun i0 => frM_2 349 i0 (by omega)).trans hqv))) (ax_up_miss (by omega) (ax_up_miss (by omega) msM_2_0)) (ax_up_miss (by omega) (ax_up_miss (by omega) ((frM_2 330 43 (by omega)).trans hqn))) qz (by omega) (f_lt3_app.mpr ⟨qt.1, f_lt3_cons.mpr ⟨qt3.1, f_lt3_cons.mpr ⟨qt2.1, qt3.2⟩⟩⟩) hg4) (pc' := 65) rfl (fun vv M_62 hq co62 hcm62 => ?_)
    obtain ⟨rfl, frM_62, mrM_62_0, mrM_62_1, msM_62_0⟩ := hq
    refine ax_reS (st2 := []) rfl ?_
    refine ax_vret dX12_changes_65 rfl ?_
    refine ⟨rfl, rfl, ?_, ?_, ?_, ?_⟩
    · intro x0 i0 hai
      exact ((frM_62 x0 i0 (by omega)).trans (ax_up_miss (by omega) (ax_up_miss (by omega) ((frM_2 x0 i0 (by omega)).trans rfl))))
    · refine Eq.trans mrM_62_0 ?_
      rw [qs]
    · refine Eq.trans mrM_62_1 ?_
      rw [qs]
    · refine Eq.trans msM_62_0 ?_
      rw [qs]
  · refine ax_aload_n dX12_changes_15 rfl rfl (pc' := 16) rfl ?_
    refine ax_getr (v := 350) dX12_changes_16 flX12_71 rfl sh_330 rfl (pc' := 19) rfl ?_
    refine ax_iload_n dX12_changes_19 rfl rfl (pc' := 20) rfl ?_
    refine ax_iconst dX12_changes_20 (by decide) (pc' := 21) rfl ?_
    refine ax_iadd dX12_changes_21 (by omega) (pc' := 22) rfl ?_
    refine ax_iald (v := (M_2 350) (i + 1)) dX12_changes_22 sh_350 rfl (by omega) (by omega) ((congrFun rfl (i + 1)).trans rfl) (pc' := 23) rfl ?_
    refine ax_reS (st2 := [.inl y]) (congrArg (fun z => Sum.inl z :: _) (by exact qw2)) ?_
    refine ax_iconst dX12_changes_23 (by decide) (pc' := 24) rfl ?_
    refine ax_icmp_eq (tgt := 28) dX12_changes_24 (by decide) (pc' := 27) rfl (fun h24 => ?_) (fun h24 => ?_)
    · have qs : f_chg step A x y B (mv, qv, qn) = f_rch (f_code (A ++ y :: x :: B)) step (mv, qv, qn) := if_pos (Or.inr h24)
      refine ax_aload_n dX12_changes_28 rfl rfl (pc' := 29) rfl ?_
      refine ax_getr (v := 350) dX12_changes_29 flX12_71 rfl sh_330 rfl (pc' := 32) rfl ?_
      refine ax_iload_n dX12_changes_32 rfl rfl (pc' := 33) rfl ?_
      refine ax_iald (v := (M_2 350) i) dX12_changes_33 sh_350 rfl (by omega) (by omega) ((congrFun rfl i).trans rfl) (pc' := 34) rfl ?_
      refine ax_reS (st2 := [.inl x]) (congrArg (fun z => Sum.inl z :: _) (by exact qw1)) ?_
      refine ax_istore dX12_changes_34 (by decide) (ls' := [some (.inr 330), some (.inl c), some (.inl i), some (.inl step), some (.inl x)]) rfl (pc' := 36) rfl ?_
      refine ax_aload_n dX12_changes_36 rfl rfl (pc' := 37) rfl ?_
      refine ax_getr (v := 350) dX12_changes_37 flX12_71 rfl sh_330 rfl (pc' := 40) rfl ?_
      refine ax_iload_n dX12_changes_40 rfl rfl (pc' := 41) rfl ?_
      refine ax_aload_n dX12_changes_41 rfl rfl (pc' := 42) rfl ?_
      refine ax_getr (v := 350) dX12_changes_42 flX12_71 rfl sh_330 rfl (pc' := 45) rfl ?_
      refine ax_iload_n dX12_changes_45 rfl rfl (pc' := 46) rfl ?_
      refine ax_iconst dX12_changes_46 (by decide) (pc' := 47) rfl ?_
      refine ax_iadd dX12_changes_47 (by omega) (pc' := 48) rfl ?_
      refine ax_iald (v := (M_2 350) (i + 1)) dX12_changes_48 sh_350 rfl (by omega) (by omega) ((congrFun rfl (i + 1)).trans rfl) (pc' := 49) rfl ?_
      refine ax_reS (st2 := [.inl y, .inl i, .inr 350]) (congrArg (fun z => Sum.inl z :: _) (by exact qw2)) ?_
      refine ax_iast dX12_changes_49 sh_350 rfl (by omega) (by omega) (pc' := 50) rfl ?_
      refine ax_aload_n dX12_changes_50 rfl rfl (pc' := 51) rfl ?_
      refine ax_getr (v := 350) dX12_changes_51 flX12_71 rfl sh_330 rfl (pc' := 54) rfl ?_
      refine ax_iload_n dX12_changes_54 rfl rfl (pc' := 55) rfl ?_
      refine ax_iconst dX12_changes_55 (by decide) (pc' := 56) rfl ?_
      refine ax_iadd dX12_changes_56 (by omega) (pc' := 57) rfl ?_
      refine ax_iload dX12_changes_57 rfl (pc' := 59) rfl ?_
      refine ax_iast dX12_changes_59 sh_350 rfl (by omega) (by omega) (pc' := 60) rfl ?_
      have qz : f_fwd (f_up (f_up (M_2 350) i y) (i + 1) x) 0 (A ++ y :: x :: B) := by
        refine f_fwd_cat (f_fwd_upR (by omega) (f_fwd_upR (by omega) qw.1)) ⟨?_, ?_, ?_⟩
        · rw [show 0 + (A.length : Int) = i by omega]
          exact f_up_ne (by omega) (f_up_same _ _ _)
        · rw [show 0 + (A.length : Int) + 1 = i + 1 by omega]
          exact f_up_same _ _ _
        · rw [show 0 + (A.length : Int) + 1 + 1 = i + 2 by omega]
          exact f_fwd_up (by omega) (f_fwd_up (by omega) qw3)
      refine ax_aload_n dX12_changes_60 rfl rfl (pc' := 61) rfl ?_
      refine ax_iload_n dX12_changes_61 rfl rfl (pc' := 62) rfl ?_
      refine ax_invG [.inl step] [] dX12_changes_62 mlX12_503 sh_330 rfl rfl rfl (Nat.le_of_ble_eq_true rfl) (s_X12_reaches E l _ (by omega) _ step (A ++ y :: x :: B) (ax_up_rowhit (ax_up_rowhit rfl)) (ax_up_rowmiss (by decide) (ax_up_rowmiss (by decide) ((funext fun i0 => frM_2 348 i0 (by omega)).trans hmv))) (ax_up_rowmiss (by decide) (ax_up_rowmiss (by decide) ((funext fun i0 => frM_2 349 i0 (by omega)).trans hqv))) (ax_up_miss (by omega) (ax_up_miss (by omega) msM_2_0)) (ax_up_miss (by omega) (ax_up_miss (by omega) ((frM_2 330 43 (by omega)).trans hqn))) qz (by omega) (f_lt3_app.mpr ⟨qt.1, f_lt3_cons.mpr ⟨qt3.1, f_lt3_cons.mpr ⟨qt2.1, qt3.2⟩⟩⟩) hg4) (pc' := 65) rfl (fun vv M_62 hq co62 hcm62 => ?_)
      obtain ⟨rfl, frM_62, mrM_62_0, mrM_62_1, msM_62_0⟩ := hq
      refine ax_reS (st2 := []) rfl ?_
      refine ax_vret dX12_changes_65 rfl ?_
      refine ⟨rfl, rfl, ?_, ?_, ?_, ?_⟩
      · intro x0 i0 hai
        exact ((frM_62 x0 i0 (by omega)).trans (ax_up_miss (by omega) (ax_up_miss (by omega) ((frM_2 x0 i0 (by omega)).trans rfl))))
      · refine Eq.trans mrM_62_0 ?_
        rw [qs]
      · refine Eq.trans mrM_62_1 ?_
        rw [qs]
      · refine Eq.trans msM_62_0 ?_
        rw [qs]
    · have qs : f_chg step A x y B (mv, qv, qn) = (mv, qv, qn) := if_neg (by omega)
      refine ax_vret dX12_changes_27 rfl ?_
      refine ⟨rfl, rfl, ?_, ?_, ?_, ?_⟩
      · intro x0 i0 hai
        exact ((frM_2 x0 i0 (by omega)).trans rfl)
      · refine Eq.trans ((funext fun i0 => frM_2 348 i0 (by omega)).trans hmv) ?_
        rw [qs]
      · refine Eq.trans ((funext fun i0 => frM_2 349 i0 (by omega)).trans hqv) ?_
        rw [qs]
      · refine Eq.trans ((frM_2 330 43 (by omega)).trans hqn) ?_
        rw [qs]
set_option maxRecDepth 20000 in
theorem s_X12_comes (E : ax_Env) (l : Launch) (d : Nat) (hd : 2 ≤ d) (M : ax_Mem) (c i x y step : Int) (A B : List Int) {lt : Int → Int} (hlt : M 350 = lt) {mv : Int → Int} (hmv : M 348 = mv) {qv : Int → Int} (hqv : M 349 = qv) {qn : Int} (hqn : M 330 43 = qn) (hg0 : c = f_code (A ++ B)) (hg1 : ((A ++ B).length : Int) ≤ 5) (hg2 : f_lt3 (A ++ B)) (hg3 : i = (A.length : Int)) (hg4 : (0 ≤ x ∧ x ≤ 2) ∧ 0 ≤ y ∧ y ≤ 2) (hg5 : 0 ≤ qn ∧ (mv (f_code (A ++ x :: y :: B)) = -1 → qn < 17496)) : ax_G E l d iX12_comes [.inr 330, .inl c, .inl i, .inl x, .inl y, .inl step] M (fun z0 M2 => z0 = none ∧ (∀ x0 i0 : Int, ¬ (x0 = 348 ∨ x0 = 349 ∨ (x0 = 330 ∧ i0 = 43) ∨ x0 = 350 ∨ (x0 = 330 ∧ i0 = 44)) → M2 x0 i0 = M x0 i0) ∧ M2 348 = (f_rch (f_code (A ++ x :: y :: B)) step (mv, qv, qn)).1 ∧ M2 349 = (f_rch (f_code (A ++ x :: y :: B)) step (mv, qv, qn)).2.1 ∧ M2 330 43 = (f_rch (f_code (A ++ x :: y :: B)) step (mv, qv, qn)).2.2) := by
  obtain ⟨d, rfl⟩ : ∃ d0, d = d0 + 1 := ⟨d - 1, by omega⟩
  refine ax_start rfl (Nat.le_of_ble_eq_true rfl) (ls := [some (.inr 330), some (.inl c), some (.inl i), some (.inl x), some (.inl y), some (.inl step), none]) rfl (fun hav hcm => ?_)
  have hc1 : -2147483648 ≤ c ∧ c < 2147483648 := hav (.inl c) (by simp)
  have hc2 : -2147483648 ≤ i ∧ i < 2147483648 := hav (.inl i) (by simp)
  have hc3 : -2147483648 ≤ x ∧ x < 2147483648 := hav (.inl x) (by simp)
  have hc4 : -2147483648 ≤ y ∧ y < 2147483648 := hav (.inl y) (by simp)
  have hc5 : -2147483648 ≤ step ∧ step < 2147483648 := hav (.inl step) (by simp)
  clear hav
  have ql2 : (A ++ B).length = A.length + B.length := List.length_append
  have ql3 : (A ++ x :: y :: B).length = A.length + (B.length + 1 + 1) := by
    rw [List.length_append]
    rfl
  have qt := f_lt3_app.mp hg2
  refine ax_aload_n dX12_comes_0 rfl rfl (pc' := 1) rfl ?_
  refine ax_iload_n dX12_comes_1 rfl rfl (pc' := 2) rfl ?_
  refine ax_invG [.inl c] [] dX12_comes_2 mlX12_497 sh_330 rfl rfl rfl (Nat.le_of_ble_eq_true rfl) (s_X12_decodes E l _ (by omega) _ c (A ++ B) hlt (by first | omega | assumption) (by omega) (by first | omega | assumption)) (pc' := 5) rfl (fun vv M_2 hq co2 hcm2 => ?_)
  obtain ⟨rfl, frM_2, msM_2_0, fa2_0⟩ := hq
  refine ax_reS (st2 := []) rfl ?_
  have qw := f_fwd_app fa2_0
  have qw1 : f_fwd (M_2 350) i B := by
    have e := qw.2
    rw [show 0 + (A.length : Int) = i by omega] at e
    exact e
  refine ax_aload_n dX12_comes_5 rfl rfl (pc' := 6) rfl ?_
  refine ax_geti (v := ((A ++ B).length : Int)) dX12_comes_6 flX12_488 rfl sh_330 msM_2_0 rfl (pc' := 9) rfl ?_
  refine ax_iconst dX12_comes_9 (by decide) (pc' := 10) rfl ?_
  refine ax_isub dX12_comes_10 (by omega) (pc' := 11) rfl ?_
  refine ax_istore dX12_comes_11 (by decide) (ls' := [some (.inr 330), some (.inl c), some (.inl i), some (.inl x), some (.inl y), some (.inl step), some (.inl (((A ++ B).length : Int) - 1))]) rfl (pc' := 13) rfl ?_
  have LP1 : ∀ (kq2 : Nat) (k : Int) (lv : Int → Int) (rem : List Int) (dn : List Int) (M1 : ax_Mem) (hm1 : k - i + 1 < (kq2 : Nat)) (fr1 : ∀ x0 i0 : Int, ¬ (x0 = 350) → M1 x0 i0 = M_2 x0 i0) (mr1_350 : M1 350 = lv) (iv1_0 : k + 1 = i + (rem.length : Int) ∧ rem.length + dn.length = B.length) (iv1_1 : rem.reverse ++ dn = B) (iv1_2 : f_fwd lv 0 A) (iv1_3 : f_fwd lv i rem.reverse) (iv1_4 : f_fwd lv (k + 3) dn), ax_W E l (d + 1) 0 0 iX12_comes 13 [some (.inr 330), some (.inl c), some (.inl i), some (.inl x), some (.inl y), some (.inl step), some (.inl k)] [] SH M1 (ax_P (fun z0 M2 => z0 = none ∧ (∀ x0 i0 : Int, ¬ (x0 = 348 ∨ x0 = 349 ∨ (x0 = 330 ∧ i0 = 43) ∨ x0 = 350 ∨ (x0 = 330 ∧ i0 = 44)) → M2 x0 i0 = M x0 i0) ∧ M2 348 = (f_rch (f_code (A ++ x :: y :: B)) step (mv, qv, qn)).1 ∧ M2 349 = (f_rch (f_code (A ++ x :: y :: B)) step (mv, qv, qn)).2.1 ∧ M2 330 43 = (f_rch (f_code (A ++ x :: y :: B)) step (mv, qv, qn)).2.2)) := by
    intro kq2
    induction kq2 with
    | zero =>
      intro k lv rem dn M1 hm1 fr1 mr1_350 iv1_0 iv1_1 iv1_2 iv1_3 iv1_4
      exfalso
      omega
    | succ kq2 ih3 =>
      intro k lv rem dn M1 hm1 fr1 mr1_350 iv1_0 iv1_1 iv1_2 iv1_3 iv1_4
      refine ax_iload dX12_comes_13 rfl (pc' := 15) rfl ?_
      refine ax_iload_n dX12_comes_15 rfl rfl (pc' := 16) rfl ?_
      refine ax_icmp_lt (tgt := 41) dX12_comes_16 (by decide) (pc' := 19) rfl (fun h16 => ?_) (fun h16 => ?_)
      · have qd : rem = [] := List.eq_nil_of_length_eq_zero (by omega)
        have qe : dn = B := by
          rw [← iv1_1, qd]
          rfl
        refine ax_aload_n dX12_comes_41 rfl rfl (pc' := 42) rfl ?_
        refine ax_getr (v := 350) dX12_comes_42 flX12_71 rfl sh_330 rfl (pc' := 45) rfl ?_
        refine ax_iload_n dX12_comes_45 rfl rfl (pc' := 46) rfl ?_
        refine ax_iload_n dX12_comes_46 rfl rfl (pc' := 47) rfl ?_
        refine ax_iast dX12_comes_47 sh_350 rfl (by omega) (by omega) (pc' := 48) rfl ?_
        refine ax_aload_n dX12_comes_48 rfl rfl (pc' := 49) rfl ?_
        refine ax_getr (v := 350) dX12_comes_49 flX12_71 rfl sh_330 rfl (pc' := 52) rfl ?_
        refine ax_iload_n dX12_comes_52 rfl rfl (pc' := 53) rfl ?_
        refine ax_iconst dX12_comes_53 (by decide) (pc' := 54) rfl ?_
        refine ax_iadd dX12_comes_54 (by omega) (pc' := 55) rfl ?_
        refine ax_iload dX12_comes_55 rfl (pc' := 57) rfl ?_
        refine ax_iast dX12_comes_57 sh_350 rfl (by omega) (by omega) (pc' := 58) rfl ?_
        have qz : f_fwd (f_up (f_up lv i x) (i + 1) y) 0 (A ++ x :: y :: B) := by
          refine f_fwd_cat (f_fwd_upR (by omega) (f_fwd_upR (by omega) iv1_2)) ⟨?_, ?_, ?_⟩
          · rw [show 0 + (A.length : Int) = i by omega]
            exact f_up_ne (by omega) (f_up_same _ _ _)
          · rw [show 0 + (A.length : Int) + 1 = i + 1 by omega]
            exact f_up_same _ _ _
          · rw [show 0 + (A.length : Int) + 1 + 1 = i + 2 by omega, ← qe]
            have e := iv1_4
            rw [show k + 3 = i + 2 by omega] at e
            exact f_fwd_up (by omega) (f_fwd_up (by omega) e)
        refine ax_aload_n dX12_comes_58 rfl rfl (pc' := 59) rfl ?_
        refine ax_dup dX12_comes_59 (pc' := 60) rfl ?_
        refine ax_geti (v := ((A ++ B).length : Int)) dX12_comes_60 flX12_488 rfl sh_330 (show (ax_up (ax_up M1 350 i x) 350 (i + 1) y) 330 44 = ((A ++ B).length : Int) from (ax_up_miss (by omega) (ax_up_miss (by omega) ((fr1 330 44 (by omega)).trans msM_2_0)))) rfl (pc' := 63) rfl ?_
        refine ax_iconst dX12_comes_63 (by decide) (pc' := 64) rfl ?_
        refine ax_iadd dX12_comes_64 (by omega) (pc' := 65) rfl ?_
        refine ax_puti dX12_comes_65 flX12_488 (Or.inl rfl) sh_330 rfl (pc' := 68) rfl ?_
        refine ax_aload_n dX12_comes_68 rfl rfl (pc' := 69) rfl ?_
        refine ax_iload dX12_comes_69 rfl (pc' := 71) rfl ?_
        refine ax_invG [.inl step] [] dX12_comes_71 mlX12_503 sh_330 rfl rfl rfl (Nat.le_of_ble_eq_true rfl) (s_X12_reaches E l _ (by omega) _ step (A ++ x :: y :: B) (ax_up_rowmiss (by decide) (ax_up_rowhit (ax_up_rowhit mr1_350))) (ax_up_rowmiss (by decide) (ax_up_rowmiss (by decide) (ax_up_rowmiss (by decide) ((funext fun i0 => fr1 348 i0 (by omega)).trans ((funext fun i0 => frM_2 348 i0 (by omega)).trans hmv))))) (ax_up_rowmiss (by decide) (ax_up_rowmiss (by decide) (ax_up_rowmiss (by decide) ((funext fun i0 => fr1 349 i0 (by omega)).trans ((funext fun i0 => frM_2 349 i0 (by omega)).trans hqv))))) (ax_up_hit _ _ _ _) (ax_up_miss (by decide) (ax_up_miss (by omega) (ax_up_miss (by omega) ((fr1 330 43 (by omega)).trans ((frM_2 330 43 (by omega)).trans hqn))))) qz (by omega) (f_lt3_app.mpr ⟨qt.1, f_lt3_cons.mpr ⟨hg4.1, f_lt3_cons.mpr ⟨hg4.2, qt.2⟩⟩⟩) hg5) (pc' := 74) rfl (fun vv M_71 hq co71 hcm71 => ?_)
        obtain ⟨rfl, frM_71, mrM_71_0, mrM_71_1, msM_71_0⟩ := hq
        refine ax_reS (st2 := []) rfl ?_
        refine ax_vret dX12_comes_74 rfl ?_
        refine ⟨rfl, rfl, ?_, ?_, ?_, ?_⟩
        · intro x0 i0 hai
          exact ((frM_71 x0 i0 (by omega)).trans (ax_up_miss (by omega) (ax_up_miss (by omega) (ax_up_miss (by omega) ((fr1 x0 i0 (by omega)).trans ((frM_2 x0 i0 (by omega)).trans rfl))))))
        · exact mrM_71_0
        · exact mrM_71_1
        · exact msM_71_0
      · obtain ⟨q7, rem2, qd⟩ : ∃ x0 y0, rem = x0 :: y0 := by
          cases rem with
          | nil =>
            simp only [List.length_nil] at iv1_0
            omega
          | cons x0 y0 => exact ⟨x0, y0, rfl⟩
        have qd2 : rem.length = rem2.length + 1 := by rw [qd]; rfl
        have qf : f_fwd lv i rem2.reverse ∧ f_fwd lv (i + (rem2.reverse.length : Int)) [q7] := by
          have e := iv1_3
          rw [qd, List.reverse_cons] at e
          exact f_fwd_app e
        have qf2 : lv k = q7 := by
          have e := qf.2.1
          rw [List.length_reverse, show i + (rem2.length : Int) = k by omega] at e
          exact e
        refine ax_aload_n dX12_comes_19 rfl rfl (pc' := 20) rfl ?_
        refine ax_getr (v := 350) dX12_comes_20 flX12_71 rfl sh_330 rfl (pc' := 23) rfl ?_
        refine ax_iload dX12_comes_23 rfl (pc' := 25) rfl ?_
        refine ax_iconst dX12_comes_25 (by decide) (pc' := 26) rfl ?_
        refine ax_iadd dX12_comes_26 (by omega) (pc' := 27) rfl ?_
        refine ax_aload_n dX12_comes_27 rfl rfl (pc' := 28) rfl ?_
        refine ax_getr (v := 350) dX12_comes_28 flX12_71 rfl sh_330 rfl (pc' := 31) rfl ?_
        refine ax_iload dX12_comes_31 rfl (pc' := 33) rfl ?_
        refine ax_iald (v := lv k) dX12_comes_33 sh_350 rfl (by omega) (by omega) ((congrFun mr1_350 k).trans rfl) (pc' := 34) rfl ?_
        refine ax_reS (st2 := [.inl q7, .inl (k + 2), .inr 350]) (congrArg (fun z => Sum.inl z :: _) (by exact qf2)) ?_
        refine ax_iast dX12_comes_34 sh_350 rfl (by omega) (by omega) (pc' := 35) rfl ?_
        refine ax_iinc dX12_comes_35 rfl (by decide) (by omega) (ls' := [some (.inr 330), some (.inl c), some (.inl i), some (.inl x), some (.inl y), some (.inl step), some (.inl (k + (-1)))]) rfl (pc' := 38) rfl ?_
        refine ax_goto dX12_comes_38 (pc' := 13) (by decide) ?_
        refine ih3 (k + (-1)) (f_up lv (k + 2) q7) rem2 (q7 :: dn) (ax_up M1 350 (k + 2) q7) ?_ ?_ ?_ ?_ ?_ ?_ ?_ ?_
        · omega
        · intro x0 i0 hai
          exact (ax_up_miss (by omega) ((fr1 x0 i0 (by omega)).trans rfl))
        · exact (ax_up_rowhit mr1_350)
        · simp only [List.length_cons]
          omega
        · rw [← iv1_1, qd, List.reverse_cons, List.append_assoc]
          rfl
        · exact f_fwd_upR (by omega) iv1_2
        · exact f_fwd_upR (by rw [List.length_reverse]; omega) qf.1
        · refine ⟨?_, ?_⟩
          · rw [show k + (-1) + 3 = k + 2 by omega]
            exact f_up_same _ _ _
          · rw [show k + (-1) + 3 + 1 = k + 3 by omega]
            exact f_fwd_up (by omega) iv1_4
  refine LP1 ((((A ++ B).length : Int) - 1) - i + 1 : Int).toNat.succ (((A ++ B).length : Int) - 1) (M_2 350) B.reverse ([]) M_2 ?_ ?_ ?_ ?_ ?_ ?_ ?_ ?_
  · omega
  · exact fun a i _ => rfl
  · exact rfl
  · simp only [List.length_nil, List.length_reverse]
    omega
  · rw [List.reverse_reverse, List.append_nil]
  · exact qw.1
  · rw [List.reverse_reverse]
    exact qw1
  · trivial
