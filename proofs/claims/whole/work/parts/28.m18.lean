/-! the search itself -/
def f_lst (g : Int → Int) : Nat → Int → List Int
  | 0, _ => []
  | n + 1, i => g i :: f_lst g n (i + 1)
theorem f_lst_len {g : Int → Int} : ∀ {n : Nat} {i : Int}, (f_lst g n i).length = n
  | 0, _ => rfl
  | n + 1, i => congrArg (· + 1) (f_lst_len (n := n) (i := i + 1))
theorem f_lst_fwd {g : Int → Int} : ∀ {n : Nat} {i : Int}, f_fwd g i (f_lst g n i)
  | 0, _ => trivial
  | n + 1, i => ⟨rfl, f_lst_fwd (n := n) (i := i + 1)⟩
theorem f_lst_mem {g : Int → Int} : ∀ {n : Nat} {i x : Int}, x ∈ f_lst g n i → ∃ j, i ≤ j ∧ j < i + (n : Int) ∧ x = g j
  | 0, _, _, h => absurd h List.not_mem_nil
  | n + 1, i, x, h => by
    rcases List.mem_cons.mp h with e | e
    · exact ⟨i, Int.le_refl i, by omega, e⟩
    · obtain ⟨j, h1, h2, h3⟩ := f_lst_mem (n := n) (i := i + 1) e
      exact ⟨j, by omega, by omega, h3⟩
def f_shL (w : Int → Int) (k : Int) : List Int := f_lst (fun i => w (2606 + 7 * k + i)) (w (2601 + k)).toNat 0
theorem f_shL_ok {w : Int → Int} {k : Int} (h : f_shp w) (hk : 0 ≤ k ∧ k < 4) : f_vl (f_shL w k) ∧ ((f_shL w k).length : Int) = w (2601 + k) ∧ f_fwd (fun i => w (2606 + 7 * k + i)) 0 (f_shL w k) := by
  have e := h k hk.1 hk.2
  have e2 : ((f_shL w k).length : Int) = w (2601 + k) := by
    unfold f_shL
    rw [f_lst_len]
    omega
  refine ⟨⟨fun x hx => ?_, by omega⟩, e2, f_lst_fwd⟩
  obtain ⟨j, h1, h2, h3⟩ := f_lst_mem hx
  rw [h3]
  exact e.2 j h1 (by omega)
def f_dgs : Nat → Int → List Int
  | 0, _ => []
  | n + 1, v => v % 3 :: f_dgs n (v / 3)
def f_dec (c : Int) : List Int := (f_dgs (c / 2187).toNat (c % 2187)).reverse
theorem f_dgs_r3 : ∀ {R : List Int}, f_lt3 R → f_dgs R.length (f_r3 R) = R
  | [], _ => rfl
  | x :: tl, h => by
    have a := h x List.mem_cons_self
    have b := f_dgs_r3 (R := tl) (fun q hq => h q (List.mem_cons_of_mem _ hq))
    show (3 * f_r3 tl + x) % 3 :: f_dgs tl.length ((3 * f_r3 tl + x) / 3) = x :: tl
    rw [show (3 * f_r3 tl + x) % 3 = x by omega, show (3 * f_r3 tl + x) / 3 = f_r3 tl by omega, b]
theorem f_dec_code {L : List Int} (h : f_vl L) : f_dec (f_code L) = L := by
  have a := f_code_rg h.1 h.2
  unfold f_dec
  rw [a.1, a.2.1, Int.toNat_natCast]
  have b := f_dgs_r3 (f_lt3_rev h.1)
  rw [List.length_reverse] at b
  rw [b, List.reverse_reverse]
theorem f_fwd_get {pl : Int → Int} : ∀ {Q : List Int} {j i : Int}, f_fwd pl j Q → j ≤ i → i < j + (Q.length : Int) → pl i ∈ Q
  | [], j, i, _, h1, h2 => by
    simp only [List.length_nil] at h2
    omega
  | x :: tl, j, i, h, h1, h2 => by
    rw [List.length_cons] at h2
    by_cases e : i = j
    · rw [e, h.1]
      exact List.mem_cons_self
    · exact List.mem_cons_of_mem _ (f_fwd_get h.2 (by omega) (by omega))
theorem f_bf_at {s : f_Bf} {i : Int} (h : f_bfI s) (hi : 0 ≤ i ∧ i < s.2.2) : (∃ L, s.2.1 i = f_code L ∧ f_vl L) ∧ 0 ≤ s.1 (s.2.1 i) ∧ s.1 (s.2.1 i) ≤ 12 := by
  obtain ⟨Q, h1, h2, h3, h4⟩ := h
  have e := h4 _ (f_fwd_get h1 hi.1 (by omega))
  exact ⟨e.2, e.1⟩
theorem f_bf_le {s : f_Bf} (h : f_bfI s) : 0 ≤ s.2.2 ∧ s.2.2 ≤ 17496 := by
  obtain ⟨Q, h1, h2, h3, h4⟩ := h
  have e := f_pig 17496 Q h3 (fun c hm => by
    obtain ⟨K, e1, e2⟩ := (h4 c hm).2
    rw [e1]
    exact f_vl_rg e2)
  omega
theorem f_bf_gc {step : Int} (hs : 0 ≤ step ∧ step ≤ 12) : ∀ (R A : List Int) (s : f_Bf), f_vl (A ++ R) → f_bfI s → f_bfI (f_gc step A R s)
  | [], A, s, _, h => by rw [f_gc_1 (R := []) (Nat.zero_le 1)]; exact h
  | [x], A, s, _, h => by rw [f_gc_1 (R := [x]) (Nat.le_refl 1)]; exact h
  | x :: y :: B, A, s, hv, h => by
    rw [f_gc_2]
    refine f_bf_gc hs (y :: B) (A ++ [x]) _ ?_ (f_bf_chg hs (f_bf_goe hs h hv) hv)
    rw [List.append_assoc]
    exact hv
theorem f_bf_cm {step : Int} (hs : 0 ≤ step ∧ step ≤ 12) : ∀ (R A : List Int) (s : f_Bf), f_lt3 (A ++ R) → ((A ++ R).length : Int) ≤ 5 → f_bfI s → f_bfI (f_cm step A R s)
  | [], A, s, h1, h2, h => f_bf_cm3 hs h h1 h2
  | x :: B, A, s, h1, h2, h => by
    refine f_bf_cm hs B (A ++ [x]) _ ?_ ?_ (f_bf_cm3 hs h h1 h2)
    · rw [List.append_assoc]
      exact h1
    · rw [List.append_assoc]
      exact h2
theorem f_bf_mo {step : Int} {L : List Int} {s : f_Bf} (hs : 0 ≤ step ∧ step ≤ 12) (hl : f_vl L) (h : f_bfI s) : f_bfI (f_mo step L s) := by
  have a := f_bf_gc hs L [] s hl h
  unfold f_mo
  split
  · exact f_bf_cm hs L [] _ hl.1 (by show (L.length : Int) ≤ 5; omega) a
  · exact a
def f_bfs (goal : Int) : Nat → Int → f_Bf → f_Bf
  | 0, _, s => s
  | n + 1, i, s => if i < s.2.2 ∧ s.1 goal = -1 ∧ s.1 (s.2.1 i) < 12 then f_bfs goal n (i + 1) (f_mo (s.1 (s.2.1 i) + 1) (f_dec (s.2.1 i)) s) else s
def f_fil (mv : Int → Int) (n : Int) : Int → Int := fun j => if 0 ≤ j ∧ j < n then -1 else mv j
theorem f_fil_0 {mv : Int → Int} : mv = f_fil mv 0 := by
  funext j
  unfold f_fil
  rw [if_neg (by omega)]
theorem f_fil_step {mv : Int → Int} {n : Int} (h : 0 ≤ n) : f_up (f_fil mv n) n (-1) = f_fil mv (n + 1) := by
  funext j
  unfold f_up f_fil
  by_cases e : j = n
  · rw [if_pos e, if_pos (by omega)]
  · rw [if_neg e]
    by_cases e2 : 0 ≤ j ∧ j < n
    · rw [if_pos e2, if_pos (by omega)]
    · rw [if_neg e2, if_neg (by omega)]
def f_bf0 (mv qv w : Int → Int) (x : Int) : f_Bf := f_rch (f_code (f_shL w x)) 0 (f_fil mv 17496, qv, 0)
def F_moves (mv qv w : Int → Int) (x y : Int) : Int := (f_bfs (f_code (f_shL w y)) 17496 0 (f_bf0 mv qv w x)).1 (f_code (f_shL w y))
theorem f_bf_0 {mv qv w : Int → Int} {x : Int} (h : f_vl (f_shL w x)) : f_bfI (f_bf0 mv qv w x) := f_bf_rch (by omega) ⟨[], trivial, rfl, List.nodup_nil, fun c hc => absurd hc List.not_mem_nil⟩ h
set_option maxRecDepth 20000 in
theorem s_X12_shapeCode (E : ax_Env) (l : Launch) (d : Nat) (hd : 1 ≤ d) (M : ax_Mem) (k : Int) (L : List Int) {w : Int → Int} (hw : M 331 = w) {lt : Int → Int} (hlt : M 350 = lt) (hg0 : 0 ≤ k ∧ k < 4) (hg1 : f_vl L) (hg2 : (L.length : Int) = w (2601 + k)) (hg3 : f_fwd (fun i => w (2606 + 7 * k + i)) 0 L) : ax_G E l d iX12_shapeCode [.inr 330, .inl k] M (fun z0 M2 => z0 = some (.inl (f_code L)) ∧ (∀ x0 i0 : Int, ¬ ((x0 = 330 ∧ i0 = 44) ∨ x0 = 350) → M2 x0 i0 = M x0 i0) ∧ M2 330 44 = (L.length : Int) ∧ (f_fwd (M2 350) 0 L)) := by
  obtain ⟨d, rfl⟩ : ∃ d0, d = d0 + 1 := ⟨d - 1, by omega⟩
  refine ax_start rfl (Nat.le_of_ble_eq_true rfl) (ls := [some (.inr 330), some (.inl k), none]) rfl (fun hav hcm => ?_)
  have hc1 : -2147483648 ≤ k ∧ k < 2147483648 := hav (.inl k) (by simp)
  clear hav
  have ql := hg1.2
  refine ax_aload_n dX12_shapeCode_0 rfl rfl (pc' := 1) rfl ?_
  refine ax_aload_n dX12_shapeCode_1 rfl rfl (pc' := 2) rfl ?_
  refine ax_getr (v := 331) dX12_shapeCode_2 flX12_7 rfl sh_330 rfl (pc' := 5) rfl ?_
  refine ax_sipush dX12_shapeCode_5 (by decide) (pc' := 8) rfl ?_
  refine ax_iload_n dX12_shapeCode_8 rfl rfl (pc' := 9) rfl ?_
  refine ax_iadd dX12_shapeCode_9 (by omega) (pc' := 10) rfl ?_
  refine ax_iald (v := w (2601 + k)) dX12_shapeCode_10 sh_331 rfl (by omega) (by omega) ((congrFun hw (2601 + k)).trans rfl) (pc' := 11) rfl ?_
  refine ax_reS (st2 := [.inl (L.length : Int), .inr 330]) (congrArg (fun z => Sum.inl z :: _) (by exact hg2.symm)) ?_
  refine ax_puti dX12_shapeCode_11 flX12_488 (Or.inl rfl) sh_330 rfl (pc' := 14) rfl ?_
  refine ax_iconst dX12_shapeCode_14 (by decide) (pc' := 15) rfl ?_
  refine ax_istore_n dX12_shapeCode_15 rfl (by decide) (ls' := [some (.inr 330), some (.inl k), some (.inl 0)]) rfl (pc' := 16) rfl ?_
  have LP1 : ∀ (kq2 : Nat) (i : Int) (lv : Int → Int) (rem : List Int) (dn : List Int) (M1 : ax_Mem) (hm1 : (L.length : Int) - i < (kq2 : Nat)) (fr1 : ∀ x0 i0 : Int, ¬ (x0 = 350) → M1 x0 i0 = (ax_up M 330 44 (L.length : Int)) x0 i0) (mr1_350 : M1 350 = lv) (iv1_0 : i = (dn.length : Int) ∧ i + (rem.length : Int) = (L.length : Int)) (iv1_1 : f_fwd lv 0 dn) (iv1_2 : f_fwd (fun i => w (2606 + 7 * k + i)) i rem) (iv1_3 : dn ++ rem = L), ax_W E l (d + 1) 0 0 iX12_shapeCode 16 [some (.inr 330), some (.inl k), some (.inl i)] [] SH M1 (ax_P (fun z0 M2 => z0 = some (.inl (f_code L)) ∧ (∀ x0 i0 : Int, ¬ ((x0 = 330 ∧ i0 = 44) ∨ x0 = 350) → M2 x0 i0 = M x0 i0) ∧ M2 330 44 = (L.length : Int) ∧ (f_fwd (M2 350) 0 L))) := by
    intro kq2
    induction kq2 with
    | zero =>
      intro i lv rem dn M1 hm1 fr1 mr1_350 iv1_0 iv1_1 iv1_2 iv1_3
      exfalso
      omega
    | succ kq2 ih3 =>
      intro i lv rem dn M1 hm1 fr1 mr1_350 iv1_0 iv1_1 iv1_2 iv1_3
      refine ax_iload_n dX12_shapeCode_16 rfl rfl (pc' := 17) rfl ?_
      refine ax_aload_n dX12_shapeCode_17 rfl rfl (pc' := 18) rfl ?_
      refine ax_geti (v := (L.length : Int)) dX12_shapeCode_18 flX12_488 rfl sh_330 (show M1 330 44 = (L.length : Int) from ((fr1 330 44 (by omega)).trans (ax_up_hit _ _ _ _))) rfl (pc' := 21) rfl ?_
      refine ax_icmp_ge (tgt := 51) dX12_shapeCode_21 (by decide) (pc' := 24) rfl (fun h21 => ?_) (fun h21 => ?_)
      · have qd : rem = [] := List.eq_nil_of_length_eq_zero (by omega)
        have qe : dn = L := by
          rw [← iv1_3, qd, List.append_nil]
        have qz : f_fwd lv 0 L := by rw [← qe]; exact iv1_1
        refine ax_aload_n dX12_shapeCode_51 rfl rfl (pc' := 52) rfl ?_
        refine ax_invG [] [] dX12_shapeCode_52 mlX12_491 sh_330 rfl rfl rfl (Nat.le_of_ble_eq_true rfl) (s_X12_coded E l _ (by omega) _ L mr1_350 ((fr1 330 44 (by omega)).trans (ax_up_hit _ _ _ _)) qz (by omega) hg1.1) (pc' := 55) rfl (fun vv M_52 hq co52 hcm52 => ?_)
        obtain ⟨rfl, rfl⟩ := hq
        refine ax_reS (st2 := [.inl (f_code L)]) rfl ?_
        have cc52 : -2147483648 ≤ f_code L ∧ f_code L < 2147483648 := co52 _ rfl
        refine ax_iret dX12_shapeCode_55 rfl ?_
        refine ⟨rfl, ?_, ?_, ?_, ?_⟩
        · rfl
        · intro x0 i0 hai
          exact ((fr1 x0 i0 (by omega)).trans (ax_up_miss (by omega) rfl))
        · exact ((fr1 330 44 (by omega)).trans (ax_up_hit _ _ _ _))
        · have qr := mr1_350
          rw [qr]
          exact qz
      · obtain ⟨q7, rem2, qd⟩ : ∃ x0 y0, rem = x0 :: y0 := by
          cases rem with
          | nil =>
            simp only [List.length_nil] at iv1_0
            omega
          | cons x0 y0 => exact ⟨x0, y0, rfl⟩
        have qf : f_fwd (fun i => w (2606 + 7 * k + i)) i (q7 :: rem2) := qd ▸ iv1_2
        have qd2 : rem.length = rem2.length + 1 := by rw [qd]; rfl
        refine ax_aload_n dX12_shapeCode_24 rfl rfl (pc' := 25) rfl ?_
        refine ax_getr (v := 350) dX12_shapeCode_25 flX12_71 rfl sh_330 rfl (pc' := 28) rfl ?_
        refine ax_iload_n dX12_shapeCode_28 rfl rfl (pc' := 29) rfl ?_
        refine ax_aload_n dX12_shapeCode_29 rfl rfl (pc' := 30) rfl ?_
        refine ax_getr (v := 331) dX12_shapeCode_30 flX12_7 rfl sh_330 rfl (pc' := 33) rfl ?_
        refine ax_sipush dX12_shapeCode_33 (by decide) (pc' := 36) rfl ?_
        refine ax_bipush dX12_shapeCode_36 (by decide) (pc' := 38) rfl ?_
        refine ax_iload_n dX12_shapeCode_38 rfl rfl (pc' := 39) rfl ?_
        refine ax_imul dX12_shapeCode_39 (by omega) (pc' := 40) rfl ?_
        refine ax_iadd dX12_shapeCode_40 (by omega) (pc' := 41) rfl ?_
        refine ax_iload_n dX12_shapeCode_41 rfl rfl (pc' := 42) rfl ?_
        refine ax_iadd dX12_shapeCode_42 (by omega) (pc' := 43) rfl ?_
        refine ax_iald (v := w (2606 + (7 * k) + i)) dX12_shapeCode_43 sh_331 rfl (by omega) (by omega) ((congrFun ((funext fun i0 => fr1 331 i0 (by omega)).trans (ax_up_rowmiss (by decide) hw)) (2606 + (7 * k) + i)).trans rfl) (pc' := 44) rfl ?_
        refine ax_reS (st2 := [.inl q7, .inl i, .inr 350]) (congrArg (fun z => Sum.inl z :: _) (by exact qf.1)) ?_
        refine ax_iast dX12_shapeCode_44 sh_350 rfl (by omega) (by omega) (pc' := 45) rfl ?_
        refine ax_iinc dX12_shapeCode_45 rfl (by decide) (by omega) (ls' := [some (.inr 330), some (.inl k), some (.inl (i + 1))]) rfl (pc' := 48) rfl ?_
        refine ax_goto dX12_shapeCode_48 (pc' := 16) (by decide) ?_
        refine ih3 (i + 1) (f_up lv i q7) rem2 (dn ++ [q7]) (ax_up M1 350 i q7) ?_ ?_ ?_ ?_ ?_ ?_ ?_
        · omega
        · intro x0 i0 hai
          exact (ax_up_miss (by omega) ((fr1 x0 i0 (by omega)).trans rfl))
        · exact (ax_up_rowhit mr1_350)
        · simp only [List.length_append, List.length_cons, List.length_nil]
          omega
        · refine f_fwd_cat (f_fwd_upR (by omega) iv1_1) ⟨?_, trivial⟩
          rw [show 0 + (dn.length : Int) = i by omega]
          exact f_up_same _ _ _
        · exact qf.2
        · rw [List.append_assoc, ← iv1_3, qd]
          rfl
  refine LP1 ((L.length : Int) - 0 : Int).toNat.succ 0 lt L ([]) (ax_up M 330 44 (L.length : Int)) ?_ ?_ ?_ ?_ ?_ ?_ ?_
  · omega
  · exact fun a i _ => rfl
  · exact (ax_up_rowmiss (by decide) hlt)
  · simp only [List.length_nil]
    omega
  · trivial
  · exact hg3
  · rfl
set_option maxRecDepth 20000 in
theorem s_X12_moves (E : ax_Env) (l : Launch) (d : Nat) (hd : 4 ≤ d) (M : ax_Mem) (x y : Int) {w : Int → Int} (hw : M 331 = w) {mv : Int → Int} (hmv : M 348 = mv) {qv : Int → Int} (hqv : M 349 = qv) {lt : Int → Int} (hlt : M 350 = lt) (hg0 : f_shp w) : ax_G E l d iX12_moves [.inr 330, .inl x, .inl y] M (fun z0 M2 => z0 = some (.inl (if (0 ≤ x ∧ x ≤ 3) ∧ 0 ≤ y ∧ y ≤ 3 then F_moves mv qv w x y else -1)) ∧ (∀ x0 i0 : Int, ¬ (x0 = 348 ∨ x0 = 349 ∨ x0 = 350 ∨ (x0 = 330 ∧ i0 = 43) ∨ (x0 = 330 ∧ i0 = 44)) → M2 x0 i0 = M x0 i0)) := by
  obtain ⟨d, rfl⟩ : ∃ d0, d = d0 + 1 := ⟨d - 1, by omega⟩
  refine ax_start rfl (Nat.le_of_ble_eq_true rfl) (ls := [some (.inr 330), some (.inl x), some (.inl y), none, none]) rfl (fun hav hcm => ?_)
  have hc1 : -2147483648 ≤ x ∧ x < 2147483648 := hav (.inl x) (by simp)
  have hc2 : -2147483648 ≤ y ∧ y < 2147483648 := hav (.inl y) (by simp)
  clear hav
  refine ax_iload_n dX12_moves_0 rfl rfl (pc' := 1) rfl ?_
  refine ax_insG [.inl x] [] dX12_moves_1 mlX12_515 rfl rfl (Nat.le_of_ble_eq_true rfl) (s_X12_isShape E l _ (by omega) _ x) (pc' := 4) rfl (fun vv M_1 hq co1 hcm1 => ?_)
  obtain ⟨rfl, rfl⟩ := hq
  refine ax_reS (st2 := [.inl (f_b (0 ≤ x ∧ x ≤ 3))]) rfl ?_
  refine ax_if_eq (tgt := 14) dX12_moves_4 (by decide) (pc' := 7) rfl (fun h4 => ?_) (fun h4 => ?_)
  · replace h4 := f_b_0 h4
    refine ax_iconst dX12_moves_14 (by decide) (pc' := 15) rfl ?_
    refine ax_iret dX12_moves_15 rfl ?_
    refine ⟨rfl, ?_, ?_⟩
    · refine congrArg (fun z => some (Sum.inl z)) ?_
      exact (if_neg (by omega)).symm
    · intro x0 i0 hai
      exact rfl
  · replace h4 := f_b_1 h4
    refine ax_iload_n dX12_moves_7 rfl rfl (pc' := 8) rfl ?_
    refine ax_insG [.inl y] [] dX12_moves_8 mlX12_515 rfl rfl (Nat.le_of_ble_eq_true rfl) (s_X12_isShape E l _ (by omega) _ y) (pc' := 11) rfl (fun vv M_8 hq co8 hcm8 => ?_)
    obtain ⟨rfl, rfl⟩ := hq
    refine ax_reS (st2 := [.inl (f_b (0 ≤ y ∧ y ≤ 3))]) rfl ?_
    refine ax_if_ne (tgt := 16) dX12_moves_11 (by decide) (pc' := 14) rfl (fun h11 => ?_) (fun h11 => ?_)
    · replace h11 := f_b_1 h11
      have qx := f_shL_ok hg0 (by omega : 0 ≤ x ∧ x < 4)
      have qy := f_shL_ok hg0 (by omega : 0 ≤ y ∧ y < 4)
      have qyc := f_vl_rg qy.1
      have qb0 := f_bf_0 (mv := mv) (qv := qv) qx.1
      refine ax_iconst dX12_moves_16 (by decide) (pc' := 17) rfl ?_
      refine ax_istore_n dX12_moves_17 rfl (by decide) (ls' := [some (.inr 330), some (.inl x), some (.inl y), some (.inl 0), none]) rfl (pc' := 18) rfl ?_
      have LP1 : ∀ (kq2 : Nat) (c : Int) (mv0 : Int → Int) (M1 : ax_Mem) (hm1 : 17496 - c < (kq2 : Nat)) (fr1 : ∀ x0 i0 : Int, ¬ (x0 = 348) → M1 x0 i0 = M x0 i0) (mr1_348 : M1 348 = mv0) (iv1_0 : 0 ≤ c ∧ c ≤ 17496) (iv1_1 : mv0 = f_fil mv c), ax_W E l (d + 1) 0 0 iX12_moves 18 [some (.inr 330), some (.inl x), some (.inl y), some (.inl c), none] [] SH M1 (ax_P (fun z0 M2 => z0 = some (.inl (if (0 ≤ x ∧ x ≤ 3) ∧ 0 ≤ y ∧ y ≤ 3 then F_moves mv qv w x y else -1)) ∧ (∀ x0 i0 : Int, ¬ (x0 = 348 ∨ x0 = 349 ∨ x0 = 350 ∨ (x0 = 330 ∧ i0 = 43) ∨ (x0 = 330 ∧ i0 = 44)) → M2 x0 i0 = M x0 i0))) := by
        intro kq2
        induction kq2 with
        | zero =>
          intro c mv0 M1 hm1 fr1 mr1_348 iv1_0 iv1_1
          exfalso
          omega
        | succ kq2 ih3 =>
          intro c mv0 M1 hm1 fr1 mr1_348 iv1_0 iv1_1
          refine ax_iload_n dX12_moves_18 rfl rfl (pc' := 19) rfl ?_
          refine ax_sipush dX12_moves_19 (by decide) (pc' := 22) rfl ?_
          refine ax_icmp_ge (tgt := 38) dX12_moves_22 (by decide) (pc' := 25) rfl (fun h22 => ?_) (fun h22 => ?_)
          · have qe : mv0 = f_fil mv 17496 := by rw [iv1_1, show c = 17496 by omega]
            refine ax_aload_n dX12_moves_38 rfl rfl (pc' := 39) rfl ?_
            refine ax_iload_n dX12_moves_39 rfl rfl (pc' := 40) rfl ?_
            refine ax_invG [.inl y] [] dX12_moves_40 mlX12_518 sh_330 rfl rfl rfl (Nat.le_of_ble_eq_true rfl) (s_X12_shapeCode E l _ (by omega) _ y (f_shL w y) ((funext fun i0 => fr1 331 i0 (by omega)).trans hw) ((funext fun i0 => fr1 350 i0 (by omega)).trans hlt) (by first | omega | assumption) qy.1 qy.2.1 qy.2.2) (pc' := 43) rfl (fun vv M_40 hq co40 hcm40 => ?_)
            obtain ⟨rfl, frM_40, msM_40_0, fa40_0⟩ := hq
            refine ax_reS (st2 := [.inl (f_code (f_shL w y))]) rfl ?_
            have cc40 : -2147483648 ≤ f_code (f_shL w y) ∧ f_code (f_shL w y) < 2147483648 := co40 _ rfl
            refine ax_istore_n dX12_moves_43 rfl (by decide) (ls' := [some (.inr 330), some (.inl x), some (.inl y), some (.inl (f_code (f_shL w y))), none]) rfl (pc' := 44) rfl ?_
            refine ax_aload_n dX12_moves_44 rfl rfl (pc' := 45) rfl ?_
            refine ax_iload_n dX12_moves_45 rfl rfl (pc' := 46) rfl ?_
            refine ax_invG [.inl x] [] dX12_moves_46 mlX12_518 sh_330 rfl rfl rfl (Nat.le_of_ble_eq_true rfl) (s_X12_shapeCode E l _ (by omega) _ x (f_shL w x) ((funext fun i0 => frM_40 331 i0 (by omega)).trans ((funext fun i0 => fr1 331 i0 (by omega)).trans hw)) rfl (by first | omega | assumption) qx.1 qx.2.1 qx.2.2) (pc' := 49) rfl (fun vv M_46 hq co46 hcm46 => ?_)
            obtain ⟨rfl, frM_46, msM_46_0, fa46_0⟩ := hq
            refine ax_reS (st2 := [.inl (f_code (f_shL w x))]) rfl ?_
            have cc46 : -2147483648 ≤ f_code (f_shL w x) ∧ f_code (f_shL w x) < 2147483648 := co46 _ rfl
            refine ax_pop dX12_moves_49 (pc' := 50) rfl ?_
            refine ax_aload_n dX12_moves_50 rfl rfl (pc' := 51) rfl ?_
            refine ax_iconst dX12_moves_51 (by decide) (pc' := 52) rfl ?_
            refine ax_puti dX12_moves_52 flX12_494 (Or.inl rfl) sh_330 rfl (pc' := 55) rfl ?_
            refine ax_aload_n dX12_moves_55 rfl rfl (pc' := 56) rfl ?_
            refine ax_iconst dX12_moves_56 (by decide) (pc' := 57) rfl ?_
            refine ax_invG [.inl 0] [] dX12_moves_57 mlX12_503 sh_330 rfl rfl rfl (Nat.le_of_ble_eq_true rfl) (s_X12_reaches E l _ (by omega) _ 0 (f_shL w x) (ax_up_rowmiss (by decide) rfl) (ax_up_rowmiss (by decide) ((funext fun i0 => frM_46 348 i0 (by omega)).trans ((funext fun i0 => frM_40 348 i0 (by omega)).trans mr1_348))) (ax_up_rowmiss (by decide) ((funext fun i0 => frM_46 349 i0 (by omega)).trans ((funext fun i0 => frM_40 349 i0 (by omega)).trans ((funext fun i0 => fr1 349 i0 (by omega)).trans hqv)))) (ax_up_miss (by decide) msM_46_0) (ax_up_hit _ _ _ _) fa46_0 ⟨rfl, qx.1.2⟩ qx.1.1 ⟨by omega, by omega⟩) (pc' := 60) rfl (fun vv M_57 hq co57 hcm57 => ?_)
            obtain ⟨rfl, frM_57, mrM_57_0, mrM_57_1, msM_57_0⟩ := hq
            refine ax_reS (st2 := []) rfl ?_
            refine ax_iconst dX12_moves_60 (by decide) (pc' := 61) rfl ?_
            refine ax_istore dX12_moves_61 (by decide) (ls' := [some (.inr 330), some (.inl x), some (.inl y), some (.inl (f_code (f_shL w y))), some (.inl 0)]) rfl (pc' := 63) rfl ?_
            have LP4 : ∀ (kq5 : Nat) (i : Int) (mv1 qv1 : Int → Int) (qn1 : Int) (M4 : ax_Mem) (hm4 : 17496 - i < (kq5 : Nat)) (fr4 : ∀ x0 i0 : Int, ¬ (x0 = 348 ∨ x0 = 349 ∨ (x0 = 330 ∧ i0 = 43) ∨ x0 = 350 ∨ (x0 = 330 ∧ i0 = 44)) → M4 x0 i0 = M_57 x0 i0) (mr4_348 : M4 348 = mv1) (mr4_349 : M4 349 = qv1) (ms4_330_43 : M4 330 43 = qn1) (iv4_0 : 0 ≤ i ∧ i ≤ 17496) (iv4_1 : (f_bfs (f_code (f_shL w y)) (17496 - i).toNat i (mv1, qv1, qn1)).1 (f_code (f_shL w y)) = F_moves mv qv w x y) (iv4_2 : f_bfI (mv1, qv1, qn1)), ax_W E l (d + 1) 0 0 iX12_moves 63 [some (.inr 330), some (.inl x), some (.inl y), some (.inl (f_code (f_shL w y))), some (.inl i)] [] SH M4 (ax_P (fun z0 M2 => z0 = some (.inl (if (0 ≤ x ∧ x ≤ 3) ∧ 0 ≤ y ∧ y ≤ 3 then F_moves mv qv w x y else -1)) ∧ (∀ x0 i0 : Int, ¬ (x0 = 348 ∨ x0 = 349 ∨ x0 = 350 ∨ (x0 = 330 ∧ i0 = 43) ∨ (x0 = 330 ∧ i0 = 44)) → M2 x0 i0 = M x0 i0))) := by
              intro kq5
              induction kq5 with
              | zero =>
                intro i mv1 qv1 qn1 M4 hm4 fr4 mr4_348 mr4_349 ms4_330_43 iv4_0 iv4_1 iv4_2
                exfalso
                omega
              | succ kq5 ih6 =>
                intro i mv1 qv1 qn1 M4 hm4 fr4 mr4_348 mr4_349 ms4_330_43 iv4_0 iv4_1 iv4_2
                refine ax_iload dX12_moves_63 rfl (pc' := 65) rfl ?_
                refine ax_aload_n dX12_moves_65 rfl rfl (pc' := 66) rfl ?_
                refine ax_geti (v := qn1) dX12_moves_66 flX12_494 rfl sh_330 ms4_330_43 rfl (pc' := 69) rfl ?_
                refine ax_icmp_ge (tgt := 130) dX12_moves_69 (by decide) (pc' := 72) rfl (fun h69 => ?_) (fun h69 => ?_)
                · have qz : f_bfs (f_code (f_shL w y)) (17496 - i).toNat i (mv1, qv1, qn1) = (mv1, qv1, qn1) := by
                    cases hn : (17496 - i).toNat with
                    | zero => rfl
                    | succ n => exact if_neg (fun q => by have q1 : i < qn1 := q.1; omega)
                  refine ax_aload_n dX12_moves_130 rfl rfl (pc' := 131) rfl ?_
                  refine ax_getr (v := 348) dX12_moves_131 flX12_65 rfl sh_330 rfl (pc' := 134) rfl ?_
                  refine ax_iload_n dX12_moves_134 rfl rfl (pc' := 135) rfl ?_
                  refine ax_iald (v := mv1 (f_code (f_shL w y))) dX12_moves_135 sh_348 rfl (by omega) (by omega) ((congrFun mr4_348 (f_code (f_shL w y))).trans rfl) (pc' := 136) rfl ?_
                  refine ax_iret dX12_moves_136 rfl ?_
                  refine ⟨rfl, ?_, ?_⟩
                  · refine congrArg (fun z => some (Sum.inl z)) ?_
                    rw [if_pos (by omega), ← iv4_1, qz]
                  · intro x0 i0 hai
                    exact ((fr4 x0 i0 (by omega)).trans ((frM_57 x0 i0 (by omega)).trans (ax_up_miss (by omega) ((frM_46 x0 i0 (by omega)).trans ((frM_40 x0 i0 (by omega)).trans ((fr1 x0 i0 (by omega)).trans rfl))))))
                · have qt := f_bf_at (i := i) iv4_2 ⟨by omega, h69⟩
                  obtain ⟨⟨L, qt1, qt2⟩, qt3⟩ := qt
                  have qt4 := f_vl_rg qt2
                  have qt5 : qv1 i = f_code L := qt1
                  have qt6 : 0 ≤ mv1 (f_code L) ∧ mv1 (f_code L) ≤ 12 := by rw [← qt5]; exact qt3
                  have qn9 : 0 ≤ qn1 ∧ qn1 ≤ 17496 := f_bf_le iv4_2
                  refine ax_aload_n dX12_moves_72 rfl rfl (pc' := 73) rfl ?_
                  refine ax_getr (v := 348) dX12_moves_73 flX12_65 rfl sh_330 rfl (pc' := 76) rfl ?_
                  refine ax_iload_n dX12_moves_76 rfl rfl (pc' := 77) rfl ?_
                  refine ax_iald (v := mv1 (f_code (f_shL w y))) dX12_moves_77 sh_348 rfl (by omega) (by omega) ((congrFun mr4_348 (f_code (f_shL w y))).trans rfl) (pc' := 78) rfl ?_
                  refine ax_iconst dX12_moves_78 (by decide) (pc' := 79) rfl ?_
                  refine ax_icmp_ne (tgt := 130) dX12_moves_79 (by decide) (pc' := 82) rfl (fun h79 => ?_) (fun h79 => ?_)
                  · have qz : f_bfs (f_code (f_shL w y)) (17496 - i).toNat i (mv1, qv1, qn1) = (mv1, qv1, qn1) := by
                      cases hn : (17496 - i).toNat with
                      | zero => rfl
                      | succ n => exact if_neg (fun q => h79 q.2.1)
                    refine ax_aload_n dX12_moves_130 rfl rfl (pc' := 131) rfl ?_
                    refine ax_getr (v := 348) dX12_moves_131 flX12_65 rfl sh_330 rfl (pc' := 134) rfl ?_
                    refine ax_iload_n dX12_moves_134 rfl rfl (pc' := 135) rfl ?_
                    refine ax_iald (v := mv1 (f_code (f_shL w y))) dX12_moves_135 sh_348 rfl (by omega) (by omega) ((congrFun mr4_348 (f_code (f_shL w y))).trans rfl) (pc' := 136) rfl ?_
                    refine ax_iret dX12_moves_136 rfl ?_
                    refine ⟨rfl, ?_, ?_⟩
                    · refine congrArg (fun z => some (Sum.inl z)) ?_
                      rw [if_pos (by omega), ← iv4_1, qz]
                    · intro x0 i0 hai
                      exact ((fr4 x0 i0 (by omega)).trans ((frM_57 x0 i0 (by omega)).trans (ax_up_miss (by omega) ((frM_46 x0 i0 (by omega)).trans ((frM_40 x0 i0 (by omega)).trans ((fr1 x0 i0 (by omega)).trans rfl))))))
                  · refine ax_aload_n dX12_moves_82 rfl rfl (pc' := 83) rfl ?_
                    refine ax_getr (v := 348) dX12_moves_83 flX12_65 rfl sh_330 rfl (pc' := 86) rfl ?_
                    refine ax_aload_n dX12_moves_86 rfl rfl (pc' := 87) rfl ?_
                    refine ax_getr (v := 349) dX12_moves_87 flX12_68 rfl sh_330 rfl (pc' := 90) rfl ?_
                    refine ax_iload dX12_moves_90 rfl (pc' := 92) rfl ?_
                    refine ax_iald (v := qv1 i) dX12_moves_92 sh_349 rfl (by omega) (by omega) ((congrFun mr4_349 i).trans rfl) (pc' := 93) rfl ?_
                    refine ax_reS (st2 := [.inl (f_code L), .inr 348]) (congrArg (fun z => Sum.inl z :: _) (by exact qt5)) ?_
                    refine ax_iald (v := mv1 (f_code L)) dX12_moves_93 sh_348 rfl (by omega) (by omega) ((congrFun mr4_348 (f_code L)).trans rfl) (pc' := 94) rfl ?_
                    refine ax_bipush dX12_moves_94 (by decide) (pc' := 96) rfl ?_
                    refine ax_icmp_ge (tgt := 130) dX12_moves_96 (by decide) (pc' := 99) rfl (fun h96 => ?_) (fun h96 => ?_)
                    · have qz : f_bfs (f_code (f_shL w y)) (17496 - i).toNat i (mv1, qv1, qn1) = (mv1, qv1, qn1) := by
                        cases hn : (17496 - i).toNat with
                        | zero => rfl
                        | succ n =>
                          refine if_neg (fun q => ?_)
                          have q1 : mv1 (qv1 i) < 12 := q.2.2
                          rw [qt5] at q1
                          omega
                      refine ax_aload_n dX12_moves_130 rfl rfl (pc' := 131) rfl ?_
                      refine ax_getr (v := 348) dX12_moves_131 flX12_65 rfl sh_330 rfl (pc' := 134) rfl ?_
                      refine ax_iload_n dX12_moves_134 rfl rfl (pc' := 135) rfl ?_
                      refine ax_iald (v := mv1 (f_code (f_shL w y))) dX12_moves_135 sh_348 rfl (by omega) (by omega) ((congrFun mr4_348 (f_code (f_shL w y))).trans rfl) (pc' := 136) rfl ?_
                      refine ax_iret dX12_moves_136 rfl ?_
                      refine ⟨rfl, ?_, ?_⟩
                      · refine congrArg (fun z => some (Sum.inl z)) ?_
                        rw [if_pos (by omega), ← iv4_1, qz]
                      · intro x0 i0 hai
                        exact ((fr4 x0 i0 (by omega)).trans ((frM_57 x0 i0 (by omega)).trans (ax_up_miss (by omega) ((frM_46 x0 i0 (by omega)).trans ((frM_40 x0 i0 (by omega)).trans ((fr1 x0 i0 (by omega)).trans rfl))))))
                    · have qst : f_bfs (f_code (f_shL w y)) (17496 - i).toNat i (mv1, qv1, qn1) = f_bfs (f_code (f_shL w y)) (17496 - (i + 1)).toNat (i + 1) (f_mo (mv1 (f_code L) + 1) L (mv1, qv1, qn1)) := by
                        have qn8 : qn1 ≤ 17496 := qn9.2
                        rw [show (17496 - i).toNat = (17496 - (i + 1)).toNat + 1 by omega]
                        have q2 : i < qn1 ∧ mv1 (f_code (f_shL w y)) = -1 ∧ mv1 (qv1 i) < 12 := ⟨by omega, h79, by rw [qt5]; omega⟩
                        refine (if_pos q2).trans ?_
                        show f_bfs _ _ _ (f_mo (mv1 (qv1 i) + 1) (f_dec (qv1 i)) (mv1, qv1, qn1)) = _
                        rw [qt5, f_dec_code qt2]
                      refine ax_aload_n dX12_moves_99 rfl rfl (pc' := 100) rfl ?_
                      refine ax_aload_n dX12_moves_100 rfl rfl (pc' := 101) rfl ?_
                      refine ax_getr (v := 349) dX12_moves_101 flX12_68 rfl sh_330 rfl (pc' := 104) rfl ?_
                      refine ax_iload dX12_moves_104 rfl (pc' := 106) rfl ?_
                      refine ax_iald (v := qv1 i) dX12_moves_106 sh_349 rfl (by omega) (by omega) ((congrFun mr4_349 i).trans rfl) (pc' := 107) rfl ?_
                      refine ax_reS (st2 := [.inl (f_code L), .inr 330]) (congrArg (fun z => Sum.inl z :: _) (by exact qt5)) ?_
                      refine ax_aload_n dX12_moves_107 rfl rfl (pc' := 108) rfl ?_
                      refine ax_getr (v := 348) dX12_moves_108 flX12_65 rfl sh_330 rfl (pc' := 111) rfl ?_
                      refine ax_aload_n dX12_moves_111 rfl rfl (pc' := 112) rfl ?_
                      refine ax_getr (v := 349) dX12_moves_112 flX12_68 rfl sh_330 rfl (pc' := 115) rfl ?_
                      refine ax_iload dX12_moves_115 rfl (pc' := 117) rfl ?_
                      refine ax_iald (v := qv1 i) dX12_moves_117 sh_349 rfl (by omega) (by omega) ((congrFun mr4_349 i).trans rfl) (pc' := 118) rfl ?_
                      refine ax_reS (st2 := [.inl (f_code L), .inr 348, .inl (f_code L), .inr 330]) (congrArg (fun z => Sum.inl z :: _) (by exact qt5)) ?_
                      refine ax_iald (v := mv1 (f_code L)) dX12_moves_118 sh_348 rfl (by omega) (by omega) ((congrFun mr4_348 (f_code L)).trans rfl) (pc' := 119) rfl ?_
                      refine ax_iconst dX12_moves_119 (by decide) (pc' := 120) rfl ?_
                      refine ax_iadd dX12_moves_120 (by omega) (pc' := 121) rfl ?_
                      refine ax_invG [.inl (f_code L), .inl (mv1 (f_code L) + 1)] [] dX12_moves_121 mlX12_521 sh_330 rfl rfl rfl (Nat.le_of_ble_eq_true rfl) (s_X12_movesOn E l _ (by omega) _ (f_code L) (mv1 (f_code L) + 1) L rfl mr4_348 mr4_349 ms4_330_43 rfl qt2 (by omega) iv4_2) (pc' := 124) rfl (fun vv M_121 hq co121 hcm121 => ?_)
                      obtain ⟨rfl, frM_121, mrM_121_0, mrM_121_1, msM_121_0⟩ := hq
                      refine ax_reS (st2 := []) rfl ?_
                      refine ax_iinc dX12_moves_124 rfl (by decide) (by omega) (ls' := [some (.inr 330), some (.inl x), some (.inl y), some (.inl (f_code (f_shL w y))), some (.inl (i + 1))]) rfl (pc' := 127) rfl ?_
                      refine ax_goto dX12_moves_127 (pc' := 63) (by decide) ?_
                      refine ih6 (i + 1) ((f_mo (mv1 (f_code L) + 1) L (mv1, qv1, qn1)).1) ((f_mo (mv1 (f_code L) + 1) L (mv1, qv1, qn1)).2.1) ((f_mo (mv1 (f_code L) + 1) L (mv1, qv1, qn1)).2.2) M_121 ?_ ?_ ?_ ?_ ?_ ?_ ?_ ?_
                      · omega
                      · intro x0 i0 hai
                        exact ((frM_121 x0 i0 (by omega)).trans ((fr4 x0 i0 (by omega)).trans rfl))
                      · exact mrM_121_0
                      · exact mrM_121_1
                      · exact msM_121_0
                      · have qn8 : qn1 ≤ 17496 := qn9.2
                        omega
                      · rw [← iv4_1, qst]
                      · exact f_bf_mo (by omega) qt2 iv4_2
            refine LP4 (17496 - 0 : Int).toNat.succ 0 ((f_rch (f_code (f_shL w x)) 0 (mv0, qv, 0)).1) ((f_rch (f_code (f_shL w x)) 0 (mv0, qv, 0)).2.1) ((f_rch (f_code (f_shL w x)) 0 (mv0, qv, 0)).2.2) M_57 ?_ ?_ ?_ ?_ ?_ ?_ ?_ ?_
            · omega
            · exact fun a i _ => rfl
            · exact mrM_57_0
            · exact mrM_57_1
            · exact msM_57_0
            · omega
            · rw [qe]
              rfl
            · rw [qe]
              exact qb0
          · refine ax_aload_n dX12_moves_25 rfl rfl (pc' := 26) rfl ?_
            refine ax_getr (v := 348) dX12_moves_26 flX12_65 rfl sh_330 rfl (pc' := 29) rfl ?_
            refine ax_iload_n dX12_moves_29 rfl rfl (pc' := 30) rfl ?_
            refine ax_iconst dX12_moves_30 (by decide) (pc' := 31) rfl ?_
            refine ax_iast dX12_moves_31 sh_348 rfl (by omega) (by omega) (pc' := 32) rfl ?_
            refine ax_iinc dX12_moves_32 rfl (by decide) (by omega) (ls' := [some (.inr 330), some (.inl x), some (.inl y), some (.inl (c + 1)), none]) rfl (pc' := 35) rfl ?_
            refine ax_goto dX12_moves_35 (pc' := 18) (by decide) ?_
            refine ih3 (c + 1) (f_up mv0 c (-1)) (ax_up M1 348 c (-1)) ?_ ?_ ?_ ?_ ?_
            · omega
            · intro x0 i0 hai
              exact (ax_up_miss (by omega) ((fr1 x0 i0 (by omega)).trans rfl))
            · exact (ax_up_rowhit mr1_348)
            · omega
            · rw [iv1_1]
              exact f_fil_step (by omega)
      refine LP1 (17496 - 0 : Int).toNat.succ 0 mv M ?_ ?_ ?_ ?_ ?_
      · omega
      · exact fun a i _ => rfl
      · exact hmv
      · omega
      · exact f_fil_0
    · replace h11 := f_b_0 h11
      refine ax_iconst dX12_moves_14 (by decide) (pc' := 15) rfl ?_
      refine ax_iret dX12_moves_15 rfl ?_
      refine ⟨rfl, ?_, ?_⟩
      · refine congrArg (fun z => some (Sum.inl z)) ?_
        exact (if_neg (by omega)).symm
      · intro x0 i0 hai
        exact rfl
