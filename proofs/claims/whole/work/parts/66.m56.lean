/-! lore: letters, pulls told, orders -/
def f_lt (M : ax_Mem) (b : Int) (w : Int → Int) : Prop := ∀ k, 0 ≤ k → k < 4 → M (b + 9) k = w (2601 + k) ∧ ∀ i, 0 ≤ i → i < w (2601 + k) → M (b + 8) (k * 7 + i) = w (2606 + 7 * k + i)
def f_tl (M : ax_Mem) (b : Int) (w : Int → Int) : Prop := M b 6 = w 2577 ∧ ∀ i, 0 ≤ i → i < w 2577 → M (b + 10) i = w (2580 + 2 * i) ∧ M (b + 11) i = w (2580 + 2 * i + 1)
def f_or (M : ax_Mem) (b : Int) (w : Int → Int) : Prop := M b 8 = w 2578 ∧ ∀ i, 0 ≤ i → i < w 2578 → M (b + 12) i = w (2592 + i)
def f_cnS (w : Int → Int) (k l x v : Int) : Int := v + f_b (w (2606 + 7 * k + x) = l)
def f_cnL (w : Int → Int) (k l : Int) : Int := f_loop (f_cnS w k l) 0 (w (2601 + k)) 0
theorem f_mk_1 {w : Int → Int} {k hi : Int} : ∀ (n : Nat) (lo a b : Int), (n : Int) = hi - lo → f_loop (f_mk1 w k) lo hi (a - b) = f_loop (f_cnS w k 0) lo hi a - f_loop (f_cnS w k 1) lo hi b := by
  intro n
  induction n with
  | zero =>
    intro lo a b e
    rw [f_loop_done (by omega), f_loop_done (by omega), f_loop_done (by omega)]
  | succ n ih =>
    intro lo a b e
    rw [f_loop_step (g := f_mk1 w k) (by omega), f_loop_step (g := f_cnS w k 0) (by omega), f_loop_step (g := f_cnS w k 1) (by omega), ← ih (lo + 1) _ _ (by omega)]
    congr 1
    unfold f_mk1 f_cnS f_b
    repeat' split
    all_goals omega
theorem f_xor_2 {c l : Int} (hl : 0 ≤ l ∧ l ≤ 2) : ax_xor (c % 2) (l / 2) = (c + f_b (l = 2)) % 2 := by
  have hc : c % 2 = 0 ∨ c % 2 = 1 := by omega
  rcases (by omega : l = 0 ∨ l = 1 ∨ l = 2) with rfl | rfl | rfl
  · rcases hc with h | h
    · rw [h, show (c + f_b ((0 : Int) = 2)) % 2 = 0 by unfold f_b; rw [if_neg (by decide)]; omega]
      decide +kernel
    · rw [h, show (c + f_b ((0 : Int) = 2)) % 2 = 1 by unfold f_b; rw [if_neg (by decide)]; omega]
      decide +kernel
  · rcases hc with h | h
    · rw [h, show (c + f_b ((1 : Int) = 2)) % 2 = 0 by unfold f_b; rw [if_neg (by decide)]; omega]
      decide +kernel
    · rw [h, show (c + f_b ((1 : Int) = 2)) % 2 = 1 by unfold f_b; rw [if_neg (by decide)]; omega]
      decide +kernel
  · rcases hc with h | h
    · rw [h, show (c + f_b ((2 : Int) = 2)) % 2 = 1 by unfold f_b; rw [if_pos rfl]; omega]
      decide +kernel
    · rw [h, show (c + f_b ((2 : Int) = 2)) % 2 = 0 by unfold f_b; rw [if_pos rfl]; omega]
      decide +kernel
theorem f_mk_2 {w : Int → Int} {k hi : Int} (hw : ∀ x, 0 ≤ x → x < hi → 0 ≤ w (2606 + 7 * k + x) ∧ w (2606 + 7 * k + x) ≤ 2) : ∀ (n : Nat) (lo c : Int), (n : Int) = hi - lo → 0 ≤ lo → f_loop (f_mk2 w k) lo hi (c % 2) = f_loop (f_cnS w k 2) lo hi c % 2 := by
  intro n
  induction n with
  | zero =>
    intro lo c e h0
    rw [f_loop_done (by omega), f_loop_done (by omega)]
  | succ n ih =>
    intro lo c e h0
    rw [f_loop_step (g := f_mk2 w k) (by omega), f_loop_step (g := f_cnS w k 2) (by omega), ← ih (lo + 1) _ (by omega) (by omega)]
    congr 1
    exact f_xor_2 (hw lo h0 (by omega))
theorem f_mark_1 {w : Int → Int} {k : Int} (h : 0 ≤ w (2601 + k)) : f_mark w k 1 = f_cnL w k 0 - f_cnL w k 1 := by
  unfold f_mark
  rw [if_neg (by decide)]
  exact f_mk_1 (w (2601 + k)).toNat 0 0 0 (by omega)
theorem f_mark_2 {w : Int → Int} {k : Int} (h : 0 ≤ w (2601 + k)) (hw : ∀ x, 0 ≤ x → x < w (2601 + k) → 0 ≤ w (2606 + 7 * k + x) ∧ w (2606 + 7 * k + x) ≤ 2) : f_mark w k 2 = f_cnL w k 2 % 2 := by
  unfold f_mark
  rw [if_pos rfl]
  exact f_mk_2 hw (w (2601 + k)).toNat 0 0 (by omega) (by decide)
set_option maxRecDepth 20000 in
theorem s_X4_countOf (E : ax_Env) (l : Launch) (d : Nat) (hd : 0 ≤ d) (M : ax_Mem) (k le : Int) (w : Int → Int) (hg0 : f_lt M 39 w) (hg1 : f_shp w) (hg2 : 0 ≤ k ∧ k < 4) : ax_G E l d iX4_countOf [.inr 39, .inl k, .inl le] M (fun z0 M2 => z0 = some (.inl (f_cnL w k le)) ∧ M = M2 ∧ (0 ≤ f_cnL w k le ∧ f_cnL w k le ≤ 7)) := by
  refine ax_start rfl (Nat.le_of_ble_eq_true rfl) (ls := [some (.inr 39), some (.inl k), some (.inl le), none, none]) rfl (fun hav hcm => ?_)
  have hc1 : -2147483648 ≤ k ∧ k < 2147483648 := hav (.inl k) (by simp)
  have hc2 : -2147483648 ≤ le ∧ le < 2147483648 := hav (.inl le) (by simp)
  clear hav
  have qc : M 48 k = w (2601 + k) := (hg0 k hg2.1 hg2.2).1
  have ql := (hg0 k hg2.1 hg2.2).2
  have qs := hg1 k hg2.1 hg2.2
  refine ax_iconst dX4_countOf_0 (by decide) (pc' := 1) rfl ?_
  refine ax_istore_n dX4_countOf_1 rfl (by decide) (ls' := [some (.inr 39), some (.inl k), some (.inl le), some (.inl 0), none]) rfl (pc' := 2) rfl ?_
  refine ax_iconst dX4_countOf_2 (by decide) (pc' := 3) rfl ?_
  refine ax_istore dX4_countOf_3 (by decide) (ls' := [some (.inr 39), some (.inl k), some (.inl le), some (.inl 0), some (.inl 0)]) rfl (pc' := 5) rfl ?_
  have LP1 : ∀ (kq2 : Nat) (i n : Int) (hm1 : w (2601 + k) - i < (kq2 : Nat)) (iv1_0 : 0 ≤ i ∧ i ≤ w (2601 + k)) (iv1_1 : f_loop (f_cnS w k le) i (w (2601 + k)) n = f_cnL w k le) (iv1_2 : 0 ≤ n ∧ n ≤ i), ax_W E l d 0 0 iX4_countOf 5 [some (.inr 39), some (.inl k), some (.inl le), some (.inl n), some (.inl i)] [] SH M (ax_P (fun z0 M2 => z0 = some (.inl (f_cnL w k le)) ∧ M = M2 ∧ (0 ≤ f_cnL w k le ∧ f_cnL w k le ≤ 7))) := by
    intro kq2
    induction kq2 with
    | zero =>
      intro i n hm1 iv1_0 iv1_1 iv1_2
      exfalso
      omega
    | succ kq2 ih3 =>
      intro i n hm1 iv1_0 iv1_1 iv1_2
      refine ax_iload dX4_countOf_5 rfl (pc' := 7) rfl ?_
      refine ax_aload_n dX4_countOf_7 rfl rfl (pc' := 8) rfl ?_
      refine ax_getr (v := 48) dX4_countOf_8 flX4_28 rfl sh_39 rfl (pc' := 11) rfl ?_
      refine ax_iload_n dX4_countOf_11 rfl rfl (pc' := 12) rfl ?_
      refine ax_iald (v := (M 48) k) dX4_countOf_12 sh_48 rfl (by omega) (by omega) ((congrFun rfl k).trans rfl) (pc' := 13) rfl ?_
      refine ax_icmp_ge (tgt := 46) dX4_countOf_13 (by decide) (pc' := 16) rfl (fun h13 => ?_) (fun h13 => ?_)
      · refine ax_iload_n dX4_countOf_46 rfl rfl (pc' := 47) rfl ?_
        refine ax_iret dX4_countOf_47 rfl ?_
        refine ⟨rfl, ?_, ?_, ?_⟩
        · refine congrArg (fun z => some (Sum.inl z)) ?_
          exact (f_loop_done (by omega)).symm.trans iv1_1
        · rfl
        · rw [← iv1_1, f_loop_done (by omega)]
          omega
      · have q1 : M 47 (k * 7 + i) = w (2606 + 7 * k + i) := ql i (by omega) (by omega)
        refine ax_iload_n dX4_countOf_16 rfl rfl (pc' := 17) rfl ?_
        refine ax_aload_n dX4_countOf_17 rfl rfl (pc' := 18) rfl ?_
        refine ax_getr (v := 47) dX4_countOf_18 flX4_24 rfl sh_39 rfl (pc' := 21) rfl ?_
        refine ax_iload_n dX4_countOf_21 rfl rfl (pc' := 22) rfl ?_
        refine ax_bipush dX4_countOf_22 (by decide) (pc' := 24) rfl ?_
        refine ax_imul dX4_countOf_24 (by omega) (pc' := 25) rfl ?_
        refine ax_iload dX4_countOf_25 rfl (pc' := 27) rfl ?_
        refine ax_iadd dX4_countOf_27 (by omega) (pc' := 28) rfl ?_
        refine ax_iald (v := (M 47) (k * 7 + i)) dX4_countOf_28 sh_47 rfl (by omega) (by omega) ((congrFun rfl (k * 7 + i)).trans rfl) (pc' := 29) rfl ?_
        refine ax_iload_n dX4_countOf_29 rfl rfl (pc' := 30) rfl ?_
        refine ax_icmp_ne (tgt := 37) dX4_countOf_30 (by decide) (pc' := 33) rfl (fun h30 => ?_) (fun h30 => ?_)
        · have qv : f_cnS w k le i n = n + 0 := by
            unfold f_cnS f_b
            rw [if_neg (by omega)]
          refine ax_iconst dX4_countOf_37 (by decide) (pc' := 38) rfl ?_
          refine ax_iadd dX4_countOf_38 (by omega) (pc' := 39) rfl ?_
          refine ax_istore_n dX4_countOf_39 rfl (by decide) (ls' := [some (.inr 39), some (.inl k), some (.inl le), some (.inl (n + 0)), some (.inl i)]) rfl (pc' := 40) rfl ?_
          refine ax_iinc dX4_countOf_40 rfl (by decide) (by omega) (ls' := [some (.inr 39), some (.inl k), some (.inl le), some (.inl (n + 0)), some (.inl (i + 1))]) rfl (pc' := 43) rfl ?_
          refine ax_goto dX4_countOf_43 (pc' := 5) (by decide) ?_
          refine ih3 (i + 1) (n + 0) ?_ ?_ ?_ ?_
          · omega
          · omega
          · rw [← iv1_1, f_loop_step (lo := i) (by omega), qv]
          · omega
        · have qv : f_cnS w k le i n = n + 1 := by
            unfold f_cnS f_b
            rw [if_pos (by omega)]
          refine ax_iconst dX4_countOf_33 (by decide) (pc' := 34) rfl ?_
          refine ax_goto dX4_countOf_34 (pc' := 38) (by decide) ?_
          refine ax_iadd dX4_countOf_38 (by omega) (pc' := 39) rfl ?_
          refine ax_istore_n dX4_countOf_39 rfl (by decide) (ls' := [some (.inr 39), some (.inl k), some (.inl le), some (.inl (n + 1)), some (.inl i)]) rfl (pc' := 40) rfl ?_
          refine ax_iinc dX4_countOf_40 rfl (by decide) (by omega) (ls' := [some (.inr 39), some (.inl k), some (.inl le), some (.inl (n + 1)), some (.inl (i + 1))]) rfl (pc' := 43) rfl ?_
          refine ax_goto dX4_countOf_43 (pc' := 5) (by decide) ?_
          refine ih3 (i + 1) (n + 1) ?_ ?_ ?_ ?_
          · omega
          · omega
          · rw [← iv1_1, f_loop_step (lo := i) (by omega), qv]
          · omega
  refine LP1 (w (2601 + k) - 0 : Int).toNat.succ 0 0 ?_ ?_ ?_ ?_
  · omega
  · omega
  · rfl
  · omega
set_option maxRecDepth 20000 in
theorem s_X4_balanceOf (E : ax_Env) (l : Launch) (d : Nat) (hd : 1 ≤ d) (M : ax_Mem) (k : Int) (w : Int → Int) (hg0 : f_lt M 39 w) (hg1 : f_shp w) (hg2 : 0 ≤ k ∧ k < 4) : ax_G E l d iX4_balanceOf [.inr 39, .inl k] M (fun z0 M2 => z0 = some (.inl (f_mark w k 1)) ∧ M = M2) := by
  obtain ⟨d, rfl⟩ : ∃ d0, d = d0 + 1 := ⟨d - 1, by omega⟩
  refine ax_start rfl (Nat.le_of_ble_eq_true rfl) (ls := [some (.inr 39), some (.inl k)]) rfl (fun hav hcm => ?_)
  have hc1 : -2147483648 ≤ k ∧ k < 2147483648 := hav (.inl k) (by simp)
  clear hav
  have qc : M 48 k = w (2601 + k) := (hg0 k hg2.1 hg2.2).1
  have ql := (hg0 k hg2.1 hg2.2).2
  have qs := hg1 k hg2.1 hg2.2
  refine ax_aload_n dX4_balanceOf_0 rfl rfl (pc' := 1) rfl ?_
  refine ax_iload_n dX4_balanceOf_1 rfl rfl (pc' := 2) rfl ?_
  refine ax_iconst dX4_balanceOf_2 (by decide) (pc' := 3) rfl ?_
  refine ax_invG [.inl k, .inl 0] [] dX4_balanceOf_3 mlX4_81 sh_39 rfl rfl rfl (Nat.le_of_ble_eq_true rfl) (s_X4_countOf E l _ (by omega) _ k 0 w hg0 hg1 hg2) (pc' := 6) rfl (fun vv M_3 hq co3 hcm3 => ?_)
  obtain ⟨rfl, rfl, fa3_0⟩ := hq
  refine ax_reS (st2 := [.inl (f_cnL w k 0)]) rfl ?_
  have cc3 : -2147483648 ≤ f_cnL w k 0 ∧ f_cnL w k 0 < 2147483648 := co3 _ rfl
  refine ax_aload_n dX4_balanceOf_6 rfl rfl (pc' := 7) rfl ?_
  refine ax_iload_n dX4_balanceOf_7 rfl rfl (pc' := 8) rfl ?_
  refine ax_iconst dX4_balanceOf_8 (by decide) (pc' := 9) rfl ?_
  refine ax_invG [.inl k, .inl 1] [.inl (f_cnL w k 0)] dX4_balanceOf_9 mlX4_81 sh_39 rfl rfl rfl (Nat.le_of_ble_eq_true rfl) (s_X4_countOf E l _ (by omega) _ k 1 w hg0 hg1 hg2) (pc' := 12) rfl (fun vv M_9 hq co9 hcm9 => ?_)
  obtain ⟨rfl, rfl, fa9_0⟩ := hq
  refine ax_reS (st2 := [.inl (f_cnL w k 1), .inl (f_cnL w k 0)]) rfl ?_
  have cc9 : -2147483648 ≤ f_cnL w k 1 ∧ f_cnL w k 1 < 2147483648 := co9 _ rfl
  refine ax_isub dX4_balanceOf_12 (by omega) (pc' := 13) rfl ?_
  refine ax_iret dX4_balanceOf_13 rfl ?_
  refine ⟨rfl, ?_, ?_⟩
  · refine congrArg (fun z => some (Sum.inl z)) ?_
    exact (f_mark_1 qs.1.1).symm
  · rfl
set_option maxRecDepth 20000 in
theorem s_X4_twistsOf (E : ax_Env) (l : Launch) (d : Nat) (hd : 1 ≤ d) (M : ax_Mem) (k : Int) (w : Int → Int) (hg0 : f_lt M 39 w) (hg1 : f_shp w) (hg2 : 0 ≤ k ∧ k < 4) : ax_G E l d iX4_twistsOf [.inr 39, .inl k] M (fun z0 M2 => z0 = some (.inl (f_mark w k 2)) ∧ M = M2) := by
  obtain ⟨d, rfl⟩ : ∃ d0, d = d0 + 1 := ⟨d - 1, by omega⟩
  refine ax_start rfl (Nat.le_of_ble_eq_true rfl) (ls := [some (.inr 39), some (.inl k)]) rfl (fun hav hcm => ?_)
  have hc1 : -2147483648 ≤ k ∧ k < 2147483648 := hav (.inl k) (by simp)
  clear hav
  have qc : M 48 k = w (2601 + k) := (hg0 k hg2.1 hg2.2).1
  have ql := (hg0 k hg2.1 hg2.2).2
  have qs := hg1 k hg2.1 hg2.2
  refine ax_aload_n dX4_twistsOf_0 rfl rfl (pc' := 1) rfl ?_
  refine ax_iload_n dX4_twistsOf_1 rfl rfl (pc' := 2) rfl ?_
  refine ax_iconst dX4_twistsOf_2 (by decide) (pc' := 3) rfl ?_
  refine ax_invG [.inl k, .inl 2] [] dX4_twistsOf_3 mlX4_81 sh_39 rfl rfl rfl (Nat.le_of_ble_eq_true rfl) (s_X4_countOf E l _ (by omega) _ k 2 w hg0 hg1 hg2) (pc' := 6) rfl (fun vv M_3 hq co3 hcm3 => ?_)
  obtain ⟨rfl, rfl, fa3_0⟩ := hq
  refine ax_reS (st2 := [.inl (f_cnL w k 2)]) rfl ?_
  have cc3 : -2147483648 ≤ f_cnL w k 2 ∧ f_cnL w k 2 < 2147483648 := co3 _ rfl
  refine ax_iconst dX4_twistsOf_6 (by decide) (pc' := 7) rfl ?_
  refine ax_irem dX4_twistsOf_7 (by omega) (by omega) (pc' := 8) rfl ?_
  refine ax_iret dX4_twistsOf_8 rfl ?_
  refine ⟨rfl, ?_, ?_⟩
  · refine congrArg (fun z => some (Sum.inl z)) ?_
    exact (f_mark_2 qs.1.1 qs.2).symm
  · rfl
set_option maxRecDepth 20000 in
theorem s_X4_marksDiffer (E : ax_Env) (l : Launch) (d : Nat) (hd : 2 ≤ d) (M : ax_Mem) (x y : Int) (w : Int → Int) (hg0 : f_lt M 39 w) (hg1 : f_shp w) (hg2 : 0 ≤ x ∧ x < 4) (hg3 : 0 ≤ y ∧ y < 4) : ax_G E l d iX4_marksDiffer [.inr 39, .inl x, .inl y] M (fun z0 M2 => z0 = some (.inl (f_b (f_mark w x 1 ≠ f_mark w y 1 ∨ f_mark w x 2 ≠ f_mark w y 2))) ∧ M = M2) := by
  obtain ⟨d, rfl⟩ : ∃ d0, d = d0 + 1 := ⟨d - 1, by omega⟩
  refine ax_start rfl (Nat.le_of_ble_eq_true rfl) (ls := [some (.inr 39), some (.inl x), some (.inl y)]) rfl (fun hav hcm => ?_)
  have hc1 : -2147483648 ≤ x ∧ x < 2147483648 := hav (.inl x) (by simp)
  have hc2 : -2147483648 ≤ y ∧ y < 2147483648 := hav (.inl y) (by simp)
  clear hav
  refine ax_aload_n dX4_marksDiffer_0 rfl rfl (pc' := 1) rfl ?_
  refine ax_iload_n dX4_marksDiffer_1 rfl rfl (pc' := 2) rfl ?_
  refine ax_invG [.inl x] [] dX4_marksDiffer_2 mlX4_85 sh_39 rfl rfl rfl (Nat.le_of_ble_eq_true rfl) (s_X4_balanceOf E l _ (by omega) _ x w hg0 hg1 hg2) (pc' := 5) rfl (fun vv M_2 hq co2 hcm2 => ?_)
  obtain ⟨rfl, rfl⟩ := hq
  refine ax_reS (st2 := [.inl (f_mark w x 1)]) rfl ?_
  have cc2 : -2147483648 ≤ f_mark w x 1 ∧ f_mark w x 1 < 2147483648 := co2 _ rfl
  refine ax_aload_n dX4_marksDiffer_5 rfl rfl (pc' := 6) rfl ?_
  refine ax_iload_n dX4_marksDiffer_6 rfl rfl (pc' := 7) rfl ?_
  refine ax_invG [.inl y] [.inl (f_mark w x 1)] dX4_marksDiffer_7 mlX4_85 sh_39 rfl rfl rfl (Nat.le_of_ble_eq_true rfl) (s_X4_balanceOf E l _ (by omega) _ y w hg0 hg1 hg3) (pc' := 10) rfl (fun vv M_7 hq co7 hcm7 => ?_)
  obtain ⟨rfl, rfl⟩ := hq
  refine ax_reS (st2 := [.inl (f_mark w y 1), .inl (f_mark w x 1)]) rfl ?_
  have cc7 : -2147483648 ≤ f_mark w y 1 ∧ f_mark w y 1 < 2147483648 := co7 _ rfl
  refine ax_icmp_ne (tgt := 26) dX4_marksDiffer_10 (by decide) (pc' := 13) rfl (fun h10 => ?_) (fun h10 => ?_)
  · refine ax_iconst dX4_marksDiffer_26 (by decide) (pc' := 27) rfl ?_
    refine ax_goto dX4_marksDiffer_27 (pc' := 31) (by decide) ?_
    refine ax_zret dX4_marksDiffer_31 rfl (by decide) ?_
    refine ⟨rfl, ?_, ?_⟩
    · refine congrArg (fun z => some (Sum.inl z)) ?_
      unfold f_b
      split <;> first | rfl | (exfalso; omega)
    · rfl
  · refine ax_aload_n dX4_marksDiffer_13 rfl rfl (pc' := 14) rfl ?_
    refine ax_iload_n dX4_marksDiffer_14 rfl rfl (pc' := 15) rfl ?_
    refine ax_invG [.inl x] [] dX4_marksDiffer_15 mlX4_88 sh_39 rfl rfl rfl (Nat.le_of_ble_eq_true rfl) (s_X4_twistsOf E l _ (by omega) _ x w hg0 hg1 hg2) (pc' := 18) rfl (fun vv M_15 hq co15 hcm15 => ?_)
    obtain ⟨rfl, rfl⟩ := hq
    refine ax_reS (st2 := [.inl (f_mark w x 2)]) rfl ?_
    have cc15 : -2147483648 ≤ f_mark w x 2 ∧ f_mark w x 2 < 2147483648 := co15 _ rfl
    refine ax_aload_n dX4_marksDiffer_18 rfl rfl (pc' := 19) rfl ?_
    refine ax_iload_n dX4_marksDiffer_19 rfl rfl (pc' := 20) rfl ?_
    refine ax_invG [.inl y] [.inl (f_mark w x 2)] dX4_marksDiffer_20 mlX4_88 sh_39 rfl rfl rfl (Nat.le_of_ble_eq_true rfl) (s_X4_twistsOf E l _ (by omega) _ y w hg0 hg1 hg3) (pc' := 23) rfl (fun vv M_20 hq co20 hcm20 => ?_)
    obtain ⟨rfl, rfl⟩ := hq
    refine ax_reS (st2 := [.inl (f_mark w y 2), .inl (f_mark w x 2)]) rfl ?_
    have cc20 : -2147483648 ≤ f_mark w y 2 ∧ f_mark w y 2 < 2147483648 := co20 _ rfl
    refine ax_icmp_eq (tgt := 30) dX4_marksDiffer_23 (by decide) (pc' := 26) rfl (fun h23 => ?_) (fun h23 => ?_)
    · refine ax_iconst dX4_marksDiffer_30 (by decide) (pc' := 31) rfl ?_
      refine ax_zret dX4_marksDiffer_31 rfl (by decide) ?_
      refine ⟨rfl, ?_, ?_⟩
      · refine congrArg (fun z => some (Sum.inl z)) ?_
        unfold f_b
        split <;> first | rfl | (exfalso; omega)
      · rfl
    · refine ax_iconst dX4_marksDiffer_26 (by decide) (pc' := 27) rfl ?_
      refine ax_goto dX4_marksDiffer_27 (pc' := 31) (by decide) ?_
      refine ax_zret dX4_marksDiffer_31 rfl (by decide) ?_
      refine ⟨rfl, ?_, ?_⟩
      · refine congrArg (fun z => some (Sum.inl z)) ?_
        unfold f_b
        split <;> first | rfl | (exfalso; omega)
      · rfl
set_option maxRecDepth 20000 in
theorem s_X4_letterOf (E : ax_Env) (l : Launch) (d : Nat) (hd : 0 ≤ d) (M : ax_Mem) (k what : Int) (w : Int → Int) (hg0 : f_lt M 39 w) (hg1 : f_shp w) (hg2 : 0 ≤ k ∧ k < 4) : ax_G E l d iX4_letterOf [.inr 39, .inl k, .inl what] M (fun z0 M2 => z0 = some (.inl (if 10 ≤ what ∧ what ≤ 9 + w (2601 + k) then w (2606 + 7 * k + what - 10) else -100)) ∧ M = M2) := by
  refine ax_start rfl (Nat.le_of_ble_eq_true rfl) (ls := [some (.inr 39), some (.inl k), some (.inl what)]) rfl (fun hav hcm => ?_)
  have hc1 : -2147483648 ≤ k ∧ k < 2147483648 := hav (.inl k) (by simp)
  have hc2 : -2147483648 ≤ what ∧ what < 2147483648 := hav (.inl what) (by simp)
  clear hav
  have qc : M 48 k = w (2601 + k) := (hg0 k hg2.1 hg2.2).1
  have ql := (hg0 k hg2.1 hg2.2).2
  have qs := hg1 k hg2.1 hg2.2
  refine ax_iload_n dX4_letterOf_0 rfl rfl (pc' := 1) rfl ?_
  refine ax_bipush dX4_letterOf_1 (by decide) (pc' := 3) rfl ?_
  refine ax_icmp_lt (tgt := 19) dX4_letterOf_3 (by decide) (pc' := 6) rfl (fun h3 => ?_) (fun h3 => ?_)
  · refine ax_bipush dX4_letterOf_19 (by decide) (pc' := 21) rfl ?_
    refine ax_iret dX4_letterOf_21 rfl ?_
    refine ⟨rfl, ?_, ?_⟩
    · refine congrArg (fun z => some (Sum.inl z)) ?_
      rw [if_neg (by omega)]
    · rfl
  · refine ax_iload_n dX4_letterOf_6 rfl rfl (pc' := 7) rfl ?_
    refine ax_bipush dX4_letterOf_7 (by decide) (pc' := 9) rfl ?_
    refine ax_isub dX4_letterOf_9 (by omega) (pc' := 10) rfl ?_
    refine ax_aload_n dX4_letterOf_10 rfl rfl (pc' := 11) rfl ?_
    refine ax_getr (v := 48) dX4_letterOf_11 flX4_28 rfl sh_39 rfl (pc' := 14) rfl ?_
    refine ax_iload_n dX4_letterOf_14 rfl rfl (pc' := 15) rfl ?_
    refine ax_iald (v := (M 48) k) dX4_letterOf_15 sh_48 rfl (by omega) (by omega) ((congrFun rfl k).trans rfl) (pc' := 16) rfl ?_
    refine ax_icmp_lt (tgt := 22) dX4_letterOf_16 (by decide) (pc' := 19) rfl (fun h16 => ?_) (fun h16 => ?_)
    · have q1 : M 47 (k * 7 + (what - 10)) = w (2606 + 7 * k + (what - 10)) := ql (what - 10) (by omega) (by omega)
      refine ax_aload_n dX4_letterOf_22 rfl rfl (pc' := 23) rfl ?_
      refine ax_getr (v := 47) dX4_letterOf_23 flX4_24 rfl sh_39 rfl (pc' := 26) rfl ?_
      refine ax_iload_n dX4_letterOf_26 rfl rfl (pc' := 27) rfl ?_
      refine ax_bipush dX4_letterOf_27 (by decide) (pc' := 29) rfl ?_
      refine ax_imul dX4_letterOf_29 (by omega) (pc' := 30) rfl ?_
      refine ax_iload_n dX4_letterOf_30 rfl rfl (pc' := 31) rfl ?_
      refine ax_iadd dX4_letterOf_31 (by omega) (pc' := 32) rfl ?_
      refine ax_bipush dX4_letterOf_32 (by decide) (pc' := 34) rfl ?_
      refine ax_isub dX4_letterOf_34 (by omega) (pc' := 35) rfl ?_
      refine ax_iald (v := (M 47) (k * 7 + what - 10)) dX4_letterOf_35 sh_47 rfl (by omega) (by omega) ((congrFun rfl (k * 7 + what - 10)).trans rfl) (pc' := 36) rfl ?_
      refine ax_iret dX4_letterOf_36 rfl ?_
      refine ⟨rfl, ?_, ?_⟩
      · refine congrArg (fun z => some (Sum.inl z)) ?_
        rw [if_pos (by omega), show k * 7 + what - 10 = k * 7 + (what - 10) by omega, q1, show 2606 + 7 * k + (what - 10) = 2606 + 7 * k + what - 10 by omega]
      · rfl
    · refine ax_bipush dX4_letterOf_19 (by decide) (pc' := 21) rfl ?_
      refine ax_iret dX4_letterOf_21 rfl ?_
      refine ⟨rfl, ?_, ?_⟩
      · refine congrArg (fun z => some (Sum.inl z)) ?_
        rw [if_neg (by omega)]
      · rfl
set_option maxRecDepth 20000 in
theorem s_X11_shape (E : ax_Env) (l : Launch) (d : Nat) (hd : 2 ≤ d) (M : ax_Mem) (k what : Int) (w : Int → Int) (hg0 : f_lt M 39 w) (hg1 : f_shp w) : ax_G E l d iX11_shape [.inr 0, .inl k, .inl what] M (fun z0 M2 => z0 = some (.inl (F_shape w k what)) ∧ M = M2) := by
  obtain ⟨d, rfl⟩ : ∃ d0, d = d0 + 1 := ⟨d - 1, by omega⟩
  refine ax_start rfl (Nat.le_of_ble_eq_true rfl) (ls := [some (.inr 0), some (.inl k), some (.inl what)]) rfl (fun hav hcm => ?_)
  have hc1 : -2147483648 ≤ k ∧ k < 2147483648 := hav (.inl k) (by simp)
  have hc2 : -2147483648 ≤ what ∧ what < 2147483648 := hav (.inl what) (by simp)
  clear hav
  refine ax_iload_n dX11_shape_0 rfl rfl (pc' := 1) rfl ?_
  refine ax_iconst dX11_shape_1 (by decide) (pc' := 2) rfl ?_
  refine ax_insG [.inl k, .inl 4] [] dX11_shape_2 mlX11_114 rfl rfl (Nat.le_of_ble_eq_true rfl) (s_X11_isIn E l _ (by omega) _ k 4) (pc' := 5) rfl (fun vv M_2 hq co2 hcm2 => ?_)
  obtain ⟨rfl, rfl⟩ := hq
  refine ax_reS (st2 := [.inl (f_b (0 ≤ k ∧ k < 4))]) rfl ?_
  refine ax_if_ne (tgt := 11) dX11_shape_5 (by decide) (pc' := 8) rfl (fun h5 => ?_) (fun h5 => ?_)
  · replace h5 := f_b_1 h5
    have qc : M 48 k = w (2601 + k) := (hg0 k (by omega) (by omega)).1
    refine ax_iload_n dX11_shape_11 rfl rfl (pc' := 12) rfl ?_
    by_cases h12_0 : what = 0
    · refine ax_reS (st2 := [.inl 0]) (by rw [h12_0]) ?_
      refine ax_tabIn (tgt := 40) dX11_shape_12 (by decide) (by decide) rfl (by decide) ?_
      refine ax_aload_n dX11_shape_40 rfl rfl (pc' := 41) rfl ?_
      refine ax_getr (v := 39) dX11_shape_41 flX11_26 rfl sh_0 rfl (pc' := 44) rfl ?_
      refine ax_getr (v := 48) dX11_shape_44 flX11_361 rfl sh_39 rfl (pc' := 47) rfl ?_
      refine ax_iload_n dX11_shape_47 rfl rfl (pc' := 48) rfl ?_
      refine ax_iald (v := (M 48) k) dX11_shape_48 sh_48 rfl (by omega) (by omega) ((congrFun rfl k).trans rfl) (pc' := 49) rfl ?_
      refine ax_iret dX11_shape_49 rfl ?_
      refine ⟨rfl, ?_, ?_⟩
      · refine congrArg (fun z => some (Sum.inl z)) ?_
        unfold F_shape
        rw [if_neg (fun z => z ⟨by omega, by omega⟩), if_pos h12_0]
        exact qc
      · rfl
    by_cases h12_1 : what = 1
    · refine ax_reS (st2 := [.inl 1]) (by rw [h12_1]) ?_
      refine ax_tabIn (tgt := 50) dX11_shape_12 (by decide) (by decide) rfl (by decide) ?_
      refine ax_aload_n dX11_shape_50 rfl rfl (pc' := 51) rfl ?_
      refine ax_getr (v := 39) dX11_shape_51 flX11_26 rfl sh_0 rfl (pc' := 54) rfl ?_
      refine ax_iload_n dX11_shape_54 rfl rfl (pc' := 55) rfl ?_
      refine ax_invG [.inl k] [] dX11_shape_55 mlX11_364 sh_39 rfl rfl rfl (Nat.le_of_ble_eq_true rfl) (s_X4_balanceOf E l _ (by omega) _ k w hg0 hg1 ⟨by omega, by omega⟩) (pc' := 58) rfl (fun vv M_55 hq co55 hcm55 => ?_)
      obtain ⟨rfl, rfl⟩ := hq
      refine ax_reS (st2 := [.inl (f_mark w k 1)]) rfl ?_
      have cc55 : -2147483648 ≤ f_mark w k 1 ∧ f_mark w k 1 < 2147483648 := co55 _ rfl
      refine ax_iret dX11_shape_58 rfl ?_
      refine ⟨rfl, ?_, ?_⟩
      · refine congrArg (fun z => some (Sum.inl z)) ?_
        unfold F_shape
        rw [if_neg (fun z => z ⟨by omega, by omega⟩), if_neg h12_0, if_pos (by omega), h12_1]
      · rfl
    by_cases h12_2 : what = 2
    · refine ax_reS (st2 := [.inl 2]) (by rw [h12_2]) ?_
      refine ax_tabIn (tgt := 59) dX11_shape_12 (by decide) (by decide) rfl (by decide) ?_
      refine ax_aload_n dX11_shape_59 rfl rfl (pc' := 60) rfl ?_
      refine ax_getr (v := 39) dX11_shape_60 flX11_26 rfl sh_0 rfl (pc' := 63) rfl ?_
      refine ax_iload_n dX11_shape_63 rfl rfl (pc' := 64) rfl ?_
      refine ax_invG [.inl k] [] dX11_shape_64 mlX11_367 sh_39 rfl rfl rfl (Nat.le_of_ble_eq_true rfl) (s_X4_twistsOf E l _ (by omega) _ k w hg0 hg1 ⟨by omega, by omega⟩) (pc' := 67) rfl (fun vv M_64 hq co64 hcm64 => ?_)
      obtain ⟨rfl, rfl⟩ := hq
      refine ax_reS (st2 := [.inl (f_mark w k 2)]) rfl ?_
      have cc64 : -2147483648 ≤ f_mark w k 2 ∧ f_mark w k 2 < 2147483648 := co64 _ rfl
      refine ax_iret dX11_shape_67 rfl ?_
      refine ⟨rfl, ?_, ?_⟩
      · refine congrArg (fun z => some (Sum.inl z)) ?_
        unfold F_shape
        rw [if_neg (fun z => z ⟨by omega, by omega⟩), if_neg h12_0, if_pos (by omega), h12_2]
      · rfl
    refine ax_tabOut (tgt := 68) dX11_shape_12 (by omega) (by decide) ?_
    refine ax_aload_n dX11_shape_68 rfl rfl (pc' := 69) rfl ?_
    refine ax_getr (v := 39) dX11_shape_69 flX11_26 rfl sh_0 rfl (pc' := 72) rfl ?_
    refine ax_iload_n dX11_shape_72 rfl rfl (pc' := 73) rfl ?_
    refine ax_iload_n dX11_shape_73 rfl rfl (pc' := 74) rfl ?_
    refine ax_invG [.inl k, .inl what] [] dX11_shape_74 mlX11_370 sh_39 rfl rfl rfl (Nat.le_of_ble_eq_true rfl) (s_X4_letterOf E l _ (by omega) _ k what w hg0 hg1 ⟨by omega, by omega⟩) (pc' := 77) rfl (fun vv M_74 hq co74 hcm74 => ?_)
    obtain ⟨rfl, rfl⟩ := hq
    refine ax_reS (st2 := [.inl (if 10 ≤ what ∧ what ≤ 9 + w (2601 + k) then w (2606 + 7 * k + what - 10) else -100)]) rfl ?_
    have cc74 : -2147483648 ≤ (if 10 ≤ what ∧ what ≤ 9 + w (2601 + k) then w (2606 + 7 * k + what - 10) else -100) ∧ (if 10 ≤ what ∧ what ≤ 9 + w (2601 + k) then w (2606 + 7 * k + what - 10) else -100) < 2147483648 := co74 _ rfl
    refine ax_iret dX11_shape_77 rfl ?_
    refine ⟨rfl, ?_, ?_⟩
    · refine congrArg (fun z => some (Sum.inl z)) ?_
      unfold F_shape
      rw [if_neg (c := ¬ (0 ≤ k ∧ k ≤ 3)) (fun z => z ⟨by omega, by omega⟩), if_neg h12_0, if_neg (c := 1 ≤ what ∧ what ≤ 2) (by omega)]
    · rfl
  · replace h5 := f_b_0 h5
    refine ax_bipush dX11_shape_8 (by decide) (pc' := 10) rfl ?_
    refine ax_iret dX11_shape_10 rfl ?_
    refine ⟨rfl, ?_, ?_⟩
    · refine congrArg (fun z => some (Sum.inl z)) ?_
      unfold F_shape
      rw [if_pos (fun z => h5 ⟨z.1, by omega⟩)]
    · rfl
set_option maxRecDepth 20000 in
theorem s_X11_unlike (E : ax_Env) (l : Launch) (d : Nat) (hd : 3 ≤ d) (M : ax_Mem) (x y : Int) (w : Int → Int) (hg0 : f_lt M 39 w) (hg1 : f_shp w) : ax_G E l d iX11_unlike [.inr 0, .inl x, .inl y] M (fun z0 M2 => z0 = some (.inl (F_unlike w x y)) ∧ M = M2) := by
  obtain ⟨d, rfl⟩ : ∃ d0, d = d0 + 1 := ⟨d - 1, by omega⟩
  refine ax_start rfl (Nat.le_of_ble_eq_true rfl) (ls := [some (.inr 0), some (.inl x), some (.inl y)]) rfl (fun hav hcm => ?_)
  have hc1 : -2147483648 ≤ x ∧ x < 2147483648 := hav (.inl x) (by simp)
  have hc2 : -2147483648 ≤ y ∧ y < 2147483648 := hav (.inl y) (by simp)
  clear hav
  refine ax_iload_n dX11_unlike_0 rfl rfl (pc' := 1) rfl ?_
  refine ax_iconst dX11_unlike_1 (by decide) (pc' := 2) rfl ?_
  refine ax_insG [.inl x, .inl 4] [] dX11_unlike_2 mlX11_114 rfl rfl (Nat.le_of_ble_eq_true rfl) (s_X11_isIn E l _ (by omega) _ x 4) (pc' := 5) rfl (fun vv M_2 hq co2 hcm2 => ?_)
  obtain ⟨rfl, rfl⟩ := hq
  refine ax_reS (st2 := [.inl (f_b (0 ≤ x ∧ x < 4))]) rfl ?_
  refine ax_if_eq (tgt := 16) dX11_unlike_5 (by decide) (pc' := 8) rfl (fun h5 => ?_) (fun h5 => ?_)
  · replace h5 := f_b_0 h5
    refine ax_iconst dX11_unlike_16 (by decide) (pc' := 17) rfl ?_
    refine ax_iret dX11_unlike_17 rfl ?_
    refine ⟨rfl, ?_, ?_⟩
    · refine congrArg (fun z => some (Sum.inl z)) ?_
      unfold F_unlike
      rw [if_pos (fun z => by first | exact h5 ⟨z.1.1, by have := z.1.2; omega⟩ | exact h13 ⟨z.2.1, by have := z.2.2; omega⟩)]
    · rfl
  · replace h5 := f_b_1 h5
    refine ax_iload_n dX11_unlike_8 rfl rfl (pc' := 9) rfl ?_
    refine ax_iconst dX11_unlike_9 (by decide) (pc' := 10) rfl ?_
    refine ax_insG [.inl y, .inl 4] [] dX11_unlike_10 mlX11_114 rfl rfl (Nat.le_of_ble_eq_true rfl) (s_X11_isIn E l _ (by omega) _ y 4) (pc' := 13) rfl (fun vv M_10 hq co10 hcm10 => ?_)
    obtain ⟨rfl, rfl⟩ := hq
    refine ax_reS (st2 := [.inl (f_b (0 ≤ y ∧ y < 4))]) rfl ?_
    refine ax_if_ne (tgt := 18) dX11_unlike_13 (by decide) (pc' := 16) rfl (fun h13 => ?_) (fun h13 => ?_)
    · replace h13 := f_b_1 h13
      refine ax_aload_n dX11_unlike_18 rfl rfl (pc' := 19) rfl ?_
      refine ax_getr (v := 39) dX11_unlike_19 flX11_26 rfl sh_0 rfl (pc' := 22) rfl ?_
      refine ax_iload_n dX11_unlike_22 rfl rfl (pc' := 23) rfl ?_
      refine ax_iload_n dX11_unlike_23 rfl rfl (pc' := 24) rfl ?_
      refine ax_invG [.inl x, .inl y] [] dX11_unlike_24 mlX11_353 sh_39 rfl rfl rfl (Nat.le_of_ble_eq_true rfl) (s_X4_marksDiffer E l _ (by omega) _ x y w hg0 hg1 ⟨by omega, by omega⟩ ⟨by omega, by omega⟩) (pc' := 27) rfl (fun vv M_24 hq co24 hcm24 => ?_)
      obtain ⟨rfl, rfl⟩ := hq
      refine ax_reS (st2 := [.inl (f_b (f_mark w x 1 ≠ f_mark w y 1 ∨ f_mark w x 2 ≠ f_mark w y 2))]) rfl ?_
      refine ax_if_eq (tgt := 34) dX11_unlike_27 (by decide) (pc' := 30) rfl (fun h27 => ?_) (fun h27 => ?_)
      · replace h27 := f_b_0 h27
        refine ax_iconst dX11_unlike_34 (by decide) (pc' := 35) rfl ?_
        refine ax_iret dX11_unlike_35 rfl ?_
        refine ⟨rfl, ?_, ?_⟩
        · refine congrArg (fun z => some (Sum.inl z)) ?_
          unfold F_unlike f_b
          rw [if_neg (fun z => z ⟨⟨by omega, by omega⟩, by omega, by omega⟩)]
          first | rw [if_pos h27] | rw [if_neg h27]
        · rfl
      · replace h27 := f_b_1 h27
        refine ax_iconst dX11_unlike_30 (by decide) (pc' := 31) rfl ?_
        refine ax_goto dX11_unlike_31 (pc' := 35) (by decide) ?_
        refine ax_iret dX11_unlike_35 rfl ?_
        refine ⟨rfl, ?_, ?_⟩
        · refine congrArg (fun z => some (Sum.inl z)) ?_
          unfold F_unlike f_b
          rw [if_neg (fun z => z ⟨⟨by omega, by omega⟩, by omega, by omega⟩)]
          first | rw [if_pos h27] | rw [if_neg h27]
        · rfl
    · replace h13 := f_b_0 h13
      refine ax_iconst dX11_unlike_16 (by decide) (pc' := 17) rfl ?_
      refine ax_iret dX11_unlike_17 rfl ?_
      refine ⟨rfl, ?_, ?_⟩
      · refine congrArg (fun z => some (Sum.inl z)) ?_
        unfold F_unlike
        rw [if_pos (fun z => by first | exact h5 ⟨z.1.1, by have := z.1.2; omega⟩ | exact h13 ⟨z.2.1, by have := z.2.2; omega⟩)]
      · rfl
set_option maxRecDepth 20000 in
theorem s_X11_told_cl (E : ax_Env) (l : Launch) (d : Nat) (hd : 1 ≤ d) (M : ax_Mem) (k : Int) (w : Int → Int) (hg0 : f_tl M 39 w) (hg1 : 0 ≤ w 2577 ∧ w 2577 ≤ 6) : ax_G E l d iX11_told [.inr 0, .inl (-1), .inl k] M (fun z0 M2 => z0 = some (.inl 0) ∧ (∀ x0 i0 : Int, ¬ ((x0 = 39 ∧ i0 = 6)) → M2 x0 i0 = M x0 i0) ∧ (f_tl M2 39 (f_up w 2577 0))) := by
  obtain ⟨d, rfl⟩ : ∃ d0, d = d0 + 1 := ⟨d - 1, by omega⟩
  refine ax_start rfl (Nat.le_of_ble_eq_true rfl) (ls := [some (.inr 0), some (.inl (-1)), some (.inl k)]) rfl (fun hav hcm => ?_)
  have hc2 : -2147483648 ≤ k ∧ k < 2147483648 := hav (.inl k) (by simp)
  clear hav
  refine ax_iload_n dX11_told_0 rfl rfl (pc' := 1) rfl ?_
  refine ax_iconst dX11_told_1 (by decide) (pc' := 2) rfl ?_
  refine ax_icmp_ne (tgt := 15) dX11_told_2 (by decide) (pc' := 5) rfl (fun h2 => ?_) (fun h2 => ?_)
  · exfalso
    omega
  · refine ax_aload_n dX11_told_5 rfl rfl (pc' := 6) rfl ?_
    refine ax_getr (v := 39) dX11_told_6 flX11_26 rfl sh_0 rfl (pc' := 9) rfl ?_
    refine ax_iconst dX11_told_9 (by decide) (pc' := 10) rfl ?_
    refine ax_puti dX11_told_10 flX11_313 (Or.inl rfl) sh_39 rfl (pc' := 13) rfl ?_
    refine ax_iconst dX11_told_13 (by decide) (pc' := 14) rfl ?_
    refine ax_iret dX11_told_14 rfl ?_
    refine ⟨rfl, ?_, ?_, ?_⟩
    · rfl
    · intro x0 i0 hai
      exact (ax_up_miss (fun h => hai h) rfl)
    · refine ⟨Eq.trans (ax_up_hit _ _ _ _) (f_up_same _ _ _).symm, fun i i1 i2 => ?_⟩
      rw [f_up_same] at i2
      omega
set_option maxRecDepth 20000 in
theorem s_X11_told_no (E : ax_Env) (l : Launch) (d : Nat) (hd : 1 ≤ d) (M : ax_Mem) (f k : Int) (w : Int → Int) (hg0 : f_tl M 39 w) (hg1 : 0 ≤ w 2577 ∧ w 2577 ≤ 6) (hg2 : f ≠ -1 ∧ ¬ ((0 ≤ f ∧ f ≤ 99) ∧ (-1 ≤ k ∧ k ≤ 5) ∧ w 2577 ≠ 6)) : ax_G E l d iX11_told [.inr 0, .inl f, .inl k] M (fun z0 M2 => z0 = some (.inl (-1)) ∧ M = M2) := by
  obtain ⟨d, rfl⟩ : ∃ d0, d = d0 + 1 := ⟨d - 1, by omega⟩
  refine ax_start rfl (Nat.le_of_ble_eq_true rfl) (ls := [some (.inr 0), some (.inl f), some (.inl k)]) rfl (fun hav hcm => ?_)
  have hc1 : -2147483648 ≤ f ∧ f < 2147483648 := hav (.inl f) (by simp)
  have hc2 : -2147483648 ≤ k ∧ k < 2147483648 := hav (.inl k) (by simp)
  clear hav
  have qc : M 39 6 = w 2577 := hg0.1
  refine ax_iload_n dX11_told_0 rfl rfl (pc' := 1) rfl ?_
  refine ax_iconst dX11_told_1 (by decide) (pc' := 2) rfl ?_
  refine ax_icmp_ne (tgt := 15) dX11_told_2 (by decide) (pc' := 5) rfl (fun h2 => ?_) (fun h2 => ?_)
  · refine ax_iload_n dX11_told_15 rfl rfl (pc' := 16) rfl ?_
    refine ax_bipush dX11_told_16 (by decide) (pc' := 18) rfl ?_
    refine ax_insG [.inl f, .inl 100] [] dX11_told_18 mlX11_114 rfl rfl (Nat.le_of_ble_eq_true rfl) (s_X11_isIn E l _ (by omega) _ f 100) (pc' := 21) rfl (fun vv M_18 hq co18 hcm18 => ?_)
    obtain ⟨rfl, rfl⟩ := hq
    refine ax_reS (st2 := [.inl (f_b (0 ≤ f ∧ f < 100))]) rfl ?_
    refine ax_if_eq (tgt := 50) dX11_told_21 (by decide) (pc' := 24) rfl (fun h21 => ?_) (fun h21 => ?_)
    · replace h21 := f_b_0 h21
      refine ax_iconst dX11_told_50 (by decide) (pc' := 51) rfl ?_
      refine ax_iret dX11_told_51 rfl ?_
      refine ⟨rfl, ?_, ?_⟩
      · rfl
      · rfl
    · replace h21 := f_b_1 h21
      refine ax_iload_n dX11_told_24 rfl rfl (pc' := 25) rfl ?_
      refine ax_iconst dX11_told_25 (by decide) (pc' := 26) rfl ?_
      refine ax_icmp_eq (tgt := 38) dX11_told_26 (by decide) (pc' := 29) rfl (fun h26 => ?_) (fun h26 => ?_)
      · refine ax_aload_n dX11_told_38 rfl rfl (pc' := 39) rfl ?_
        refine ax_getr (v := 39) dX11_told_39 flX11_26 rfl sh_0 rfl (pc' := 42) rfl ?_
        refine ax_geti (v := M 39 6) dX11_told_42 flX11_313 rfl sh_39 rfl rfl (pc' := 45) rfl ?_
        refine ax_bipush dX11_told_45 (by decide) (pc' := 47) rfl ?_
        refine ax_icmp_lt (tgt := 52) dX11_told_47 (by decide) (pc' := 50) rfl (fun h47 => ?_) (fun h47 => ?_)
        · exfalso
          exact hg2.2 ⟨⟨by omega, by omega⟩, ⟨by omega, by omega⟩, by omega⟩
        · refine ax_iconst dX11_told_50 (by decide) (pc' := 51) rfl ?_
          refine ax_iret dX11_told_51 rfl ?_
          refine ⟨rfl, ?_, ?_⟩
          · rfl
          · rfl
      · refine ax_iload_n dX11_told_29 rfl rfl (pc' := 30) rfl ?_
        refine ax_bipush dX11_told_30 (by decide) (pc' := 32) rfl ?_
        refine ax_insG [.inl k, .inl 6] [] dX11_told_32 mlX11_114 rfl rfl (Nat.le_of_ble_eq_true rfl) (s_X11_isIn E l _ (by omega) _ k 6) (pc' := 35) rfl (fun vv M_32 hq co32 hcm32 => ?_)
        obtain ⟨rfl, rfl⟩ := hq
        refine ax_reS (st2 := [.inl (f_b (0 ≤ k ∧ k < 6))]) rfl ?_
        refine ax_if_eq (tgt := 50) dX11_told_35 (by decide) (pc' := 38) rfl (fun h35 => ?_) (fun h35 => ?_)
        · replace h35 := f_b_0 h35
          refine ax_iconst dX11_told_50 (by decide) (pc' := 51) rfl ?_
          refine ax_iret dX11_told_51 rfl ?_
          refine ⟨rfl, ?_, ?_⟩
          · rfl
          · rfl
        · replace h35 := f_b_1 h35
          refine ax_aload_n dX11_told_38 rfl rfl (pc' := 39) rfl ?_
          refine ax_getr (v := 39) dX11_told_39 flX11_26 rfl sh_0 rfl (pc' := 42) rfl ?_
          refine ax_geti (v := M 39 6) dX11_told_42 flX11_313 rfl sh_39 rfl rfl (pc' := 45) rfl ?_
          refine ax_bipush dX11_told_45 (by decide) (pc' := 47) rfl ?_
          refine ax_icmp_lt (tgt := 52) dX11_told_47 (by decide) (pc' := 50) rfl (fun h47 => ?_) (fun h47 => ?_)
          · exfalso
            exact hg2.2 ⟨⟨by omega, by omega⟩, ⟨by omega, by omega⟩, by omega⟩
          · refine ax_iconst dX11_told_50 (by decide) (pc' := 51) rfl ?_
            refine ax_iret dX11_told_51 rfl ?_
            refine ⟨rfl, ?_, ?_⟩
            · rfl
            · rfl
  · exfalso
    omega
set_option maxRecDepth 20000 in
theorem s_X11_told_ok (E : ax_Env) (l : Launch) (d : Nat) (hd : 1 ≤ d) (M : ax_Mem) (f k : Int) (w : Int → Int) (hg0 : f_tl M 39 w) (hg1 : 0 ≤ w 2577 ∧ w 2577 ≤ 6) (hg2 : (0 ≤ f ∧ f ≤ 99) ∧ (-1 ≤ k ∧ k ≤ 5) ∧ w 2577 ≠ 6) : ax_G E l d iX11_told [.inr 0, .inl f, .inl k] M (fun z0 M2 => z0 = some (.inl (w 2577 + 1)) ∧ (∀ x0 i0 : Int, ¬ (x0 = 49 ∨ x0 = 50 ∨ (x0 = 39 ∧ i0 = 6)) → M2 x0 i0 = M x0 i0) ∧ (f_tl M2 39 (f_up (f_up (f_up w (2580 + 2 * w 2577) f) (2580 + 2 * w 2577 + 1) k) 2577 (w 2577 + 1)))) := by
  obtain ⟨d, rfl⟩ : ∃ d0, d = d0 + 1 := ⟨d - 1, by omega⟩
  refine ax_start rfl (Nat.le_of_ble_eq_true rfl) (ls := [some (.inr 0), some (.inl f), some (.inl k)]) rfl (fun hav hcm => ?_)
  have hc1 : -2147483648 ≤ f ∧ f < 2147483648 := hav (.inl f) (by simp)
  have hc2 : -2147483648 ≤ k ∧ k < 2147483648 := hav (.inl k) (by simp)
  clear hav
  have qc : M 39 6 = w 2577 := hg0.1
  refine ax_iload_n dX11_told_0 rfl rfl (pc' := 1) rfl ?_
  refine ax_iconst dX11_told_1 (by decide) (pc' := 2) rfl ?_
  refine ax_icmp_ne (tgt := 15) dX11_told_2 (by decide) (pc' := 5) rfl (fun h2 => ?_) (fun h2 => ?_)
  · refine ax_iload_n dX11_told_15 rfl rfl (pc' := 16) rfl ?_
    refine ax_bipush dX11_told_16 (by decide) (pc' := 18) rfl ?_
    refine ax_insG [.inl f, .inl 100] [] dX11_told_18 mlX11_114 rfl rfl (Nat.le_of_ble_eq_true rfl) (s_X11_isIn E l _ (by omega) _ f 100) (pc' := 21) rfl (fun vv M_18 hq co18 hcm18 => ?_)
    obtain ⟨rfl, rfl⟩ := hq
    refine ax_reS (st2 := [.inl (f_b (0 ≤ f ∧ f < 100))]) rfl ?_
    refine ax_if_eq (tgt := 50) dX11_told_21 (by decide) (pc' := 24) rfl (fun h21 => ?_) (fun h21 => ?_)
    · replace h21 := f_b_0 h21
      exfalso
      exact h21 ⟨by omega, by omega⟩
    · replace h21 := f_b_1 h21
      refine ax_iload_n dX11_told_24 rfl rfl (pc' := 25) rfl ?_
      refine ax_iconst dX11_told_25 (by decide) (pc' := 26) rfl ?_
      refine ax_icmp_eq (tgt := 38) dX11_told_26 (by decide) (pc' := 29) rfl (fun h26 => ?_) (fun h26 => ?_)
      · refine ax_aload_n dX11_told_38 rfl rfl (pc' := 39) rfl ?_
        refine ax_getr (v := 39) dX11_told_39 flX11_26 rfl sh_0 rfl (pc' := 42) rfl ?_
        refine ax_geti (v := M 39 6) dX11_told_42 flX11_313 rfl sh_39 rfl rfl (pc' := 45) rfl ?_
        refine ax_bipush dX11_told_45 (by decide) (pc' := 47) rfl ?_
        refine ax_icmp_lt (tgt := 52) dX11_told_47 (by decide) (pc' := 50) rfl (fun h47 => ?_) (fun h47 => ?_)
        · refine ax_aload_n dX11_told_52 rfl rfl (pc' := 53) rfl ?_
          refine ax_getr (v := 39) dX11_told_53 flX11_26 rfl sh_0 rfl (pc' := 56) rfl ?_
          refine ax_getr (v := 49) dX11_told_56 flX11_316 rfl sh_39 rfl (pc' := 59) rfl ?_
          refine ax_aload_n dX11_told_59 rfl rfl (pc' := 60) rfl ?_
          refine ax_getr (v := 39) dX11_told_60 flX11_26 rfl sh_0 rfl (pc' := 63) rfl ?_
          refine ax_geti (v := M 39 6) dX11_told_63 flX11_313 rfl sh_39 rfl rfl (pc' := 66) rfl ?_
          refine ax_iload_n dX11_told_66 rfl rfl (pc' := 67) rfl ?_
          refine ax_iast dX11_told_67 sh_49 rfl (by omega) (by omega) (pc' := 68) rfl ?_
          refine ax_aload_n dX11_told_68 rfl rfl (pc' := 69) rfl ?_
          refine ax_getr (v := 39) dX11_told_69 flX11_26 rfl sh_0 rfl (pc' := 72) rfl ?_
          refine ax_getr (v := 50) dX11_told_72 flX11_319 rfl sh_39 rfl (pc' := 75) rfl ?_
          refine ax_aload_n dX11_told_75 rfl rfl (pc' := 76) rfl ?_
          refine ax_getr (v := 39) dX11_told_76 flX11_26 rfl sh_0 rfl (pc' := 79) rfl ?_
          refine ax_geti (v := M 39 6) dX11_told_79 flX11_313 rfl sh_39 (show (ax_up M 49 (M 39 6) f) 39 6 = M 39 6 from (ax_up_miss (fun h => absurd h.1 (by decide)) rfl)) rfl (pc' := 82) rfl ?_
          refine ax_iload_n dX11_told_82 rfl rfl (pc' := 83) rfl ?_
          refine ax_iast dX11_told_83 sh_50 rfl (by omega) (by omega) (pc' := 84) rfl ?_
          refine ax_aload_n dX11_told_84 rfl rfl (pc' := 85) rfl ?_
          refine ax_getr (v := 39) dX11_told_85 flX11_26 rfl sh_0 rfl (pc' := 88) rfl ?_
          refine ax_dup dX11_told_88 (pc' := 89) rfl ?_
          refine ax_geti (v := M 39 6) dX11_told_89 flX11_313 rfl sh_39 (show (ax_up (ax_up M 49 (M 39 6) f) 50 (M 39 6) k) 39 6 = M 39 6 from (ax_up_miss (fun h => absurd h.1 (by decide)) (ax_up_miss (fun h => absurd h.1 (by decide)) rfl))) rfl (pc' := 92) rfl ?_
          refine ax_iconst dX11_told_92 (by decide) (pc' := 93) rfl ?_
          refine ax_iadd dX11_told_93 (by omega) (pc' := 94) rfl ?_
          refine ax_puti dX11_told_94 flX11_313 (Or.inl rfl) sh_39 rfl (pc' := 97) rfl ?_
          refine ax_aload_n dX11_told_97 rfl rfl (pc' := 98) rfl ?_
          refine ax_getr (v := 39) dX11_told_98 flX11_26 rfl sh_0 rfl (pc' := 101) rfl ?_
          refine ax_geti (v := M 39 6 + 1) dX11_told_101 flX11_313 rfl sh_39 (show (ax_up (ax_up (ax_up M 49 (M 39 6) f) 50 (M 39 6) k) 39 6 (M 39 6 + 1)) 39 6 = M 39 6 + 1 from (ax_up_hit _ _ _ _)) rfl (pc' := 104) rfl ?_
          refine ax_iret dX11_told_104 rfl ?_
          refine ⟨rfl, ?_, ?_, ?_⟩
          · refine congrArg (fun z => some (Sum.inl z)) ?_
            omega
          · intro x0 i0 hai
            exact (ax_up_miss (fun h => hai (Or.inr (Or.inr h))) (ax_up_miss (fun h => hai (Or.inr (Or.inl h.1))) (ax_up_miss (fun h => hai (Or.inl h.1)) rfl)))
          · refine ⟨Eq.trans (ax_up_hit _ _ _ _) (by rw [f_up_same]; omega), fun i i1 i2 => ?_⟩
            rw [f_up_same] at i2
            show (ax_up (ax_up (ax_up M 49 (M 39 6) f) 50 (M 39 6) k) 39 6 (M 39 6 + 1)) 49 i = _ ∧ (ax_up (ax_up (ax_up M 49 (M 39 6) f) 50 (M 39 6) k) 39 6 (M 39 6 + 1)) 50 i = _
            rw [show (ax_up (ax_up (ax_up M 49 (M 39 6) f) 50 (M 39 6) k) 39 6 (M 39 6 + 1)) 49 = _ from (ax_up_rowmiss (by decide) (ax_up_rowmiss (by decide) (ax_up_rowhit rfl))), show (ax_up (ax_up (ax_up M 49 (M 39 6) f) 50 (M 39 6) k) 39 6 (M 39 6 + 1)) 50 = _ from (ax_up_rowmiss (by decide) (ax_up_rowhit (ax_up_rowmiss (by decide) rfl))), f_up_o (i := 2577) (by omega), f_up_o (i := 2577) (by omega)]
            by_cases h : i = w 2577
            · rw [h, qc, f_up_same, f_up_same, f_up_same, f_up_o (by omega), f_up_same]
              exact ⟨rfl, rfl⟩
            · rw [f_up_o (by omega), f_up_o (by omega), f_up_o (by omega), f_up_o (by omega), f_up_o (by omega), f_up_o (by omega)]
              exact hg0.2 i i1 (by omega)
        · exfalso
          omega
      · refine ax_iload_n dX11_told_29 rfl rfl (pc' := 30) rfl ?_
        refine ax_bipush dX11_told_30 (by decide) (pc' := 32) rfl ?_
        refine ax_insG [.inl k, .inl 6] [] dX11_told_32 mlX11_114 rfl rfl (Nat.le_of_ble_eq_true rfl) (s_X11_isIn E l _ (by omega) _ k 6) (pc' := 35) rfl (fun vv M_32 hq co32 hcm32 => ?_)
        obtain ⟨rfl, rfl⟩ := hq
        refine ax_reS (st2 := [.inl (f_b (0 ≤ k ∧ k < 6))]) rfl ?_
        refine ax_if_eq (tgt := 50) dX11_told_35 (by decide) (pc' := 38) rfl (fun h35 => ?_) (fun h35 => ?_)
        · replace h35 := f_b_0 h35
          exfalso
          exact h35 ⟨by omega, by omega⟩
        · replace h35 := f_b_1 h35
          refine ax_aload_n dX11_told_38 rfl rfl (pc' := 39) rfl ?_
          refine ax_getr (v := 39) dX11_told_39 flX11_26 rfl sh_0 rfl (pc' := 42) rfl ?_
          refine ax_geti (v := M 39 6) dX11_told_42 flX11_313 rfl sh_39 rfl rfl (pc' := 45) rfl ?_
          refine ax_bipush dX11_told_45 (by decide) (pc' := 47) rfl ?_
          refine ax_icmp_lt (tgt := 52) dX11_told_47 (by decide) (pc' := 50) rfl (fun h47 => ?_) (fun h47 => ?_)
          · refine ax_aload_n dX11_told_52 rfl rfl (pc' := 53) rfl ?_
            refine ax_getr (v := 39) dX11_told_53 flX11_26 rfl sh_0 rfl (pc' := 56) rfl ?_
            refine ax_getr (v := 49) dX11_told_56 flX11_316 rfl sh_39 rfl (pc' := 59) rfl ?_
            refine ax_aload_n dX11_told_59 rfl rfl (pc' := 60) rfl ?_
            refine ax_getr (v := 39) dX11_told_60 flX11_26 rfl sh_0 rfl (pc' := 63) rfl ?_
            refine ax_geti (v := M 39 6) dX11_told_63 flX11_313 rfl sh_39 rfl rfl (pc' := 66) rfl ?_
            refine ax_iload_n dX11_told_66 rfl rfl (pc' := 67) rfl ?_
            refine ax_iast dX11_told_67 sh_49 rfl (by omega) (by omega) (pc' := 68) rfl ?_
            refine ax_aload_n dX11_told_68 rfl rfl (pc' := 69) rfl ?_
            refine ax_getr (v := 39) dX11_told_69 flX11_26 rfl sh_0 rfl (pc' := 72) rfl ?_
            refine ax_getr (v := 50) dX11_told_72 flX11_319 rfl sh_39 rfl (pc' := 75) rfl ?_
            refine ax_aload_n dX11_told_75 rfl rfl (pc' := 76) rfl ?_
            refine ax_getr (v := 39) dX11_told_76 flX11_26 rfl sh_0 rfl (pc' := 79) rfl ?_
            refine ax_geti (v := M 39 6) dX11_told_79 flX11_313 rfl sh_39 (show (ax_up M 49 (M 39 6) f) 39 6 = M 39 6 from (ax_up_miss (fun h => absurd h.1 (by decide)) rfl)) rfl (pc' := 82) rfl ?_
            refine ax_iload_n dX11_told_82 rfl rfl (pc' := 83) rfl ?_
            refine ax_iast dX11_told_83 sh_50 rfl (by omega) (by omega) (pc' := 84) rfl ?_
            refine ax_aload_n dX11_told_84 rfl rfl (pc' := 85) rfl ?_
            refine ax_getr (v := 39) dX11_told_85 flX11_26 rfl sh_0 rfl (pc' := 88) rfl ?_
            refine ax_dup dX11_told_88 (pc' := 89) rfl ?_
            refine ax_geti (v := M 39 6) dX11_told_89 flX11_313 rfl sh_39 (show (ax_up (ax_up M 49 (M 39 6) f) 50 (M 39 6) k) 39 6 = M 39 6 from (ax_up_miss (fun h => absurd h.1 (by decide)) (ax_up_miss (fun h => absurd h.1 (by decide)) rfl))) rfl (pc' := 92) rfl ?_
            refine ax_iconst dX11_told_92 (by decide) (pc' := 93) rfl ?_
            refine ax_iadd dX11_told_93 (by omega) (pc' := 94) rfl ?_
            refine ax_puti dX11_told_94 flX11_313 (Or.inl rfl) sh_39 rfl (pc' := 97) rfl ?_
            refine ax_aload_n dX11_told_97 rfl rfl (pc' := 98) rfl ?_
            refine ax_getr (v := 39) dX11_told_98 flX11_26 rfl sh_0 rfl (pc' := 101) rfl ?_
            refine ax_geti (v := M 39 6 + 1) dX11_told_101 flX11_313 rfl sh_39 (show (ax_up (ax_up (ax_up M 49 (M 39 6) f) 50 (M 39 6) k) 39 6 (M 39 6 + 1)) 39 6 = M 39 6 + 1 from (ax_up_hit _ _ _ _)) rfl (pc' := 104) rfl ?_
            refine ax_iret dX11_told_104 rfl ?_
            refine ⟨rfl, ?_, ?_, ?_⟩
            · refine congrArg (fun z => some (Sum.inl z)) ?_
              omega
            · intro x0 i0 hai
              exact (ax_up_miss (fun h => hai (Or.inr (Or.inr h))) (ax_up_miss (fun h => hai (Or.inr (Or.inl h.1))) (ax_up_miss (fun h => hai (Or.inl h.1)) rfl)))
            · refine ⟨Eq.trans (ax_up_hit _ _ _ _) (by rw [f_up_same]; omega), fun i i1 i2 => ?_⟩
              rw [f_up_same] at i2
              show (ax_up (ax_up (ax_up M 49 (M 39 6) f) 50 (M 39 6) k) 39 6 (M 39 6 + 1)) 49 i = _ ∧ (ax_up (ax_up (ax_up M 49 (M 39 6) f) 50 (M 39 6) k) 39 6 (M 39 6 + 1)) 50 i = _
              rw [show (ax_up (ax_up (ax_up M 49 (M 39 6) f) 50 (M 39 6) k) 39 6 (M 39 6 + 1)) 49 = _ from (ax_up_rowmiss (by decide) (ax_up_rowmiss (by decide) (ax_up_rowhit rfl))), show (ax_up (ax_up (ax_up M 49 (M 39 6) f) 50 (M 39 6) k) 39 6 (M 39 6 + 1)) 50 = _ from (ax_up_rowmiss (by decide) (ax_up_rowhit (ax_up_rowmiss (by decide) rfl))), f_up_o (i := 2577) (by omega), f_up_o (i := 2577) (by omega)]
              by_cases h : i = w 2577
              · rw [h, qc, f_up_same, f_up_same, f_up_same, f_up_o (by omega), f_up_same]
                exact ⟨rfl, rfl⟩
              · rw [f_up_o (by omega), f_up_o (by omega), f_up_o (by omega), f_up_o (by omega), f_up_o (by omega), f_up_o (by omega)]
                exact hg0.2 i i1 (by omega)
          · exfalso
            omega
  · exfalso
    omega
set_option maxRecDepth 20000 in
theorem s_X11_order_cl (E : ax_Env) (l : Launch) (d : Nat) (hd : 0 ≤ d) (M : ax_Mem) (w : Int → Int) (hg0 : f_or M 39 w) (hg1 : 0 ≤ w 2578 ∧ w 2578 ≤ 7) : ax_G E l d iX11_order [.inr 0, .inl (-1)] M (fun z0 M2 => z0 = some (.inl 0) ∧ (∀ x0 i0 : Int, ¬ ((x0 = 39 ∧ i0 = 8)) → M2 x0 i0 = M x0 i0) ∧ (f_or M2 39 (f_up w 2578 0))) := by
  refine ax_start rfl (Nat.le_of_ble_eq_true rfl) (ls := [some (.inr 0), some (.inl (-1))]) rfl (fun hav hcm => ?_)
  clear hav
  refine ax_iload_n dX11_order_0 rfl rfl (pc' := 1) rfl ?_
  refine ax_iconst dX11_order_1 (by decide) (pc' := 2) rfl ?_
  refine ax_icmp_ne (tgt := 15) dX11_order_2 (by decide) (pc' := 5) rfl (fun h2 => ?_) (fun h2 => ?_)
  · exfalso
    omega
  · refine ax_aload_n dX11_order_5 rfl rfl (pc' := 6) rfl ?_
    refine ax_getr (v := 39) dX11_order_6 flX11_26 rfl sh_0 rfl (pc' := 9) rfl ?_
    refine ax_iconst dX11_order_9 (by decide) (pc' := 10) rfl ?_
    refine ax_puti dX11_order_10 flX11_337 (Or.inl rfl) sh_39 rfl (pc' := 13) rfl ?_
    refine ax_iconst dX11_order_13 (by decide) (pc' := 14) rfl ?_
    refine ax_iret dX11_order_14 rfl ?_
    refine ⟨rfl, ?_, ?_, ?_⟩
    · rfl
    · intro x0 i0 hai
      exact (ax_up_miss (fun h => hai h) rfl)
    · refine ⟨Eq.trans (ax_up_hit _ _ _ _) (f_up_same _ _ _).symm, fun i i1 i2 => ?_⟩
      rw [f_up_same] at i2
      omega
set_option maxRecDepth 20000 in
theorem s_X11_order_no (E : ax_Env) (l : Launch) (d : Nat) (hd : 0 ≤ d) (M : ax_Mem) (n : Int) (w : Int → Int) (hg0 : f_or M 39 w) (hg1 : 0 ≤ w 2578 ∧ w 2578 ≤ 7) (hg2 : n ≠ -1 ∧ ¬ ((1 ≤ n ∧ n ≤ 24) ∧ w 2578 ≠ 7)) : ax_G E l d iX11_order [.inr 0, .inl n] M (fun z0 M2 => z0 = some (.inl (-1)) ∧ M = M2) := by
  refine ax_start rfl (Nat.le_of_ble_eq_true rfl) (ls := [some (.inr 0), some (.inl n)]) rfl (fun hav hcm => ?_)
  have hc1 : -2147483648 ≤ n ∧ n < 2147483648 := hav (.inl n) (by simp)
  clear hav
  have qc : M 39 8 = w 2578 := hg0.1
  refine ax_iload_n dX11_order_0 rfl rfl (pc' := 1) rfl ?_
  refine ax_iconst dX11_order_1 (by decide) (pc' := 2) rfl ?_
  refine ax_icmp_ne (tgt := 15) dX11_order_2 (by decide) (pc' := 5) rfl (fun h2 => ?_) (fun h2 => ?_)
  · refine ax_iload_n dX11_order_15 rfl rfl (pc' := 16) rfl ?_
    refine ax_iconst dX11_order_16 (by decide) (pc' := 17) rfl ?_
    refine ax_icmp_lt (tgt := 38) dX11_order_17 (by decide) (pc' := 20) rfl (fun h17 => ?_) (fun h17 => ?_)
    · refine ax_iconst dX11_order_38 (by decide) (pc' := 39) rfl ?_
      refine ax_iret dX11_order_39 rfl ?_
      refine ⟨rfl, ?_, ?_⟩
      · rfl
      · rfl
    · refine ax_iload_n dX11_order_20 rfl rfl (pc' := 21) rfl ?_
      refine ax_bipush dX11_order_21 (by decide) (pc' := 23) rfl ?_
      refine ax_icmp_gt (tgt := 38) dX11_order_23 (by decide) (pc' := 26) rfl (fun h23 => ?_) (fun h23 => ?_)
      · refine ax_iconst dX11_order_38 (by decide) (pc' := 39) rfl ?_
        refine ax_iret dX11_order_39 rfl ?_
        refine ⟨rfl, ?_, ?_⟩
        · rfl
        · rfl
      · refine ax_aload_n dX11_order_26 rfl rfl (pc' := 27) rfl ?_
        refine ax_getr (v := 39) dX11_order_27 flX11_26 rfl sh_0 rfl (pc' := 30) rfl ?_
        refine ax_geti (v := M 39 8) dX11_order_30 flX11_337 rfl sh_39 rfl rfl (pc' := 33) rfl ?_
        refine ax_bipush dX11_order_33 (by decide) (pc' := 35) rfl ?_
        refine ax_icmp_lt (tgt := 40) dX11_order_35 (by decide) (pc' := 38) rfl (fun h35 => ?_) (fun h35 => ?_)
        · exfalso
          exact hg2.2 ⟨⟨by omega, by omega⟩, by omega⟩
        · refine ax_iconst dX11_order_38 (by decide) (pc' := 39) rfl ?_
          refine ax_iret dX11_order_39 rfl ?_
          refine ⟨rfl, ?_, ?_⟩
          · rfl
          · rfl
  · exfalso
    omega
set_option maxRecDepth 20000 in
theorem s_X11_order_ok (E : ax_Env) (l : Launch) (d : Nat) (hd : 0 ≤ d) (M : ax_Mem) (n : Int) (w : Int → Int) (hg0 : f_or M 39 w) (hg1 : 0 ≤ w 2578 ∧ w 2578 ≤ 7) (hg2 : (1 ≤ n ∧ n ≤ 24) ∧ w 2578 ≠ 7) : ax_G E l d iX11_order [.inr 0, .inl n] M (fun z0 M2 => z0 = some (.inl (w 2578 + 1)) ∧ (∀ x0 i0 : Int, ¬ (x0 = 51 ∨ (x0 = 39 ∧ i0 = 8)) → M2 x0 i0 = M x0 i0) ∧ (f_or M2 39 (f_up (f_up w (2592 + w 2578) n) 2578 (w 2578 + 1)))) := by
  refine ax_start rfl (Nat.le_of_ble_eq_true rfl) (ls := [some (.inr 0), some (.inl n)]) rfl (fun hav hcm => ?_)
  have hc1 : -2147483648 ≤ n ∧ n < 2147483648 := hav (.inl n) (by simp)
  clear hav
  have qc : M 39 8 = w 2578 := hg0.1
  refine ax_iload_n dX11_order_0 rfl rfl (pc' := 1) rfl ?_
  refine ax_iconst dX11_order_1 (by decide) (pc' := 2) rfl ?_
  refine ax_icmp_ne (tgt := 15) dX11_order_2 (by decide) (pc' := 5) rfl (fun h2 => ?_) (fun h2 => ?_)
  · refine ax_iload_n dX11_order_15 rfl rfl (pc' := 16) rfl ?_
    refine ax_iconst dX11_order_16 (by decide) (pc' := 17) rfl ?_
    refine ax_icmp_lt (tgt := 38) dX11_order_17 (by decide) (pc' := 20) rfl (fun h17 => ?_) (fun h17 => ?_)
    · exfalso
      omega
    · refine ax_iload_n dX11_order_20 rfl rfl (pc' := 21) rfl ?_
      refine ax_bipush dX11_order_21 (by decide) (pc' := 23) rfl ?_
      refine ax_icmp_gt (tgt := 38) dX11_order_23 (by decide) (pc' := 26) rfl (fun h23 => ?_) (fun h23 => ?_)
      · exfalso
        omega
      · refine ax_aload_n dX11_order_26 rfl rfl (pc' := 27) rfl ?_
        refine ax_getr (v := 39) dX11_order_27 flX11_26 rfl sh_0 rfl (pc' := 30) rfl ?_
        refine ax_geti (v := M 39 8) dX11_order_30 flX11_337 rfl sh_39 rfl rfl (pc' := 33) rfl ?_
        refine ax_bipush dX11_order_33 (by decide) (pc' := 35) rfl ?_
        refine ax_icmp_lt (tgt := 40) dX11_order_35 (by decide) (pc' := 38) rfl (fun h35 => ?_) (fun h35 => ?_)
        · refine ax_aload_n dX11_order_40 rfl rfl (pc' := 41) rfl ?_
          refine ax_getr (v := 39) dX11_order_41 flX11_26 rfl sh_0 rfl (pc' := 44) rfl ?_
          refine ax_getr (v := 51) dX11_order_44 flX11_340 rfl sh_39 rfl (pc' := 47) rfl ?_
          refine ax_aload_n dX11_order_47 rfl rfl (pc' := 48) rfl ?_
          refine ax_getr (v := 39) dX11_order_48 flX11_26 rfl sh_0 rfl (pc' := 51) rfl ?_
          refine ax_geti (v := M 39 8) dX11_order_51 flX11_337 rfl sh_39 rfl rfl (pc' := 54) rfl ?_
          refine ax_iload_n dX11_order_54 rfl rfl (pc' := 55) rfl ?_
          refine ax_iast dX11_order_55 sh_51 rfl (by omega) (by omega) (pc' := 56) rfl ?_
          refine ax_aload_n dX11_order_56 rfl rfl (pc' := 57) rfl ?_
          refine ax_getr (v := 39) dX11_order_57 flX11_26 rfl sh_0 rfl (pc' := 60) rfl ?_
          refine ax_dup dX11_order_60 (pc' := 61) rfl ?_
          refine ax_geti (v := M 39 8) dX11_order_61 flX11_337 rfl sh_39 (show (ax_up M 51 (M 39 8) n) 39 8 = M 39 8 from (ax_up_miss (fun h => absurd h.1 (by decide)) rfl)) rfl (pc' := 64) rfl ?_
          refine ax_iconst dX11_order_64 (by decide) (pc' := 65) rfl ?_
          refine ax_iadd dX11_order_65 (by omega) (pc' := 66) rfl ?_
          refine ax_puti dX11_order_66 flX11_337 (Or.inl rfl) sh_39 rfl (pc' := 69) rfl ?_
          refine ax_aload_n dX11_order_69 rfl rfl (pc' := 70) rfl ?_
          refine ax_getr (v := 39) dX11_order_70 flX11_26 rfl sh_0 rfl (pc' := 73) rfl ?_
          refine ax_geti (v := M 39 8 + 1) dX11_order_73 flX11_337 rfl sh_39 (show (ax_up (ax_up M 51 (M 39 8) n) 39 8 (M 39 8 + 1)) 39 8 = M 39 8 + 1 from (ax_up_hit _ _ _ _)) rfl (pc' := 76) rfl ?_
          refine ax_iret dX11_order_76 rfl ?_
          refine ⟨rfl, ?_, ?_, ?_⟩
          · refine congrArg (fun z => some (Sum.inl z)) ?_
            omega
          · intro x0 i0 hai
            exact (ax_up_miss (fun h => hai (Or.inr h)) (ax_up_miss (fun h => hai (Or.inl h.1)) rfl))
          · refine ⟨Eq.trans (ax_up_hit _ _ _ _) (by rw [f_up_same]; omega), fun i i1 i2 => ?_⟩
            rw [f_up_same] at i2
            show (ax_up (ax_up M 51 (M 39 8) n) 39 8 (M 39 8 + 1)) 51 i = _
            rw [show (ax_up (ax_up M 51 (M 39 8) n) 39 8 (M 39 8 + 1)) 51 = _ from (ax_up_rowmiss (by decide) (ax_up_rowhit rfl)), f_up_o (i := 2578) (by omega)]
            by_cases h : i = w 2578
            · rw [h, qc, f_up_same, f_up_same]
            · rw [f_up_o (by omega), f_up_o (by omega)]
              exact hg0.2 i i1 (by omega)
        · exfalso
          omega
  · exfalso
    omega
