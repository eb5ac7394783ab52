/-! the reference, on: what is told and looked at -/
def f_all (w : Int → Int) (r : Int) : Int := f_loop (fun p v => v + f_habs w r p) 0 (f_R w r 1) 0
def f_set (w : Int → Int) : Int := f_loop (fun r s => ax_or s (ax_shl (f_R w r 0) r)) 0 8 0
theorem f_habs_rg {w : Int → Int} {r p : Int} (hr : 0 ≤ r ∧ r < 8) (hp : 0 ≤ p ∧ p < 24) (h : f_rg w) : 0 ≤ f_habs w r p ∧ f_habs w r p ≤ 594 := by
  have key : ∀ (n : Nat) (lo x : Int), (n : Int) = 6 - lo → 0 ≤ lo → 0 ≤ x ∧ x ≤ 99 * lo → 0 ≤ f_loop (fun k v => v + f_P w r p (1 + k)) lo 6 x ∧ f_loop (fun k v => v + f_P w r p (1 + k)) lo 6 x ≤ 594 := by
    intro n
    induction n with
    | zero =>
      intro lo x h1 h2 h3
      rw [f_loop_done (by omega)]
      omega
    | succ n ih =>
      intro lo x h1 h2 h3
      have hh := f_rgH (k := lo) h hr hp (by omega)
      rw [f_loop_step (by omega)]
      exact ih (lo + 1) _ (by omega) (by omega) (by omega)
  exact key 6 0 0 (by omega) (by omega) (by omega)
def F_of (w : Int → Int) (r what : Int) : Int := if what = 0 then f_R w r 1 else if what = 1 then f_R w r 2 else if what = 2 then f_R w r 3 else if what = 3 then f_R w r 4 else if what = 4 then f_tied w r else if what = 5 then f_all w r else -1
def F_look (w : Int → Int) (m what : Int) : Int := if what = 0 then f_set w else if what = 1 then w 0 else if what = 2 then w 2576 else if what = 3 then w 1 else if what = 4 then w 2 else if what = 5 then w 2634 else if what = 6 then w 2635 else if what = 7 then w 2636 else if what = 8 then w 2600 else if what = 9 then m else if what = 10 then w 2577 else if what = 11 then w 2578 else if 20 ≤ what ∧ what ≤ 25 then w (2564 + what - 20) else if 30 ≤ what ∧ what ≤ 35 then w (2570 + what - 30) else -1
def F_book (w : Int → Int) (x what : Int) : Int := if (0 ≤ x ∧ x ≤ w 1 - 1) ∧ 0 ≤ what ∧ what ≤ 5 then w (2640 + 6 * x + what) else -2
def f_mk1 (w : Int → Int) (k : Int) (x v : Int) : Int := v + (if w (2606 + 7 * k + x) = 0 then 1 else if w (2606 + 7 * k + x) = 1 then -1 else 0)
def f_mk2 (w : Int → Int) (k : Int) (x v : Int) : Int := ax_xor v (w (2606 + 7 * k + x) / 2)
def f_mark (w : Int → Int) (k what : Int) : Int := if what = 2 then f_loop (f_mk2 w k) 0 (w (2601 + k)) 0 else f_loop (f_mk1 w k) 0 (w (2601 + k)) 0
def F_shape (w : Int → Int) (k what : Int) : Int := if ¬ (0 ≤ k ∧ k ≤ 3) then -100 else if what = 0 then w (2601 + k) else if 1 ≤ what ∧ what ≤ 2 then f_mark w k what else if 10 ≤ what ∧ what ≤ 9 + w (2601 + k) then w (2606 + 7 * k + what - 10) else -100
def F_unlike (w : Int → Int) (x y : Int) : Int := if ¬ ((0 ≤ x ∧ x ≤ 3) ∧ 0 ≤ y ∧ y ≤ 3) then -1 else f_b (f_mark w x 1 ≠ f_mark w y 1 ∨ f_mark w x 2 ≠ f_mark w y 2)
/-- shapes are shapes -/
def f_shp (w : Int → Int) : Prop := ∀ k, 0 ≤ k → k < 4 → (0 ≤ w (2601 + k) ∧ w (2601 + k) ≤ 7) ∧ ∀ x, 0 ≤ x → x < w (2601 + k) → 0 ≤ w (2606 + 7 * k + x) ∧ w (2606 + 7 * k + x) ≤ 2
def f_whH (w : Int → Int) (r p x h : Int) : Int := if w (2640 + 6 * x + 1) = r ∧ w (2640 + 6 * x + 2) = p ∧ w (2640 + 6 * x + 4) = 0 then w (2640 + 6 * x + 5) else h
def f_whS (w : Int → Int) (r x s : Int) : Int := if w (2640 + 6 * x + 1) = r ∧ w (2640 + 6 * x + 4) = 5 then s + 1 else s
def F_whose (w : Int → Int) (r p what : Int) : Int := if (0 ≤ r ∧ r ≤ 7) ∧ (0 ≤ what ∧ what ≤ 1) ∧ (what = 0 → 0 ≤ p ∧ p ≤ 23) then (if what = 0 then f_loop (f_whH w r p) 0 (w 1) (-1) else f_loop (f_whS w r) 0 (w 1) 0) else -2
set_option maxRecDepth 20000 in
theorem s_X12_rope_no (E : ax_Env) (l : Launch) (d : Nat) (hd : 3 ≤ d) (M : ax_Mem) (n ow : Int) {w : Int → Int} (hw : M 331 = w) (hg0 : ¬ (f_free w ≠ -1 ∧ (2 ≤ n ∧ n ≤ 24) ∧ 0 ≤ ow ∧ ow ≤ 9)) : ax_G E l d iX12_rope [.inr 330, .inl n, .inl ow] M (fun z0 M2 => z0 = some (.inl (-1)) ∧ M = M2) := by
  obtain ⟨d, rfl⟩ : ∃ d0, d = d0 + 1 := ⟨d - 1, by omega⟩
  refine ax_start rfl (Nat.le_of_ble_eq_true rfl) (ls := [some (.inr 330), some (.inl n), some (.inl ow), none]) rfl (fun hav hcm => ?_)
  have hc1 : -2147483648 ≤ n ∧ n < 2147483648 := hav (.inl n) (by simp)
  have hc2 : -2147483648 ≤ ow ∧ ow < 2147483648 := hav (.inl ow) (by simp)
  clear hav
  have qa1 := f_free_rg (w := w)
  refine ax_aload_n dX12_rope_0 rfl rfl (pc' := 1) rfl ?_
  refine ax_invG [] [] dX12_rope_1 mlX12_110 sh_330 rfl rfl rfl (Nat.le_of_ble_eq_true rfl) (s_X12_freeRope E l _ (by omega) _ hw) (pc' := 4) rfl (fun vv M_1 hq co1 hcm1 => ?_)
  obtain ⟨rfl, rfl⟩ := hq
  refine ax_reS (st2 := [.inl (f_free w)]) rfl ?_
  have cc1 : -2147483648 ≤ f_free w ∧ f_free w < 2147483648 := co1 _ rfl
  refine ax_istore_n dX12_rope_4 rfl (by decide) (ls' := [some (.inr 330), some (.inl n), some (.inl ow), some (.inl (f_free w))]) rfl (pc' := 5) rfl ?_
  refine ax_iload_n dX12_rope_5 rfl rfl (pc' := 6) rfl ?_
  refine ax_iconst dX12_rope_6 (by decide) (pc' := 7) rfl ?_
  refine ax_icmp_eq (tgt := 30) dX12_rope_7 (by decide) (pc' := 10) rfl (fun h7 => ?_) (fun h7 => ?_)
  · refine ax_iconst dX12_rope_30 (by decide) (pc' := 31) rfl ?_
    refine ax_iret dX12_rope_31 rfl ?_
    refine ⟨rfl, ?_, ?_⟩
    · rfl
    · rfl
  · refine ax_iload_n dX12_rope_10 rfl rfl (pc' := 11) rfl ?_
    refine ax_iconst dX12_rope_11 (by decide) (pc' := 12) rfl ?_
    refine ax_bipush dX12_rope_12 (by decide) (pc' := 14) rfl ?_
    refine ax_insG [.inl n, .inl 2, .inl 24] [] dX12_rope_14 mlX12_74 rfl rfl (Nat.le_of_ble_eq_true rfl) (s_X12_isIn E l _ (by omega) _ n 2 24) (pc' := 17) rfl (fun vv M_14 hq co14 hcm14 => ?_)
    obtain ⟨rfl, rfl⟩ := hq
    refine ax_reS (st2 := [.inl (f_b (2 ≤ n ∧ n ≤ 24))]) rfl ?_
    refine ax_if_eq (tgt := 30) dX12_rope_17 (by decide) (pc' := 20) rfl (fun h17 => ?_) (fun h17 => ?_)
    · replace h17 := f_b_0 h17
      refine ax_iconst dX12_rope_30 (by decide) (pc' := 31) rfl ?_
      refine ax_iret dX12_rope_31 rfl ?_
      refine ⟨rfl, ?_, ?_⟩
      · rfl
      · rfl
    · replace h17 := f_b_1 h17
      refine ax_iload_n dX12_rope_20 rfl rfl (pc' := 21) rfl ?_
      refine ax_iconst dX12_rope_21 (by decide) (pc' := 22) rfl ?_
      refine ax_bipush dX12_rope_22 (by decide) (pc' := 24) rfl ?_
      refine ax_insG [.inl ow, .inl 0, .inl 9] [] dX12_rope_24 mlX12_74 rfl rfl (Nat.le_of_ble_eq_true rfl) (s_X12_isIn E l _ (by omega) _ ow 0 9) (pc' := 27) rfl (fun vv M_24 hq co24 hcm24 => ?_)
      obtain ⟨rfl, rfl⟩ := hq
      refine ax_reS (st2 := [.inl (f_b (0 ≤ ow ∧ ow ≤ 9))]) rfl ?_
      refine ax_if_ne (tgt := 32) dX12_rope_27 (by decide) (pc' := 30) rfl (fun h27 => ?_) (fun h27 => ?_)
      · replace h27 := f_b_1 h27
        exfalso
        omega
      · replace h27 := f_b_0 h27
        refine ax_iconst dX12_rope_30 (by decide) (pc' := 31) rfl ?_
        refine ax_iret dX12_rope_31 rfl ?_
        refine ⟨rfl, ?_, ?_⟩
        · rfl
        · rfl
set_option maxRecDepth 20000 in
theorem s_X12_rope_ok (E : ax_Env) (l : Launch) (d : Nat) (hd : 3 ≤ d) (M : ax_Mem) (n ow : Int) {w : Int → Int} (hw : M 331 = w) (hg0 : f_free w ≠ -1 ∧ (2 ≤ n ∧ n ≤ 24) ∧ 0 ≤ ow ∧ ow ≤ 9) : ax_G E l d iX12_rope [.inr 330, .inl n, .inl ow] M (fun z0 M2 => z0 = some (.inl (f_free w)) ∧ (∀ x0 i0 : Int, ¬ (x0 = 331 ∨ (x0 = 330 ∧ i0 = 4)) → M2 x0 i0 = M x0 i0) ∧ M2 331 = f_beg w (f_free w) n ow (w 0) 0 ∧ M2 330 4 = 0) := by
  obtain ⟨d, rfl⟩ : ∃ d0, d = d0 + 1 := ⟨d - 1, by omega⟩
  refine ax_start rfl (Nat.le_of_ble_eq_true rfl) (ls := [some (.inr 330), some (.inl n), some (.inl ow), none]) rfl (fun hav hcm => ?_)
  have hc1 : -2147483648 ≤ n ∧ n < 2147483648 := hav (.inl n) (by simp)
  have hc2 : -2147483648 ≤ ow ∧ ow < 2147483648 := hav (.inl ow) (by simp)
  clear hav
  have qa1 := f_free_rg (w := w)
  refine ax_aload_n dX12_rope_0 rfl rfl (pc' := 1) rfl ?_
  refine ax_invG [] [] dX12_rope_1 mlX12_110 sh_330 rfl rfl rfl (Nat.le_of_ble_eq_true rfl) (s_X12_freeRope E l _ (by omega) _ hw) (pc' := 4) rfl (fun vv M_1 hq co1 hcm1 => ?_)
  obtain ⟨rfl, rfl⟩ := hq
  refine ax_reS (st2 := [.inl (f_free w)]) rfl ?_
  have cc1 : -2147483648 ≤ f_free w ∧ f_free w < 2147483648 := co1 _ rfl
  refine ax_istore_n dX12_rope_4 rfl (by decide) (ls' := [some (.inr 330), some (.inl n), some (.inl ow), some (.inl (f_free w))]) rfl (pc' := 5) rfl ?_
  refine ax_iload_n dX12_rope_5 rfl rfl (pc' := 6) rfl ?_
  refine ax_iconst dX12_rope_6 (by decide) (pc' := 7) rfl ?_
  refine ax_icmp_eq (tgt := 30) dX12_rope_7 (by decide) (pc' := 10) rfl (fun h7 => ?_) (fun h7 => ?_)
  · exfalso
    omega
  · refine ax_iload_n dX12_rope_10 rfl rfl (pc' := 11) rfl ?_
    refine ax_iconst dX12_rope_11 (by decide) (pc' := 12) rfl ?_
    refine ax_bipush dX12_rope_12 (by decide) (pc' := 14) rfl ?_
    refine ax_insG [.inl n, .inl 2, .inl 24] [] dX12_rope_14 mlX12_74 rfl rfl (Nat.le_of_ble_eq_true rfl) (s_X12_isIn E l _ (by omega) _ n 2 24) (pc' := 17) rfl (fun vv M_14 hq co14 hcm14 => ?_)
    obtain ⟨rfl, rfl⟩ := hq
    refine ax_reS (st2 := [.inl (f_b (2 ≤ n ∧ n ≤ 24))]) rfl ?_
    refine ax_if_eq (tgt := 30) dX12_rope_17 (by decide) (pc' := 20) rfl (fun h17 => ?_) (fun h17 => ?_)
    · replace h17 := f_b_0 h17
      exfalso
      omega
    · replace h17 := f_b_1 h17
      refine ax_iload_n dX12_rope_20 rfl rfl (pc' := 21) rfl ?_
      refine ax_iconst dX12_rope_21 (by decide) (pc' := 22) rfl ?_
      refine ax_bipush dX12_rope_22 (by decide) (pc' := 24) rfl ?_
      refine ax_insG [.inl ow, .inl 0, .inl 9] [] dX12_rope_24 mlX12_74 rfl rfl (Nat.le_of_ble_eq_true rfl) (s_X12_isIn E l _ (by omega) _ ow 0 9) (pc' := 27) rfl (fun vv M_24 hq co24 hcm24 => ?_)
      obtain ⟨rfl, rfl⟩ := hq
      refine ax_reS (st2 := [.inl (f_b (0 ≤ ow ∧ ow ≤ 9))]) rfl ?_
      refine ax_if_ne (tgt := 32) dX12_rope_27 (by decide) (pc' := 30) rfl (fun h27 => ?_) (fun h27 => ?_)
      · replace h27 := f_b_1 h27
        refine ax_aload_n dX12_rope_32 rfl rfl (pc' := 33) rfl ?_
        refine ax_iload_n dX12_rope_33 rfl rfl (pc' := 34) rfl ?_
        refine ax_iload_n dX12_rope_34 rfl rfl (pc' := 35) rfl ?_
        refine ax_iload_n dX12_rope_35 rfl rfl (pc' := 36) rfl ?_
        refine ax_aload_n dX12_rope_36 rfl rfl (pc' := 37) rfl ?_
        refine ax_getr (v := 331) dX12_rope_37 flX12_7 rfl sh_330 rfl (pc' := 40) rfl ?_
        refine ax_iconst dX12_rope_40 (by decide) (pc' := 41) rfl ?_
        refine ax_iald (v := w 0) dX12_rope_41 sh_331 rfl (by omega) (by omega) ((congrFun hw 0).trans rfl) (pc' := 42) rfl ?_
        refine ax_iconst dX12_rope_42 (by decide) (pc' := 43) rfl ?_
        refine ax_invG [.inl (f_free w), .inl n, .inl ow, .inl (w 0), .inl 0] [] dX12_rope_43 mlX12_114 sh_330 rfl rfl rfl (Nat.le_of_ble_eq_true rfl) (s_X12_begins E l _ (by omega) _ (f_free w) n ow (w 0) 0 hw (by first | omega | assumption)) (pc' := 46) rfl (fun vv M_43 hq co43 hcm43 => ?_)
        obtain ⟨rfl, frM_43, mrM_43_0⟩ := hq
        refine ax_reS (st2 := []) rfl ?_
        refine ax_aload_n dX12_rope_46 rfl rfl (pc' := 47) rfl ?_
        refine ax_invG [] [] dX12_rope_47 mlX12_93 sh_330 rfl rfl rfl (Nat.le_of_ble_eq_true rfl) (s_X12_forgets E l _ (by omega) _ ) (pc' := 50) rfl (fun vv M_47 hq co47 hcm47 => ?_)
        obtain ⟨rfl, frM_47, msM_47_0⟩ := hq
        refine ax_reS (st2 := []) rfl ?_
        refine ax_iload_n dX12_rope_50 rfl rfl (pc' := 51) rfl ?_
        refine ax_iret dX12_rope_51 rfl ?_
        refine ⟨rfl, ?_, ?_, ?_, ?_⟩
        · rfl
        · intro x0 i0 hai
          exact ((frM_47 x0 i0 (by omega)).trans ((frM_43 x0 i0 (by omega)).trans rfl))
        · exact ((funext fun i0 => frM_47 331 i0 (by omega)).trans mrM_43_0)
        · exact msM_47_0
      · replace h27 := f_b_0 h27
        exfalso
        omega
set_option maxRecDepth 20000 in
theorem s_X12_set_0 (E : ax_Env) (l : Launch) (d : Nat) (hd : 2 ≤ d) (M : ax_Mem) (what who v : Int) {w : Int → Int} (hw : M 331 = w) (hg0 : what = 0 ∧ (0 ≤ who ∧ who ≤ 5) ∧ 1 ≤ v ∧ v ≤ 9) : ax_G E l d iX12_set [.inr 330, .inl what, .inl who, .inl v] M (fun z0 M2 => z0 = some (.inl 1) ∧ (∀ x0 i0 : Int, ¬ (x0 = 331 ∨ (x0 = 330 ∧ i0 = 4)) → M2 x0 i0 = M x0 i0) ∧ M2 331 = f_up w (2564 + who) v ∧ M2 330 4 = 0) := by
  obtain ⟨d, rfl⟩ : ∃ d0, d = d0 + 1 := ⟨d - 1, by omega⟩
  refine ax_start rfl (Nat.le_of_ble_eq_true rfl) (ls := [some (.inr 330), some (.inl what), some (.inl who), some (.inl v)]) rfl (fun hav hcm => ?_)
  have hc1 : -2147483648 ≤ what ∧ what < 2147483648 := hav (.inl what) (by simp)
  have hc2 : -2147483648 ≤ who ∧ who < 2147483648 := hav (.inl who) (by simp)
  have hc3 : -2147483648 ≤ v ∧ v < 2147483648 := hav (.inl v) (by simp)
  clear hav
  refine ax_iload_n dX12_set_0 rfl rfl (pc' := 1) rfl ?_
  refine ax_if_ne (tgt := 35) dX12_set_1 (by decide) (pc' := 4) rfl (fun h1 => ?_) (fun h1 => ?_)
  · exfalso
    omega
  · refine ax_iload_n dX12_set_4 rfl rfl (pc' := 5) rfl ?_
    refine ax_insG [.inl who] [] dX12_set_5 mlX12_117 rfl rfl (Nat.le_of_ble_eq_true rfl) (s_X12_isKnot E l _ (by omega) _ who) (pc' := 8) rfl (fun vv M_5 hq co5 hcm5 => ?_)
    obtain ⟨rfl, rfl⟩ := hq
    refine ax_reS (st2 := [.inl (f_b (0 ≤ who ∧ who ≤ 5))]) rfl ?_
    refine ax_if_eq (tgt := 35) dX12_set_8 (by decide) (pc' := 11) rfl (fun h8 => ?_) (fun h8 => ?_)
    · replace h8 := f_b_0 h8
      exfalso
      omega
    · replace h8 := f_b_1 h8
      refine ax_iload_n dX12_set_11 rfl rfl (pc' := 12) rfl ?_
      refine ax_iconst dX12_set_12 (by decide) (pc' := 13) rfl ?_
      refine ax_bipush dX12_set_13 (by decide) (pc' := 15) rfl ?_
      refine ax_insG [.inl v, .inl 1, .inl 9] [] dX12_set_15 mlX12_74 rfl rfl (Nat.le_of_ble_eq_true rfl) (s_X12_isIn E l _ (by omega) _ v 1 9) (pc' := 18) rfl (fun vv M_15 hq co15 hcm15 => ?_)
      obtain ⟨rfl, rfl⟩ := hq
      refine ax_reS (st2 := [.inl (f_b (1 ≤ v ∧ v ≤ 9))]) rfl ?_
      refine ax_if_eq (tgt := 35) dX12_set_18 (by decide) (pc' := 21) rfl (fun h18 => ?_) (fun h18 => ?_)
      · replace h18 := f_b_0 h18
        exfalso
        omega
      · replace h18 := f_b_1 h18
        refine ax_aload_n dX12_set_21 rfl rfl (pc' := 22) rfl ?_
        refine ax_getr (v := 331) dX12_set_22 flX12_7 rfl sh_330 rfl (pc' := 25) rfl ?_
        refine ax_sipush dX12_set_25 (by decide) (pc' := 28) rfl ?_
        refine ax_iload_n dX12_set_28 rfl rfl (pc' := 29) rfl ?_
        refine ax_iadd dX12_set_29 (by omega) (pc' := 30) rfl ?_
        refine ax_iload_n dX12_set_30 rfl rfl (pc' := 31) rfl ?_
        refine ax_iast dX12_set_31 sh_331 rfl (by omega) (by omega) (pc' := 32) rfl ?_
        refine ax_goto dX12_set_32 (pc' := 101) (by decide) ?_
        refine ax_aload_n dX12_set_101 rfl rfl (pc' := 102) rfl ?_
        refine ax_invG [] [] dX12_set_102 mlX12_93 sh_330 rfl rfl rfl (Nat.le_of_ble_eq_true rfl) (s_X12_forgets E l _ (by omega) _ ) (pc' := 105) rfl (fun vv M_102 hq co102 hcm102 => ?_)
        obtain ⟨rfl, frM_102, msM_102_0⟩ := hq
        refine ax_reS (st2 := []) rfl ?_
        refine ax_iconst dX12_set_105 (by decide) (pc' := 106) rfl ?_
        refine ax_zret dX12_set_106 rfl (by decide) ?_
        refine ⟨rfl, ?_, ?_, ?_, ?_⟩
        · rfl
        · intro x0 i0 hai
          exact ((frM_102 x0 i0 (by omega)).trans (ax_up_miss (by omega) rfl))
        · exact ((funext fun i0 => frM_102 331 i0 (by omega)).trans (ax_up_rowhit hw))
        · exact msM_102_0
set_option maxRecDepth 20000 in
theorem s_X12_set_1 (E : ax_Env) (l : Launch) (d : Nat) (hd : 2 ≤ d) (M : ax_Mem) (what who v : Int) {w : Int → Int} (hw : M 331 = w) (hg0 : what = 1 ∧ (0 ≤ who ∧ who ≤ 5) ∧ 0 ≤ v ∧ v ≤ 9) : ax_G E l d iX12_set [.inr 330, .inl what, .inl who, .inl v] M (fun z0 M2 => z0 = some (.inl 1) ∧ (∀ x0 i0 : Int, ¬ (x0 = 331 ∨ (x0 = 330 ∧ i0 = 4)) → M2 x0 i0 = M x0 i0) ∧ M2 331 = f_up w (2570 + who) v ∧ M2 330 4 = 0) := by
  obtain ⟨d, rfl⟩ : ∃ d0, d = d0 + 1 := ⟨d - 1, by omega⟩
  refine ax_start rfl (Nat.le_of_ble_eq_true rfl) (ls := [some (.inr 330), some (.inl what), some (.inl who), some (.inl v)]) rfl (fun hav hcm => ?_)
  have hc1 : -2147483648 ≤ what ∧ what < 2147483648 := hav (.inl what) (by simp)
  have hc2 : -2147483648 ≤ who ∧ who < 2147483648 := hav (.inl who) (by simp)
  have hc3 : -2147483648 ≤ v ∧ v < 2147483648 := hav (.inl v) (by simp)
  clear hav
  refine ax_iload_n dX12_set_0 rfl rfl (pc' := 1) rfl ?_
  refine ax_if_ne (tgt := 35) dX12_set_1 (by decide) (pc' := 4) rfl (fun h1 => ?_) (fun h1 => ?_)
  · refine ax_iload_n dX12_set_35 rfl rfl (pc' := 36) rfl ?_
    refine ax_iconst dX12_set_36 (by decide) (pc' := 37) rfl ?_
    refine ax_icmp_ne (tgt := 71) dX12_set_37 (by decide) (pc' := 40) rfl (fun h37 => ?_) (fun h37 => ?_)
    · exfalso
      omega
    · refine ax_iload_n dX12_set_40 rfl rfl (pc' := 41) rfl ?_
      refine ax_insG [.inl who] [] dX12_set_41 mlX12_117 rfl rfl (Nat.le_of_ble_eq_true rfl) (s_X12_isKnot E l _ (by omega) _ who) (pc' := 44) rfl (fun vv M_41 hq co41 hcm41 => ?_)
      obtain ⟨rfl, rfl⟩ := hq
      refine ax_reS (st2 := [.inl (f_b (0 ≤ who ∧ who ≤ 5))]) rfl ?_
      refine ax_if_eq (tgt := 71) dX12_set_44 (by decide) (pc' := 47) rfl (fun h44 => ?_) (fun h44 => ?_)
      · replace h44 := f_b_0 h44
        exfalso
        omega
      · replace h44 := f_b_1 h44
        refine ax_iload_n dX12_set_47 rfl rfl (pc' := 48) rfl ?_
        refine ax_iconst dX12_set_48 (by decide) (pc' := 49) rfl ?_
        refine ax_bipush dX12_set_49 (by decide) (pc' := 51) rfl ?_
        refine ax_insG [.inl v, .inl 0, .inl 9] [] dX12_set_51 mlX12_74 rfl rfl (Nat.le_of_ble_eq_true rfl) (s_X12_isIn E l _ (by omega) _ v 0 9) (pc' := 54) rfl (fun vv M_51 hq co51 hcm51 => ?_)
        obtain ⟨rfl, rfl⟩ := hq
        refine ax_reS (st2 := [.inl (f_b (0 ≤ v ∧ v ≤ 9))]) rfl ?_
        refine ax_if_eq (tgt := 71) dX12_set_54 (by decide) (pc' := 57) rfl (fun h54 => ?_) (fun h54 => ?_)
        · replace h54 := f_b_0 h54
          exfalso
          omega
        · replace h54 := f_b_1 h54
          refine ax_aload_n dX12_set_57 rfl rfl (pc' := 58) rfl ?_
          refine ax_getr (v := 331) dX12_set_58 flX12_7 rfl sh_330 rfl (pc' := 61) rfl ?_
          refine ax_sipush dX12_set_61 (by decide) (pc' := 64) rfl ?_
          refine ax_iload_n dX12_set_64 rfl rfl (pc' := 65) rfl ?_
          refine ax_iadd dX12_set_65 (by omega) (pc' := 66) rfl ?_
          refine ax_iload_n dX12_set_66 rfl rfl (pc' := 67) rfl ?_
          refine ax_iast dX12_set_67 sh_331 rfl (by omega) (by omega) (pc' := 68) rfl ?_
          refine ax_goto dX12_set_68 (pc' := 101) (by decide) ?_
          refine ax_aload_n dX12_set_101 rfl rfl (pc' := 102) rfl ?_
          refine ax_invG [] [] dX12_set_102 mlX12_93 sh_330 rfl rfl rfl (Nat.le_of_ble_eq_true rfl) (s_X12_forgets E l _ (by omega) _ ) (pc' := 105) rfl (fun vv M_102 hq co102 hcm102 => ?_)
          obtain ⟨rfl, frM_102, msM_102_0⟩ := hq
          refine ax_reS (st2 := []) rfl ?_
          refine ax_iconst dX12_set_105 (by decide) (pc' := 106) rfl ?_
          refine ax_zret dX12_set_106 rfl (by decide) ?_
          refine ⟨rfl, ?_, ?_, ?_, ?_⟩
          · rfl
          · intro x0 i0 hai
            exact ((frM_102 x0 i0 (by omega)).trans (ax_up_miss (by omega) rfl))
          · exact ((funext fun i0 => frM_102 331 i0 (by omega)).trans (ax_up_rowhit hw))
          · exact msM_102_0
  · exfalso
    omega
set_option maxRecDepth 20000 in
theorem s_X12_set_2 (E : ax_Env) (l : Launch) (d : Nat) (hd : 2 ≤ d) (M : ax_Mem) (what who v : Int) {w : Int → Int} (hw : M 331 = w) (hg0 : what = 2 ∧ 0 ≤ v ∧ v ≤ 1000) : ax_G E l d iX12_set [.inr 330, .inl what, .inl who, .inl v] M (fun z0 M2 => z0 = some (.inl 1) ∧ (∀ x0 i0 : Int, ¬ (x0 = 331 ∨ (x0 = 330 ∧ i0 = 4)) → M2 x0 i0 = M x0 i0) ∧ M2 331 = f_up w 2576 v ∧ M2 330 4 = 0) := by
  obtain ⟨d, rfl⟩ : ∃ d0, d = d0 + 1 := ⟨d - 1, by omega⟩
  refine ax_start rfl (Nat.le_of_ble_eq_true rfl) (ls := [some (.inr 330), some (.inl what), some (.inl who), some (.inl v)]) rfl (fun hav hcm => ?_)
  have hc1 : -2147483648 ≤ what ∧ what < 2147483648 := hav (.inl what) (by simp)
  have hc2 : -2147483648 ≤ who ∧ who < 2147483648 := hav (.inl who) (by simp)
  have hc3 : -2147483648 ≤ v ∧ v < 2147483648 := hav (.inl v) (by simp)
  clear hav
  refine ax_iload_n dX12_set_0 rfl rfl (pc' := 1) rfl ?_
  refine ax_if_ne (tgt := 35) dX12_set_1 (by decide) (pc' := 4) rfl (fun h1 => ?_) (fun h1 => ?_)
  · refine ax_iload_n dX12_set_35 rfl rfl (pc' := 36) rfl ?_
    refine ax_iconst dX12_set_36 (by decide) (pc' := 37) rfl ?_
    refine ax_icmp_ne (tgt := 71) dX12_set_37 (by decide) (pc' := 40) rfl (fun h37 => ?_) (fun h37 => ?_)
    · refine ax_iload_n dX12_set_71 rfl rfl (pc' := 72) rfl ?_
      refine ax_iconst dX12_set_72 (by decide) (pc' := 73) rfl ?_
      refine ax_icmp_ne (tgt := 99) dX12_set_73 (by decide) (pc' := 76) rfl (fun h73 => ?_) (fun h73 => ?_)
      · exfalso
        omega
      · refine ax_iload_n dX12_set_76 rfl rfl (pc' := 77) rfl ?_
        refine ax_iconst dX12_set_77 (by decide) (pc' := 78) rfl ?_
        refine ax_sipush dX12_set_78 (by decide) (pc' := 81) rfl ?_
        refine ax_insG [.inl v, .inl 0, .inl 1000] [] dX12_set_81 mlX12_74 rfl rfl (Nat.le_of_ble_eq_true rfl) (s_X12_isIn E l _ (by omega) _ v 0 1000) (pc' := 84) rfl (fun vv M_81 hq co81 hcm81 => ?_)
        obtain ⟨rfl, rfl⟩ := hq
        refine ax_reS (st2 := [.inl (f_b (0 ≤ v ∧ v ≤ 1000))]) rfl ?_
        refine ax_if_eq (tgt := 99) dX12_set_84 (by decide) (pc' := 87) rfl (fun h84 => ?_) (fun h84 => ?_)
        · replace h84 := f_b_0 h84
          exfalso
          omega
        · replace h84 := f_b_1 h84
          refine ax_aload_n dX12_set_87 rfl rfl (pc' := 88) rfl ?_
          refine ax_getr (v := 331) dX12_set_88 flX12_7 rfl sh_330 rfl (pc' := 91) rfl ?_
          refine ax_sipush dX12_set_91 (by decide) (pc' := 94) rfl ?_
          refine ax_iload_n dX12_set_94 rfl rfl (pc' := 95) rfl ?_
          refine ax_iast dX12_set_95 sh_331 rfl (by omega) (by omega) (pc' := 96) rfl ?_
          refine ax_goto dX12_set_96 (pc' := 101) (by decide) ?_
          refine ax_aload_n dX12_set_101 rfl rfl (pc' := 102) rfl ?_
          refine ax_invG [] [] dX12_set_102 mlX12_93 sh_330 rfl rfl rfl (Nat.le_of_ble_eq_true rfl) (s_X12_forgets E l _ (by omega) _ ) (pc' := 105) rfl (fun vv M_102 hq co102 hcm102 => ?_)
          obtain ⟨rfl, frM_102, msM_102_0⟩ := hq
          refine ax_reS (st2 := []) rfl ?_
          refine ax_iconst dX12_set_105 (by decide) (pc' := 106) rfl ?_
          refine ax_zret dX12_set_106 rfl (by decide) ?_
          refine ⟨rfl, ?_, ?_, ?_, ?_⟩
          · rfl
          · intro x0 i0 hai
            exact ((frM_102 x0 i0 (by omega)).trans (ax_up_miss (by omega) rfl))
          · exact ((funext fun i0 => frM_102 331 i0 (by omega)).trans (ax_up_rowhit hw))
          · exact msM_102_0
    · exfalso
      omega
  · exfalso
    omega
set_option maxRecDepth 20000 in
theorem s_X12_set_no (E : ax_Env) (l : Launch) (d : Nat) (hd : 2 ≤ d) (M : ax_Mem) (what who v : Int) {w : Int → Int} (hw : M 331 = w) (hg0 : ¬ (what = 0 ∧ (0 ≤ who ∧ who ≤ 5) ∧ 1 ≤ v ∧ v ≤ 9)) (hg1 : ¬ (what = 1 ∧ (0 ≤ who ∧ who ≤ 5) ∧ 0 ≤ v ∧ v ≤ 9)) (hg2 : ¬ (what = 2 ∧ 0 ≤ v ∧ v ≤ 1000)) : ax_G E l d iX12_set [.inr 330, .inl what, .inl who, .inl v] M (fun z0 M2 => z0 = some (.inl 0) ∧ M = M2) := by
  obtain ⟨d, rfl⟩ : ∃ d0, d = d0 + 1 := ⟨d - 1, by omega⟩
  refine ax_start rfl (Nat.le_of_ble_eq_true rfl) (ls := [some (.inr 330), some (.inl what), some (.inl who), some (.inl v)]) rfl (fun hav hcm => ?_)
  have hc1 : -2147483648 ≤ what ∧ what < 2147483648 := hav (.inl what) (by simp)
  have hc2 : -2147483648 ≤ who ∧ who < 2147483648 := hav (.inl who) (by simp)
  have hc3 : -2147483648 ≤ v ∧ v < 2147483648 := hav (.inl v) (by simp)
  clear hav
  refine ax_iload_n dX12_set_0 rfl rfl (pc' := 1) rfl ?_
  refine ax_if_ne (tgt := 35) dX12_set_1 (by decide) (pc' := 4) rfl (fun h1 => ?_) (fun h1 => ?_)
  · refine ax_iload_n dX12_set_35 rfl rfl (pc' := 36) rfl ?_
    refine ax_iconst dX12_set_36 (by decide) (pc' := 37) rfl ?_
    refine ax_icmp_ne (tgt := 71) dX12_set_37 (by decide) (pc' := 40) rfl (fun h37 => ?_) (fun h37 => ?_)
    · refine ax_iload_n dX12_set_71 rfl rfl (pc' := 72) rfl ?_
      refine ax_iconst dX12_set_72 (by decide) (pc' := 73) rfl ?_
      refine ax_icmp_ne (tgt := 99) dX12_set_73 (by decide) (pc' := 76) rfl (fun h73 => ?_) (fun h73 => ?_)
      · refine ax_iconst dX12_set_99 (by decide) (pc' := 100) rfl ?_
        refine ax_zret dX12_set_100 rfl (by decide) ?_
        refine ⟨rfl, ?_, ?_⟩
        · rfl
        · rfl
      · refine ax_iload_n dX12_set_76 rfl rfl (pc' := 77) rfl ?_
        refine ax_iconst dX12_set_77 (by decide) (pc' := 78) rfl ?_
        refine ax_sipush dX12_set_78 (by decide) (pc' := 81) rfl ?_
        refine ax_insG [.inl v, .inl 0, .inl 1000] [] dX12_set_81 mlX12_74 rfl rfl (Nat.le_of_ble_eq_true rfl) (s_X12_isIn E l _ (by omega) _ v 0 1000) (pc' := 84) rfl (fun vv M_81 hq co81 hcm81 => ?_)
        obtain ⟨rfl, rfl⟩ := hq
        refine ax_reS (st2 := [.inl (f_b (0 ≤ v ∧ v ≤ 1000))]) rfl ?_
        refine ax_if_eq (tgt := 99) dX12_set_84 (by decide) (pc' := 87) rfl (fun h84 => ?_) (fun h84 => ?_)
        · replace h84 := f_b_0 h84
          refine ax_iconst dX12_set_99 (by decide) (pc' := 100) rfl ?_
          refine ax_zret dX12_set_100 rfl (by decide) ?_
          refine ⟨rfl, ?_, ?_⟩
          · rfl
          · rfl
        · replace h84 := f_b_1 h84
          exfalso
          omega
    · refine ax_iload_n dX12_set_40 rfl rfl (pc' := 41) rfl ?_
      refine ax_insG [.inl who] [] dX12_set_41 mlX12_117 rfl rfl (Nat.le_of_ble_eq_true rfl) (s_X12_isKnot E l _ (by omega) _ who) (pc' := 44) rfl (fun vv M_41 hq co41 hcm41 => ?_)
      obtain ⟨rfl, rfl⟩ := hq
      refine ax_reS (st2 := [.inl (f_b (0 ≤ who ∧ who ≤ 5))]) rfl ?_
      refine ax_if_eq (tgt := 71) dX12_set_44 (by decide) (pc' := 47) rfl (fun h44 => ?_) (fun h44 => ?_)
      · replace h44 := f_b_0 h44
        refine ax_iload_n dX12_set_71 rfl rfl (pc' := 72) rfl ?_
        refine ax_iconst dX12_set_72 (by decide) (pc' := 73) rfl ?_
        refine ax_icmp_ne (tgt := 99) dX12_set_73 (by decide) (pc' := 76) rfl (fun h73 => ?_) (fun h73 => ?_)
        · refine ax_iconst dX12_set_99 (by decide) (pc' := 100) rfl ?_
          refine ax_zret dX12_set_100 rfl (by decide) ?_
          refine ⟨rfl, ?_, ?_⟩
          · rfl
          · rfl
        · refine ax_iload_n dX12_set_76 rfl rfl (pc' := 77) rfl ?_
          refine ax_iconst dX12_set_77 (by decide) (pc' := 78) rfl ?_
          refine ax_sipush dX12_set_78 (by decide) (pc' := 81) rfl ?_
          refine ax_insG [.inl v, .inl 0, .inl 1000] [] dX12_set_81 mlX12_74 rfl rfl (Nat.le_of_ble_eq_true rfl) (s_X12_isIn E l _ (by omega) _ v 0 1000) (pc' := 84) rfl (fun vv M_81 hq co81 hcm81 => ?_)
          obtain ⟨rfl, rfl⟩ := hq
          refine ax_reS (st2 := [.inl (f_b (0 ≤ v ∧ v ≤ 1000))]) rfl ?_
          refine ax_if_eq (tgt := 99) dX12_set_84 (by decide) (pc' := 87) rfl (fun h84 => ?_) (fun h84 => ?_)
          · replace h84 := f_b_0 h84
            refine ax_iconst dX12_set_99 (by decide) (pc' := 100) rfl ?_
            refine ax_zret dX12_set_100 rfl (by decide) ?_
            refine ⟨rfl, ?_, ?_⟩
            · rfl
            · rfl
          · replace h84 := f_b_1 h84
            exfalso
            omega
      · replace h44 := f_b_1 h44
        refine ax_iload_n dX12_set_47 rfl rfl (pc' := 48) rfl ?_
        refine ax_iconst dX12_set_48 (by decide) (pc' := 49) rfl ?_
        refine ax_bipush dX12_set_49 (by decide) (pc' := 51) rfl ?_
        refine ax_insG [.inl v, .inl 0, .inl 9] [] dX12_set_51 mlX12_74 rfl rfl (Nat.le_of_ble_eq_true rfl) (s_X12_isIn E l _ (by omega) _ v 0 9) (pc' := 54) rfl (fun vv M_51 hq co51 hcm51 => ?_)
        obtain ⟨rfl, rfl⟩ := hq
        refine ax_reS (st2 := [.inl (f_b (0 ≤ v ∧ v ≤ 9))]) rfl ?_
        refine ax_if_eq (tgt := 71) dX12_set_54 (by decide) (pc' := 57) rfl (fun h54 => ?_) (fun h54 => ?_)
        · replace h54 := f_b_0 h54
          refine ax_iload_n dX12_set_71 rfl rfl (pc' := 72) rfl ?_
          refine ax_iconst dX12_set_72 (by decide) (pc' := 73) rfl ?_
          refine ax_icmp_ne (tgt := 99) dX12_set_73 (by decide) (pc' := 76) rfl (fun h73 => ?_) (fun h73 => ?_)
          · refine ax_iconst dX12_set_99 (by decide) (pc' := 100) rfl ?_
            refine ax_zret dX12_set_100 rfl (by decide) ?_
            refine ⟨rfl, ?_, ?_⟩
            · rfl
            · rfl
          · refine ax_iload_n dX12_set_76 rfl rfl (pc' := 77) rfl ?_
            refine ax_iconst dX12_set_77 (by decide) (pc' := 78) rfl ?_
            refine ax_sipush dX12_set_78 (by decide) (pc' := 81) rfl ?_
            refine ax_insG [.inl v, .inl 0, .inl 1000] [] dX12_set_81 mlX12_74 rfl rfl (Nat.le_of_ble_eq_true rfl) (s_X12_isIn E l _ (by omega) _ v 0 1000) (pc' := 84) rfl (fun vv M_81 hq co81 hcm81 => ?_)
            obtain ⟨rfl, rfl⟩ := hq
            refine ax_reS (st2 := [.inl (f_b (0 ≤ v ∧ v ≤ 1000))]) rfl ?_
            refine ax_if_eq (tgt := 99) dX12_set_84 (by decide) (pc' := 87) rfl (fun h84 => ?_) (fun h84 => ?_)
            · replace h84 := f_b_0 h84
              refine ax_iconst dX12_set_99 (by decide) (pc' := 100) rfl ?_
              refine ax_zret dX12_set_100 rfl (by decide) ?_
              refine ⟨rfl, ?_, ?_⟩
              · rfl
              · rfl
            · replace h84 := f_b_1 h84
              exfalso
              omega
        · replace h54 := f_b_1 h54
          exfalso
          omega
  · refine ax_iload_n dX12_set_4 rfl rfl (pc' := 5) rfl ?_
    refine ax_insG [.inl who] [] dX12_set_5 mlX12_117 rfl rfl (Nat.le_of_ble_eq_true rfl) (s_X12_isKnot E l _ (by omega) _ who) (pc' := 8) rfl (fun vv M_5 hq co5 hcm5 => ?_)
    obtain ⟨rfl, rfl⟩ := hq
    refine ax_reS (st2 := [.inl (f_b (0 ≤ who ∧ who ≤ 5))]) rfl ?_
    refine ax_if_eq (tgt := 35) dX12_set_8 (by decide) (pc' := 11) rfl (fun h8 => ?_) (fun h8 => ?_)
    · replace h8 := f_b_0 h8
      refine ax_iload_n dX12_set_35 rfl rfl (pc' := 36) rfl ?_
      refine ax_iconst dX12_set_36 (by decide) (pc' := 37) rfl ?_
      refine ax_icmp_ne (tgt := 71) dX12_set_37 (by decide) (pc' := 40) rfl (fun h37 => ?_) (fun h37 => ?_)
      · refine ax_iload_n dX12_set_71 rfl rfl (pc' := 72) rfl ?_
        refine ax_iconst dX12_set_72 (by decide) (pc' := 73) rfl ?_
        refine ax_icmp_ne (tgt := 99) dX12_set_73 (by decide) (pc' := 76) rfl (fun h73 => ?_) (fun h73 => ?_)
        · refine ax_iconst dX12_set_99 (by decide) (pc' := 100) rfl ?_
          refine ax_zret dX12_set_100 rfl (by decide) ?_
          refine ⟨rfl, ?_, ?_⟩
          · rfl
          · rfl
        · refine ax_iload_n dX12_set_76 rfl rfl (pc' := 77) rfl ?_
          refine ax_iconst dX12_set_77 (by decide) (pc' := 78) rfl ?_
          refine ax_sipush dX12_set_78 (by decide) (pc' := 81) rfl ?_
          refine ax_insG [.inl v, .inl 0, .inl 1000] [] dX12_set_81 mlX12_74 rfl rfl (Nat.le_of_ble_eq_true rfl) (s_X12_isIn E l _ (by omega) _ v 0 1000) (pc' := 84) rfl (fun vv M_81 hq co81 hcm81 => ?_)
          obtain ⟨rfl, rfl⟩ := hq
          refine ax_reS (st2 := [.inl (f_b (0 ≤ v ∧ v ≤ 1000))]) rfl ?_
          refine ax_if_eq (tgt := 99) dX12_set_84 (by decide) (pc' := 87) rfl (fun h84 => ?_) (fun h84 => ?_)
          · replace h84 := f_b_0 h84
            refine ax_iconst dX12_set_99 (by decide) (pc' := 100) rfl ?_
            refine ax_zret dX12_set_100 rfl (by decide) ?_
            refine ⟨rfl, ?_, ?_⟩
            · rfl
            · rfl
          · replace h84 := f_b_1 h84
            exfalso
            omega
      · refine ax_iload_n dX12_set_40 rfl rfl (pc' := 41) rfl ?_
        refine ax_insG [.inl who] [] dX12_set_41 mlX12_117 rfl rfl (Nat.le_of_ble_eq_true rfl) (s_X12_isKnot E l _ (by omega) _ who) (pc' := 44) rfl (fun vv M_41 hq co41 hcm41 => ?_)
        obtain ⟨rfl, rfl⟩ := hq
        refine ax_reS (st2 := [.inl (f_b (0 ≤ who ∧ who ≤ 5))]) rfl ?_
        refine ax_if_eq (tgt := 71) dX12_set_44 (by decide) (pc' := 47) rfl (fun h44 => ?_) (fun h44 => ?_)
        · replace h44 := f_b_0 h44
          refine ax_iload_n dX12_set_71 rfl rfl (pc' := 72) rfl ?_
          refine ax_iconst dX12_set_72 (by decide) (pc' := 73) rfl ?_
          refine ax_icmp_ne (tgt := 99) dX12_set_73 (by decide) (pc' := 76) rfl (fun h73 => ?_) (fun h73 => ?_)
          · refine ax_iconst dX12_set_99 (by decide) (pc' := 100) rfl ?_
            refine ax_zret dX12_set_100 rfl (by decide) ?_
            refine ⟨rfl, ?_, ?_⟩
            · rfl
            · rfl
          · refine ax_iload_n dX12_set_76 rfl rfl (pc' := 77) rfl ?_
            refine ax_iconst dX12_set_77 (by decide) (pc' := 78) rfl ?_
            refine ax_sipush dX12_set_78 (by decide) (pc' := 81) rfl ?_
            refine ax_insG [.inl v, .inl 0, .inl 1000] [] dX12_set_81 mlX12_74 rfl rfl (Nat.le_of_ble_eq_true rfl) (s_X12_isIn E l _ (by omega) _ v 0 1000) (pc' := 84) rfl (fun vv M_81 hq co81 hcm81 => ?_)
            obtain ⟨rfl, rfl⟩ := hq
            refine ax_reS (st2 := [.inl (f_b (0 ≤ v ∧ v ≤ 1000))]) rfl ?_
            refine ax_if_eq (tgt := 99) dX12_set_84 (by decide) (pc' := 87) rfl (fun h84 => ?_) (fun h84 => ?_)
            · replace h84 := f_b_0 h84
              refine ax_iconst dX12_set_99 (by decide) (pc' := 100) rfl ?_
              refine ax_zret dX12_set_100 rfl (by decide) ?_
              refine ⟨rfl, ?_, ?_⟩
              · rfl
              · rfl
            · replace h84 := f_b_1 h84
              exfalso
              omega
        · replace h44 := f_b_1 h44
          refine ax_iload_n dX12_set_47 rfl rfl (pc' := 48) rfl ?_
          refine ax_iconst dX12_set_48 (by decide) (pc' := 49) rfl ?_
          refine ax_bipush dX12_set_49 (by decide) (pc' := 51) rfl ?_
          refine ax_insG [.inl v, .inl 0, .inl 9] [] dX12_set_51 mlX12_74 rfl rfl (Nat.le_of_ble_eq_true rfl) (s_X12_isIn E l _ (by omega) _ v 0 9) (pc' := 54) rfl (fun vv M_51 hq co51 hcm51 => ?_)
          obtain ⟨rfl, rfl⟩ := hq
          refine ax_reS (st2 := [.inl (f_b (0 ≤ v ∧ v ≤ 9))]) rfl ?_
          refine ax_if_eq (tgt := 71) dX12_set_54 (by decide) (pc' := 57) rfl (fun h54 => ?_) (fun h54 => ?_)
          · replace h54 := f_b_0 h54
            refine ax_iload_n dX12_set_71 rfl rfl (pc' := 72) rfl ?_
            refine ax_iconst dX12_set_72 (by decide) (pc' := 73) rfl ?_
            refine ax_icmp_ne (tgt := 99) dX12_set_73 (by decide) (pc' := 76) rfl (fun h73 => ?_) (fun h73 => ?_)
            · refine ax_iconst dX12_set_99 (by decide) (pc' := 100) rfl ?_
              refine ax_zret dX12_set_100 rfl (by decide) ?_
              refine ⟨rfl, ?_, ?_⟩
              · rfl
              · rfl
            · refine ax_iload_n dX12_set_76 rfl rfl (pc' := 77) rfl ?_
              refine ax_iconst dX12_set_77 (by decide) (pc' := 78) rfl ?_
              refine ax_sipush dX12_set_78 (by decide) (pc' := 81) rfl ?_
              refine ax_insG [.inl v, .inl 0, .inl 1000] [] dX12_set_81 mlX12_74 rfl rfl (Nat.le_of_ble_eq_true rfl) (s_X12_isIn E l _ (by omega) _ v 0 1000) (pc' := 84) rfl (fun vv M_81 hq co81 hcm81 => ?_)
              obtain ⟨rfl, rfl⟩ := hq
              refine ax_reS (st2 := [.inl (f_b (0 ≤ v ∧ v ≤ 1000))]) rfl ?_
              refine ax_if_eq (tgt := 99) dX12_set_84 (by decide) (pc' := 87) rfl (fun h84 => ?_) (fun h84 => ?_)
              · replace h84 := f_b_0 h84
                refine ax_iconst dX12_set_99 (by decide) (pc' := 100) rfl ?_
                refine ax_zret dX12_set_100 rfl (by decide) ?_
                refine ⟨rfl, ?_, ?_⟩
                · rfl
                · rfl
              · replace h84 := f_b_1 h84
                exfalso
                omega
          · replace h54 := f_b_1 h54
            exfalso
            omega
    · replace h8 := f_b_1 h8
      refine ax_iload_n dX12_set_11 rfl rfl (pc' := 12) rfl ?_
      refine ax_iconst dX12_set_12 (by decide) (pc' := 13) rfl ?_
      refine ax_bipush dX12_set_13 (by decide) (pc' := 15) rfl ?_
      refine ax_insG [.inl v, .inl 1, .inl 9] [] dX12_set_15 mlX12_74 rfl rfl (Nat.le_of_ble_eq_true rfl) (s_X12_isIn E l _ (by omega) _ v 1 9) (pc' := 18) rfl (fun vv M_15 hq co15 hcm15 => ?_)
      obtain ⟨rfl, rfl⟩ := hq
      refine ax_reS (st2 := [.inl (f_b (1 ≤ v ∧ v ≤ 9))]) rfl ?_
      refine ax_if_eq (tgt := 35) dX12_set_18 (by decide) (pc' := 21) rfl (fun h18 => ?_) (fun h18 => ?_)
      · replace h18 := f_b_0 h18
        refine ax_iload_n dX12_set_35 rfl rfl (pc' := 36) rfl ?_
        refine ax_iconst dX12_set_36 (by decide) (pc' := 37) rfl ?_
        refine ax_icmp_ne (tgt := 71) dX12_set_37 (by decide) (pc' := 40) rfl (fun h37 => ?_) (fun h37 => ?_)
        · refine ax_iload_n dX12_set_71 rfl rfl (pc' := 72) rfl ?_
          refine ax_iconst dX12_set_72 (by decide) (pc' := 73) rfl ?_
          refine ax_icmp_ne (tgt := 99) dX12_set_73 (by decide) (pc' := 76) rfl (fun h73 => ?_) (fun h73 => ?_)
          · refine ax_iconst dX12_set_99 (by decide) (pc' := 100) rfl ?_
            refine ax_zret dX12_set_100 rfl (by decide) ?_
            refine ⟨rfl, ?_, ?_⟩
            · rfl
            · rfl
          · refine ax_iload_n dX12_set_76 rfl rfl (pc' := 77) rfl ?_
            refine ax_iconst dX12_set_77 (by decide) (pc' := 78) rfl ?_
            refine ax_sipush dX12_set_78 (by decide) (pc' := 81) rfl ?_
            refine ax_insG [.inl v, .inl 0, .inl 1000] [] dX12_set_81 mlX12_74 rfl rfl (Nat.le_of_ble_eq_true rfl) (s_X12_isIn E l _ (by omega) _ v 0 1000) (pc' := 84) rfl (fun vv M_81 hq co81 hcm81 => ?_)
            obtain ⟨rfl, rfl⟩ := hq
            refine ax_reS (st2 := [.inl (f_b (0 ≤ v ∧ v ≤ 1000))]) rfl ?_
            refine ax_if_eq (tgt := 99) dX12_set_84 (by decide) (pc' := 87) rfl (fun h84 => ?_) (fun h84 => ?_)
            · replace h84 := f_b_0 h84
              refine ax_iconst dX12_set_99 (by decide) (pc' := 100) rfl ?_
              refine ax_zret dX12_set_100 rfl (by decide) ?_
              refine ⟨rfl, ?_, ?_⟩
              · rfl
              · rfl
            · replace h84 := f_b_1 h84
              exfalso
              omega
        · refine ax_iload_n dX12_set_40 rfl rfl (pc' := 41) rfl ?_
          refine ax_insG [.inl who] [] dX12_set_41 mlX12_117 rfl rfl (Nat.le_of_ble_eq_true rfl) (s_X12_isKnot E l _ (by omega) _ who) (pc' := 44) rfl (fun vv M_41 hq co41 hcm41 => ?_)
          obtain ⟨rfl, rfl⟩ := hq
          refine ax_reS (st2 := [.inl (f_b (0 ≤ who ∧ who ≤ 5))]) rfl ?_
          refine ax_if_eq (tgt := 71) dX12_set_44 (by decide) (pc' := 47) rfl (fun h44 => ?_) (fun h44 => ?_)
          · replace h44 := f_b_0 h44
            refine ax_iload_n dX12_set_71 rfl rfl (pc' := 72) rfl ?_
            refine ax_iconst dX12_set_72 (by decide) (pc' := 73) rfl ?_
            refine ax_icmp_ne (tgt := 99) dX12_set_73 (by decide) (pc' := 76) rfl (fun h73 => ?_) (fun h73 => ?_)
            · refine ax_iconst dX12_set_99 (by decide) (pc' := 100) rfl ?_
              refine ax_zret dX12_set_100 rfl (by decide) ?_
              refine ⟨rfl, ?_, ?_⟩
              · rfl
              · rfl
            · refine ax_iload_n dX12_set_76 rfl rfl (pc' := 77) rfl ?_
              refine ax_iconst dX12_set_77 (by decide) (pc' := 78) rfl ?_
              refine ax_sipush dX12_set_78 (by decide) (pc' := 81) rfl ?_
              refine ax_insG [.inl v, .inl 0, .inl 1000] [] dX12_set_81 mlX12_74 rfl rfl (Nat.le_of_ble_eq_true rfl) (s_X12_isIn E l _ (by omega) _ v 0 1000) (pc' := 84) rfl (fun vv M_81 hq co81 hcm81 => ?_)
              obtain ⟨rfl, rfl⟩ := hq
              refine ax_reS (st2 := [.inl (f_b (0 ≤ v ∧ v ≤ 1000))]) rfl ?_
              refine ax_if_eq (tgt := 99) dX12_set_84 (by decide) (pc' := 87) rfl (fun h84 => ?_) (fun h84 => ?_)
              · replace h84 := f_b_0 h84
                refine ax_iconst dX12_set_99 (by decide) (pc' := 100) rfl ?_
                refine ax_zret dX12_set_100 rfl (by decide) ?_
                refine ⟨rfl, ?_, ?_⟩
                · rfl
                · rfl
              · replace h84 := f_b_1 h84
                exfalso
                omega
          · replace h44 := f_b_1 h44
            refine ax_iload_n dX12_set_47 rfl rfl (pc' := 48) rfl ?_
            refine ax_iconst dX12_set_48 (by decide) (pc' := 49) rfl ?_
            refine ax_bipush dX12_set_49 (by decide) (pc' := 51) rfl ?_
            refine ax_insG [.inl v, .inl 0, .inl 9] [] dX12_set_51 mlX12_74 rfl rfl (Nat.le_of_ble_eq_true rfl) (s_X12_isIn E l _ (by omega) _ v 0 9) (pc' := 54) rfl (fun vv M_51 hq co51 hcm51 => ?_)
            obtain ⟨rfl, rfl⟩ := hq
            refine ax_reS (st2 := [.inl (f_b (0 ≤ v ∧ v ≤ 9))]) rfl ?_
            refine ax_if_eq (tgt := 71) dX12_set_54 (by decide) (pc' := 57) rfl (fun h54 => ?_) (fun h54 => ?_)
            · replace h54 := f_b_0 h54
              refine ax_iload_n dX12_set_71 rfl rfl (pc' := 72) rfl ?_
              refine ax_iconst dX12_set_72 (by decide) (pc' := 73) rfl ?_
              refine ax_icmp_ne (tgt := 99) dX12_set_73 (by decide) (pc' := 76) rfl (fun h73 => ?_) (fun h73 => ?_)
              · refine ax_iconst dX12_set_99 (by decide) (pc' := 100) rfl ?_
                refine ax_zret dX12_set_100 rfl (by decide) ?_
                refine ⟨rfl, ?_, ?_⟩
                · rfl
                · rfl
              · refine ax_iload_n dX12_set_76 rfl rfl (pc' := 77) rfl ?_
                refine ax_iconst dX12_set_77 (by decide) (pc' := 78) rfl ?_
                refine ax_sipush dX12_set_78 (by decide) (pc' := 81) rfl ?_
                refine ax_insG [.inl v, .inl 0, .inl 1000] [] dX12_set_81 mlX12_74 rfl rfl (Nat.le_of_ble_eq_true rfl) (s_X12_isIn E l _ (by omega) _ v 0 1000) (pc' := 84) rfl (fun vv M_81 hq co81 hcm81 => ?_)
                obtain ⟨rfl, rfl⟩ := hq
                refine ax_reS (st2 := [.inl (f_b (0 ≤ v ∧ v ≤ 1000))]) rfl ?_
                refine ax_if_eq (tgt := 99) dX12_set_84 (by decide) (pc' := 87) rfl (fun h84 => ?_) (fun h84 => ?_)
                · replace h84 := f_b_0 h84
                  refine ax_iconst dX12_set_99 (by decide) (pc' := 100) rfl ?_
                  refine ax_zret dX12_set_100 rfl (by decide) ?_
                  refine ⟨rfl, ?_, ?_⟩
                  · rfl
                  · rfl
                · replace h84 := f_b_1 h84
                  exfalso
                  omega
            · replace h54 := f_b_1 h54
              exfalso
              omega
      · replace h18 := f_b_1 h18
        exfalso
        omega
set_option maxRecDepth 20000 in
theorem s_X12_end_no (E : ax_Env) (l : Launch) (d : Nat) (hd : 1 ≤ d) (M : ax_Mem) (n : Int) {tp : Int} (htp : M 330 17 = tp) (hg0 : ¬ (0 ≤ n ∧ n ≤ tp)) : ax_G E l d iX12_end [.inr 330, .inl n] M (fun z0 M2 => z0 = some (.inl 0) ∧ M = M2) := by
  obtain ⟨d, rfl⟩ : ∃ d0, d = d0 + 1 := ⟨d - 1, by omega⟩
  refine ax_start rfl (Nat.le_of_ble_eq_true rfl) (ls := [some (.inr 330), some (.inl n)]) rfl (fun hav hcm => ?_)
  have hc1 : -2147483648 ≤ n ∧ n < 2147483648 := hav (.inl n) (by simp)
  clear hav
  refine ax_iload_n dX12_end_0 rfl rfl (pc' := 1) rfl ?_
  refine ax_iconst dX12_end_1 (by decide) (pc' := 2) rfl ?_
  refine ax_aload_n dX12_end_2 rfl rfl (pc' := 3) rfl ?_
  refine ax_geti (v := tp) dX12_end_3 flX12_120 rfl sh_330 htp rfl (pc' := 6) rfl ?_
  refine ax_insG [.inl n, .inl 0, .inl tp] [] dX12_end_6 mlX12_74 rfl rfl (Nat.le_of_ble_eq_true rfl) (s_X12_isIn E l _ (by omega) _ n 0 tp) (pc' := 9) rfl (fun vv M_6 hq co6 hcm6 => ?_)
  obtain ⟨rfl, rfl⟩ := hq
  refine ax_reS (st2 := [.inl (f_b (0 ≤ n ∧ n ≤ tp))]) rfl ?_
  refine ax_if_ne (tgt := 14) dX12_end_9 (by decide) (pc' := 12) rfl (fun h9 => ?_) (fun h9 => ?_)
  · replace h9 := f_b_1 h9
    exfalso
    omega
  · replace h9 := f_b_0 h9
    refine ax_iconst dX12_end_12 (by decide) (pc' := 13) rfl ?_
    refine ax_zret dX12_end_13 rfl (by decide) ?_
    refine ⟨rfl, ?_, ?_⟩
    · rfl
    · rfl
set_option maxRecDepth 20000 in
theorem s_X12_end_ok (E : ax_Env) (l : Launch) (d : Nat) (hd : 1 ≤ d) (M : ax_Mem) (n : Int) {tp : Int} (htp : M 330 17 = tp) (hg0 : 0 ≤ n ∧ n ≤ tp) : ax_G E l d iX12_end [.inr 330, .inl n] M (fun z0 M2 => z0 = some (.inl 1) ∧ (∀ x0 i0 : Int, ¬ ((x0 = 330 ∧ i0 = 17)) → M2 x0 i0 = M x0 i0) ∧ M2 330 17 = n) := by
  obtain ⟨d, rfl⟩ : ∃ d0, d = d0 + 1 := ⟨d - 1, by omega⟩
  refine ax_start rfl (Nat.le_of_ble_eq_true rfl) (ls := [some (.inr 330), some (.inl n)]) rfl (fun hav hcm => ?_)
  have hc1 : -2147483648 ≤ n ∧ n < 2147483648 := hav (.inl n) (by simp)
  clear hav
  refine ax_iload_n dX12_end_0 rfl rfl (pc' := 1) rfl ?_
  refine ax_iconst dX12_end_1 (by decide) (pc' := 2) rfl ?_
  refine ax_aload_n dX12_end_2 rfl rfl (pc' := 3) rfl ?_
  refine ax_geti (v := tp) dX12_end_3 flX12_120 rfl sh_330 htp rfl (pc' := 6) rfl ?_
  refine ax_insG [.inl n, .inl 0, .inl tp] [] dX12_end_6 mlX12_74 rfl rfl (Nat.le_of_ble_eq_true rfl) (s_X12_isIn E l _ (by omega) _ n 0 tp) (pc' := 9) rfl (fun vv M_6 hq co6 hcm6 => ?_)
  obtain ⟨rfl, rfl⟩ := hq
  refine ax_reS (st2 := [.inl (f_b (0 ≤ n ∧ n ≤ tp))]) rfl ?_
  refine ax_if_ne (tgt := 14) dX12_end_9 (by decide) (pc' := 12) rfl (fun h9 => ?_) (fun h9 => ?_)
  · replace h9 := f_b_1 h9
    refine ax_aload_n dX12_end_14 rfl rfl (pc' := 15) rfl ?_
    refine ax_iload_n dX12_end_15 rfl rfl (pc' := 16) rfl ?_
    refine ax_puti dX12_end_16 flX12_120 (Or.inl rfl) sh_330 rfl (pc' := 19) rfl ?_
    refine ax_iconst dX12_end_19 (by decide) (pc' := 20) rfl ?_
    refine ax_zret dX12_end_20 rfl (by decide) ?_
    refine ⟨rfl, ?_, ?_, ?_⟩
    · rfl
    · intro x0 i0 hai
      exact (ax_up_miss (by omega) rfl)
    · exact (ax_up_hit _ _ _ _)
  · replace h9 := f_b_0 h9
    exfalso
    omega
set_option maxRecDepth 20000 in
theorem s_X12_fault (E : ax_Env) (l : Launch) (d : Nat) (hd : 0 ≤ d) (M : ax_Mem) (what : Int) {fk : Int} (hfk : M 330 24 = fk) {fp : Int} (hfp : M 330 26 = fp) : ax_G E l d iX12_fault [.inr 330, .inl what] M (fun z0 M2 => z0 = some (.inl (if what = 0 then fk else if what = 1 then fp else -1)) ∧ M = M2) := by
  refine ax_start rfl (Nat.le_of_ble_eq_true rfl) (ls := [some (.inr 330), some (.inl what)]) rfl (fun hav hcm => ?_)
  have hc1 : -2147483648 ≤ what ∧ what < 2147483648 := hav (.inl what) (by simp)
  clear hav
  refine ax_iload_n dX12_fault_0 rfl rfl (pc' := 1) rfl ?_
  refine ax_if_ne (tgt := 11) dX12_fault_1 (by decide) (pc' := 4) rfl (fun h1 => ?_) (fun h1 => ?_)
  · refine ax_iload_n dX12_fault_11 rfl rfl (pc' := 12) rfl ?_
    refine ax_iconst dX12_fault_12 (by decide) (pc' := 13) rfl ?_
    refine ax_icmp_ne (tgt := 23) dX12_fault_13 (by decide) (pc' := 16) rfl (fun h13 => ?_) (fun h13 => ?_)
    · refine ax_iconst dX12_fault_23 (by decide) (pc' := 24) rfl ?_
      refine ax_iret dX12_fault_24 rfl ?_
      refine ⟨rfl, ?_, ?_⟩
      · refine congrArg (fun z => some (Sum.inl z)) ?_
        repeat' split
        all_goals first | rfl | omega | (exfalso; omega)
      · rfl
    · refine ax_aload_n dX12_fault_16 rfl rfl (pc' := 17) rfl ?_
      refine ax_geti (v := fp) dX12_fault_17 flX12_43 rfl sh_330 hfp rfl (pc' := 20) rfl ?_
      refine ax_goto dX12_fault_20 (pc' := 24) (by decide) ?_
      refine ax_iret dX12_fault_24 rfl ?_
      refine ⟨rfl, ?_, ?_⟩
      · refine congrArg (fun z => some (Sum.inl z)) ?_
        repeat' split
        all_goals first | rfl | omega | (exfalso; omega)
      · rfl
  · refine ax_aload_n dX12_fault_4 rfl rfl (pc' := 5) rfl ?_
    refine ax_geti (v := fk) dX12_fault_5 flX12_313 rfl sh_330 hfk rfl (pc' := 8) rfl ?_
    refine ax_goto dX12_fault_8 (pc' := 24) (by decide) ?_
    refine ax_iret dX12_fault_24 rfl ?_
    refine ⟨rfl, ?_, ?_⟩
    · refine congrArg (fun z => some (Sum.inl z)) ?_
      repeat' split
      all_goals first | rfl | omega | (exfalso; omega)
    · rfl
set_option maxRecDepth 20000 in
theorem s_X12_allHabits (E : ax_Env) (l : Launch) (d : Nat) (hd : 3 ≤ d) (M : ax_Mem) (r : Int) {w : Int → Int} (hw : M 331 = w) (hg0 : 0 ≤ r ∧ r < 8) (hg1 : f_iv w) : ax_G E l d iX12_allHabits [.inr 330, .inl r] M (fun z0 M2 => z0 = some (.inl (f_all w r)) ∧ M = M2) := by
  obtain ⟨d, rfl⟩ : ∃ d0, d = d0 + 1 := ⟨d - 1, by omega⟩
  refine ax_start rfl (Nat.le_of_ble_eq_true rfl) (ls := [some (.inr 330), some (.inl r), none, none]) rfl (fun hav hcm => ?_)
  have hc1 : -2147483648 ≤ r ∧ r < 2147483648 := hav (.inl r) (by simp)
  clear hav
  have qa1 := hg1.1 r (by omega) (by omega)
  have qa2 := hg1.2.1
  refine ax_iconst dX12_allHabits_0 (by decide) (pc' := 1) rfl ?_
  refine ax_istore_n dX12_allHabits_1 rfl (by decide) (ls' := [some (.inr 330), some (.inl r), some (.inl 0), none]) rfl (pc' := 2) rfl ?_
  refine ax_iconst dX12_allHabits_2 (by decide) (pc' := 3) rfl ?_
  refine ax_istore_n dX12_allHabits_3 rfl (by decide) (ls' := [some (.inr 330), some (.inl r), some (.inl 0), some (.inl 0)]) rfl (pc' := 4) rfl ?_
  have LP1 : ∀ (kq2 : Nat) (p v : Int) (hm1 : f_R w r 1 - p < (kq2 : Nat)) (iv1_0 : 0 ≤ p ∧ p ≤ f_R w r 1) (iv1_1 : f_loop (fun p v => v + f_habs w r p) p (f_R w r 1) v = f_all w r) (iv1_2 : 0 ≤ v ∧ v ≤ 594 * p), ax_W E l (d + 1) 0 0 iX12_allHabits 4 [some (.inr 330), some (.inl r), some (.inl v), some (.inl p)] [] SH M (ax_P (fun z0 M2 => z0 = some (.inl (f_all w r)) ∧ M = M2)) := by
    intro kq2
    induction kq2 with
    | zero =>
      intro p v hm1 iv1_0 iv1_1 iv1_2
      exfalso
      omega
    | succ kq2 ih3 =>
      intro p v hm1 iv1_0 iv1_1 iv1_2
      refine ax_iload_n dX12_allHabits_4 rfl rfl (pc' := 5) rfl ?_
      refine ax_aload_n dX12_allHabits_5 rfl rfl (pc' := 6) rfl ?_
      refine ax_iload_n dX12_allHabits_6 rfl rfl (pc' := 7) rfl ?_
      refine ax_iconst dX12_allHabits_7 (by decide) (pc' := 8) rfl ?_
      refine ax_invG [.inl r, .inl 1] [.inl p] dX12_allHabits_8 mlX12_78 sh_330 rfl rfl rfl (Nat.le_of_ble_eq_true rfl) (s_X12_ofRope E l _ (by omega) _ r 1 hw (by first | omega | assumption) (by first | omega | assumption)) (pc' := 11) rfl (fun vv M_8 hq co8 hcm8 => ?_)
      obtain ⟨rfl, rfl⟩ := hq
      refine ax_reS (st2 := [.inl (f_R w r 1), .inl p]) rfl ?_
      have cc8 : -2147483648 ≤ f_R w r 1 ∧ f_R w r 1 < 2147483648 := co8 _ rfl
      refine ax_icmp_ge (tgt := 29) dX12_allHabits_11 (by decide) (pc' := 14) rfl (fun h11 => ?_) (fun h11 => ?_)
      · refine ax_iload_n dX12_allHabits_29 rfl rfl (pc' := 30) rfl ?_
        refine ax_iret dX12_allHabits_30 rfl ?_
        refine ⟨rfl, ?_, ?_⟩
        · refine congrArg (fun z => some (Sum.inl z)) ?_
          exact (f_loop_done (by omega)).symm.trans iv1_1
        · rfl
      · have qa3 := f_habs_rg (p := p) hg0 (by omega) qa2
        refine ax_iload_n dX12_allHabits_14 rfl rfl (pc' := 15) rfl ?_
        refine ax_aload_n dX12_allHabits_15 rfl rfl (pc' := 16) rfl ?_
        refine ax_iload_n dX12_allHabits_16 rfl rfl (pc' := 17) rfl ?_
        refine ax_iload_n dX12_allHabits_17 rfl rfl (pc' := 18) rfl ?_
        refine ax_invG [.inl r, .inl p] [.inl v] dX12_allHabits_18 mlX12_361 sh_330 rfl rfl rfl (Nat.le_of_ble_eq_true rfl) (s_X12_habitsAt E l _ (by omega) _ r p hw (by first | omega | assumption) (by first | omega | assumption) (by first | omega | assumption)) (pc' := 21) rfl (fun vv M_18 hq co18 hcm18 => ?_)
        obtain ⟨rfl, rfl⟩ := hq
        refine ax_reS (st2 := [.inl (f_habs w r p), .inl v]) rfl ?_
        have cc18 : -2147483648 ≤ f_habs w r p ∧ f_habs w r p < 2147483648 := co18 _ rfl
        refine ax_iadd dX12_allHabits_21 (by omega) (pc' := 22) rfl ?_
        refine ax_istore_n dX12_allHabits_22 rfl (by decide) (ls' := [some (.inr 330), some (.inl r), some (.inl (v + (f_habs w r p))), some (.inl p)]) rfl (pc' := 23) rfl ?_
        refine ax_iinc dX12_allHabits_23 rfl (by decide) (by omega) (ls' := [some (.inr 330), some (.inl r), some (.inl (v + (f_habs w r p))), some (.inl (p + 1))]) rfl (pc' := 26) rfl ?_
        refine ax_goto dX12_allHabits_26 (pc' := 4) (by decide) ?_
        refine ih3 (p + 1) (v + (f_habs w r p)) ?_ ?_ ?_ ?_
        · omega
        · omega
        · exact (f_loop_step (by omega)).symm.trans iv1_1
        · omega
  refine LP1 (f_R w r 1 - 0 : Int).toNat.succ 0 0 ?_ ?_ ?_ ?_
  · omega
  · omega
  · rfl
  · omega
set_option maxRecDepth 20000 in
theorem s_X12_of_no (E : ax_Env) (l : Launch) (d : Nat) (hd : 4 ≤ d) (M : ax_Mem) (r what : Int) {w : Int → Int} (hw : M 331 = w) (hg0 : ¬ f_isR w r) : ax_G E l d iX12_of [.inr 330, .inl r, .inl what] M (fun z0 M2 => z0 = some (.inl (-1)) ∧ M = M2) := by
  obtain ⟨d, rfl⟩ : ∃ d0, d = d0 + 1 := ⟨d - 1, by omega⟩
  refine ax_start rfl (Nat.le_of_ble_eq_true rfl) (ls := [some (.inr 330), some (.inl r), some (.inl what)]) rfl (fun hav hcm => ?_)
  have hc1 : -2147483648 ≤ r ∧ r < 2147483648 := hav (.inl r) (by simp)
  have hc2 : -2147483648 ≤ what ∧ what < 2147483648 := hav (.inl what) (by simp)
  clear hav
  refine ax_aload_n dX12_of_0 rfl rfl (pc' := 1) rfl ?_
  refine ax_iload_n dX12_of_1 rfl rfl (pc' := 2) rfl ?_
  refine ax_invG [.inl r] [] dX12_of_2 mlX12_82 sh_330 rfl rfl rfl (Nat.le_of_ble_eq_true rfl) (s_X12_isRope E l _ (by omega) _ r hw) (pc' := 5) rfl (fun vv M_2 hq co2 hcm2 => ?_)
  obtain ⟨rfl, rfl⟩ := hq
  refine ax_reS (st2 := [.inl (f_b (f_isR w r))]) rfl ?_
  refine ax_if_ne (tgt := 10) dX12_of_5 (by decide) (pc' := 8) rfl (fun h5 => ?_) (fun h5 => ?_)
  · replace h5 := f_b_1 h5
    exfalso
    omega
  · replace h5 := f_b_0 h5
    refine ax_iconst dX12_of_8 (by decide) (pc' := 9) rfl ?_
    refine ax_iret dX12_of_9 rfl ?_
    refine ⟨rfl, ?_, ?_⟩
    · rfl
    · rfl
set_option maxRecDepth 20000 in
theorem s_X12_of_ok (E : ax_Env) (l : Launch) (d : Nat) (hd : 4 ≤ d) (M : ax_Mem) (r what : Int) {w : Int → Int} (hw : M 331 = w) (hg0 : f_iv w) (hg1 : f_isR w r) : ax_G E l d iX12_of [.inr 330, .inl r, .inl what] M (fun z0 M2 => z0 = some (.inl (F_of w r what)) ∧ M = M2) := by
  obtain ⟨d, rfl⟩ : ∃ d0, d = d0 + 1 := ⟨d - 1, by omega⟩
  refine ax_start rfl (Nat.le_of_ble_eq_true rfl) (ls := [some (.inr 330), some (.inl r), some (.inl what)]) rfl (fun hav hcm => ?_)
  have hc1 : -2147483648 ≤ r ∧ r < 2147483648 := hav (.inl r) (by simp)
  have hc2 : -2147483648 ≤ what ∧ what < 2147483648 := hav (.inl what) (by simp)
  clear hav
  have qa1 := hg0.1
  refine ax_aload_n dX12_of_0 rfl rfl (pc' := 1) rfl ?_
  refine ax_iload_n dX12_of_1 rfl rfl (pc' := 2) rfl ?_
  refine ax_invG [.inl r] [] dX12_of_2 mlX12_82 sh_330 rfl rfl rfl (Nat.le_of_ble_eq_true rfl) (s_X12_isRope E l _ (by omega) _ r hw) (pc' := 5) rfl (fun vv M_2 hq co2 hcm2 => ?_)
  obtain ⟨rfl, rfl⟩ := hq
  refine ax_reS (st2 := [.inl (f_b (f_isR w r))]) rfl ?_
  refine ax_if_ne (tgt := 10) dX12_of_5 (by decide) (pc' := 8) rfl (fun h5 => ?_) (fun h5 => ?_)
  · replace h5 := f_b_1 h5
    refine ax_iload_n dX12_of_10 rfl rfl (pc' := 11) rfl ?_
    by_cases h11_0 : what = 0
    · refine ax_reS (st2 := [.inl 0]) (by rw [h11_0]) ?_
      refine ax_tabIn (tgt := 48) dX12_of_11 (by decide) (by decide) rfl (by decide) ?_
      refine ax_aload_n dX12_of_48 rfl rfl (pc' := 49) rfl ?_
      refine ax_iload_n dX12_of_49 rfl rfl (pc' := 50) rfl ?_
      refine ax_iconst dX12_of_50 (by decide) (pc' := 51) rfl ?_
      refine ax_invG [.inl r, .inl 1] [] dX12_of_51 mlX12_78 sh_330 rfl rfl rfl (Nat.le_of_ble_eq_true rfl) (s_X12_ofRope E l _ (by omega) _ r 1 hw (by first | omega | assumption) (by first | omega | assumption)) (pc' := 54) rfl (fun vv M_51 hq co51 hcm51 => ?_)
      obtain ⟨rfl, rfl⟩ := hq
      refine ax_reS (st2 := [.inl (f_R w r 1)]) rfl ?_
      have cc51 : -2147483648 ≤ f_R w r 1 ∧ f_R w r 1 < 2147483648 := co51 _ rfl
      refine ax_iret dX12_of_54 rfl ?_
      refine ⟨rfl, ?_, ?_⟩
      · refine congrArg (fun z => some (Sum.inl z)) ?_
        unfold F_of
        repeat' split
        all_goals first | rfl | omega | (exfalso; omega)
      · rfl
    by_cases h11_1 : what = 1
    · refine ax_reS (st2 := [.inl 1]) (by rw [h11_1]) ?_
      refine ax_tabIn (tgt := 55) dX12_of_11 (by decide) (by decide) rfl (by decide) ?_
      refine ax_aload_n dX12_of_55 rfl rfl (pc' := 56) rfl ?_
      refine ax_iload_n dX12_of_56 rfl rfl (pc' := 57) rfl ?_
      refine ax_iconst dX12_of_57 (by decide) (pc' := 58) rfl ?_
      refine ax_invG [.inl r, .inl 2] [] dX12_of_58 mlX12_78 sh_330 rfl rfl rfl (Nat.le_of_ble_eq_true rfl) (s_X12_ofRope E l _ (by omega) _ r 2 hw (by first | omega | assumption) (by first | omega | assumption)) (pc' := 61) rfl (fun vv M_58 hq co58 hcm58 => ?_)
      obtain ⟨rfl, rfl⟩ := hq
      refine ax_reS (st2 := [.inl (f_R w r 2)]) rfl ?_
      have cc58 : -2147483648 ≤ f_R w r 2 ∧ f_R w r 2 < 2147483648 := co58 _ rfl
      refine ax_iret dX12_of_61 rfl ?_
      refine ⟨rfl, ?_, ?_⟩
      · refine congrArg (fun z => some (Sum.inl z)) ?_
        unfold F_of
        repeat' split
        all_goals first | rfl | omega | (exfalso; omega)
      · rfl
    by_cases h11_2 : what = 2
    · refine ax_reS (st2 := [.inl 2]) (by rw [h11_2]) ?_
      refine ax_tabIn (tgt := 62) dX12_of_11 (by decide) (by decide) rfl (by decide) ?_
      refine ax_aload_n dX12_of_62 rfl rfl (pc' := 63) rfl ?_
      refine ax_iload_n dX12_of_63 rfl rfl (pc' := 64) rfl ?_
      refine ax_iconst dX12_of_64 (by decide) (pc' := 65) rfl ?_
      refine ax_invG [.inl r, .inl 3] [] dX12_of_65 mlX12_78 sh_330 rfl rfl rfl (Nat.le_of_ble_eq_true rfl) (s_X12_ofRope E l _ (by omega) _ r 3 hw (by first | omega | assumption) (by first | omega | assumption)) (pc' := 68) rfl (fun vv M_65 hq co65 hcm65 => ?_)
      obtain ⟨rfl, rfl⟩ := hq
      refine ax_reS (st2 := [.inl (f_R w r 3)]) rfl ?_
      have cc65 : -2147483648 ≤ f_R w r 3 ∧ f_R w r 3 < 2147483648 := co65 _ rfl
      refine ax_iret dX12_of_68 rfl ?_
      refine ⟨rfl, ?_, ?_⟩
      · refine congrArg (fun z => some (Sum.inl z)) ?_
        unfold F_of
        repeat' split
        all_goals first | rfl | omega | (exfalso; omega)
      · rfl
    by_cases h11_3 : what = 3
    · refine ax_reS (st2 := [.inl 3]) (by rw [h11_3]) ?_
      refine ax_tabIn (tgt := 69) dX12_of_11 (by decide) (by decide) rfl (by decide) ?_
      refine ax_aload_n dX12_of_69 rfl rfl (pc' := 70) rfl ?_
      refine ax_iload_n dX12_of_70 rfl rfl (pc' := 71) rfl ?_
      refine ax_iconst dX12_of_71 (by decide) (pc' := 72) rfl ?_
      refine ax_invG [.inl r, .inl 4] [] dX12_of_72 mlX12_78 sh_330 rfl rfl rfl (Nat.le_of_ble_eq_true rfl) (s_X12_ofRope E l _ (by omega) _ r 4 hw (by first | omega | assumption) (by first | omega | assumption)) (pc' := 75) rfl (fun vv M_72 hq co72 hcm72 => ?_)
      obtain ⟨rfl, rfl⟩ := hq
      refine ax_reS (st2 := [.inl (f_R w r 4)]) rfl ?_
      have cc72 : -2147483648 ≤ f_R w r 4 ∧ f_R w r 4 < 2147483648 := co72 _ rfl
      refine ax_iret dX12_of_75 rfl ?_
      refine ⟨rfl, ?_, ?_⟩
      · refine congrArg (fun z => some (Sum.inl z)) ?_
        unfold F_of
        repeat' split
        all_goals first | rfl | omega | (exfalso; omega)
      · rfl
    by_cases h11_4 : what = 4
    · refine ax_reS (st2 := [.inl 4]) (by rw [h11_4]) ?_
      refine ax_tabIn (tgt := 76) dX12_of_11 (by decide) (by decide) rfl (by decide) ?_
      refine ax_aload_n dX12_of_76 rfl rfl (pc' := 77) rfl ?_
      refine ax_iload_n dX12_of_77 rfl rfl (pc' := 78) rfl ?_
      refine ax_invG [.inl r] [] dX12_of_78 mlX12_348 sh_330 rfl rfl rfl (Nat.le_of_ble_eq_true rfl) (s_X12_tiedMany E l _ (by omega) _ r hw (by first | omega | assumption) (by first | omega | assumption)) (pc' := 81) rfl (fun vv M_78 hq co78 hcm78 => ?_)
      obtain ⟨rfl, rfl⟩ := hq
      refine ax_reS (st2 := [.inl (f_tied w r)]) rfl ?_
      have cc78 : -2147483648 ≤ f_tied w r ∧ f_tied w r < 2147483648 := co78 _ rfl
      refine ax_iret dX12_of_81 rfl ?_
      refine ⟨rfl, ?_, ?_⟩
      · refine congrArg (fun z => some (Sum.inl z)) ?_
        unfold F_of
        repeat' split
        all_goals first | rfl | omega | (exfalso; omega)
      · rfl
    by_cases h11_5 : what = 5
    · refine ax_reS (st2 := [.inl 5]) (by rw [h11_5]) ?_
      refine ax_tabIn (tgt := 82) dX12_of_11 (by decide) (by decide) rfl (by decide) ?_
      refine ax_aload_n dX12_of_82 rfl rfl (pc' := 83) rfl ?_
      refine ax_iload_n dX12_of_83 rfl rfl (pc' := 84) rfl ?_
      refine ax_invG [.inl r] [] dX12_of_84 mlX12_455 sh_330 rfl rfl rfl (Nat.le_of_ble_eq_true rfl) (s_X12_allHabits E l _ (by omega) _ r hw (by first | omega | assumption) (by first | omega | assumption)) (pc' := 87) rfl (fun vv M_84 hq co84 hcm84 => ?_)
      obtain ⟨rfl, rfl⟩ := hq
      refine ax_reS (st2 := [.inl (f_all w r)]) rfl ?_
      have cc84 : -2147483648 ≤ f_all w r ∧ f_all w r < 2147483648 := co84 _ rfl
      refine ax_iret dX12_of_87 rfl ?_
      refine ⟨rfl, ?_, ?_⟩
      · refine congrArg (fun z => some (Sum.inl z)) ?_
        unfold F_of
        repeat' split
        all_goals first | rfl | omega | (exfalso; omega)
      · rfl
    refine ax_tabOut (tgt := 88) dX12_of_11 (by omega) (by decide) ?_
    refine ax_iconst dX12_of_88 (by decide) (pc' := 89) rfl ?_
    refine ax_iret dX12_of_89 rfl ?_
    refine ⟨rfl, ?_, ?_⟩
    · refine congrArg (fun z => some (Sum.inl z)) ?_
      unfold F_of
      repeat' split
      all_goals first | rfl | omega | (exfalso; omega)
    · rfl
  · replace h5 := f_b_0 h5
    exfalso
    omega
set_option maxRecDepth 20000 in
theorem s_X12_book (E : ax_Env) (l : Launch) (d : Nat) (hd : 1 ≤ d) (M : ax_Mem) (x what : Int) {w : Int → Int} (hw : M 331 = w) (hg0 : 0 ≤ w 1 ∧ w 1 ≤ 200) : ax_G E l d iX12_book [.inr 330, .inl x, .inl what] M (fun z0 M2 => z0 = some (.inl (F_book w x what)) ∧ M = M2) := by
  obtain ⟨d, rfl⟩ : ∃ d0, d = d0 + 1 := ⟨d - 1, by omega⟩
  refine ax_start rfl (Nat.le_of_ble_eq_true rfl) (ls := [some (.inr 330), some (.inl x), some (.inl what)]) rfl (fun hav hcm => ?_)
  have hc1 : -2147483648 ≤ x ∧ x < 2147483648 := hav (.inl x) (by simp)
  have hc2 : -2147483648 ≤ what ∧ what < 2147483648 := hav (.inl what) (by simp)
  clear hav
  refine ax_iload_n dX12_book_0 rfl rfl (pc' := 1) rfl ?_
  refine ax_iconst dX12_book_1 (by decide) (pc' := 2) rfl ?_
  refine ax_aload_n dX12_book_2 rfl rfl (pc' := 3) rfl ?_
  refine ax_getr (v := 331) dX12_book_3 flX12_7 rfl sh_330 rfl (pc' := 6) rfl ?_
  refine ax_iconst dX12_book_6 (by decide) (pc' := 7) rfl ?_
  refine ax_iald (v := w 1) dX12_book_7 sh_331 rfl (by omega) (by omega) ((congrFun hw 1).trans rfl) (pc' := 8) rfl ?_
  refine ax_iconst dX12_book_8 (by decide) (pc' := 9) rfl ?_
  refine ax_isub dX12_book_9 (by omega) (pc' := 10) rfl ?_
  refine ax_insG [.inl x, .inl 0, .inl (w 1 - 1)] [] dX12_book_10 mlX12_74 rfl rfl (Nat.le_of_ble_eq_true rfl) (s_X12_isIn E l _ (by omega) _ x 0 (w 1 - 1)) (pc' := 13) rfl (fun vv M_10 hq co10 hcm10 => ?_)
  obtain ⟨rfl, rfl⟩ := hq
  refine ax_reS (st2 := [.inl (f_b (0 ≤ x ∧ x ≤ (w 1 - 1)))]) rfl ?_
  refine ax_if_eq (tgt := 43) dX12_book_13 (by decide) (pc' := 16) rfl (fun h13 => ?_) (fun h13 => ?_)
  · replace h13 := f_b_0 h13
    refine ax_bipush dX12_book_43 (by decide) (pc' := 45) rfl ?_
    refine ax_iret dX12_book_45 rfl ?_
    refine ⟨rfl, ?_, ?_⟩
    · refine congrArg (fun z => some (Sum.inl z)) ?_
      unfold F_book
      repeat' split
      all_goals first | rfl | omega | (exfalso; omega)
    · rfl
  · replace h13 := f_b_1 h13
    refine ax_iload_n dX12_book_16 rfl rfl (pc' := 17) rfl ?_
    refine ax_iconst dX12_book_17 (by decide) (pc' := 18) rfl ?_
    refine ax_iconst dX12_book_18 (by decide) (pc' := 19) rfl ?_
    refine ax_insG [.inl what, .inl 0, .inl 5] [] dX12_book_19 mlX12_74 rfl rfl (Nat.le_of_ble_eq_true rfl) (s_X12_isIn E l _ (by omega) _ what 0 5) (pc' := 22) rfl (fun vv M_19 hq co19 hcm19 => ?_)
    obtain ⟨rfl, rfl⟩ := hq
    refine ax_reS (st2 := [.inl (f_b (0 ≤ what ∧ what ≤ 5))]) rfl ?_
    refine ax_if_eq (tgt := 43) dX12_book_22 (by decide) (pc' := 25) rfl (fun h22 => ?_) (fun h22 => ?_)
    · replace h22 := f_b_0 h22
      refine ax_bipush dX12_book_43 (by decide) (pc' := 45) rfl ?_
      refine ax_iret dX12_book_45 rfl ?_
      refine ⟨rfl, ?_, ?_⟩
      · refine congrArg (fun z => some (Sum.inl z)) ?_
        unfold F_book
        repeat' split
        all_goals first | rfl | omega | (exfalso; omega)
      · rfl
    · replace h22 := f_b_1 h22
      refine ax_aload_n dX12_book_25 rfl rfl (pc' := 26) rfl ?_
      refine ax_getr (v := 331) dX12_book_26 flX12_7 rfl sh_330 rfl (pc' := 29) rfl ?_
      refine ax_sipush dX12_book_29 (by decide) (pc' := 32) rfl ?_
      refine ax_bipush dX12_book_32 (by decide) (pc' := 34) rfl ?_
      refine ax_iload_n dX12_book_34 rfl rfl (pc' := 35) rfl ?_
      refine ax_imul dX12_book_35 (by omega) (pc' := 36) rfl ?_
      refine ax_iadd dX12_book_36 (by omega) (pc' := 37) rfl ?_
      refine ax_iload_n dX12_book_37 rfl rfl (pc' := 38) rfl ?_
      refine ax_iadd dX12_book_38 (by omega) (pc' := 39) rfl ?_
      refine ax_iald (v := w (2640 + (6 * x) + what)) dX12_book_39 sh_331 rfl (by omega) (by omega) ((congrFun hw (2640 + (6 * x) + what)).trans rfl) (pc' := 40) rfl ?_
      refine ax_goto dX12_book_40 (pc' := 45) (by decide) ?_
      refine ax_iret dX12_book_45 rfl ?_
      refine ⟨rfl, ?_, ?_⟩
      · refine congrArg (fun z => some (Sum.inl z)) ?_
        unfold F_book
        repeat' split
        all_goals first | rfl | omega | (exfalso; omega)
      · rfl
set_option maxRecDepth 20000 in
theorem s_X12_ropeSet (E : ax_Env) (l : Launch) (d : Nat) (hd : 1 ≤ d) (M : ax_Mem) {w : Int → Int} (hw : M 331 = w) : ax_G E l d iX12_ropeSet [.inr 330] M (fun z0 M2 => z0 = some (.inl (f_set w)) ∧ M = M2) := by
  obtain ⟨d, rfl⟩ : ∃ d0, d = d0 + 1 := ⟨d - 1, by omega⟩
  refine ax_start rfl (Nat.le_of_ble_eq_true rfl) (ls := [some (.inr 330), none, none]) rfl (fun hav hcm => ?_)
  clear hav
  refine ax_iconst dX12_ropeSet_0 (by decide) (pc' := 1) rfl ?_
  refine ax_istore_n dX12_ropeSet_1 rfl (by decide) (ls' := [some (.inr 330), some (.inl 0), none]) rfl (pc' := 2) rfl ?_
  refine ax_iconst dX12_ropeSet_2 (by decide) (pc' := 3) rfl ?_
  refine ax_istore_n dX12_ropeSet_3 rfl (by decide) (ls' := [some (.inr 330), some (.inl 0), some (.inl 0)]) rfl (pc' := 4) rfl ?_
  have LP1 : ∀ (kq2 : Nat) (r s : Int) (hm1 : 8 - r < (kq2 : Nat)) (iv1_0 : 0 ≤ r ∧ r ≤ 8) (iv1_1 : f_loop (fun r s => ax_or s (ax_shl (f_R w r 0) r)) r 8 s = f_set w), ax_W E l (d + 1) 0 0 iX12_ropeSet 4 [some (.inr 330), some (.inl s), some (.inl r)] [] SH M (ax_P (fun z0 M2 => z0 = some (.inl (f_set w)) ∧ M = M2)) := by
    intro kq2
    induction kq2 with
    | zero =>
      intro r s hm1 iv1_0 iv1_1
      exfalso
      omega
    | succ kq2 ih3 =>
      intro r s hm1 iv1_0 iv1_1
      refine ax_iload_n dX12_ropeSet_4 rfl rfl (pc' := 5) rfl ?_
      refine ax_bipush dX12_ropeSet_5 (by decide) (pc' := 7) rfl ?_
      refine ax_icmp_ge (tgt := 27) dX12_ropeSet_7 (by decide) (pc' := 10) rfl (fun h7 => ?_) (fun h7 => ?_)
      · refine ax_iload_n dX12_ropeSet_27 rfl rfl (pc' := 28) rfl ?_
        refine ax_iret dX12_ropeSet_28 rfl ?_
        refine ⟨rfl, ?_, ?_⟩
        · refine congrArg (fun z => some (Sum.inl z)) ?_
          exact (f_loop_done (by omega)).symm.trans iv1_1
        · rfl
      · refine ax_iload_n dX12_ropeSet_10 rfl rfl (pc' := 11) rfl ?_
        refine ax_aload_n dX12_ropeSet_11 rfl rfl (pc' := 12) rfl ?_
        refine ax_iload_n dX12_ropeSet_12 rfl rfl (pc' := 13) rfl ?_
        refine ax_iconst dX12_ropeSet_13 (by decide) (pc' := 14) rfl ?_
        refine ax_invG [.inl r, .inl 0] [.inl s] dX12_ropeSet_14 mlX12_78 sh_330 rfl rfl rfl (Nat.le_of_ble_eq_true rfl) (s_X12_ofRope E l _ (by omega) _ r 0 hw (by first | omega | assumption) (by first | omega | assumption)) (pc' := 17) rfl (fun vv M_14 hq co14 hcm14 => ?_)
        obtain ⟨rfl, rfl⟩ := hq
        refine ax_reS (st2 := [.inl (f_R w r 0), .inl s]) rfl ?_
        have cc14 : -2147483648 ≤ f_R w r 0 ∧ f_R w r 0 < 2147483648 := co14 _ rfl
        refine ax_iload_n dX12_ropeSet_17 rfl rfl (pc' := 18) rfl ?_
        refine ax_ishl dX12_ropeSet_18 (pc' := 19) rfl ?_
        refine ax_ior dX12_ropeSet_19 (pc' := 20) rfl ?_
        refine ax_istore_n dX12_ropeSet_20 rfl (by decide) (ls' := [some (.inr 330), some (.inl (ax_or s (ax_shl (f_R w r 0) r))), some (.inl r)]) rfl (pc' := 21) rfl ?_
        refine ax_iinc dX12_ropeSet_21 rfl (by decide) (by omega) (ls' := [some (.inr 330), some (.inl (ax_or s (ax_shl (f_R w r 0) r))), some (.inl (r + 1))]) rfl (pc' := 24) rfl ?_
        refine ax_goto dX12_ropeSet_24 (pc' := 4) (by decide) ?_
        refine ih3 (r + 1) (ax_or s (ax_shl (f_R w r 0) r)) ?_ ?_ ?_
        · omega
        · omega
        · exact f_loop_back (by omega) iv1_1 rfl
  refine LP1 (8 - 0 : Int).toNat.succ 0 0 ?_ ?_ ?_
  · omega
  · omega
  · rfl
set_option maxRecDepth 20000 in
theorem s_X12_look (E : ax_Env) (l : Launch) (d : Nat) (hd : 2 ≤ d) (M : ax_Mem) (what : Int) {w : Int → Int} (hw : M 331 = w) {m : Int} (hm : M 330 4 = m) : ax_G E l d iX12_look [.inr 330, .inl what] M (fun z0 M2 => z0 = some (.inl (F_look w m what)) ∧ M = M2) := by
  obtain ⟨d, rfl⟩ : ∃ d0, d = d0 + 1 := ⟨d - 1, by omega⟩
  refine ax_start rfl (Nat.le_of_ble_eq_true rfl) (ls := [some (.inr 330), some (.inl what)]) rfl (fun hav hcm => ?_)
  have hc1 : -2147483648 ≤ what ∧ what < 2147483648 := hav (.inl what) (by simp)
  clear hav
  refine ax_iload_n dX12_look_0 rfl rfl (pc' := 1) rfl ?_
  by_cases h1_0 : what = 0
  · refine ax_reS (st2 := [.inl 0]) (by rw [h1_0]) ?_
    refine ax_tabIn (tgt := 64) dX12_look_1 (by decide) (by decide) rfl (by decide) ?_
    refine ax_aload_n dX12_look_64 rfl rfl (pc' := 65) rfl ?_
    refine ax_invG [] [] dX12_look_65 mlX12_445 sh_330 rfl rfl rfl (Nat.le_of_ble_eq_true rfl) (s_X12_ropeSet E l _ (by omega) _ hw) (pc' := 68) rfl (fun vv M_65 hq co65 hcm65 => ?_)
    obtain ⟨rfl, rfl⟩ := hq
    refine ax_reS (st2 := [.inl (f_set w)]) rfl ?_
    have cc65 : -2147483648 ≤ f_set w ∧ f_set w < 2147483648 := co65 _ rfl
    refine ax_iret dX12_look_68 rfl ?_
    refine ⟨rfl, ?_, ?_⟩
    · refine congrArg (fun z => some (Sum.inl z)) ?_
      unfold F_look
      repeat' split
      all_goals first | rfl | omega | (exfalso; omega)
    · rfl
  by_cases h1_1 : what = 1
  · refine ax_reS (st2 := [.inl 1]) (by rw [h1_1]) ?_
    refine ax_tabIn (tgt := 69) dX12_look_1 (by decide) (by decide) rfl (by decide) ?_
    refine ax_aload_n dX12_look_69 rfl rfl (pc' := 70) rfl ?_
    refine ax_getr (v := 331) dX12_look_70 flX12_7 rfl sh_330 rfl (pc' := 73) rfl ?_
    refine ax_iconst dX12_look_73 (by decide) (pc' := 74) rfl ?_
    refine ax_iald (v := w 0) dX12_look_74 sh_331 rfl (by omega) (by omega) ((congrFun hw 0).trans rfl) (pc' := 75) rfl ?_
    refine ax_iret dX12_look_75 rfl ?_
    refine ⟨rfl, ?_, ?_⟩
    · refine congrArg (fun z => some (Sum.inl z)) ?_
      unfold F_look
      repeat' split
      all_goals first | rfl | omega | (exfalso; omega)
    · rfl
  by_cases h1_2 : what = 2
  · refine ax_reS (st2 := [.inl 2]) (by rw [h1_2]) ?_
    refine ax_tabIn (tgt := 76) dX12_look_1 (by decide) (by decide) rfl (by decide) ?_
    refine ax_aload_n dX12_look_76 rfl rfl (pc' := 77) rfl ?_
    refine ax_getr (v := 331) dX12_look_77 flX12_7 rfl sh_330 rfl (pc' := 80) rfl ?_
    refine ax_sipush dX12_look_80 (by decide) (pc' := 83) rfl ?_
    refine ax_iald (v := w 2576) dX12_look_83 sh_331 rfl (by omega) (by omega) ((congrFun hw 2576).trans rfl) (pc' := 84) rfl ?_
    refine ax_iret dX12_look_84 rfl ?_
    refine ⟨rfl, ?_, ?_⟩
    · refine congrArg (fun z => some (Sum.inl z)) ?_
      unfold F_look
      repeat' split
      all_goals first | rfl | omega | (exfalso; omega)
    · rfl
  by_cases h1_3 : what = 3
  · refine ax_reS (st2 := [.inl 3]) (by rw [h1_3]) ?_
    refine ax_tabIn (tgt := 85) dX12_look_1 (by decide) (by decide) rfl (by decide) ?_
    refine ax_aload_n dX12_look_85 rfl rfl (pc' := 86) rfl ?_
    refine ax_getr (v := 331) dX12_look_86 flX12_7 rfl sh_330 rfl (pc' := 89) rfl ?_
    refine ax_iconst dX12_look_89 (by decide) (pc' := 90) rfl ?_
    refine ax_iald (v := w 1) dX12_look_90 sh_331 rfl (by omega) (by omega) ((congrFun hw 1).trans rfl) (pc' := 91) rfl ?_
    refine ax_iret dX12_look_91 rfl ?_
    refine ⟨rfl, ?_, ?_⟩
    · refine congrArg (fun z => some (Sum.inl z)) ?_
      unfold F_look
      repeat' split
      all_goals first | rfl | omega | (exfalso; omega)
    · rfl
  by_cases h1_4 : what = 4
  · refine ax_reS (st2 := [.inl 4]) (by rw [h1_4]) ?_
    refine ax_tabIn (tgt := 92) dX12_look_1 (by decide) (by decide) rfl (by decide) ?_
    refine ax_aload_n dX12_look_92 rfl rfl (pc' := 93) rfl ?_
    refine ax_getr (v := 331) dX12_look_93 flX12_7 rfl sh_330 rfl (pc' := 96) rfl ?_
    refine ax_iconst dX12_look_96 (by decide) (pc' := 97) rfl ?_
    refine ax_iald (v := w 2) dX12_look_97 sh_331 rfl (by omega) (by omega) ((congrFun hw 2).trans rfl) (pc' := 98) rfl ?_
    refine ax_iret dX12_look_98 rfl ?_
    refine ⟨rfl, ?_, ?_⟩
    · refine congrArg (fun z => some (Sum.inl z)) ?_
      unfold F_look
      repeat' split
      all_goals first | rfl | omega | (exfalso; omega)
    · rfl
  by_cases h1_5 : what = 5
  · refine ax_reS (st2 := [.inl 5]) (by rw [h1_5]) ?_
    refine ax_tabIn (tgt := 99) dX12_look_1 (by decide) (by decide) rfl (by decide) ?_
    refine ax_aload_n dX12_look_99 rfl rfl (pc' := 100) rfl ?_
    refine ax_getr (v := 331) dX12_look_100 flX12_7 rfl sh_330 rfl (pc' := 103) rfl ?_
    refine ax_sipush dX12_look_103 (by decide) (pc' := 106) rfl ?_
    refine ax_iald (v := w 2634) dX12_look_106 sh_331 rfl (by omega) (by omega) ((congrFun hw 2634).trans rfl) (pc' := 107) rfl ?_
    refine ax_iret dX12_look_107 rfl ?_
    refine ⟨rfl, ?_, ?_⟩
    · refine congrArg (fun z => some (Sum.inl z)) ?_
      unfold F_look
      repeat' split
      all_goals first | rfl | omega | (exfalso; omega)
    · rfl
  by_cases h1_6 : what = 6
  · refine ax_reS (st2 := [.inl 6]) (by rw [h1_6]) ?_
    refine ax_tabIn (tgt := 108) dX12_look_1 (by decide) (by decide) rfl (by decide) ?_
    refine ax_aload_n dX12_look_108 rfl rfl (pc' := 109) rfl ?_
    refine ax_getr (v := 331) dX12_look_109 flX12_7 rfl sh_330 rfl (pc' := 112) rfl ?_
    refine ax_sipush dX12_look_112 (by decide) (pc' := 115) rfl ?_
    refine ax_iald (v := w 2635) dX12_look_115 sh_331 rfl (by omega) (by omega) ((congrFun hw 2635).trans rfl) (pc' := 116) rfl ?_
    refine ax_iret dX12_look_116 rfl ?_
    refine ⟨rfl, ?_, ?_⟩
    · refine congrArg (fun z => some (Sum.inl z)) ?_
      unfold F_look
      repeat' split
      all_goals first | rfl | omega | (exfalso; omega)
    · rfl
  by_cases h1_7 : what = 7
  · refine ax_reS (st2 := [.inl 7]) (by rw [h1_7]) ?_
    refine ax_tabIn (tgt := 117) dX12_look_1 (by decide) (by decide) rfl (by decide) ?_
    refine ax_aload_n dX12_look_117 rfl rfl (pc' := 118) rfl ?_
    refine ax_getr (v := 331) dX12_look_118 flX12_7 rfl sh_330 rfl (pc' := 121) rfl ?_
    refine ax_sipush dX12_look_121 (by decide) (pc' := 124) rfl ?_
    refine ax_iald (v := w 2636) dX12_look_124 sh_331 rfl (by omega) (by omega) ((congrFun hw 2636).trans rfl) (pc' := 125) rfl ?_
    refine ax_iret dX12_look_125 rfl ?_
    refine ⟨rfl, ?_, ?_⟩
    · refine congrArg (fun z => some (Sum.inl z)) ?_
      unfold F_look
      repeat' split
      all_goals first | rfl | omega | (exfalso; omega)
    · rfl
  by_cases h1_8 : what = 8
  · refine ax_reS (st2 := [.inl 8]) (by rw [h1_8]) ?_
    refine ax_tabIn (tgt := 126) dX12_look_1 (by decide) (by decide) rfl (by decide) ?_
    refine ax_aload_n dX12_look_126 rfl rfl (pc' := 127) rfl ?_
    refine ax_getr (v := 331) dX12_look_127 flX12_7 rfl sh_330 rfl (pc' := 130) rfl ?_
    refine ax_sipush dX12_look_130 (by decide) (pc' := 133) rfl ?_
    refine ax_iald (v := w 2600) dX12_look_133 sh_331 rfl (by omega) (by omega) ((congrFun hw 2600).trans rfl) (pc' := 134) rfl ?_
    refine ax_iret dX12_look_134 rfl ?_
    refine ⟨rfl, ?_, ?_⟩
    · refine congrArg (fun z => some (Sum.inl z)) ?_
      unfold F_look
      repeat' split
      all_goals first | rfl | omega | (exfalso; omega)
    · rfl
  by_cases h1_9 : what = 9
  · refine ax_reS (st2 := [.inl 9]) (by rw [h1_9]) ?_
    refine ax_tabIn (tgt := 135) dX12_look_1 (by decide) (by decide) rfl (by decide) ?_
    refine ax_aload_n dX12_look_135 rfl rfl (pc' := 136) rfl ?_
    refine ax_geti (v := m) dX12_look_136 flX12_90 rfl sh_330 hm rfl (pc' := 139) rfl ?_
    refine ax_iret dX12_look_139 rfl ?_
    refine ⟨rfl, ?_, ?_⟩
    · refine congrArg (fun z => some (Sum.inl z)) ?_
      unfold F_look
      repeat' split
      all_goals first | rfl | omega | (exfalso; omega)
    · rfl
  by_cases h1_10 : what = 10
  · refine ax_reS (st2 := [.inl 10]) (by rw [h1_10]) ?_
    refine ax_tabIn (tgt := 140) dX12_look_1 (by decide) (by decide) rfl (by decide) ?_
    refine ax_aload_n dX12_look_140 rfl rfl (pc' := 141) rfl ?_
    refine ax_getr (v := 331) dX12_look_141 flX12_7 rfl sh_330 rfl (pc' := 144) rfl ?_
    refine ax_sipush dX12_look_144 (by decide) (pc' := 147) rfl ?_
    refine ax_iald (v := w 2577) dX12_look_147 sh_331 rfl (by omega) (by omega) ((congrFun hw 2577).trans rfl) (pc' := 148) rfl ?_
    refine ax_iret dX12_look_148 rfl ?_
    refine ⟨rfl, ?_, ?_⟩
    · refine congrArg (fun z => some (Sum.inl z)) ?_
      unfold F_look
      repeat' split
      all_goals first | rfl | omega | (exfalso; omega)
    · rfl
  by_cases h1_11 : what = 11
  · refine ax_reS (st2 := [.inl 11]) (by rw [h1_11]) ?_
    refine ax_tabIn (tgt := 149) dX12_look_1 (by decide) (by decide) rfl (by decide) ?_
    refine ax_aload_n dX12_look_149 rfl rfl (pc' := 150) rfl ?_
    refine ax_getr (v := 331) dX12_look_150 flX12_7 rfl sh_330 rfl (pc' := 153) rfl ?_
    refine ax_sipush dX12_look_153 (by decide) (pc' := 156) rfl ?_
    refine ax_iald (v := w 2578) dX12_look_156 sh_331 rfl (by omega) (by omega) ((congrFun hw 2578).trans rfl) (pc' := 157) rfl ?_
    refine ax_iret dX12_look_157 rfl ?_
    refine ⟨rfl, ?_, ?_⟩
    · refine congrArg (fun z => some (Sum.inl z)) ?_
      unfold F_look
      repeat' split
      all_goals first | rfl | omega | (exfalso; omega)
    · rfl
  refine ax_tabOut (tgt := 158) dX12_look_1 (by omega) (by decide) ?_
  refine ax_iload_n dX12_look_158 rfl rfl (pc' := 159) rfl ?_
  refine ax_bipush dX12_look_159 (by decide) (pc' := 161) rfl ?_
  refine ax_bipush dX12_look_161 (by decide) (pc' := 163) rfl ?_
  refine ax_insG [.inl what, .inl 20, .inl 25] [] dX12_look_163 mlX12_74 rfl rfl (Nat.le_of_ble_eq_true rfl) (s_X12_isIn E l _ (by omega) _ what 20 25) (pc' := 166) rfl (fun vv M_163 hq co163 hcm163 => ?_)
  obtain ⟨rfl, rfl⟩ := hq
  refine ax_reS (st2 := [.inl (f_b (20 ≤ what ∧ what ≤ 25))]) rfl ?_
  refine ax_if_eq (tgt := 183) dX12_look_166 (by decide) (pc' := 169) rfl (fun h166 => ?_) (fun h166 => ?_)
  · replace h166 := f_b_0 h166
    refine ax_iload_n dX12_look_183 rfl rfl (pc' := 184) rfl ?_
    refine ax_bipush dX12_look_184 (by decide) (pc' := 186) rfl ?_
    refine ax_bipush dX12_look_186 (by decide) (pc' := 188) rfl ?_
    refine ax_insG [.inl what, .inl 30, .inl 35] [] dX12_look_188 mlX12_74 rfl rfl (Nat.le_of_ble_eq_true rfl) (s_X12_isIn E l _ (by omega) _ what 30 35) (pc' := 191) rfl (fun vv M_188 hq co188 hcm188 => ?_)
    obtain ⟨rfl, rfl⟩ := hq
    refine ax_reS (st2 := [.inl (f_b (30 ≤ what ∧ what ≤ 35))]) rfl ?_
    refine ax_if_eq (tgt := 210) dX12_look_191 (by decide) (pc' := 194) rfl (fun h191 => ?_) (fun h191 => ?_)
    · replace h191 := f_b_0 h191
      refine ax_iconst dX12_look_210 (by decide) (pc' := 211) rfl ?_
      refine ax_iret dX12_look_211 rfl ?_
      refine ⟨rfl, ?_, ?_⟩
      · refine congrArg (fun z => some (Sum.inl z)) ?_
        unfold F_look
        repeat' split
        all_goals first | rfl | omega | (exfalso; omega)
      · rfl
    · replace h191 := f_b_1 h191
      refine ax_aload_n dX12_look_194 rfl rfl (pc' := 195) rfl ?_
      refine ax_getr (v := 331) dX12_look_195 flX12_7 rfl sh_330 rfl (pc' := 198) rfl ?_
      refine ax_sipush dX12_look_198 (by decide) (pc' := 201) rfl ?_
      refine ax_iload_n dX12_look_201 rfl rfl (pc' := 202) rfl ?_
      refine ax_iadd dX12_look_202 (by omega) (pc' := 203) rfl ?_
      refine ax_bipush dX12_look_203 (by decide) (pc' := 205) rfl ?_
      refine ax_isub dX12_look_205 (by omega) (pc' := 206) rfl ?_
      refine ax_iald (v := w (2570 + what - 30)) dX12_look_206 sh_331 rfl (by omega) (by omega) ((congrFun hw (2570 + what - 30)).trans rfl) (pc' := 207) rfl ?_
      refine ax_goto dX12_look_207 (pc' := 211) (by decide) ?_
      refine ax_iret dX12_look_211 rfl ?_
      refine ⟨rfl, ?_, ?_⟩
      · refine congrArg (fun z => some (Sum.inl z)) ?_
        unfold F_look
        repeat' split
        all_goals first | rfl | omega | (exfalso; omega)
      · rfl
  · replace h166 := f_b_1 h166
    refine ax_aload_n dX12_look_169 rfl rfl (pc' := 170) rfl ?_
    refine ax_getr (v := 331) dX12_look_170 flX12_7 rfl sh_330 rfl (pc' := 173) rfl ?_
    refine ax_sipush dX12_look_173 (by decide) (pc' := 176) rfl ?_
    refine ax_iload_n dX12_look_176 rfl rfl (pc' := 177) rfl ?_
    refine ax_iadd dX12_look_177 (by omega) (pc' := 178) rfl ?_
    refine ax_bipush dX12_look_178 (by decide) (pc' := 180) rfl ?_
    refine ax_isub dX12_look_180 (by omega) (pc' := 181) rfl ?_
    refine ax_iald (v := w (2564 + what - 20)) dX12_look_181 sh_331 rfl (by omega) (by omega) ((congrFun hw (2564 + what - 20)).trans rfl) (pc' := 182) rfl ?_
    refine ax_iret dX12_look_182 rfl ?_
    refine ⟨rfl, ?_, ?_⟩
    · refine congrArg (fun z => some (Sum.inl z)) ?_
      unfold F_look
      repeat' split
      all_goals first | rfl | omega | (exfalso; omega)
    · rfl
set_option maxRecDepth 20000 in
theorem s_X12_laysAside (E : ax_Env) (l : Launch) (d : Nat) (hd : 0 ≤ d) (M : ax_Mem) {w : Int → Int} (hw : M 331 = w) {ly : Int → Int} (hly : M 334 = ly) : ax_G E l d iX12_laysAside [.inr 330] M (fun z0 M2 => z0 = none ∧ (∀ x0 i0 : Int, ¬ (x0 = 334 ∨ x0 = 331) → M2 x0 i0 = M x0 i0) ∧ M2 334 = f_cp w 0 ly 0 2564 ∧ M2 331 = f_up w 1 200) := by
  refine ax_start rfl (Nat.le_of_ble_eq_true rfl) (ls := [some (.inr 330), none]) rfl (fun hav hcm => ?_)
  clear hav
  refine ax_iconst dX12_laysAside_0 (by decide) (pc' := 1) rfl ?_
  refine ax_istore_n dX12_laysAside_1 rfl (by decide) (ls' := [some (.inr 330), some (.inl 0)]) rfl (pc' := 2) rfl ?_
  have LP1 : ∀ (kq2 : Nat) (i : Int) (lv1 : Int → Int) (M1 : ax_Mem) (hm1 : 2564 - i < (kq2 : Nat)) (fr1 : ∀ x0 i0 : Int, ¬ (x0 = 334) → M1 x0 i0 = M x0 i0) (mr1_334 : M1 334 = lv1) (iv1_0 : 0 ≤ i ∧ i ≤ 2564) (iv1_1 : lv1 = f_cp w 0 ly 0 i), ax_W E l d 0 0 iX12_laysAside 2 [some (.inr 330), some (.inl i)] [] SH M1 (ax_P (fun z0 M2 => z0 = none ∧ (∀ x0 i0 : Int, ¬ (x0 = 334 ∨ x0 = 331) → M2 x0 i0 = M x0 i0) ∧ M2 334 = f_cp w 0 ly 0 2564 ∧ M2 331 = f_up w 1 200)) := by
    intro kq2
    induction kq2 with
    | zero =>
      intro i lv1 M1 hm1 fr1 mr1_334 iv1_0 iv1_1
      exfalso
      omega
    | succ kq2 ih3 =>
      intro i lv1 M1 hm1 fr1 mr1_334 iv1_0 iv1_1
      refine ax_iload_n dX12_laysAside_2 rfl rfl (pc' := 3) rfl ?_
      refine ax_sipush dX12_laysAside_3 (by decide) (pc' := 6) rfl ?_
      refine ax_icmp_ge (tgt := 27) dX12_laysAside_6 (by decide) (pc' := 9) rfl (fun h6 => ?_) (fun h6 => ?_)
      · refine ax_aload_n dX12_laysAside_27 rfl rfl (pc' := 28) rfl ?_
        refine ax_getr (v := 331) dX12_laysAside_28 flX12_7 rfl sh_330 rfl (pc' := 31) rfl ?_
        refine ax_iconst dX12_laysAside_31 (by decide) (pc' := 32) rfl ?_
        refine ax_sipush dX12_laysAside_32 (by decide) (pc' := 35) rfl ?_
        refine ax_iast dX12_laysAside_35 sh_331 rfl (by omega) (by omega) (pc' := 36) rfl ?_
        refine ax_vret dX12_laysAside_36 rfl ?_
        refine ⟨rfl, rfl, ?_, ?_, ?_⟩
        · intro x0 i0 hai
          exact (ax_up_miss (by omega) ((fr1 x0 i0 (by omega)).trans rfl))
        · refine Eq.trans (ax_up_rowmiss (by decide) mr1_334) ?_
          rw [iv1_1, show i = 2564 by omega]
        · exact (ax_up_rowhit ((funext fun i0 => fr1 331 i0 (by omega)).trans hw))
      · refine ax_aload_n dX12_laysAside_9 rfl rfl (pc' := 10) rfl ?_
        refine ax_getr (v := 334) dX12_laysAside_10 flX12_19 rfl sh_330 rfl (pc' := 13) rfl ?_
        refine ax_iload_n dX12_laysAside_13 rfl rfl (pc' := 14) rfl ?_
        refine ax_aload_n dX12_laysAside_14 rfl rfl (pc' := 15) rfl ?_
        refine ax_getr (v := 331) dX12_laysAside_15 flX12_7 rfl sh_330 rfl (pc' := 18) rfl ?_
        refine ax_iload_n dX12_laysAside_18 rfl rfl (pc' := 19) rfl ?_
        refine ax_iald (v := w i) dX12_laysAside_19 sh_331 rfl (by omega) (by omega) ((congrFun ((funext fun i0 => fr1 331 i0 (by omega)).trans hw) i).trans rfl) (pc' := 20) rfl ?_
        refine ax_iast dX12_laysAside_20 sh_334 rfl (by omega) (by omega) (pc' := 21) rfl ?_
        refine ax_iinc dX12_laysAside_21 rfl (by decide) (by omega) (ls' := [some (.inr 330), some (.inl (i + 1))]) rfl (pc' := 24) rfl ?_
        refine ax_goto dX12_laysAside_24 (pc' := 2) (by decide) ?_
        refine ih3 (i + 1) (f_up lv1 i (w i)) (ax_up M1 334 i (w i)) ?_ ?_ ?_ ?_ ?_
        · omega
        · intro x0 i0 hai
          exact (ax_up_miss (by omega) ((fr1 x0 i0 (by omega)).trans rfl))
        · exact (ax_up_rowhit mr1_334)
        · omega
        · rw [iv1_1]
          have qe := f_cp_step0 (f := w) (g := ly) (dp := 0) (n := i) (by omega)
          rw [Int.zero_add] at qe
          exact qe
  refine LP1 (2564 - 0 : Int).toNat.succ 0 ly M ?_ ?_ ?_ ?_ ?_
  · omega
  · exact fun a i _ => rfl
  · exact hly
  · omega
  · exact f_cp_0
set_option maxRecDepth 20000 in
theorem s_X12_putsBack (E : ax_Env) (l : Launch) (d : Nat) (hd : 0 ≤ d) (M : ax_Mem) {w : Int → Int} (hw : M 331 = w) {ly : Int → Int} (hly : M 334 = ly) : ax_G E l d iX12_putsBack [.inr 330] M (fun z0 M2 => z0 = none ∧ (∀ x0 i0 : Int, ¬ (x0 = 331) → M2 x0 i0 = M x0 i0) ∧ M2 331 = f_cp ly 0 w 0 2564) := by
  refine ax_start rfl (Nat.le_of_ble_eq_true rfl) (ls := [some (.inr 330), none]) rfl (fun hav hcm => ?_)
  clear hav
  refine ax_iconst dX12_putsBack_0 (by decide) (pc' := 1) rfl ?_
  refine ax_istore_n dX12_putsBack_1 rfl (by decide) (ls' := [some (.inr 330), some (.inl 0)]) rfl (pc' := 2) rfl ?_
  have LP1 : ∀ (kq2 : Nat) (i : Int) (wv1 : Int → Int) (M1 : ax_Mem) (hm1 : 2564 - i < (kq2 : Nat)) (fr1 : ∀ x0 i0 : Int, ¬ (x0 = 331) → M1 x0 i0 = M x0 i0) (mr1_331 : M1 331 = wv1) (iv1_0 : 0 ≤ i ∧ i ≤ 2564) (iv1_1 : wv1 = f_cp ly 0 w 0 i), ax_W E l d 0 0 iX12_putsBack 2 [some (.inr 330), some (.inl i)] [] SH M1 (ax_P (fun z0 M2 => z0 = none ∧ (∀ x0 i0 : Int, ¬ (x0 = 331) → M2 x0 i0 = M x0 i0) ∧ M2 331 = f_cp ly 0 w 0 2564)) := by
    intro kq2
    induction kq2 with
    | zero =>
      intro i wv1 M1 hm1 fr1 mr1_331 iv1_0 iv1_1
      exfalso
      omega
    | succ kq2 ih3 =>
      intro i wv1 M1 hm1 fr1 mr1_331 iv1_0 iv1_1
      refine ax_iload_n dX12_putsBack_2 rfl rfl (pc' := 3) rfl ?_
      refine ax_sipush dX12_putsBack_3 (by decide) (pc' := 6) rfl ?_
      refine ax_icmp_ge (tgt := 27) dX12_putsBack_6 (by decide) (pc' := 9) rfl (fun h6 => ?_) (fun h6 => ?_)
      · refine ax_vret dX12_putsBack_27 rfl ?_
        refine ⟨rfl, rfl, ?_, ?_⟩
        · intro x0 i0 hai
          exact ((fr1 x0 i0 (by omega)).trans rfl)
        · refine Eq.trans mr1_331 ?_
          rw [iv1_1, show i = 2564 by omega]
      · refine ax_aload_n dX12_putsBack_9 rfl rfl (pc' := 10) rfl ?_
        refine ax_getr (v := 331) dX12_putsBack_10 flX12_7 rfl sh_330 rfl (pc' := 13) rfl ?_
        refine ax_iload_n dX12_putsBack_13 rfl rfl (pc' := 14) rfl ?_
        refine ax_aload_n dX12_putsBack_14 rfl rfl (pc' := 15) rfl ?_
        refine ax_getr (v := 334) dX12_putsBack_15 flX12_19 rfl sh_330 rfl (pc' := 18) rfl ?_
        refine ax_iload_n dX12_putsBack_18 rfl rfl (pc' := 19) rfl ?_
        refine ax_iald (v := ly i) dX12_putsBack_19 sh_334 rfl (by omega) (by omega) ((congrFun ((funext fun i0 => fr1 334 i0 (by omega)).trans hly) i).trans rfl) (pc' := 20) rfl ?_
        refine ax_iast dX12_putsBack_20 sh_331 rfl (by omega) (by omega) (pc' := 21) rfl ?_
        refine ax_iinc dX12_putsBack_21 rfl (by decide) (by omega) (ls' := [some (.inr 330), some (.inl (i + 1))]) rfl (pc' := 24) rfl ?_
        refine ax_goto dX12_putsBack_24 (pc' := 2) (by decide) ?_
        refine ih3 (i + 1) (f_up wv1 i (ly i)) (ax_up M1 331 i (ly i)) ?_ ?_ ?_ ?_ ?_
        · omega
        · intro x0 i0 hai
          exact (ax_up_miss (by omega) ((fr1 x0 i0 (by omega)).trans rfl))
        · exact (ax_up_rowhit mr1_331)
        · omega
        · rw [iv1_1]
          have qe := f_cp_step0 (f := ly) (g := w) (dp := 0) (n := i) (by omega)
          rw [Int.zero_add] at qe
          exact qe
  refine LP1 (2564 - 0 : Int).toNat.succ 0 w M ?_ ?_ ?_ ?_ ?_
  · omega
  · exact fun a i _ => rfl
  · exact hw
  · omega
  · exact f_cp_0
set_option maxRecDepth 20000 in
theorem s_X12_told_cl (E : ax_Env) (l : Launch) (d : Nat) (hd : 1 ≤ d) (M : ax_Mem) (k : Int) {w : Int → Int} (hw : M 331 = w) : ax_G E l d iX12_told [.inr 330, .inl (-1), .inl k] M (fun z0 M2 => z0 = some (.inl 0) ∧ (∀ x0 i0 : Int, ¬ (x0 = 331) → M2 x0 i0 = M x0 i0) ∧ M2 331 = f_up w 2577 0) := by
  obtain ⟨d, rfl⟩ : ∃ d0, d = d0 + 1 := ⟨d - 1, by omega⟩
  refine ax_start rfl (Nat.le_of_ble_eq_true rfl) (ls := [some (.inr 330), some (.inl (-1)), some (.inl k)]) rfl (fun hav hcm => ?_)
  have hc2 : -2147483648 ≤ k ∧ k < 2147483648 := hav (.inl k) (by simp)
  clear hav
  refine ax_iload_n dX12_told_0 rfl rfl (pc' := 1) rfl ?_
  refine ax_iconst dX12_told_1 (by decide) (pc' := 2) rfl ?_
  refine ax_icmp_ne (tgt := 16) dX12_told_2 (by decide) (pc' := 5) rfl (fun h2 => ?_) (fun h2 => ?_)
  · exfalso
    omega
  · refine ax_aload_n dX12_told_5 rfl rfl (pc' := 6) rfl ?_
    refine ax_getr (v := 331) dX12_told_6 flX12_7 rfl sh_330 rfl (pc' := 9) rfl ?_
    refine ax_sipush dX12_told_9 (by decide) (pc' := 12) rfl ?_
    refine ax_iconst dX12_told_12 (by decide) (pc' := 13) rfl ?_
    refine ax_iast dX12_told_13 sh_331 rfl (by omega) (by omega) (pc' := 14) rfl ?_
    refine ax_iconst dX12_told_14 (by decide) (pc' := 15) rfl ?_
    refine ax_iret dX12_told_15 rfl ?_
    refine ⟨rfl, ?_, ?_, ?_⟩
    · rfl
    · intro x0 i0 hai
      exact (ax_up_miss (by omega) rfl)
    · exact (ax_up_rowhit hw)
set_option maxRecDepth 20000 in
theorem s_X12_told_no (E : ax_Env) (l : Launch) (d : Nat) (hd : 1 ≤ d) (M : ax_Mem) (f k : Int) {w : Int → Int} (hw : M 331 = w) (hg0 : f ≠ -1 ∧ ¬ ((0 ≤ f ∧ f ≤ 99) ∧ (-1 ≤ k ∧ k ≤ 5) ∧ w 2577 ≠ 6)) : ax_G E l d iX12_told [.inr 330, .inl f, .inl k] M (fun z0 M2 => z0 = some (.inl (-1)) ∧ M = M2) := by
  obtain ⟨d, rfl⟩ : ∃ d0, d = d0 + 1 := ⟨d - 1, by omega⟩
  refine ax_start rfl (Nat.le_of_ble_eq_true rfl) (ls := [some (.inr 330), some (.inl f), some (.inl k)]) rfl (fun hav hcm => ?_)
  have hc1 : -2147483648 ≤ f ∧ f < 2147483648 := hav (.inl f) (by simp)
  have hc2 : -2147483648 ≤ k ∧ k < 2147483648 := hav (.inl k) (by simp)
  clear hav
  refine ax_iload_n dX12_told_0 rfl rfl (pc' := 1) rfl ?_
  refine ax_iconst dX12_told_1 (by decide) (pc' := 2) rfl ?_
  refine ax_icmp_ne (tgt := 16) dX12_told_2 (by decide) (pc' := 5) rfl (fun h2 => ?_) (fun h2 => ?_)
  · refine ax_iload_n dX12_told_16 rfl rfl (pc' := 17) rfl ?_
    refine ax_iconst dX12_told_17 (by decide) (pc' := 18) rfl ?_
    refine ax_bipush dX12_told_18 (by decide) (pc' := 20) rfl ?_
    refine ax_insG [.inl f, .inl 0, .inl 99] [] dX12_told_20 mlX12_74 rfl rfl (Nat.le_of_ble_eq_true rfl) (s_X12_isIn E l _ (by omega) _ f 0 99) (pc' := 23) rfl (fun vv M_20 hq co20 hcm20 => ?_)
    obtain ⟨rfl, rfl⟩ := hq
    refine ax_reS (st2 := [.inl (f_b (0 ≤ f ∧ f ≤ 99))]) rfl ?_
    refine ax_if_eq (tgt := 48) dX12_told_23 (by decide) (pc' := 26) rfl (fun h23 => ?_) (fun h23 => ?_)
    · replace h23 := f_b_0 h23
      refine ax_iconst dX12_told_48 (by decide) (pc' := 49) rfl ?_
      refine ax_iret dX12_told_49 rfl ?_
      refine ⟨rfl, ?_, ?_⟩
      · rfl
      · rfl
    · replace h23 := f_b_1 h23
      refine ax_iload_n dX12_told_26 rfl rfl (pc' := 27) rfl ?_
      refine ax_iconst dX12_told_27 (by decide) (pc' := 28) rfl ?_
      refine ax_iconst dX12_told_28 (by decide) (pc' := 29) rfl ?_
      refine ax_insG [.inl k, .inl (-1), .inl 5] [] dX12_told_29 mlX12_74 rfl rfl (Nat.le_of_ble_eq_true rfl) (s_X12_isIn E l _ (by omega) _ k (-1) 5) (pc' := 32) rfl (fun vv M_29 hq co29 hcm29 => ?_)
      obtain ⟨rfl, rfl⟩ := hq
      refine ax_reS (st2 := [.inl (f_b ((-1) ≤ k ∧ k ≤ 5))]) rfl ?_
      refine ax_if_eq (tgt := 48) dX12_told_32 (by decide) (pc' := 35) rfl (fun h32 => ?_) (fun h32 => ?_)
      · replace h32 := f_b_0 h32
        refine ax_iconst dX12_told_48 (by decide) (pc' := 49) rfl ?_
        refine ax_iret dX12_told_49 rfl ?_
        refine ⟨rfl, ?_, ?_⟩
        · rfl
        · rfl
      · replace h32 := f_b_1 h32
        refine ax_aload_n dX12_told_35 rfl rfl (pc' := 36) rfl ?_
        refine ax_getr (v := 331) dX12_told_36 flX12_7 rfl sh_330 rfl (pc' := 39) rfl ?_
        refine ax_sipush dX12_told_39 (by decide) (pc' := 42) rfl ?_
        refine ax_iald (v := w 2577) dX12_told_42 sh_331 rfl (by omega) (by omega) ((congrFun hw 2577).trans rfl) (pc' := 43) rfl ?_
        refine ax_bipush dX12_told_43 (by decide) (pc' := 45) rfl ?_
        refine ax_icmp_ne (tgt := 50) dX12_told_45 (by decide) (pc' := 48) rfl (fun h45 => ?_) (fun h45 => ?_)
        · exfalso
          omega
        · refine ax_iconst dX12_told_48 (by decide) (pc' := 49) rfl ?_
          refine ax_iret dX12_told_49 rfl ?_
          refine ⟨rfl, ?_, ?_⟩
          · rfl
          · rfl
  · exfalso
    omega
set_option maxRecDepth 20000 in
theorem s_X12_told_ok (E : ax_Env) (l : Launch) (d : Nat) (hd : 1 ≤ d) (M : ax_Mem) (f k : Int) {w : Int → Int} (hw : M 331 = w) (hg0 : (0 ≤ f ∧ f ≤ 99) ∧ (-1 ≤ k ∧ k ≤ 5) ∧ w 2577 ≠ 6) (hg1 : 0 ≤ w 2577 ∧ w 2577 ≤ 6) : ax_G E l d iX12_told [.inr 330, .inl f, .inl k] M (fun z0 M2 => z0 = some (.inl (w 2577 + 1)) ∧ (∀ x0 i0 : Int, ¬ (x0 = 331) → M2 x0 i0 = M x0 i0) ∧ M2 331 = f_up (f_up (f_up w (2580 + 2 * w 2577) f) (2580 + 2 * w 2577 + 1) k) 2577 (w 2577 + 1)) := by
  obtain ⟨d, rfl⟩ : ∃ d0, d = d0 + 1 := ⟨d - 1, by omega⟩
  refine ax_start rfl (Nat.le_of_ble_eq_true rfl) (ls := [some (.inr 330), some (.inl f), some (.inl k)]) rfl (fun hav hcm => ?_)
  have hc1 : -2147483648 ≤ f ∧ f < 2147483648 := hav (.inl f) (by simp)
  have hc2 : -2147483648 ≤ k ∧ k < 2147483648 := hav (.inl k) (by simp)
  clear hav
  refine ax_iload_n dX12_told_0 rfl rfl (pc' := 1) rfl ?_
  refine ax_iconst dX12_told_1 (by decide) (pc' := 2) rfl ?_
  refine ax_icmp_ne (tgt := 16) dX12_told_2 (by decide) (pc' := 5) rfl (fun h2 => ?_) (fun h2 => ?_)
  · refine ax_iload_n dX12_told_16 rfl rfl (pc' := 17) rfl ?_
    refine ax_iconst dX12_told_17 (by decide) (pc' := 18) rfl ?_
    refine ax_bipush dX12_told_18 (by decide) (pc' := 20) rfl ?_
    refine ax_insG [.inl f, .inl 0, .inl 99] [] dX12_told_20 mlX12_74 rfl rfl (Nat.le_of_ble_eq_true rfl) (s_X12_isIn E l _ (by omega) _ f 0 99) (pc' := 23) rfl (fun vv M_20 hq co20 hcm20 => ?_)
    obtain ⟨rfl, rfl⟩ := hq
    refine ax_reS (st2 := [.inl (f_b (0 ≤ f ∧ f ≤ 99))]) rfl ?_
    refine ax_if_eq (tgt := 48) dX12_told_23 (by decide) (pc' := 26) rfl (fun h23 => ?_) (fun h23 => ?_)
    · replace h23 := f_b_0 h23
      exfalso
      omega
    · replace h23 := f_b_1 h23
      refine ax_iload_n dX12_told_26 rfl rfl (pc' := 27) rfl ?_
      refine ax_iconst dX12_told_27 (by decide) (pc' := 28) rfl ?_
      refine ax_iconst dX12_told_28 (by decide) (pc' := 29) rfl ?_
      refine ax_insG [.inl k, .inl (-1), .inl 5] [] dX12_told_29 mlX12_74 rfl rfl (Nat.le_of_ble_eq_true rfl) (s_X12_isIn E l _ (by omega) _ k (-1) 5) (pc' := 32) rfl (fun vv M_29 hq co29 hcm29 => ?_)
      obtain ⟨rfl, rfl⟩ := hq
      refine ax_reS (st2 := [.inl (f_b ((-1) ≤ k ∧ k ≤ 5))]) rfl ?_
      refine ax_if_eq (tgt := 48) dX12_told_32 (by decide) (pc' := 35) rfl (fun h32 => ?_) (fun h32 => ?_)
      · replace h32 := f_b_0 h32
        exfalso
        omega
      · replace h32 := f_b_1 h32
        refine ax_aload_n dX12_told_35 rfl rfl (pc' := 36) rfl ?_
        refine ax_getr (v := 331) dX12_told_36 flX12_7 rfl sh_330 rfl (pc' := 39) rfl ?_
        refine ax_sipush dX12_told_39 (by decide) (pc' := 42) rfl ?_
        refine ax_iald (v := w 2577) dX12_told_42 sh_331 rfl (by omega) (by omega) ((congrFun hw 2577).trans rfl) (pc' := 43) rfl ?_
        refine ax_bipush dX12_told_43 (by decide) (pc' := 45) rfl ?_
        refine ax_icmp_ne (tgt := 50) dX12_told_45 (by decide) (pc' := 48) rfl (fun h45 => ?_) (fun h45 => ?_)
        · refine ax_aload_n dX12_told_50 rfl rfl (pc' := 51) rfl ?_
          refine ax_getr (v := 331) dX12_told_51 flX12_7 rfl sh_330 rfl (pc' := 54) rfl ?_
          refine ax_sipush dX12_told_54 (by decide) (pc' := 57) rfl ?_
          refine ax_iconst dX12_told_57 (by decide) (pc' := 58) rfl ?_
          refine ax_aload_n dX12_told_58 rfl rfl (pc' := 59) rfl ?_
          refine ax_getr (v := 331) dX12_told_59 flX12_7 rfl sh_330 rfl (pc' := 62) rfl ?_
          refine ax_sipush dX12_told_62 (by decide) (pc' := 65) rfl ?_
          refine ax_iald (v := w 2577) dX12_told_65 sh_331 rfl (by omega) (by omega) ((congrFun hw 2577).trans rfl) (pc' := 66) rfl ?_
          refine ax_imul dX12_told_66 (by omega) (pc' := 67) rfl ?_
          refine ax_iadd dX12_told_67 (by omega) (pc' := 68) rfl ?_
          refine ax_iload_n dX12_told_68 rfl rfl (pc' := 69) rfl ?_
          refine ax_iast dX12_told_69 sh_331 rfl (by omega) (by omega) (pc' := 70) rfl ?_
          refine ax_aload_n dX12_told_70 rfl rfl (pc' := 71) rfl ?_
          refine ax_getr (v := 331) dX12_told_71 flX12_7 rfl sh_330 rfl (pc' := 74) rfl ?_
          refine ax_sipush dX12_told_74 (by decide) (pc' := 77) rfl ?_
          refine ax_iconst dX12_told_77 (by decide) (pc' := 78) rfl ?_
          refine ax_aload_n dX12_told_78 rfl rfl (pc' := 79) rfl ?_
          refine ax_getr (v := 331) dX12_told_79 flX12_7 rfl sh_330 rfl (pc' := 82) rfl ?_
          refine ax_sipush dX12_told_82 (by decide) (pc' := 85) rfl ?_
          refine ax_iald (v := w 2577) dX12_told_85 sh_331 rfl (by omega) (by omega) ((congrFun (ax_up_rowhit hw) 2577).trans (f_up_ne (by omega) rfl)) (pc' := 86) rfl ?_
          refine ax_imul dX12_told_86 (by omega) (pc' := 87) rfl ?_
          refine ax_iadd dX12_told_87 (by omega) (pc' := 88) rfl ?_
          refine ax_iconst dX12_told_88 (by decide) (pc' := 89) rfl ?_
          refine ax_iadd dX12_told_89 (by omega) (pc' := 90) rfl ?_
          refine ax_iload_n dX12_told_90 rfl rfl (pc' := 91) rfl ?_
          refine ax_iast dX12_told_91 sh_331 rfl (by omega) (by omega) (pc' := 92) rfl ?_
          refine ax_aload_n dX12_told_92 rfl rfl (pc' := 93) rfl ?_
          refine ax_getr (v := 331) dX12_told_93 flX12_7 rfl sh_330 rfl (pc' := 96) rfl ?_
          refine ax_sipush dX12_told_96 (by decide) (pc' := 99) rfl ?_
          refine ax_dup2 dX12_told_99 (pc' := 100) rfl ?_
          refine ax_iald (v := w 2577) dX12_told_100 sh_331 rfl (by omega) (by omega) ((congrFun (ax_up_rowhit (ax_up_rowhit hw)) 2577).trans (f_up_ne (by omega) (f_up_ne (by omega) rfl))) (pc' := 101) rfl ?_
          refine ax_iconst dX12_told_101 (by decide) (pc' := 102) rfl ?_
          refine ax_iadd dX12_told_102 (by omega) (pc' := 103) rfl ?_
          refine ax_iast dX12_told_103 sh_331 rfl (by omega) (by omega) (pc' := 104) rfl ?_
          refine ax_aload_n dX12_told_104 rfl rfl (pc' := 105) rfl ?_
          refine ax_getr (v := 331) dX12_told_105 flX12_7 rfl sh_330 rfl (pc' := 108) rfl ?_
          refine ax_sipush dX12_told_108 (by decide) (pc' := 111) rfl ?_
          refine ax_iald (v := w 2577 + 1) dX12_told_111 sh_331 rfl (by omega) (by omega) ((congrFun (ax_up_rowhit (ax_up_rowhit (ax_up_rowhit hw))) 2577).trans (f_up_same _ _ _)) (pc' := 112) rfl ?_
          refine ax_iret dX12_told_112 rfl ?_
          refine ⟨rfl, ?_, ?_, ?_⟩
          · rfl
          · intro x0 i0 hai
            exact (ax_up_miss (by omega) (ax_up_miss (by omega) (ax_up_miss (by omega) rfl)))
          · exact (ax_up_rowhit (ax_up_rowhit (ax_up_rowhit hw)))
        · exfalso
          omega
  · exfalso
    omega
set_option maxRecDepth 20000 in
theorem s_X12_order_cl (E : ax_Env) (l : Launch) (d : Nat) (hd : 1 ≤ d) (M : ax_Mem) {w : Int → Int} (hw : M 331 = w) : ax_G E l d iX12_order [.inr 330, .inl (-1)] M (fun z0 M2 => z0 = some (.inl 0) ∧ (∀ x0 i0 : Int, ¬ (x0 = 331) → M2 x0 i0 = M x0 i0) ∧ M2 331 = f_up w 2578 0) := by
  obtain ⟨d, rfl⟩ : ∃ d0, d = d0 + 1 := ⟨d - 1, by omega⟩
  refine ax_start rfl (Nat.le_of_ble_eq_true rfl) (ls := [some (.inr 330), some (.inl (-1))]) rfl (fun hav hcm => ?_)
  clear hav
  refine ax_iload_n dX12_order_0 rfl rfl (pc' := 1) rfl ?_
  refine ax_iconst dX12_order_1 (by decide) (pc' := 2) rfl ?_
  refine ax_icmp_ne (tgt := 16) dX12_order_2 (by decide) (pc' := 5) rfl (fun h2 => ?_) (fun h2 => ?_)
  · exfalso
    omega
  · refine ax_aload_n dX12_order_5 rfl rfl (pc' := 6) rfl ?_
    refine ax_getr (v := 331) dX12_order_6 flX12_7 rfl sh_330 rfl (pc' := 9) rfl ?_
    refine ax_sipush dX12_order_9 (by decide) (pc' := 12) rfl ?_
    refine ax_iconst dX12_order_12 (by decide) (pc' := 13) rfl ?_
    refine ax_iast dX12_order_13 sh_331 rfl (by omega) (by omega) (pc' := 14) rfl ?_
    refine ax_iconst dX12_order_14 (by decide) (pc' := 15) rfl ?_
    refine ax_iret dX12_order_15 rfl ?_
    refine ⟨rfl, ?_, ?_, ?_⟩
    · rfl
    · intro x0 i0 hai
      exact (ax_up_miss (by omega) rfl)
    · exact (ax_up_rowhit hw)
set_option maxRecDepth 20000 in
theorem s_X12_order_no (E : ax_Env) (l : Launch) (d : Nat) (hd : 1 ≤ d) (M : ax_Mem) (n : Int) {w : Int → Int} (hw : M 331 = w) (hg0 : n ≠ -1 ∧ ¬ ((1 ≤ n ∧ n ≤ 24) ∧ w 2578 ≠ 7)) : ax_G E l d iX12_order [.inr 330, .inl n] M (fun z0 M2 => z0 = some (.inl (-1)) ∧ M = M2) := by
  obtain ⟨d, rfl⟩ : ∃ d0, d = d0 + 1 := ⟨d - 1, by omega⟩
  refine ax_start rfl (Nat.le_of_ble_eq_true rfl) (ls := [some (.inr 330), some (.inl n)]) rfl (fun hav hcm => ?_)
  have hc1 : -2147483648 ≤ n ∧ n < 2147483648 := hav (.inl n) (by simp)
  clear hav
  refine ax_iload_n dX12_order_0 rfl rfl (pc' := 1) rfl ?_
  refine ax_iconst dX12_order_1 (by decide) (pc' := 2) rfl ?_
  refine ax_icmp_ne (tgt := 16) dX12_order_2 (by decide) (pc' := 5) rfl (fun h2 => ?_) (fun h2 => ?_)
  · refine ax_iload_n dX12_order_16 rfl rfl (pc' := 17) rfl ?_
    refine ax_iconst dX12_order_17 (by decide) (pc' := 18) rfl ?_
    refine ax_bipush dX12_order_18 (by decide) (pc' := 20) rfl ?_
    refine ax_insG [.inl n, .inl 1, .inl 24] [] dX12_order_20 mlX12_74 rfl rfl (Nat.le_of_ble_eq_true rfl) (s_X12_isIn E l _ (by omega) _ n 1 24) (pc' := 23) rfl (fun vv M_20 hq co20 hcm20 => ?_)
    obtain ⟨rfl, rfl⟩ := hq
    refine ax_reS (st2 := [.inl (f_b (1 ≤ n ∧ n ≤ 24))]) rfl ?_
    refine ax_if_eq (tgt := 39) dX12_order_23 (by decide) (pc' := 26) rfl (fun h23 => ?_) (fun h23 => ?_)
    · replace h23 := f_b_0 h23
      refine ax_iconst dX12_order_39 (by decide) (pc' := 40) rfl ?_
      refine ax_iret dX12_order_40 rfl ?_
      refine ⟨rfl, ?_, ?_⟩
      · rfl
      · rfl
    · replace h23 := f_b_1 h23
      refine ax_aload_n dX12_order_26 rfl rfl (pc' := 27) rfl ?_
      refine ax_getr (v := 331) dX12_order_27 flX12_7 rfl sh_330 rfl (pc' := 30) rfl ?_
      refine ax_sipush dX12_order_30 (by decide) (pc' := 33) rfl ?_
      refine ax_iald (v := w 2578) dX12_order_33 sh_331 rfl (by omega) (by omega) ((congrFun hw 2578).trans rfl) (pc' := 34) rfl ?_
      refine ax_bipush dX12_order_34 (by decide) (pc' := 36) rfl ?_
      refine ax_icmp_ne (tgt := 41) dX12_order_36 (by decide) (pc' := 39) rfl (fun h36 => ?_) (fun h36 => ?_)
      · exfalso
        omega
      · refine ax_iconst dX12_order_39 (by decide) (pc' := 40) rfl ?_
        refine ax_iret dX12_order_40 rfl ?_
        refine ⟨rfl, ?_, ?_⟩
        · rfl
        · rfl
  · exfalso
    omega
set_option maxRecDepth 20000 in
theorem s_X12_order_ok (E : ax_Env) (l : Launch) (d : Nat) (hd : 1 ≤ d) (M : ax_Mem) (n : Int) {w : Int → Int} (hw : M 331 = w) (hg0 : (1 ≤ n ∧ n ≤ 24) ∧ w 2578 ≠ 7) (hg1 : 0 ≤ w 2578 ∧ w 2578 ≤ 7) : ax_G E l d iX12_order [.inr 330, .inl n] M (fun z0 M2 => z0 = some (.inl (w 2578 + 1)) ∧ (∀ x0 i0 : Int, ¬ (x0 = 331) → M2 x0 i0 = M x0 i0) ∧ M2 331 = f_up (f_up w (2592 + w 2578) n) 2578 (w 2578 + 1)) := by
  obtain ⟨d, rfl⟩ : ∃ d0, d = d0 + 1 := ⟨d - 1, by omega⟩
  refine ax_start rfl (Nat.le_of_ble_eq_true rfl) (ls := [some (.inr 330), some (.inl n)]) rfl (fun hav hcm => ?_)
  have hc1 : -2147483648 ≤ n ∧ n < 2147483648 := hav (.inl n) (by simp)
  clear hav
  refine ax_iload_n dX12_order_0 rfl rfl (pc' := 1) rfl ?_
  refine ax_iconst dX12_order_1 (by decide) (pc' := 2) rfl ?_
  refine ax_icmp_ne (tgt := 16) dX12_order_2 (by decide) (pc' := 5) rfl (fun h2 => ?_) (fun h2 => ?_)
  · refine ax_iload_n dX12_order_16 rfl rfl (pc' := 17) rfl ?_
    refine ax_iconst dX12_order_17 (by decide) (pc' := 18) rfl ?_
    refine ax_bipush dX12_order_18 (by decide) (pc' := 20) rfl ?_
    refine ax_insG [.inl n, .inl 1, .inl 24] [] dX12_order_20 mlX12_74 rfl rfl (Nat.le_of_ble_eq_true rfl) (s_X12_isIn E l _ (by omega) _ n 1 24) (pc' := 23) rfl (fun vv M_20 hq co20 hcm20 => ?_)
    obtain ⟨rfl, rfl⟩ := hq
    refine ax_reS (st2 := [.inl (f_b (1 ≤ n ∧ n ≤ 24))]) rfl ?_
    refine ax_if_eq (tgt := 39) dX12_order_23 (by decide) (pc' := 26) rfl (fun h23 => ?_) (fun h23 => ?_)
    · replace h23 := f_b_0 h23
      exfalso
      omega
    · replace h23 := f_b_1 h23
      refine ax_aload_n dX12_order_26 rfl rfl (pc' := 27) rfl ?_
      refine ax_getr (v := 331) dX12_order_27 flX12_7 rfl sh_330 rfl (pc' := 30) rfl ?_
      refine ax_sipush dX12_order_30 (by decide) (pc' := 33) rfl ?_
      refine ax_iald (v := w 2578) dX12_order_33 sh_331 rfl (by omega) (by omega) ((congrFun hw 2578).trans rfl) (pc' := 34) rfl ?_
      refine ax_bipush dX12_order_34 (by decide) (pc' := 36) rfl ?_
      refine ax_icmp_ne (tgt := 41) dX12_order_36 (by decide) (pc' := 39) rfl (fun h36 => ?_) (fun h36 => ?_)
      · refine ax_aload_n dX12_order_41 rfl rfl (pc' := 42) rfl ?_
        refine ax_getr (v := 331) dX12_order_42 flX12_7 rfl sh_330 rfl (pc' := 45) rfl ?_
        refine ax_sipush dX12_order_45 (by decide) (pc' := 48) rfl ?_
        refine ax_aload_n dX12_order_48 rfl rfl (pc' := 49) rfl ?_
        refine ax_getr (v := 331) dX12_order_49 flX12_7 rfl sh_330 rfl (pc' := 52) rfl ?_
        refine ax_sipush dX12_order_52 (by decide) (pc' := 55) rfl ?_
        refine ax_iald (v := w 2578) dX12_order_55 sh_331 rfl (by omega) (by omega) ((congrFun hw 2578).trans rfl) (pc' := 56) rfl ?_
        refine ax_iadd dX12_order_56 (by omega) (pc' := 57) rfl ?_
        refine ax_iload_n dX12_order_57 rfl rfl (pc' := 58) rfl ?_
        refine ax_iast dX12_order_58 sh_331 rfl (by omega) (by omega) (pc' := 59) rfl ?_
        refine ax_aload_n dX12_order_59 rfl rfl (pc' := 60) rfl ?_
        refine ax_getr (v := 331) dX12_order_60 flX12_7 rfl sh_330 rfl (pc' := 63) rfl ?_
        refine ax_sipush dX12_order_63 (by decide) (pc' := 66) rfl ?_
        refine ax_dup2 dX12_order_66 (pc' := 67) rfl ?_
        refine ax_iald (v := w 2578) dX12_order_67 sh_331 rfl (by omega) (by omega) ((congrFun (ax_up_rowhit hw) 2578).trans (f_up_ne (by omega) rfl)) (pc' := 68) rfl ?_
        refine ax_iconst dX12_order_68 (by decide) (pc' := 69) rfl ?_
        refine ax_iadd dX12_order_69 (by omega) (pc' := 70) rfl ?_
        refine ax_iast dX12_order_70 sh_331 rfl (by omega) (by omega) (pc' := 71) rfl ?_
        refine ax_aload_n dX12_order_71 rfl rfl (pc' := 72) rfl ?_
        refine ax_getr (v := 331) dX12_order_72 flX12_7 rfl sh_330 rfl (pc' := 75) rfl ?_
        refine ax_sipush dX12_order_75 (by decide) (pc' := 78) rfl ?_
        refine ax_iald (v := w 2578 + 1) dX12_order_78 sh_331 rfl (by omega) (by omega) ((congrFun (ax_up_rowhit (ax_up_rowhit hw)) 2578).trans (f_up_same _ _ _)) (pc' := 79) rfl ?_
        refine ax_iret dX12_order_79 rfl ?_
        refine ⟨rfl, ?_, ?_, ?_⟩
        · rfl
        · intro x0 i0 hai
          exact (ax_up_miss (by omega) (ax_up_miss (by omega) rfl))
        · exact (ax_up_rowhit (ax_up_rowhit hw))
      · exfalso
        omega
  · exfalso
    omega
set_option maxRecDepth 20000 in
theorem s_X12_isShape (E : ax_Env) (l : Launch) (d : Nat) (hd : 1 ≤ d) (M : ax_Mem) (k : Int) : ax_G E l d iX12_isShape [.inl k] M (fun z0 M2 => z0 = some (.inl (f_b (0 ≤ k ∧ k ≤ 3))) ∧ M = M2) := by
  obtain ⟨d, rfl⟩ : ∃ d0, d = d0 + 1 := ⟨d - 1, by omega⟩
  refine ax_start rfl (Nat.le_of_ble_eq_true rfl) (ls := [some (.inl k)]) rfl (fun hav hcm => ?_)
  have hc0 : -2147483648 ≤ k ∧ k < 2147483648 := hav (.inl k) (by simp)
  clear hav
  refine ax_iload_n dX12_isShape_0 rfl rfl (pc' := 1) rfl ?_
  refine ax_iconst dX12_isShape_1 (by decide) (pc' := 2) rfl ?_
  refine ax_iconst dX12_isShape_2 (by decide) (pc' := 3) rfl ?_
  refine ax_insG [.inl k, .inl 0, .inl 3] [] dX12_isShape_3 mlX12_74 rfl rfl (Nat.le_of_ble_eq_true rfl) (s_X12_isIn E l _ (by omega) _ k 0 3) (pc' := 6) rfl (fun vv M_3 hq co3 hcm3 => ?_)
  obtain ⟨rfl, rfl⟩ := hq
  refine ax_reS (st2 := [.inl (f_b (0 ≤ k ∧ k ≤ 3))]) rfl ?_
  refine ax_zret dX12_isShape_6 rfl (f_b_01 _) ?_
  refine ⟨rfl, ?_, ?_⟩
  · rfl
  · rfl
set_option maxRecDepth 20000 in
theorem s_X12_markOf (E : ax_Env) (l : Launch) (d : Nat) (hd : 0 ≤ d) (M : ax_Mem) (k what : Int) {w : Int → Int} (hw : M 331 = w) (hg0 : 0 ≤ k ∧ k < 4) (hg1 : f_shp w) : ax_G E l d iX12_markOf [.inr 330, .inl k, .inl what] M (fun z0 M2 => z0 = some (.inl (f_mark w k what)) ∧ M = M2) := by
  refine ax_start rfl (Nat.le_of_ble_eq_true rfl) (ls := [some (.inr 330), some (.inl k), some (.inl what), none, none, none]) rfl (fun hav hcm => ?_)
  have hc1 : -2147483648 ≤ k ∧ k < 2147483648 := hav (.inl k) (by simp)
  have hc2 : -2147483648 ≤ what ∧ what < 2147483648 := hav (.inl what) (by simp)
  clear hav
  have qa1 := hg1 k (by omega) (by omega)
  refine ax_iconst dX12_markOf_0 (by decide) (pc' := 1) rfl ?_
  refine ax_istore_n dX12_markOf_1 rfl (by decide) (ls' := [some (.inr 330), some (.inl k), some (.inl what), some (.inl 0), none, none]) rfl (pc' := 2) rfl ?_
  refine ax_iconst dX12_markOf_2 (by decide) (pc' := 3) rfl ?_
  refine ax_istore dX12_markOf_3 (by decide) (ls' := [some (.inr 330), some (.inl k), some (.inl what), some (.inl 0), some (.inl 0), none]) rfl (pc' := 5) rfl ?_
  have LP1 : ∀ (kq2 : Nat) (x v : Int) (hm1 : w (2601 + k) - x < (kq2 : Nat)) (iv1_0 : 0 ≤ x ∧ x ≤ w (2601 + k)) (iv1_1 : (what = 2 → f_loop (f_mk2 w k) x (w (2601 + k)) v = f_mark w k what) ∧ (what ≠ 2 → f_loop (f_mk1 w k) x (w (2601 + k)) v = f_mark w k what ∧ -x ≤ v ∧ v ≤ x)), ax_W E l d 0 0 iX12_markOf 5 [some (.inr 330), some (.inl k), some (.inl what), some (.inl v), some (.inl x), none] [] SH M (ax_P (fun z0 M2 => z0 = some (.inl (f_mark w k what)) ∧ M = M2)) := by
    intro kq2
    induction kq2 with
    | zero =>
      intro x v hm1 iv1_0 iv1_1
      exfalso
      omega
    | succ kq2 ih3 =>
      intro x v hm1 iv1_0 iv1_1
      refine ax_iload dX12_markOf_5 rfl (pc' := 7) rfl ?_
      refine ax_aload_n dX12_markOf_7 rfl rfl (pc' := 8) rfl ?_
      refine ax_getr (v := 331) dX12_markOf_8 flX12_7 rfl sh_330 rfl (pc' := 11) rfl ?_
      refine ax_sipush dX12_markOf_11 (by decide) (pc' := 14) rfl ?_
      refine ax_iload_n dX12_markOf_14 rfl rfl (pc' := 15) rfl ?_
      refine ax_iadd dX12_markOf_15 (by omega) (pc' := 16) rfl ?_
      refine ax_iald (v := w (2601 + k)) dX12_markOf_16 sh_331 rfl (by omega) (by omega) ((congrFun hw (2601 + k)).trans rfl) (pc' := 17) rfl ?_
      refine ax_icmp_ge (tgt := 82) dX12_markOf_17 (by decide) (pc' := 20) rfl (fun h17 => ?_) (fun h17 => ?_)
      · refine ax_iload_n dX12_markOf_82 rfl rfl (pc' := 83) rfl ?_
        refine ax_iret dX12_markOf_83 rfl ?_
        refine ⟨rfl, ?_, ?_⟩
        · refine congrArg (fun z => some (Sum.inl z)) ?_
          by_cases he : what = 2
          · exact (f_loop_done (by omega)).symm.trans (iv1_1.1 he)
          · exact (f_loop_done (by omega)).symm.trans (iv1_1.2 he).1
        · rfl
      · have qa2 := qa1.2 x (by omega) (by omega)
        refine ax_aload_n dX12_markOf_20 rfl rfl (pc' := 21) rfl ?_
        refine ax_getr (v := 331) dX12_markOf_21 flX12_7 rfl sh_330 rfl (pc' := 24) rfl ?_
        refine ax_sipush dX12_markOf_24 (by decide) (pc' := 27) rfl ?_
        refine ax_bipush dX12_markOf_27 (by decide) (pc' := 29) rfl ?_
        refine ax_iload_n dX12_markOf_29 rfl rfl (pc' := 30) rfl ?_
        refine ax_imul dX12_markOf_30 (by omega) (pc' := 31) rfl ?_
        refine ax_iadd dX12_markOf_31 (by omega) (pc' := 32) rfl ?_
        refine ax_iload dX12_markOf_32 rfl (pc' := 34) rfl ?_
        refine ax_iadd dX12_markOf_34 (by omega) (pc' := 35) rfl ?_
        refine ax_iald (v := w (2606 + (7 * k) + x)) dX12_markOf_35 sh_331 rfl (by omega) (by omega) ((congrFun hw (2606 + (7 * k) + x)).trans rfl) (pc' := 36) rfl ?_
        refine ax_istore dX12_markOf_36 (by decide) (ls' := [some (.inr 330), some (.inl k), some (.inl what), some (.inl v), some (.inl x), some (.inl (w (2606 + (7 * k) + x)))]) rfl (pc' := 38) rfl ?_
        refine ax_iload_n dX12_markOf_38 rfl rfl (pc' := 39) rfl ?_
        refine ax_iconst dX12_markOf_39 (by decide) (pc' := 40) rfl ?_
        refine ax_icmp_ne (tgt := 53) dX12_markOf_40 (by decide) (pc' := 43) rfl (fun h40 => ?_) (fun h40 => ?_)
        · have qb2 := iv1_1.2 h40
          refine ax_iload_n dX12_markOf_53 rfl rfl (pc' := 54) rfl ?_
          refine ax_iload dX12_markOf_54 rfl (pc' := 56) rfl ?_
          refine ax_if_ne (tgt := 63) dX12_markOf_56 (by decide) (pc' := 59) rfl (fun h56 => ?_) (fun h56 => ?_)
          · refine ax_iload dX12_markOf_63 rfl (pc' := 65) rfl ?_
            refine ax_iconst dX12_markOf_65 (by decide) (pc' := 66) rfl ?_
            refine ax_icmp_ne (tgt := 73) dX12_markOf_66 (by decide) (pc' := 69) rfl (fun h66 => ?_) (fun h66 => ?_)
            · refine ax_iconst dX12_markOf_73 (by decide) (pc' := 74) rfl ?_
              refine ax_iadd dX12_markOf_74 (by omega) (pc' := 75) rfl ?_
              refine ax_istore_n dX12_markOf_75 rfl (by decide) (ls' := [some (.inr 330), some (.inl k), some (.inl what), some (.inl (v + 0)), some (.inl x), some (.inl (w (2606 + (7 * k) + x)))]) rfl (pc' := 76) rfl ?_
              refine ax_iinc dX12_markOf_76 rfl (by decide) (by omega) (ls' := [some (.inr 330), some (.inl k), some (.inl what), some (.inl (v + 0)), some (.inl (x + 1)), some (.inl (w (2606 + (7 * k) + x)))]) rfl (pc' := 79) rfl ?_
              refine ax_goto dX12_markOf_79 (pc' := 5) (by decide) ?_
              refine ax_less (ls2 := [some (.inr 330), some (.inl k), some (.inl what), some (.inl (v + 0)), some (.inl (x + 1)), none]) [true, true, true, true, true, false] rfl ?_
              refine ih3 (x + 1) (v + 0) ?_ ?_ ?_
              · omega
              · omega
              · first
                  | exact ⟨fun he => f_loop_back (by omega) (iv1_1.1 he) rfl, fun he => absurd h40 he⟩
                  | (refine ⟨fun he => absurd he h40, fun he => ?_⟩
                     have qb1 := iv1_1.2 he
                     refine ⟨f_loop_back (by omega) qb1.1 ?_, by omega, by omega⟩
                     unfold f_mk1
                     first | rw [if_pos h56] | rw [if_neg h56, if_pos h66] | rw [if_neg h56, if_neg h66])
            · refine ax_iconst dX12_markOf_69 (by decide) (pc' := 70) rfl ?_
              refine ax_goto dX12_markOf_70 (pc' := 74) (by decide) ?_
              refine ax_iadd dX12_markOf_74 (by omega) (pc' := 75) rfl ?_
              refine ax_istore_n dX12_markOf_75 rfl (by decide) (ls' := [some (.inr 330), some (.inl k), some (.inl what), some (.inl (v + (-1))), some (.inl x), some (.inl (w (2606 + (7 * k) + x)))]) rfl (pc' := 76) rfl ?_
              refine ax_iinc dX12_markOf_76 rfl (by decide) (by omega) (ls' := [some (.inr 330), some (.inl k), some (.inl what), some (.inl (v + (-1))), some (.inl (x + 1)), some (.inl (w (2606 + (7 * k) + x)))]) rfl (pc' := 79) rfl ?_
              refine ax_goto dX12_markOf_79 (pc' := 5) (by decide) ?_
              refine ax_less (ls2 := [some (.inr 330), some (.inl k), some (.inl what), some (.inl (v + (-1))), some (.inl (x + 1)), none]) [true, true, true, true, true, false] rfl ?_
              refine ih3 (x + 1) (v + (-1)) ?_ ?_ ?_
              · omega
              · omega
              · first
                  | exact ⟨fun he => f_loop_back (by omega) (iv1_1.1 he) rfl, fun he => absurd h40 he⟩
                  | (refine ⟨fun he => absurd he h40, fun he => ?_⟩
                     have qb1 := iv1_1.2 he
                     refine ⟨f_loop_back (by omega) qb1.1 ?_, by omega, by omega⟩
                     unfold f_mk1
                     first | rw [if_pos h56] | rw [if_neg h56, if_pos h66] | rw [if_neg h56, if_neg h66])
          · refine ax_iconst dX12_markOf_59 (by decide) (pc' := 60) rfl ?_
            refine ax_goto dX12_markOf_60 (pc' := 74) (by decide) ?_
            refine ax_iadd dX12_markOf_74 (by omega) (pc' := 75) rfl ?_
            refine ax_istore_n dX12_markOf_75 rfl (by decide) (ls' := [some (.inr 330), some (.inl k), some (.inl what), some (.inl (v + 1)), some (.inl x), some (.inl (w (2606 + (7 * k) + x)))]) rfl (pc' := 76) rfl ?_
            refine ax_iinc dX12_markOf_76 rfl (by decide) (by omega) (ls' := [some (.inr 330), some (.inl k), some (.inl what), some (.inl (v + 1)), some (.inl (x + 1)), some (.inl (w (2606 + (7 * k) + x)))]) rfl (pc' := 79) rfl ?_
            refine ax_goto dX12_markOf_79 (pc' := 5) (by decide) ?_
            refine ax_less (ls2 := [some (.inr 330), some (.inl k), some (.inl what), some (.inl (v + 1)), some (.inl (x + 1)), none]) [true, true, true, true, true, false] rfl ?_
            refine ih3 (x + 1) (v + 1) ?_ ?_ ?_
            · omega
            · omega
            · first
                | exact ⟨fun he => f_loop_back (by omega) (iv1_1.1 he) rfl, fun he => absurd h40 he⟩
                | (refine ⟨fun he => absurd he h40, fun he => ?_⟩
                   have qb1 := iv1_1.2 he
                   refine ⟨f_loop_back (by omega) qb1.1 ?_, by omega, by omega⟩
                   unfold f_mk1
                   first | rw [if_pos h56] | rw [if_neg h56, if_pos h66] | rw [if_neg h56, if_neg h66])
        · refine ax_iload_n dX12_markOf_43 rfl rfl (pc' := 44) rfl ?_
          refine ax_iload dX12_markOf_44 rfl (pc' := 46) rfl ?_
          refine ax_iconst dX12_markOf_46 (by decide) (pc' := 47) rfl ?_
          refine ax_idiv dX12_markOf_47 (by omega) (by omega) (pc' := 48) rfl ?_
          refine ax_ixor dX12_markOf_48 (pc' := 49) rfl ?_
          refine ax_istore_n dX12_markOf_49 rfl (by decide) (ls' := [some (.inr 330), some (.inl k), some (.inl what), some (.inl (ax_xor v ((w (2606 + (7 * k) + x)) / 2))), some (.inl x), some (.inl (w (2606 + (7 * k) + x)))]) rfl (pc' := 50) rfl ?_
          refine ax_goto dX12_markOf_50 (pc' := 76) (by decide) ?_
          refine ax_iinc dX12_markOf_76 rfl (by decide) (by omega) (ls' := [some (.inr 330), some (.inl k), some (.inl what), some (.inl (ax_xor v ((w (2606 + (7 * k) + x)) / 2))), some (.inl (x + 1)), some (.inl (w (2606 + (7 * k) + x)))]) rfl (pc' := 79) rfl ?_
          refine ax_goto dX12_markOf_79 (pc' := 5) (by decide) ?_
          refine ax_less (ls2 := [some (.inr 330), some (.inl k), some (.inl what), some (.inl (ax_xor v ((w (2606 + (7 * k) + x)) / 2))), some (.inl (x + 1)), none]) [true, true, true, true, true, false] rfl ?_
          refine ih3 (x + 1) (ax_xor v ((w (2606 + (7 * k) + x)) / 2)) ?_ ?_ ?_
          · omega
          · omega
          · first
              | exact ⟨fun he => f_loop_back (by omega) (iv1_1.1 he) rfl, fun he => absurd h40 he⟩
              | (refine ⟨fun he => absurd he h40, fun he => ?_⟩
                 have qb1 := iv1_1.2 he
                 refine ⟨f_loop_back (by omega) qb1.1 ?_, by omega, by omega⟩
                 unfold f_mk1
                 first | rw [if_pos h56] | rw [if_neg h56, if_pos h66] | rw [if_neg h56, if_neg h66])
  refine LP1 (w (2601 + k) - 0 : Int).toNat.succ 0 0 ?_ ?_ ?_
  · omega
  · omega
  · exact ⟨fun he => by rw [f_mark, if_pos he], fun he => ⟨by rw [f_mark, if_neg he], by omega, by omega⟩⟩
set_option maxRecDepth 20000 in
theorem s_X12_shape (E : ax_Env) (l : Launch) (d : Nat) (hd : 2 ≤ d) (M : ax_Mem) (k what : Int) {w : Int → Int} (hw : M 331 = w) (hg0 : f_shp w) : ax_G E l d iX12_shape [.inr 330, .inl k, .inl what] M (fun z0 M2 => z0 = some (.inl (F_shape w k what)) ∧ M = M2) := by
  obtain ⟨d, rfl⟩ : ∃ d0, d = d0 + 1 := ⟨d - 1, by omega⟩
  refine ax_start rfl (Nat.le_of_ble_eq_true rfl) (ls := [some (.inr 330), some (.inl k), some (.inl what)]) rfl (fun hav hcm => ?_)
  have hc1 : -2147483648 ≤ k ∧ k < 2147483648 := hav (.inl k) (by simp)
  have hc2 : -2147483648 ≤ what ∧ what < 2147483648 := hav (.inl what) (by simp)
  clear hav
  refine ax_iload_n dX12_shape_0 rfl rfl (pc' := 1) rfl ?_
  refine ax_insG [.inl k] [] dX12_shape_1 mlX12_515 rfl rfl (Nat.le_of_ble_eq_true rfl) (s_X12_isShape E l _ (by omega) _ k) (pc' := 4) rfl (fun vv M_1 hq co1 hcm1 => ?_)
  obtain ⟨rfl, rfl⟩ := hq
  refine ax_reS (st2 := [.inl (f_b (0 ≤ k ∧ k ≤ 3))]) rfl ?_
  refine ax_if_ne (tgt := 10) dX12_shape_4 (by decide) (pc' := 7) rfl (fun h4 => ?_) (fun h4 => ?_)
  · replace h4 := f_b_1 h4
    have qa1 := hg0 k (by omega) (by omega)
    refine ax_iload_n dX12_shape_10 rfl rfl (pc' := 11) rfl ?_
    refine ax_if_ne (tgt := 25) dX12_shape_11 (by decide) (pc' := 14) rfl (fun h11 => ?_) (fun h11 => ?_)
    · refine ax_iload_n dX12_shape_25 rfl rfl (pc' := 26) rfl ?_
      refine ax_iconst dX12_shape_26 (by decide) (pc' := 27) rfl ?_
      refine ax_iconst dX12_shape_27 (by decide) (pc' := 28) rfl ?_
      refine ax_insG [.inl what, .inl 1, .inl 2] [] dX12_shape_28 mlX12_74 rfl rfl (Nat.le_of_ble_eq_true rfl) (s_X12_isIn E l _ (by omega) _ what 1 2) (pc' := 31) rfl (fun vv M_28 hq co28 hcm28 => ?_)
      obtain ⟨rfl, rfl⟩ := hq
      refine ax_reS (st2 := [.inl (f_b (1 ≤ what ∧ what ≤ 2))]) rfl ?_
      refine ax_if_eq (tgt := 41) dX12_shape_31 (by decide) (pc' := 34) rfl (fun h31 => ?_) (fun h31 => ?_)
      · replace h31 := f_b_0 h31
        refine ax_iload_n dX12_shape_41 rfl rfl (pc' := 42) rfl ?_
        refine ax_bipush dX12_shape_42 (by decide) (pc' := 44) rfl ?_
        refine ax_bipush dX12_shape_44 (by decide) (pc' := 46) rfl ?_
        refine ax_aload_n dX12_shape_46 rfl rfl (pc' := 47) rfl ?_
        refine ax_getr (v := 331) dX12_shape_47 flX12_7 rfl sh_330 rfl (pc' := 50) rfl ?_
        refine ax_sipush dX12_shape_50 (by decide) (pc' := 53) rfl ?_
        refine ax_iload_n dX12_shape_53 rfl rfl (pc' := 54) rfl ?_
        refine ax_iadd dX12_shape_54 (by omega) (pc' := 55) rfl ?_
        refine ax_iald (v := w (2601 + k)) dX12_shape_55 sh_331 rfl (by omega) (by omega) ((congrFun hw (2601 + k)).trans rfl) (pc' := 56) rfl ?_
        refine ax_iadd dX12_shape_56 (by omega) (pc' := 57) rfl ?_
        refine ax_insG [.inl what, .inl 10, .inl (9 + (w (2601 + k)))] [] dX12_shape_57 mlX12_74 rfl rfl (Nat.le_of_ble_eq_true rfl) (s_X12_isIn E l _ (by omega) _ what 10 (9 + (w (2601 + k)))) (pc' := 60) rfl (fun vv M_57 hq co57 hcm57 => ?_)
        obtain ⟨rfl, rfl⟩ := hq
        refine ax_reS (st2 := [.inl (f_b (10 ≤ what ∧ what ≤ (9 + (w (2601 + k)))))]) rfl ?_
        refine ax_if_eq (tgt := 84) dX12_shape_60 (by decide) (pc' := 63) rfl (fun h60 => ?_) (fun h60 => ?_)
        · replace h60 := f_b_0 h60
          refine ax_bipush dX12_shape_84 (by decide) (pc' := 86) rfl ?_
          refine ax_iret dX12_shape_86 rfl ?_
          refine ⟨rfl, ?_, ?_⟩
          · refine congrArg (fun z => some (Sum.inl z)) ?_
            unfold F_shape
            repeat' split
            all_goals first | rfl | omega | (exfalso; omega)
          · rfl
        · replace h60 := f_b_1 h60
          refine ax_aload_n dX12_shape_63 rfl rfl (pc' := 64) rfl ?_
          refine ax_getr (v := 331) dX12_shape_64 flX12_7 rfl sh_330 rfl (pc' := 67) rfl ?_
          refine ax_sipush dX12_shape_67 (by decide) (pc' := 70) rfl ?_
          refine ax_bipush dX12_shape_70 (by decide) (pc' := 72) rfl ?_
          refine ax_iload_n dX12_shape_72 rfl rfl (pc' := 73) rfl ?_
          refine ax_imul dX12_shape_73 (by omega) (pc' := 74) rfl ?_
          refine ax_iadd dX12_shape_74 (by omega) (pc' := 75) rfl ?_
          refine ax_iload_n dX12_shape_75 rfl rfl (pc' := 76) rfl ?_
          refine ax_iadd dX12_shape_76 (by omega) (pc' := 77) rfl ?_
          refine ax_bipush dX12_shape_77 (by decide) (pc' := 79) rfl ?_
          refine ax_isub dX12_shape_79 (by omega) (pc' := 80) rfl ?_
          refine ax_iald (v := w (2606 + (7 * k) + what - 10)) dX12_shape_80 sh_331 rfl (by omega) (by omega) ((congrFun hw (2606 + (7 * k) + what - 10)).trans rfl) (pc' := 81) rfl ?_
          refine ax_goto dX12_shape_81 (pc' := 86) (by decide) ?_
          refine ax_iret dX12_shape_86 rfl ?_
          refine ⟨rfl, ?_, ?_⟩
          · refine congrArg (fun z => some (Sum.inl z)) ?_
            unfold F_shape
            repeat' split
            all_goals first | rfl | omega | (exfalso; omega)
          · rfl
      · replace h31 := f_b_1 h31
        refine ax_aload_n dX12_shape_34 rfl rfl (pc' := 35) rfl ?_
        refine ax_iload_n dX12_shape_35 rfl rfl (pc' := 36) rfl ?_
        refine ax_iload_n dX12_shape_36 rfl rfl (pc' := 37) rfl ?_
        refine ax_invG [.inl k, .inl what] [] dX12_shape_37 mlX12_524 sh_330 rfl rfl rfl (Nat.le_of_ble_eq_true rfl) (s_X12_markOf E l _ (by omega) _ k what hw (by first | omega | assumption) (by first | omega | assumption)) (pc' := 40) rfl (fun vv M_37 hq co37 hcm37 => ?_)
        obtain ⟨rfl, rfl⟩ := hq
        refine ax_reS (st2 := [.inl (f_mark w k what)]) rfl ?_
        have cc37 : -2147483648 ≤ f_mark w k what ∧ f_mark w k what < 2147483648 := co37 _ rfl
        refine ax_iret dX12_shape_40 rfl ?_
        refine ⟨rfl, ?_, ?_⟩
        · refine congrArg (fun z => some (Sum.inl z)) ?_
          unfold F_shape
          repeat' split
          all_goals first | rfl | omega | (exfalso; omega)
        · rfl
    · refine ax_aload_n dX12_shape_14 rfl rfl (pc' := 15) rfl ?_
      refine ax_getr (v := 331) dX12_shape_15 flX12_7 rfl sh_330 rfl (pc' := 18) rfl ?_
      refine ax_sipush dX12_shape_18 (by decide) (pc' := 21) rfl ?_
      refine ax_iload_n dX12_shape_21 rfl rfl (pc' := 22) rfl ?_
      refine ax_iadd dX12_shape_22 (by omega) (pc' := 23) rfl ?_
      refine ax_iald (v := w (2601 + k)) dX12_shape_23 sh_331 rfl (by omega) (by omega) ((congrFun hw (2601 + k)).trans rfl) (pc' := 24) rfl ?_
      refine ax_iret dX12_shape_24 rfl ?_
      refine ⟨rfl, ?_, ?_⟩
      · refine congrArg (fun z => some (Sum.inl z)) ?_
        unfold F_shape
        repeat' split
        all_goals first | rfl | omega | (exfalso; omega)
      · rfl
  · replace h4 := f_b_0 h4
    refine ax_bipush dX12_shape_7 (by decide) (pc' := 9) rfl ?_
    refine ax_iret dX12_shape_9 rfl ?_
    refine ⟨rfl, ?_, ?_⟩
    · refine congrArg (fun z => some (Sum.inl z)) ?_
      unfold F_shape
      repeat' split
      all_goals first | rfl | omega | (exfalso; omega)
    · rfl
set_option maxRecDepth 20000 in
theorem s_X12_unlike (E : ax_Env) (l : Launch) (d : Nat) (hd : 2 ≤ d) (M : ax_Mem) (x y : Int) {w : Int → Int} (hw : M 331 = w) (hg0 : f_shp w) : ax_G E l d iX12_unlike [.inr 330, .inl x, .inl y] M (fun z0 M2 => z0 = some (.inl (F_unlike w x y)) ∧ M = M2) := by
  obtain ⟨d, rfl⟩ : ∃ d0, d = d0 + 1 := ⟨d - 1, by omega⟩
  refine ax_start rfl (Nat.le_of_ble_eq_true rfl) (ls := [some (.inr 330), some (.inl x), some (.inl y)]) rfl (fun hav hcm => ?_)
  have hc1 : -2147483648 ≤ x ∧ x < 2147483648 := hav (.inl x) (by simp)
  have hc2 : -2147483648 ≤ y ∧ y < 2147483648 := hav (.inl y) (by simp)
  clear hav
  refine ax_iload_n dX12_unlike_0 rfl rfl (pc' := 1) rfl ?_
  refine ax_insG [.inl x] [] dX12_unlike_1 mlX12_515 rfl rfl (Nat.le_of_ble_eq_true rfl) (s_X12_isShape E l _ (by omega) _ x) (pc' := 4) rfl (fun vv M_1 hq co1 hcm1 => ?_)
  obtain ⟨rfl, rfl⟩ := hq
  refine ax_reS (st2 := [.inl (f_b (0 ≤ x ∧ x ≤ 3))]) rfl ?_
  refine ax_if_eq (tgt := 14) dX12_unlike_4 (by decide) (pc' := 7) rfl (fun h4 => ?_) (fun h4 => ?_)
  · replace h4 := f_b_0 h4
    refine ax_iconst dX12_unlike_14 (by decide) (pc' := 15) rfl ?_
    refine ax_iret dX12_unlike_15 rfl ?_
    refine ⟨rfl, ?_, ?_⟩
    · refine congrArg (fun z => some (Sum.inl z)) ?_
      unfold F_unlike f_b
      repeat' split
      all_goals first | rfl | omega | (exfalso; omega)
    · rfl
  · replace h4 := f_b_1 h4
    refine ax_iload_n dX12_unlike_7 rfl rfl (pc' := 8) rfl ?_
    refine ax_insG [.inl y] [] dX12_unlike_8 mlX12_515 rfl rfl (Nat.le_of_ble_eq_true rfl) (s_X12_isShape E l _ (by omega) _ y) (pc' := 11) rfl (fun vv M_8 hq co8 hcm8 => ?_)
    obtain ⟨rfl, rfl⟩ := hq
    refine ax_reS (st2 := [.inl (f_b (0 ≤ y ∧ y ≤ 3))]) rfl ?_
    refine ax_if_ne (tgt := 16) dX12_unlike_11 (by decide) (pc' := 14) rfl (fun h11 => ?_) (fun h11 => ?_)
    · replace h11 := f_b_1 h11
      refine ax_aload_n dX12_unlike_16 rfl rfl (pc' := 17) rfl ?_
      refine ax_iload_n dX12_unlike_17 rfl rfl (pc' := 18) rfl ?_
      refine ax_iconst dX12_unlike_18 (by decide) (pc' := 19) rfl ?_
      refine ax_invG [.inl x, .inl 1] [] dX12_unlike_19 mlX12_524 sh_330 rfl rfl rfl (Nat.le_of_ble_eq_true rfl) (s_X12_markOf E l _ (by omega) _ x 1 hw (by first | omega | assumption) (by first | omega | assumption)) (pc' := 22) rfl (fun vv M_19 hq co19 hcm19 => ?_)
      obtain ⟨rfl, rfl⟩ := hq
      refine ax_reS (st2 := [.inl (f_mark w x 1)]) rfl ?_
      have cc19 : -2147483648 ≤ f_mark w x 1 ∧ f_mark w x 1 < 2147483648 := co19 _ rfl
      refine ax_aload_n dX12_unlike_22 rfl rfl (pc' := 23) rfl ?_
      refine ax_iload_n dX12_unlike_23 rfl rfl (pc' := 24) rfl ?_
      refine ax_iconst dX12_unlike_24 (by decide) (pc' := 25) rfl ?_
      refine ax_invG [.inl y, .inl 1] [.inl (f_mark w x 1)] dX12_unlike_25 mlX12_524 sh_330 rfl rfl rfl (Nat.le_of_ble_eq_true rfl) (s_X12_markOf E l _ (by omega) _ y 1 hw (by first | omega | assumption) (by first | omega | assumption)) (pc' := 28) rfl (fun vv M_25 hq co25 hcm25 => ?_)
      obtain ⟨rfl, rfl⟩ := hq
      refine ax_reS (st2 := [.inl (f_mark w y 1), .inl (f_mark w x 1)]) rfl ?_
      have cc25 : -2147483648 ≤ f_mark w y 1 ∧ f_mark w y 1 < 2147483648 := co25 _ rfl
      refine ax_icmp_ne (tgt := 46) dX12_unlike_28 (by decide) (pc' := 31) rfl (fun h28 => ?_) (fun h28 => ?_)
      · refine ax_iconst dX12_unlike_46 (by decide) (pc' := 47) rfl ?_
        refine ax_goto dX12_unlike_47 (pc' := 51) (by decide) ?_
        refine ax_iret dX12_unlike_51 rfl ?_
        refine ⟨rfl, ?_, ?_⟩
        · refine congrArg (fun z => some (Sum.inl z)) ?_
          unfold F_unlike f_b
          repeat' split
          all_goals first | rfl | omega | (exfalso; omega)
        · rfl
      · refine ax_aload_n dX12_unlike_31 rfl rfl (pc' := 32) rfl ?_
        refine ax_iload_n dX12_unlike_32 rfl rfl (pc' := 33) rfl ?_
        refine ax_iconst dX12_unlike_33 (by decide) (pc' := 34) rfl ?_
        refine ax_invG [.inl x, .inl 2] [] dX12_unlike_34 mlX12_524 sh_330 rfl rfl rfl (Nat.le_of_ble_eq_true rfl) (s_X12_markOf E l _ (by omega) _ x 2 hw (by first | omega | assumption) (by first | omega | assumption)) (pc' := 37) rfl (fun vv M_34 hq co34 hcm34 => ?_)
        obtain ⟨rfl, rfl⟩ := hq
        refine ax_reS (st2 := [.inl (f_mark w x 2)]) rfl ?_
        have cc34 : -2147483648 ≤ f_mark w x 2 ∧ f_mark w x 2 < 2147483648 := co34 _ rfl
        refine ax_aload_n dX12_unlike_37 rfl rfl (pc' := 38) rfl ?_
        refine ax_iload_n dX12_unlike_38 rfl rfl (pc' := 39) rfl ?_
        refine ax_iconst dX12_unlike_39 (by decide) (pc' := 40) rfl ?_
        refine ax_invG [.inl y, .inl 2] [.inl (f_mark w x 2)] dX12_unlike_40 mlX12_524 sh_330 rfl rfl rfl (Nat.le_of_ble_eq_true rfl) (s_X12_markOf E l _ (by omega) _ y 2 hw (by first | omega | assumption) (by first | omega | assumption)) (pc' := 43) rfl (fun vv M_40 hq co40 hcm40 => ?_)
        obtain ⟨rfl, rfl⟩ := hq
        refine ax_reS (st2 := [.inl (f_mark w y 2), .inl (f_mark w x 2)]) rfl ?_
        have cc40 : -2147483648 ≤ f_mark w y 2 ∧ f_mark w y 2 < 2147483648 := co40 _ rfl
        refine ax_icmp_eq (tgt := 50) dX12_unlike_43 (by decide) (pc' := 46) rfl (fun h43 => ?_) (fun h43 => ?_)
        · refine ax_iconst dX12_unlike_50 (by decide) (pc' := 51) rfl ?_
          refine ax_iret dX12_unlike_51 rfl ?_
          refine ⟨rfl, ?_, ?_⟩
          · refine congrArg (fun z => some (Sum.inl z)) ?_
            unfold F_unlike f_b
            repeat' split
            all_goals first | rfl | omega | (exfalso; omega)
          · rfl
        · refine ax_iconst dX12_unlike_46 (by decide) (pc' := 47) rfl ?_
          refine ax_goto dX12_unlike_47 (pc' := 51) (by decide) ?_
          refine ax_iret dX12_unlike_51 rfl ?_
          refine ⟨rfl, ?_, ?_⟩
          · refine congrArg (fun z => some (Sum.inl z)) ?_
            unfold F_unlike f_b
            repeat' split
            all_goals first | rfl | omega | (exfalso; omega)
          · rfl
    · replace h11 := f_b_0 h11
      refine ax_iconst dX12_unlike_14 (by decide) (pc' := 15) rfl ?_
      refine ax_iret dX12_unlike_15 rfl ?_
      refine ⟨rfl, ?_, ?_⟩
      · refine congrArg (fun z => some (Sum.inl z)) ?_
        unfold F_unlike f_b
        repeat' split
        all_goals first | rfl | omega | (exfalso; omega)
      · rfl
set_option maxRecDepth 20000 in
theorem s_X12_whose (E : ax_Env) (l : Launch) (d : Nat) (hd : 1 ≤ d) (M : ax_Mem) (r p what : Int) {w : Int → Int} (hw : M 331 = w) (hg0 : 0 ≤ w 1 ∧ w 1 ≤ 200) : ax_G E l d iX12_whose [.inr 330, .inl r, .inl p, .inl what] M (fun z0 M2 => z0 = some (.inl (F_whose w r p what)) ∧ M = M2) := by
  obtain ⟨d, rfl⟩ : ∃ d0, d = d0 + 1 := ⟨d - 1, by omega⟩
  refine ax_start rfl (Nat.le_of_ble_eq_true rfl) (ls := [some (.inr 330), some (.inl r), some (.inl p), some (.inl what), none, none, none, none]) rfl (fun hav hcm => ?_)
  have hc1 : -2147483648 ≤ r ∧ r < 2147483648 := hav (.inl r) (by simp)
  have hc2 : -2147483648 ≤ p ∧ p < 2147483648 := hav (.inl p) (by simp)
  have hc3 : -2147483648 ≤ what ∧ what < 2147483648 := hav (.inl what) (by simp)
  clear hav
  refine ax_iload_n dX12_whose_0 rfl rfl (pc' := 1) rfl ?_
  refine ax_iconst dX12_whose_1 (by decide) (pc' := 2) rfl ?_
  refine ax_bipush dX12_whose_2 (by decide) (pc' := 4) rfl ?_
  refine ax_insG [.inl r, .inl 0, .inl 7] [] dX12_whose_4 mlX12_74 rfl rfl (Nat.le_of_ble_eq_true rfl) (s_X12_isIn E l _ (by omega) _ r 0 7) (pc' := 7) rfl (fun vv M_4 hq co4 hcm4 => ?_)
  obtain ⟨rfl, rfl⟩ := hq
  refine ax_reS (st2 := [.inl (f_b (0 ≤ r ∧ r ≤ 7))]) rfl ?_
  refine ax_if_eq (tgt := 33) dX12_whose_7 (by decide) (pc' := 10) rfl (fun h7 => ?_) (fun h7 => ?_)
  · replace h7 := f_b_0 h7
    refine ax_bipush dX12_whose_33 (by decide) (pc' := 35) rfl ?_
    refine ax_iret dX12_whose_35 rfl ?_
    refine ⟨rfl, ?_, ?_⟩
    · refine congrArg (fun z => some (Sum.inl z)) ?_
      unfold F_whose
      repeat' split
      all_goals first | rfl | omega | (exfalso; omega)
    · rfl
  · replace h7 := f_b_1 h7
    refine ax_iload_n dX12_whose_10 rfl rfl (pc' := 11) rfl ?_
    refine ax_iconst dX12_whose_11 (by decide) (pc' := 12) rfl ?_
    refine ax_iconst dX12_whose_12 (by decide) (pc' := 13) rfl ?_
    refine ax_insG [.inl what, .inl 0, .inl 1] [] dX12_whose_13 mlX12_74 rfl rfl (Nat.le_of_ble_eq_true rfl) (s_X12_isIn E l _ (by omega) _ what 0 1) (pc' := 16) rfl (fun vv M_13 hq co13 hcm13 => ?_)
    obtain ⟨rfl, rfl⟩ := hq
    refine ax_reS (st2 := [.inl (f_b (0 ≤ what ∧ what ≤ 1))]) rfl ?_
    refine ax_if_eq (tgt := 33) dX12_whose_16 (by decide) (pc' := 19) rfl (fun h16 => ?_) (fun h16 => ?_)
    · replace h16 := f_b_0 h16
      refine ax_bipush dX12_whose_33 (by decide) (pc' := 35) rfl ?_
      refine ax_iret dX12_whose_35 rfl ?_
      refine ⟨rfl, ?_, ?_⟩
      · refine congrArg (fun z => some (Sum.inl z)) ?_
        unfold F_whose
        repeat' split
        all_goals first | rfl | omega | (exfalso; omega)
      · rfl
    · replace h16 := f_b_1 h16
      refine ax_iload_n dX12_whose_19 rfl rfl (pc' := 20) rfl ?_
      refine ax_if_ne (tgt := 36) dX12_whose_20 (by decide) (pc' := 23) rfl (fun h20 => ?_) (fun h20 => ?_)
      · refine ax_iconst dX12_whose_36 (by decide) (pc' := 37) rfl ?_
        refine ax_istore dX12_whose_37 (by decide) (ls' := [some (.inr 330), some (.inl r), some (.inl p), some (.inl what), some (.inl (-1)), none, none, none]) rfl (pc' := 39) rfl ?_
        refine ax_iconst dX12_whose_39 (by decide) (pc' := 40) rfl ?_
        refine ax_istore dX12_whose_40 (by decide) (ls' := [some (.inr 330), some (.inl r), some (.inl p), some (.inl what), some (.inl (-1)), some (.inl 0), none, none]) rfl (pc' := 42) rfl ?_
        refine ax_iconst dX12_whose_42 (by decide) (pc' := 43) rfl ?_
        refine ax_istore dX12_whose_43 (by decide) (ls' := [some (.inr 330), some (.inl r), some (.inl p), some (.inl what), some (.inl (-1)), some (.inl 0), some (.inl 0), none]) rfl (pc' := 45) rfl ?_
        have LP1 : ∀ (kq2 : Nat) (x hd0 sd0 : Int) (hm1 : w 1 - x < (kq2 : Nat)) (iv1_0 : 0 ≤ x ∧ x ≤ w 1) (iv1_1 : f_loop (f_whH w r p) x (w 1) hd0 = f_loop (f_whH w r p) 0 (w 1) (-1)) (iv1_2 : f_loop (f_whS w r) x (w 1) sd0 = f_loop (f_whS w r) 0 (w 1) 0) (iv1_3 : 0 ≤ sd0 ∧ sd0 ≤ x), ax_W E l (d + 1) 0 0 iX12_whose 45 [some (.inr 330), some (.inl r), some (.inl p), some (.inl what), some (.inl hd0), some (.inl sd0), some (.inl x), none] [] SH M (ax_P (fun z0 M2 => z0 = some (.inl (F_whose w r p what)) ∧ M = M2)) := by
          intro kq2
          induction kq2 with
          | zero =>
            intro x hd0 sd0 hm1 iv1_0 iv1_1 iv1_2 iv1_3
            exfalso
            omega
          | succ kq2 ih3 =>
            intro x hd0 sd0 hm1 iv1_0 iv1_1 iv1_2 iv1_3
            refine ax_iload dX12_whose_45 rfl (pc' := 47) rfl ?_
            refine ax_aload_n dX12_whose_47 rfl rfl (pc' := 48) rfl ?_
            refine ax_getr (v := 331) dX12_whose_48 flX12_7 rfl sh_330 rfl (pc' := 51) rfl ?_
            refine ax_iconst dX12_whose_51 (by decide) (pc' := 52) rfl ?_
            refine ax_iald (v := w 1) dX12_whose_52 sh_331 rfl (by omega) (by omega) ((congrFun hw 1).trans rfl) (pc' := 53) rfl ?_
            refine ax_icmp_ge (tgt := 153) dX12_whose_53 (by decide) (pc' := 56) rfl (fun h53 => ?_) (fun h53 => ?_)
            · refine ax_iload_n dX12_whose_153 rfl rfl (pc' := 154) rfl ?_
              refine ax_if_ne (tgt := 162) dX12_whose_154 (by decide) (pc' := 157) rfl (fun h154 => ?_) (fun h154 => ?_)
              · refine ax_iload dX12_whose_162 rfl (pc' := 164) rfl ?_
                refine ax_iret dX12_whose_164 rfl ?_
                refine ⟨rfl, ?_, ?_⟩
                · refine congrArg (fun z => some (Sum.inl z)) ?_
                  unfold F_whose
                  rw [if_pos (by omega)]
                  first
                    | (rw [if_pos h154]; exact (f_loop_done (by omega)).symm.trans iv1_1)
                    | (rw [if_neg h154]; exact (f_loop_done (by omega)).symm.trans iv1_2)
                · rfl
              · refine ax_iload dX12_whose_157 rfl (pc' := 159) rfl ?_
                refine ax_goto dX12_whose_159 (pc' := 164) (by decide) ?_
                refine ax_iret dX12_whose_164 rfl ?_
                refine ⟨rfl, ?_, ?_⟩
                · refine congrArg (fun z => some (Sum.inl z)) ?_
                  unfold F_whose
                  rw [if_pos (by omega)]
                  first
                    | (rw [if_pos h154]; exact (f_loop_done (by omega)).symm.trans iv1_1)
                    | (rw [if_neg h154]; exact (f_loop_done (by omega)).symm.trans iv1_2)
                · rfl
            · refine ax_sipush dX12_whose_56 (by decide) (pc' := 59) rfl ?_
              refine ax_bipush dX12_whose_59 (by decide) (pc' := 61) rfl ?_
              refine ax_iload dX12_whose_61 rfl (pc' := 63) rfl ?_
              refine ax_imul dX12_whose_63 (by omega) (pc' := 64) rfl ?_
              refine ax_iadd dX12_whose_64 (by omega) (pc' := 65) rfl ?_
              refine ax_istore dX12_whose_65 (by decide) (ls' := [some (.inr 330), some (.inl r), some (.inl p), some (.inl what), some (.inl hd0), some (.inl sd0), some (.inl x), some (.inl (2640 + (6 * x)))]) rfl (pc' := 67) rfl ?_
              refine ax_aload_n dX12_whose_67 rfl rfl (pc' := 68) rfl ?_
              refine ax_getr (v := 331) dX12_whose_68 flX12_7 rfl sh_330 rfl (pc' := 71) rfl ?_
              refine ax_iload dX12_whose_71 rfl (pc' := 73) rfl ?_
              refine ax_iconst dX12_whose_73 (by decide) (pc' := 74) rfl ?_
              refine ax_iadd dX12_whose_74 (by omega) (pc' := 75) rfl ?_
              refine ax_iald (v := w (2640 + (6 * x) + 1)) dX12_whose_75 sh_331 rfl (by omega) (by omega) ((congrFun hw (2640 + (6 * x) + 1)).trans rfl) (pc' := 76) rfl ?_
              refine ax_iload_n dX12_whose_76 rfl rfl (pc' := 77) rfl ?_
              refine ax_icmp_eq (tgt := 83) dX12_whose_77 (by decide) (pc' := 80) rfl (fun h77 => ?_) (fun h77 => ?_)
              · refine ax_aload_n dX12_whose_83 rfl rfl (pc' := 84) rfl ?_
                refine ax_getr (v := 331) dX12_whose_84 flX12_7 rfl sh_330 rfl (pc' := 87) rfl ?_
                refine ax_iload dX12_whose_87 rfl (pc' := 89) rfl ?_
                refine ax_iconst dX12_whose_89 (by decide) (pc' := 90) rfl ?_
                refine ax_iadd dX12_whose_90 (by omega) (pc' := 91) rfl ?_
                refine ax_iald (v := w (2640 + (6 * x) + 2)) dX12_whose_91 sh_331 rfl (by omega) (by omega) ((congrFun hw (2640 + (6 * x) + 2)).trans rfl) (pc' := 92) rfl ?_
                refine ax_iload_n dX12_whose_92 rfl rfl (pc' := 93) rfl ?_
                refine ax_icmp_ne (tgt := 120) dX12_whose_93 (by decide) (pc' := 96) rfl (fun h93 => ?_) (fun h93 => ?_)
                · refine ax_iload dX12_whose_120 rfl (pc' := 122) rfl ?_
                  refine ax_istore dX12_whose_122 (by decide) (ls' := [some (.inr 330), some (.inl r), some (.inl p), some (.inl what), some (.inl hd0), some (.inl sd0), some (.inl x), some (.inl (2640 + (6 * x)))]) rfl (pc' := 124) rfl ?_
                  refine ax_iload dX12_whose_124 rfl (pc' := 126) rfl ?_
                  refine ax_aload_n dX12_whose_126 rfl rfl (pc' := 127) rfl ?_
                  refine ax_getr (v := 331) dX12_whose_127 flX12_7 rfl sh_330 rfl (pc' := 130) rfl ?_
                  refine ax_iload dX12_whose_130 rfl (pc' := 132) rfl ?_
                  refine ax_iconst dX12_whose_132 (by decide) (pc' := 133) rfl ?_
                  refine ax_iadd dX12_whose_133 (by omega) (pc' := 134) rfl ?_
                  refine ax_iald (v := w (2640 + (6 * x) + 4)) dX12_whose_134 sh_331 rfl (by omega) (by omega) ((congrFun hw (2640 + (6 * x) + 4)).trans rfl) (pc' := 135) rfl ?_
                  refine ax_iconst dX12_whose_135 (by decide) (pc' := 136) rfl ?_
                  refine ax_icmp_ne (tgt := 143) dX12_whose_136 (by decide) (pc' := 139) rfl (fun h136 => ?_) (fun h136 => ?_)
                  · refine ax_iconst dX12_whose_143 (by decide) (pc' := 144) rfl ?_
                    refine ax_iadd dX12_whose_144 (by omega) (pc' := 145) rfl ?_
                    refine ax_istore dX12_whose_145 (by decide) (ls' := [some (.inr 330), some (.inl r), some (.inl p), some (.inl what), some (.inl hd0), some (.inl (sd0 + 0)), some (.inl x), some (.inl (2640 + (6 * x)))]) rfl (pc' := 147) rfl ?_
                    refine ax_iinc dX12_whose_147 rfl (by decide) (by omega) (ls' := [some (.inr 330), some (.inl r), some (.inl p), some (.inl what), some (.inl hd0), some (.inl (sd0 + 0)), some (.inl (x + 1)), some (.inl (2640 + (6 * x)))]) rfl (pc' := 150) rfl ?_
                    refine ax_goto dX12_whose_150 (pc' := 45) (by decide) ?_
                    refine ax_less (ls2 := [some (.inr 330), some (.inl r), some (.inl p), some (.inl what), some (.inl hd0), some (.inl (sd0 + 0)), some (.inl (x + 1)), none]) [true, true, true, true, true, true, true, false] rfl ?_
                    refine ih3 (x + 1) hd0 (sd0 + 0) ?_ ?_ ?_ ?_ ?_
                    · omega
                    · omega
                    · refine f_loop_back (by omega) iv1_1 ?_
                      unfold f_whH
                      repeat' split
                      all_goals first | rfl | omega | (exfalso; omega)
                    · refine f_loop_back (by omega) iv1_2 ?_
                      unfold f_whS
                      repeat' split
                      all_goals first | rfl | omega | (exfalso; omega)
                    · omega
                  · refine ax_iconst dX12_whose_139 (by decide) (pc' := 140) rfl ?_
                    refine ax_goto dX12_whose_140 (pc' := 144) (by decide) ?_
                    refine ax_iadd dX12_whose_144 (by omega) (pc' := 145) rfl ?_
                    refine ax_istore dX12_whose_145 (by decide) (ls' := [some (.inr 330), some (.inl r), some (.inl p), some (.inl what), some (.inl hd0), some (.inl (sd0 + 1)), some (.inl x), some (.inl (2640 + (6 * x)))]) rfl (pc' := 147) rfl ?_
                    refine ax_iinc dX12_whose_147 rfl (by decide) (by omega) (ls' := [some (.inr 330), some (.inl r), some (.inl p), some (.inl what), some (.inl hd0), some (.inl (sd0 + 1)), some (.inl (x + 1)), some (.inl (2640 + (6 * x)))]) rfl (pc' := 150) rfl ?_
                    refine ax_goto dX12_whose_150 (pc' := 45) (by decide) ?_
                    refine ax_less (ls2 := [some (.inr 330), some (.inl r), some (.inl p), some (.inl what), some (.inl hd0), some (.inl (sd0 + 1)), some (.inl (x + 1)), none]) [true, true, true, true, true, true, true, false] rfl ?_
                    refine ih3 (x + 1) hd0 (sd0 + 1) ?_ ?_ ?_ ?_ ?_
                    · omega
                    · omega
                    · refine f_loop_back (by omega) iv1_1 ?_
                      unfold f_whH
                      repeat' split
                      all_goals first | rfl | omega | (exfalso; omega)
                    · refine f_loop_back (by omega) iv1_2 ?_
                      unfold f_whS
                      repeat' split
                      all_goals first | rfl | omega | (exfalso; omega)
                    · omega
                · refine ax_aload_n dX12_whose_96 rfl rfl (pc' := 97) rfl ?_
                  refine ax_getr (v := 331) dX12_whose_97 flX12_7 rfl sh_330 rfl (pc' := 100) rfl ?_
                  refine ax_iload dX12_whose_100 rfl (pc' := 102) rfl ?_
                  refine ax_iconst dX12_whose_102 (by decide) (pc' := 103) rfl ?_
                  refine ax_iadd dX12_whose_103 (by omega) (pc' := 104) rfl ?_
                  refine ax_iald (v := w (2640 + (6 * x) + 4)) dX12_whose_104 sh_331 rfl (by omega) (by omega) ((congrFun hw (2640 + (6 * x) + 4)).trans rfl) (pc' := 105) rfl ?_
                  refine ax_if_ne (tgt := 120) dX12_whose_105 (by decide) (pc' := 108) rfl (fun h105 => ?_) (fun h105 => ?_)
                  · refine ax_iload dX12_whose_120 rfl (pc' := 122) rfl ?_
                    refine ax_istore dX12_whose_122 (by decide) (ls' := [some (.inr 330), some (.inl r), some (.inl p), some (.inl what), some (.inl hd0), some (.inl sd0), some (.inl x), some (.inl (2640 + (6 * x)))]) rfl (pc' := 124) rfl ?_
                    refine ax_iload dX12_whose_124 rfl (pc' := 126) rfl ?_
                    refine ax_aload_n dX12_whose_126 rfl rfl (pc' := 127) rfl ?_
                    refine ax_getr (v := 331) dX12_whose_127 flX12_7 rfl sh_330 rfl (pc' := 130) rfl ?_
                    refine ax_iload dX12_whose_130 rfl (pc' := 132) rfl ?_
                    refine ax_iconst dX12_whose_132 (by decide) (pc' := 133) rfl ?_
                    refine ax_iadd dX12_whose_133 (by omega) (pc' := 134) rfl ?_
                    refine ax_iald (v := w (2640 + (6 * x) + 4)) dX12_whose_134 sh_331 rfl (by omega) (by omega) ((congrFun hw (2640 + (6 * x) + 4)).trans rfl) (pc' := 135) rfl ?_
                    refine ax_iconst dX12_whose_135 (by decide) (pc' := 136) rfl ?_
                    refine ax_icmp_ne (tgt := 143) dX12_whose_136 (by decide) (pc' := 139) rfl (fun h136 => ?_) (fun h136 => ?_)
                    · refine ax_iconst dX12_whose_143 (by decide) (pc' := 144) rfl ?_
                      refine ax_iadd dX12_whose_144 (by omega) (pc' := 145) rfl ?_
                      refine ax_istore dX12_whose_145 (by decide) (ls' := [some (.inr 330), some (.inl r), some (.inl p), some (.inl what), some (.inl hd0), some (.inl (sd0 + 0)), some (.inl x), some (.inl (2640 + (6 * x)))]) rfl (pc' := 147) rfl ?_
                      refine ax_iinc dX12_whose_147 rfl (by decide) (by omega) (ls' := [some (.inr 330), some (.inl r), some (.inl p), some (.inl what), some (.inl hd0), some (.inl (sd0 + 0)), some (.inl (x + 1)), some (.inl (2640 + (6 * x)))]) rfl (pc' := 150) rfl ?_
                      refine ax_goto dX12_whose_150 (pc' := 45) (by decide) ?_
                      refine ax_less (ls2 := [some (.inr 330), some (.inl r), some (.inl p), some (.inl what), some (.inl hd0), some (.inl (sd0 + 0)), some (.inl (x + 1)), none]) [true, true, true, true, true, true, true, false] rfl ?_
                      refine ih3 (x + 1) hd0 (sd0 + 0) ?_ ?_ ?_ ?_ ?_
                      · omega
                      · omega
                      · refine f_loop_back (by omega) iv1_1 ?_
                        unfold f_whH
                        repeat' split
                        all_goals first | rfl | omega | (exfalso; omega)
                      · refine f_loop_back (by omega) iv1_2 ?_
                        unfold f_whS
                        repeat' split
                        all_goals first | rfl | omega | (exfalso; omega)
                      · omega
                    · refine ax_iconst dX12_whose_139 (by decide) (pc' := 140) rfl ?_
                      refine ax_goto dX12_whose_140 (pc' := 144) (by decide) ?_
                      refine ax_iadd dX12_whose_144 (by omega) (pc' := 145) rfl ?_
                      refine ax_istore dX12_whose_145 (by decide) (ls' := [some (.inr 330), some (.inl r), some (.inl p), some (.inl what), some (.inl hd0), some (.inl (sd0 + 1)), some (.inl x), some (.inl (2640 + (6 * x)))]) rfl (pc' := 147) rfl ?_
                      refine ax_iinc dX12_whose_147 rfl (by decide) (by omega) (ls' := [some (.inr 330), some (.inl r), some (.inl p), some (.inl what), some (.inl hd0), some (.inl (sd0 + 1)), some (.inl (x + 1)), some (.inl (2640 + (6 * x)))]) rfl (pc' := 150) rfl ?_
                      refine ax_goto dX12_whose_150 (pc' := 45) (by decide) ?_
                      refine ax_less (ls2 := [some (.inr 330), some (.inl r), some (.inl p), some (.inl what), some (.inl hd0), some (.inl (sd0 + 1)), some (.inl (x + 1)), none]) [true, true, true, true, true, true, true, false] rfl ?_
                      refine ih3 (x + 1) hd0 (sd0 + 1) ?_ ?_ ?_ ?_ ?_
                      · omega
                      · omega
                      · refine f_loop_back (by omega) iv1_1 ?_
                        unfold f_whH
                        repeat' split
                        all_goals first | rfl | omega | (exfalso; omega)
                      · refine f_loop_back (by omega) iv1_2 ?_
                        unfold f_whS
                        repeat' split
                        all_goals first | rfl | omega | (exfalso; omega)
                      · omega
                  · refine ax_aload_n dX12_whose_108 rfl rfl (pc' := 109) rfl ?_
                    refine ax_getr (v := 331) dX12_whose_109 flX12_7 rfl sh_330 rfl (pc' := 112) rfl ?_
                    refine ax_iload dX12_whose_112 rfl (pc' := 114) rfl ?_
                    refine ax_iconst dX12_whose_114 (by decide) (pc' := 115) rfl ?_
                    refine ax_iadd dX12_whose_115 (by omega) (pc' := 116) rfl ?_
                    refine ax_iald (v := w (2640 + (6 * x) + 5)) dX12_whose_116 sh_331 rfl (by omega) (by omega) ((congrFun hw (2640 + (6 * x) + 5)).trans rfl) (pc' := 117) rfl ?_
                    refine ax_goto dX12_whose_117 (pc' := 122) (by decide) ?_
                    refine ax_istore dX12_whose_122 (by decide) (ls' := [some (.inr 330), some (.inl r), some (.inl p), some (.inl what), some (.inl (w (2640 + (6 * x) + 5))), some (.inl sd0), some (.inl x), some (.inl (2640 + (6 * x)))]) rfl (pc' := 124) rfl ?_
                    refine ax_iload dX12_whose_124 rfl (pc' := 126) rfl ?_
                    refine ax_aload_n dX12_whose_126 rfl rfl (pc' := 127) rfl ?_
                    refine ax_getr (v := 331) dX12_whose_127 flX12_7 rfl sh_330 rfl (pc' := 130) rfl ?_
                    refine ax_iload dX12_whose_130 rfl (pc' := 132) rfl ?_
                    refine ax_iconst dX12_whose_132 (by decide) (pc' := 133) rfl ?_
                    refine ax_iadd dX12_whose_133 (by omega) (pc' := 134) rfl ?_
                    refine ax_iald (v := w (2640 + (6 * x) + 4)) dX12_whose_134 sh_331 rfl (by omega) (by omega) ((congrFun hw (2640 + (6 * x) + 4)).trans rfl) (pc' := 135) rfl ?_
                    refine ax_iconst dX12_whose_135 (by decide) (pc' := 136) rfl ?_
                    refine ax_icmp_ne (tgt := 143) dX12_whose_136 (by decide) (pc' := 139) rfl (fun h136 => ?_) (fun h136 => ?_)
                    · refine ax_iconst dX12_whose_143 (by decide) (pc' := 144) rfl ?_
                      refine ax_iadd dX12_whose_144 (by omega) (pc' := 145) rfl ?_
                      refine ax_istore dX12_whose_145 (by decide) (ls' := [some (.inr 330), some (.inl r), some (.inl p), some (.inl what), some (.inl (w (2640 + (6 * x) + 5))), some (.inl (sd0 + 0)), some (.inl x), some (.inl (2640 + (6 * x)))]) rfl (pc' := 147) rfl ?_
                      refine ax_iinc dX12_whose_147 rfl (by decide) (by omega) (ls' := [some (.inr 330), some (.inl r), some (.inl p), some (.inl what), some (.inl (w (2640 + (6 * x) + 5))), some (.inl (sd0 + 0)), some (.inl (x + 1)), some (.inl (2640 + (6 * x)))]) rfl (pc' := 150) rfl ?_
                      refine ax_goto dX12_whose_150 (pc' := 45) (by decide) ?_
                      refine ax_less (ls2 := [some (.inr 330), some (.inl r), some (.inl p), some (.inl what), some (.inl (w (2640 + (6 * x) + 5))), some (.inl (sd0 + 0)), some (.inl (x + 1)), none]) [true, true, true, true, true, true, true, false] rfl ?_
                      refine ih3 (x + 1) (w (2640 + (6 * x) + 5)) (sd0 + 0) ?_ ?_ ?_ ?_ ?_
                      · omega
                      · omega
                      · refine f_loop_back (by omega) iv1_1 ?_
                        unfold f_whH
                        repeat' split
                        all_goals first | rfl | omega | (exfalso; omega)
                      · refine f_loop_back (by omega) iv1_2 ?_
                        unfold f_whS
                        repeat' split
                        all_goals first | rfl | omega | (exfalso; omega)
                      · omega
                    · refine ax_iconst dX12_whose_139 (by decide) (pc' := 140) rfl ?_
                      refine ax_goto dX12_whose_140 (pc' := 144) (by decide) ?_
                      refine ax_iadd dX12_whose_144 (by omega) (pc' := 145) rfl ?_
                      refine ax_istore dX12_whose_145 (by decide) (ls' := [some (.inr 330), some (.inl r), some (.inl p), some (.inl what), some (.inl (w (2640 + (6 * x) + 5))), some (.inl (sd0 + 1)), some (.inl x), some (.inl (2640 + (6 * x)))]) rfl (pc' := 147) rfl ?_
                      refine ax_iinc dX12_whose_147 rfl (by decide) (by omega) (ls' := [some (.inr 330), some (.inl r), some (.inl p), some (.inl what), some (.inl (w (2640 + (6 * x) + 5))), some (.inl (sd0 + 1)), some (.inl (x + 1)), some (.inl (2640 + (6 * x)))]) rfl (pc' := 150) rfl ?_
                      refine ax_goto dX12_whose_150 (pc' := 45) (by decide) ?_
                      refine ax_less (ls2 := [some (.inr 330), some (.inl r), some (.inl p), some (.inl what), some (.inl (w (2640 + (6 * x) + 5))), some (.inl (sd0 + 1)), some (.inl (x + 1)), none]) [true, true, true, true, true, true, true, false] rfl ?_
                      refine ih3 (x + 1) (w (2640 + (6 * x) + 5)) (sd0 + 1) ?_ ?_ ?_ ?_ ?_
                      · omega
                      · omega
                      · refine f_loop_back (by omega) iv1_1 ?_
                        unfold f_whH
                        repeat' split
                        all_goals first | rfl | omega | (exfalso; omega)
                      · refine f_loop_back (by omega) iv1_2 ?_
                        unfold f_whS
                        repeat' split
                        all_goals first | rfl | omega | (exfalso; omega)
                      · omega
              · refine ax_goto dX12_whose_80 (pc' := 147) (by decide) ?_
                refine ax_iinc dX12_whose_147 rfl (by decide) (by omega) (ls' := [some (.inr 330), some (.inl r), some (.inl p), some (.inl what), some (.inl hd0), some (.inl sd0), some (.inl (x + 1)), some (.inl (2640 + (6 * x)))]) rfl (pc' := 150) rfl ?_
                refine ax_goto dX12_whose_150 (pc' := 45) (by decide) ?_
                refine ax_less (ls2 := [some (.inr 330), some (.inl r), some (.inl p), some (.inl what), some (.inl hd0), some (.inl sd0), some (.inl (x + 1)), none]) [true, true, true, true, true, true, true, false] rfl ?_
                refine ih3 (x + 1) hd0 sd0 ?_ ?_ ?_ ?_ ?_
                · omega
                · omega
                · refine f_loop_back (by omega) iv1_1 ?_
                  unfold f_whH
                  repeat' split
                  all_goals first | rfl | omega | (exfalso; omega)
                · refine f_loop_back (by omega) iv1_2 ?_
                  unfold f_whS
                  repeat' split
                  all_goals first | rfl | omega | (exfalso; omega)
                · omega
        refine LP1 (w 1 - 0 : Int).toNat.succ 0 (-1) 0 ?_ ?_ ?_ ?_ ?_
        · omega
        · omega
        · rfl
        · rfl
        · omega
      · refine ax_iload_n dX12_whose_23 rfl rfl (pc' := 24) rfl ?_
        refine ax_iconst dX12_whose_24 (by decide) (pc' := 25) rfl ?_
        refine ax_bipush dX12_whose_25 (by decide) (pc' := 27) rfl ?_
        refine ax_insG [.inl p, .inl 0, .inl 23] [] dX12_whose_27 mlX12_74 rfl rfl (Nat.le_of_ble_eq_true rfl) (s_X12_isIn E l _ (by omega) _ p 0 23) (pc' := 30) rfl (fun vv M_27 hq co27 hcm27 => ?_)
        obtain ⟨rfl, rfl⟩ := hq
        refine ax_reS (st2 := [.inl (f_b (0 ≤ p ∧ p ≤ 23))]) rfl ?_
        refine ax_if_ne (tgt := 36) dX12_whose_30 (by decide) (pc' := 33) rfl (fun h30 => ?_) (fun h30 => ?_)
        · replace h30 := f_b_1 h30
          refine ax_iconst dX12_whose_36 (by decide) (pc' := 37) rfl ?_
          refine ax_istore dX12_whose_37 (by decide) (ls' := [some (.inr 330), some (.inl r), some (.inl p), some (.inl what), some (.inl (-1)), none, none, none]) rfl (pc' := 39) rfl ?_
          refine ax_iconst dX12_whose_39 (by decide) (pc' := 40) rfl ?_
          refine ax_istore dX12_whose_40 (by decide) (ls' := [some (.inr 330), some (.inl r), some (.inl p), some (.inl what), some (.inl (-1)), some (.inl 0), none, none]) rfl (pc' := 42) rfl ?_
          refine ax_iconst dX12_whose_42 (by decide) (pc' := 43) rfl ?_
          refine ax_istore dX12_whose_43 (by decide) (ls' := [some (.inr 330), some (.inl r), some (.inl p), some (.inl what), some (.inl (-1)), some (.inl 0), some (.inl 0), none]) rfl (pc' := 45) rfl ?_
          have LP4 : ∀ (kq5 : Nat) (x hd0 sd0 : Int) (hm4 : w 1 - x < (kq5 : Nat)) (iv4_0 : 0 ≤ x ∧ x ≤ w 1) (iv4_1 : f_loop (f_whH w r p) x (w 1) hd0 = f_loop (f_whH w r p) 0 (w 1) (-1)) (iv4_2 : f_loop (f_whS w r) x (w 1) sd0 = f_loop (f_whS w r) 0 (w 1) 0) (iv4_3 : 0 ≤ sd0 ∧ sd0 ≤ x), ax_W E l (d + 1) 0 0 iX12_whose 45 [some (.inr 330), some (.inl r), some (.inl p), some (.inl what), some (.inl hd0), some (.inl sd0), some (.inl x), none] [] SH M (ax_P (fun z0 M2 => z0 = some (.inl (F_whose w r p what)) ∧ M = M2)) := by
            intro kq5
            induction kq5 with
            | zero =>
              intro x hd0 sd0 hm4 iv4_0 iv4_1 iv4_2 iv4_3
              exfalso
              omega
            | succ kq5 ih6 =>
              intro x hd0 sd0 hm4 iv4_0 iv4_1 iv4_2 iv4_3
              refine ax_iload dX12_whose_45 rfl (pc' := 47) rfl ?_
              refine ax_aload_n dX12_whose_47 rfl rfl (pc' := 48) rfl ?_
              refine ax_getr (v := 331) dX12_whose_48 flX12_7 rfl sh_330 rfl (pc' := 51) rfl ?_
              refine ax_iconst dX12_whose_51 (by decide) (pc' := 52) rfl ?_
              refine ax_iald (v := w 1) dX12_whose_52 sh_331 rfl (by omega) (by omega) ((congrFun hw 1).trans rfl) (pc' := 53) rfl ?_
              refine ax_icmp_ge (tgt := 153) dX12_whose_53 (by decide) (pc' := 56) rfl (fun h53 => ?_) (fun h53 => ?_)
              · refine ax_iload_n dX12_whose_153 rfl rfl (pc' := 154) rfl ?_
                refine ax_if_ne (tgt := 162) dX12_whose_154 (by decide) (pc' := 157) rfl (fun h154 => ?_) (fun h154 => ?_)
                · refine ax_iload dX12_whose_162 rfl (pc' := 164) rfl ?_
                  refine ax_iret dX12_whose_164 rfl ?_
                  refine ⟨rfl, ?_, ?_⟩
                  · refine congrArg (fun z => some (Sum.inl z)) ?_
                    unfold F_whose
                    rw [if_pos (by omega)]
                    first
                      | (rw [if_pos h154]; exact (f_loop_done (by omega)).symm.trans iv4_1)
                      | (rw [if_neg h154]; exact (f_loop_done (by omega)).symm.trans iv4_2)
                  · rfl
                · refine ax_iload dX12_whose_157 rfl (pc' := 159) rfl ?_
                  refine ax_goto dX12_whose_159 (pc' := 164) (by decide) ?_
                  refine ax_iret dX12_whose_164 rfl ?_
                  refine ⟨rfl, ?_, ?_⟩
                  · refine congrArg (fun z => some (Sum.inl z)) ?_
                    unfold F_whose
                    rw [if_pos (by omega)]
                    first
                      | (rw [if_pos h154]; exact (f_loop_done (by omega)).symm.trans iv4_1)
                      | (rw [if_neg h154]; exact (f_loop_done (by omega)).symm.trans iv4_2)
                  · rfl
              · refine ax_sipush dX12_whose_56 (by decide) (pc' := 59) rfl ?_
                refine ax_bipush dX12_whose_59 (by decide) (pc' := 61) rfl ?_
                refine ax_iload dX12_whose_61 rfl (pc' := 63) rfl ?_
                refine ax_imul dX12_whose_63 (by omega) (pc' := 64) rfl ?_
                refine ax_iadd dX12_whose_64 (by omega) (pc' := 65) rfl ?_
                refine ax_istore dX12_whose_65 (by decide) (ls' := [some (.inr 330), some (.inl r), some (.inl p), some (.inl what), some (.inl hd0), some (.inl sd0), some (.inl x), some (.inl (2640 + (6 * x)))]) rfl (pc' := 67) rfl ?_
                refine ax_aload_n dX12_whose_67 rfl rfl (pc' := 68) rfl ?_
                refine ax_getr (v := 331) dX12_whose_68 flX12_7 rfl sh_330 rfl (pc' := 71) rfl ?_
                refine ax_iload dX12_whose_71 rfl (pc' := 73) rfl ?_
                refine ax_iconst dX12_whose_73 (by decide) (pc' := 74) rfl ?_
                refine ax_iadd dX12_whose_74 (by omega) (pc' := 75) rfl ?_
                refine ax_iald (v := w (2640 + (6 * x) + 1)) dX12_whose_75 sh_331 rfl (by omega) (by omega) ((congrFun hw (2640 + (6 * x) + 1)).trans rfl) (pc' := 76) rfl ?_
                refine ax_iload_n dX12_whose_76 rfl rfl (pc' := 77) rfl ?_
                refine ax_icmp_eq (tgt := 83) dX12_whose_77 (by decide) (pc' := 80) rfl (fun h77 => ?_) (fun h77 => ?_)
                · refine ax_aload_n dX12_whose_83 rfl rfl (pc' := 84) rfl ?_
                  refine ax_getr (v := 331) dX12_whose_84 flX12_7 rfl sh_330 rfl (pc' := 87) rfl ?_
                  refine ax_iload dX12_whose_87 rfl (pc' := 89) rfl ?_
                  refine ax_iconst dX12_whose_89 (by decide) (pc' := 90) rfl ?_
                  refine ax_iadd dX12_whose_90 (by omega) (pc' := 91) rfl ?_
                  refine ax_iald (v := w (2640 + (6 * x) + 2)) dX12_whose_91 sh_331 rfl (by omega) (by omega) ((congrFun hw (2640 + (6 * x) + 2)).trans rfl) (pc' := 92) rfl ?_
                  refine ax_iload_n dX12_whose_92 rfl rfl (pc' := 93) rfl ?_
                  refine ax_icmp_ne (tgt := 120) dX12_whose_93 (by decide) (pc' := 96) rfl (fun h93 => ?_) (fun h93 => ?_)
                  · refine ax_iload dX12_whose_120 rfl (pc' := 122) rfl ?_
                    refine ax_istore dX12_whose_122 (by decide) (ls' := [some (.inr 330), some (.inl r), some (.inl p), some (.inl what), some (.inl hd0), some (.inl sd0), some (.inl x), some (.inl (2640 + (6 * x)))]) rfl (pc' := 124) rfl ?_
                    refine ax_iload dX12_whose_124 rfl (pc' := 126) rfl ?_
                    refine ax_aload_n dX12_whose_126 rfl rfl (pc' := 127) rfl ?_
                    refine ax_getr (v := 331) dX12_whose_127 flX12_7 rfl sh_330 rfl (pc' := 130) rfl ?_
                    refine ax_iload dX12_whose_130 rfl (pc' := 132) rfl ?_
                    refine ax_iconst dX12_whose_132 (by decide) (pc' := 133) rfl ?_
                    refine ax_iadd dX12_whose_133 (by omega) (pc' := 134) rfl ?_
                    refine ax_iald (v := w (2640 + (6 * x) + 4)) dX12_whose_134 sh_331 rfl (by omega) (by omega) ((congrFun hw (2640 + (6 * x) + 4)).trans rfl) (pc' := 135) rfl ?_
                    refine ax_iconst dX12_whose_135 (by decide) (pc' := 136) rfl ?_
                    refine ax_icmp_ne (tgt := 143) dX12_whose_136 (by decide) (pc' := 139) rfl (fun h136 => ?_) (fun h136 => ?_)
                    · refine ax_iconst dX12_whose_143 (by decide) (pc' := 144) rfl ?_
                      refine ax_iadd dX12_whose_144 (by omega) (pc' := 145) rfl ?_
                      refine ax_istore dX12_whose_145 (by decide) (ls' := [some (.inr 330), some (.inl r), some (.inl p), some (.inl what), some (.inl hd0), some (.inl (sd0 + 0)), some (.inl x), some (.inl (2640 + (6 * x)))]) rfl (pc' := 147) rfl ?_
                      refine ax_iinc dX12_whose_147 rfl (by decide) (by omega) (ls' := [some (.inr 330), some (.inl r), some (.inl p), some (.inl what), some (.inl hd0), some (.inl (sd0 + 0)), some (.inl (x + 1)), some (.inl (2640 + (6 * x)))]) rfl (pc' := 150) rfl ?_
                      refine ax_goto dX12_whose_150 (pc' := 45) (by decide) ?_
                      refine ax_less (ls2 := [some (.inr 330), some (.inl r), some (.inl p), some (.inl what), some (.inl hd0), some (.inl (sd0 + 0)), some (.inl (x + 1)), none]) [true, true, true, true, true, true, true, false] rfl ?_
                      refine ih6 (x + 1) hd0 (sd0 + 0) ?_ ?_ ?_ ?_ ?_
                      · omega
                      · omega
                      · refine f_loop_back (by omega) iv4_1 ?_
                        unfold f_whH
                        repeat' split
                        all_goals first | rfl | omega | (exfalso; omega)
                      · refine f_loop_back (by omega) iv4_2 ?_
                        unfold f_whS
                        repeat' split
                        all_goals first | rfl | omega | (exfalso; omega)
                      · omega
                    · refine ax_iconst dX12_whose_139 (by decide) (pc' := 140) rfl ?_
                      refine ax_goto dX12_whose_140 (pc' := 144) (by decide) ?_
                      refine ax_iadd dX12_whose_144 (by omega) (pc' := 145) rfl ?_
                      refine ax_istore dX12_whose_145 (by decide) (ls' := [some (.inr 330), some (.inl r), some (.inl p), some (.inl what), some (.inl hd0), some (.inl (sd0 + 1)), some (.inl x), some (.inl (2640 + (6 * x)))]) rfl (pc' := 147) rfl ?_
                      refine ax_iinc dX12_whose_147 rfl (by decide) (by omega) (ls' := [some (.inr 330), some (.inl r), some (.inl p), some (.inl what), some (.inl hd0), some (.inl (sd0 + 1)), some (.inl (x + 1)), some (.inl (2640 + (6 * x)))]) rfl (pc' := 150) rfl ?_
                      refine ax_goto dX12_whose_150 (pc' := 45) (by decide) ?_
                      refine ax_less (ls2 := [some (.inr 330), some (.inl r), some (.inl p), some (.inl what), some (.inl hd0), some (.inl (sd0 + 1)), some (.inl (x + 1)), none]) [true, true, true, true, true, true, true, false] rfl ?_
                      refine ih6 (x + 1) hd0 (sd0 + 1) ?_ ?_ ?_ ?_ ?_
                      · omega
                      · omega
                      · refine f_loop_back (by omega) iv4_1 ?_
                        unfold f_whH
                        repeat' split
                        all_goals first | rfl | omega | (exfalso; omega)
                      · refine f_loop_back (by omega) iv4_2 ?_
                        unfold f_whS
                        repeat' split
                        all_goals first | rfl | omega | (exfalso; omega)
                      · omega
                  · refine ax_aload_n dX12_whose_96 rfl rfl (pc' := 97) rfl ?_
                    refine ax_getr (v := 331) dX12_whose_97 flX12_7 rfl sh_330 rfl (pc' := 100) rfl ?_
                    refine ax_iload dX12_whose_100 rfl (pc' := 102) rfl ?_
                    refine ax_iconst dX12_whose_102 (by decide) (pc' := 103) rfl ?_
                    refine ax_iadd dX12_whose_103 (by omega) (pc' := 104) rfl ?_
                    refine ax_iald (v := w (2640 + (6 * x) + 4)) dX12_whose_104 sh_331 rfl (by omega) (by omega) ((congrFun hw (2640 + (6 * x) + 4)).trans rfl) (pc' := 105) rfl ?_
                    refine ax_if_ne (tgt := 120) dX12_whose_105 (by decide) (pc' := 108) rfl (fun h105 => ?_) (fun h105 => ?_)
                    · refine ax_iload dX12_whose_120 rfl (pc' := 122) rfl ?_
                      refine ax_istore dX12_whose_122 (by decide) (ls' := [some (.inr 330), some (.inl r), some (.inl p), some (.inl what), some (.inl hd0), some (.inl sd0), some (.inl x), some (.inl (2640 + (6 * x)))]) rfl (pc' := 124) rfl ?_
                      refine ax_iload dX12_whose_124 rfl (pc' := 126) rfl ?_
                      refine ax_aload_n dX12_whose_126 rfl rfl (pc' := 127) rfl ?_
                      refine ax_getr (v := 331) dX12_whose_127 flX12_7 rfl sh_330 rfl (pc' := 130) rfl ?_
                      refine ax_iload dX12_whose_130 rfl (pc' := 132) rfl ?_
                      refine ax_iconst dX12_whose_132 (by decide) (pc' := 133) rfl ?_
                      refine ax_iadd dX12_whose_133 (by omega) (pc' := 134) rfl ?_
                      refine ax_iald (v := w (2640 + (6 * x) + 4)) dX12_whose_134 sh_331 rfl (by omega) (by omega) ((congrFun hw (2640 + (6 * x) + 4)).trans rfl) (pc' := 135) rfl ?_
                      refine ax_iconst dX12_whose_135 (by decide) (pc' := 136) rfl ?_
                      refine ax_icmp_ne (tgt := 143) dX12_whose_136 (by decide) (pc' := 139) rfl (fun h136 => ?_) (fun h136 => ?_)
                      · refine ax_iconst dX12_whose_143 (by decide) (pc' := 144) rfl ?_
                        refine ax_iadd dX12_whose_144 (by omega) (pc' := 145) rfl ?_
                        refine ax_istore dX12_whose_145 (by decide) (ls' := [some (.inr 330), some (.inl r), some (.inl p), some (.inl what), some (.inl hd0), some (.inl (sd0 + 0)), some (.inl x), some (.inl (2640 + (6 * x)))]) rfl (pc' := 147) rfl ?_
                        refine ax_iinc dX12_whose_147 rfl (by decide) (by omega) (ls' := [some (.inr 330), some (.inl r), some (.inl p), some (.inl what), some (.inl hd0), some (.inl (sd0 + 0)), some (.inl (x + 1)), some (.inl (2640 + (6 * x)))]) rfl (pc' := 150) rfl ?_
                        refine ax_goto dX12_whose_150 (pc' := 45) (by decide) ?_
                        refine ax_less (ls2 := [some (.inr 330), some (.inl r), some (.inl p), some (.inl what), some (.inl hd0), some (.inl (sd0 + 0)), some (.inl (x + 1)), none]) [true, true, true, true, true, true, true, false] rfl ?_
                        refine ih6 (x + 1) hd0 (sd0 + 0) ?_ ?_ ?_ ?_ ?_
                        · omega
                        · omega
                        · refine f_loop_back (by omega) iv4_1 ?_
                          unfold f_whH
                          repeat' split
                          all_goals first | rfl | omega | (exfalso; omega)
                        · refine f_loop_back (by omega) iv4_2 ?_
                          unfold f_whS
                          repeat' split
                          all_goals first | rfl | omega | (exfalso; omega)
                        · omega
                      · refine ax_iconst dX12_whose_139 (by decide) (pc' := 140) rfl ?_
                        refine ax_goto dX12_whose_140 (pc' := 144) (by decide) ?_
                        refine ax_iadd dX12_whose_144 (by omega) (pc' := 145) rfl ?_
                        refine ax_istore dX12_whose_145 (by decide) (ls' := [some (.inr 330), some (.inl r), some (.inl p), some (.inl what), some (.inl hd0), some (.inl (sd0 + 1)), some (.inl x), some (.inl (2640 + (6 * x)))]) rfl (pc' := 147) rfl ?_
                        refine ax_iinc dX12_whose_147 rfl (by decide) (by omega) (ls' := [some (.inr 330), some (.inl r), some (.inl p), some (.inl what), some (.inl hd0), some (.inl (sd0 + 1)), some (.inl (x + 1)), some (.inl (2640 + (6 * x)))]) rfl (pc' := 150) rfl ?_
                        refine ax_goto dX12_whose_150 (pc' := 45) (by decide) ?_
                        refine ax_less (ls2 := [some (.inr 330), some (.inl r), some (.inl p), some (.inl what), some (.inl hd0), some (.inl (sd0 + 1)), some (.inl (x + 1)), none]) [true, true, true, true, true, true, true, false] rfl ?_
                        refine ih6 (x + 1) hd0 (sd0 + 1) ?_ ?_ ?_ ?_ ?_
                        · omega
                        · omega
                        · refine f_loop_back (by omega) iv4_1 ?_
                          unfold f_whH
                          repeat' split
                          all_goals first | rfl | omega | (exfalso; omega)
                        · refine f_loop_back (by omega) iv4_2 ?_
                          unfold f_whS
                          repeat' split
                          all_goals first | rfl | omega | (exfalso; omega)
                        · omega
                    · refine ax_aload_n dX12_whose_108 rfl rfl (pc' := 109) rfl ?_
                      refine ax_getr (v := 331) dX12_whose_109 flX12_7 rfl sh_330 rfl (pc' := 112) rfl ?_
                      refine ax_iload dX12_whose_112 rfl (pc' := 114) rfl ?_
                      refine ax_iconst dX12_whose_114 (by decide) (pc' := 115) rfl ?_
                      refine ax_iadd dX12_whose_115 (by omega) (pc' := 116) rfl ?_
                      refine ax_iald (v := w (2640 + (6 * x) + 5)) dX12_whose_116 sh_331 rfl (by omega) (by omega) ((congrFun hw (2640 + (6 * x) + 5)).trans rfl) (pc' := 117) rfl ?_
                      refine ax_goto dX12_whose_117 (pc' := 122) (by decide) ?_
                      refine ax_istore dX12_whose_122 (by decide) (ls' := [some (.inr 330), some (.inl r), some (.inl p), some (.inl what), some (.inl (w (2640 + (6 * x) + 5))), some (.inl sd0), some (.inl x), some (.inl (2640 + (6 * x)))]) rfl (pc' := 124) rfl ?_
                      refine ax_iload dX12_whose_124 rfl (pc' := 126) rfl ?_
                      refine ax_aload_n dX12_whose_126 rfl rfl (pc' := 127) rfl ?_
                      refine ax_getr (v := 331) dX12_whose_127 flX12_7 rfl sh_330 rfl (pc' := 130) rfl ?_
                      refine ax_iload dX12_whose_130 rfl (pc' := 132) rfl ?_
                      refine ax_iconst dX12_whose_132 (by decide) (pc' := 133) rfl ?_
                      refine ax_iadd dX12_whose_133 (by omega) (pc' := 134) rfl ?_
                      refine ax_iald (v := w (2640 + (6 * x) + 4)) dX12_whose_134 sh_331 rfl (by omega) (by omega) ((congrFun hw (2640 + (6 * x) + 4)).trans rfl) (pc' := 135) rfl ?_
                      refine ax_iconst dX12_whose_135 (by decide) (pc' := 136) rfl ?_
                      refine ax_icmp_ne (tgt := 143) dX12_whose_136 (by decide) (pc' := 139) rfl (fun h136 => ?_) (fun h136 => ?_)
                      · refine ax_iconst dX12_whose_143 (by decide) (pc' := 144) rfl ?_
                        refine ax_iadd dX12_whose_144 (by omega) (pc' := 145) rfl ?_
                        refine ax_istore dX12_whose_145 (by decide) (ls' := [some (.inr 330), some (.inl r), some (.inl p), some (.inl what), some (.inl (w (2640 + (6 * x) + 5))), some (.inl (sd0 + 0)), some (.inl x), some (.inl (2640 + (6 * x)))]) rfl (pc' := 147) rfl ?_
                        refine ax_iinc dX12_whose_147 rfl (by decide) (by omega) (ls' := [some (.inr 330), some (.inl r), some (.inl p), some (.inl what), some (.inl (w (2640 + (6 * x) + 5))), some (.inl (sd0 + 0)), some (.inl (x + 1)), some (.inl (2640 + (6 * x)))]) rfl (pc' := 150) rfl ?_
                        refine ax_goto dX12_whose_150 (pc' := 45) (by decide) ?_
                        refine ax_less (ls2 := [some (.inr 330), some (.inl r), some (.inl p), some (.inl what), some (.inl (w (2640 + (6 * x) + 5))), some (.inl (sd0 + 0)), some (.inl (x + 1)), none]) [true, true, true, true, true, true, true, false] rfl ?_
                        refine ih6 (x + 1) (w (2640 + (6 * x) + 5)) (sd0 + 0) ?_ ?_ ?_ ?_ ?_
                        · omega
                        · omega
                        · refine f_loop_back (by omega) iv4_1 ?_
                          unfold f_whH
                          repeat' split
                          all_goals first | rfl | omega | (exfalso; omega)
                        · refine f_loop_back (by omega) iv4_2 ?_
                          unfold f_whS
                          repeat' split
                          all_goals first | rfl | omega | (exfalso; omega)
                        · omega
                      · refine ax_iconst dX12_whose_139 (by decide) (pc' := 140) rfl ?_
                        refine ax_goto dX12_whose_140 (pc' := 144) (by decide) ?_
                        refine ax_iadd dX12_whose_144 (by omega) (pc' := 145) rfl ?_
                        refine ax_istore dX12_whose_145 (by decide) (ls' := [some (.inr 330), some (.inl r), some (.inl p), some (.inl what), some (.inl (w (2640 + (6 * x) + 5))), some (.inl (sd0 + 1)), some (.inl x), some (.inl (2640 + (6 * x)))]) rfl (pc' := 147) rfl ?_
                        refine ax_iinc dX12_whose_147 rfl (by decide) (by omega) (ls' := [some (.inr 330), some (.inl r), some (.inl p), some (.inl what), some (.inl (w (2640 + (6 * x) + 5))), some (.inl (sd0 + 1)), some (.inl (x + 1)), some (.inl (2640 + (6 * x)))]) rfl (pc' := 150) rfl ?_
                        refine ax_goto dX12_whose_150 (pc' := 45) (by decide) ?_
                        refine ax_less (ls2 := [some (.inr 330), some (.inl r), some (.inl p), some (.inl what), some (.inl (w (2640 + (6 * x) + 5))), some (.inl (sd0 + 1)), some (.inl (x + 1)), none]) [true, true, true, true, true, true, true, false] rfl ?_
                        refine ih6 (x + 1) (w (2640 + (6 * x) + 5)) (sd0 + 1) ?_ ?_ ?_ ?_ ?_
                        · omega
                        · omega
                        · refine f_loop_back (by omega) iv4_1 ?_
                          unfold f_whH
                          repeat' split
                          all_goals first | rfl | omega | (exfalso; omega)
                        · refine f_loop_back (by omega) iv4_2 ?_
                          unfold f_whS
                          repeat' split
                          all_goals first | rfl | omega | (exfalso; omega)
                        · omega
                · refine ax_goto dX12_whose_80 (pc' := 147) (by decide) ?_
                  refine ax_iinc dX12_whose_147 rfl (by decide) (by omega) (ls' := [some (.inr 330), some (.inl r), some (.inl p), some (.inl what), some (.inl hd0), some (.inl sd0), some (.inl (x + 1)), some (.inl (2640 + (6 * x)))]) rfl (pc' := 150) rfl ?_
                  refine ax_goto dX12_whose_150 (pc' := 45) (by decide) ?_
                  refine ax_less (ls2 := [some (.inr 330), some (.inl r), some (.inl p), some (.inl what), some (.inl hd0), some (.inl sd0), some (.inl (x + 1)), none]) [true, true, true, true, true, true, true, false] rfl ?_
                  refine ih6 (x + 1) hd0 sd0 ?_ ?_ ?_ ?_ ?_
                  · omega
                  · omega
                  · refine f_loop_back (by omega) iv4_1 ?_
                    unfold f_whH
                    repeat' split
                    all_goals first | rfl | omega | (exfalso; omega)
                  · refine f_loop_back (by omega) iv4_2 ?_
                    unfold f_whS
                    repeat' split
                    all_goals first | rfl | omega | (exfalso; omega)
                  · omega
          refine LP4 (w 1 - 0 : Int).toNat.succ 0 (-1) 0 ?_ ?_ ?_ ?_ ?_
          · omega
          · omega
          · rfl
          · rfl
          · omega
        · replace h30 := f_b_0 h30
          refine ax_bipush dX12_whose_33 (by decide) (pc' := 35) rfl ?_
          refine ax_iret dX12_whose_35 rfl ?_
          refine ⟨rfl, ?_, ?_⟩
          · refine congrArg (fun z => some (Sum.inl z)) ?_
            unfold F_whose
            repeat' split
            all_goals first | rfl | omega | (exfalso; omega)
          · rfl
set_option maxRecDepth 20000 in
theorem s_X12_image_take (E : ax_Env) (l : Launch) (d : Nat) (hd : 1 ≤ d) (M : ax_Mem) {w : Int → Int} (hw : M 331 = w) {kp : Int → Int} (hkp : M 332 = kp) : ax_G E l d iX12_image [.inr 330, .inl 1] M (fun z0 M2 => z0 = some (.inl 1) ∧ (∀ x0 i0 : Int, ¬ (x0 = 332 ∨ (x0 = 330 ∧ i0 = 5)) → M2 x0 i0 = M x0 i0) ∧ M2 332 = f_cp w 0 kp 0 6894 ∧ M2 330 5 = 1) := by
  obtain ⟨d, rfl⟩ : ∃ d0, d = d0 + 1 := ⟨d - 1, by omega⟩
  refine ax_start rfl (Nat.le_of_ble_eq_true rfl) (ls := [some (.inr 330), some (.inl 1), none]) rfl (fun hav hcm => ?_)
  clear hav
  refine ax_iload_n dX12_image_0 rfl rfl (pc' := 1) rfl ?_
  refine ax_if_ne (tgt := 13) dX12_image_1 (by decide) (pc' := 4) rfl (fun h1 => ?_) (fun h1 => ?_)
  · refine ax_iconst dX12_image_13 (by decide) (pc' := 14) rfl ?_
    refine ax_istore_n dX12_image_14 rfl (by decide) (ls' := [some (.inr 330), some (.inl 1), some (.inl 0)]) rfl (pc' := 15) rfl ?_
    have LP1 : ∀ (kq2 : Nat) (i : Int) (kv1 : Int → Int) (M1 : ax_Mem) (hm1 : 6894 - i < (kq2 : Nat)) (fr1 : ∀ x0 i0 : Int, ¬ (x0 = 332) → M1 x0 i0 = M x0 i0) (mr1_332 : M1 332 = kv1) (iv1_0 : 0 ≤ i ∧ i ≤ 6894) (iv1_1 : kv1 = f_cp w 0 kp 0 i), ax_W E l (d + 1) 0 0 iX12_image 15 [some (.inr 330), some (.inl 1), some (.inl i)] [] SH M1 (ax_P (fun z0 M2 => z0 = some (.inl 1) ∧ (∀ x0 i0 : Int, ¬ (x0 = 332 ∨ (x0 = 330 ∧ i0 = 5)) → M2 x0 i0 = M x0 i0) ∧ M2 332 = f_cp w 0 kp 0 6894 ∧ M2 330 5 = 1)) := by
      intro kq2
      induction kq2 with
      | zero =>
        intro i kv1 M1 hm1 fr1 mr1_332 iv1_0 iv1_1
        exfalso
        omega
      | succ kq2 ih3 =>
        intro i kv1 M1 hm1 fr1 mr1_332 iv1_0 iv1_1
        refine ax_iload_n dX12_image_15 rfl rfl (pc' := 16) rfl ?_
        refine ax_sipush dX12_image_16 (by decide) (pc' := 19) rfl ?_
        refine ax_icmp_ge (tgt := 59) dX12_image_19 (by decide) (pc' := 22) rfl (fun h19 => ?_) (fun h19 => ?_)
        · refine ax_iload_n dX12_image_59 rfl rfl (pc' := 60) rfl ?_
          refine ax_if_ne (tgt := 67) dX12_image_60 (by decide) (pc' := 63) rfl (fun h60 => ?_) (fun h60 => ?_)
          · refine ax_aload_n dX12_image_67 rfl rfl (pc' := 68) rfl ?_
            refine ax_iconst dX12_image_68 (by decide) (pc' := 69) rfl ?_
            refine ax_puti dX12_image_69 flX12_527 (Or.inr ⟨rfl, by first | exact Or.inl rfl | exact Or.inr rfl | omega⟩) sh_330 rfl (pc' := 72) rfl ?_
            refine ax_iconst dX12_image_72 (by decide) (pc' := 73) rfl ?_
            refine ax_zret dX12_image_73 rfl (by decide) ?_
            refine ⟨rfl, ?_, ?_, ?_, ?_⟩
            · rfl
            · intro x0 i0 hai
              exact (ax_up_miss (by omega) ((fr1 x0 i0 (by omega)).trans rfl))
            · refine Eq.trans (ax_up_rowmiss (by decide) mr1_332) ?_
              rw [iv1_1, show i = 6894 by omega]
            · exact (ax_up_hit _ _ _ _)
          · exfalso
            omega
        · refine ax_iload_n dX12_image_22 rfl rfl (pc' := 23) rfl ?_
          refine ax_if_eq (tgt := 41) dX12_image_23 (by decide) (pc' := 26) rfl (fun h23 => ?_) (fun h23 => ?_)
          · exfalso
            omega
          · refine ax_aload_n dX12_image_26 rfl rfl (pc' := 27) rfl ?_
            refine ax_getr (v := 332) dX12_image_27 flX12_13 rfl sh_330 rfl (pc' := 30) rfl ?_
            refine ax_iload_n dX12_image_30 rfl rfl (pc' := 31) rfl ?_
            refine ax_aload_n dX12_image_31 rfl rfl (pc' := 32) rfl ?_
            refine ax_getr (v := 331) dX12_image_32 flX12_7 rfl sh_330 rfl (pc' := 35) rfl ?_
            refine ax_iload_n dX12_image_35 rfl rfl (pc' := 36) rfl ?_
            refine ax_iald (v := w i) dX12_image_36 sh_331 rfl (by omega) (by omega) ((congrFun ((funext fun i0 => fr1 331 i0 (by omega)).trans hw) i).trans rfl) (pc' := 37) rfl ?_
            refine ax_iast dX12_image_37 sh_332 rfl (by omega) (by omega) (pc' := 38) rfl ?_
            refine ax_goto dX12_image_38 (pc' := 53) (by decide) ?_
            refine ax_iinc dX12_image_53 rfl (by decide) (by omega) (ls' := [some (.inr 330), some (.inl 1), some (.inl (i + 1))]) rfl (pc' := 56) rfl ?_
            refine ax_goto dX12_image_56 (pc' := 15) (by decide) ?_
            refine ih3 (i + 1) (f_up kv1 i (w i)) (ax_up M1 332 i (w i)) ?_ ?_ ?_ ?_ ?_
            · omega
            · intro x0 i0 hai
              exact (ax_up_miss (by omega) ((fr1 x0 i0 (by omega)).trans rfl))
            · exact (ax_up_rowhit mr1_332)
            · omega
            · rw [iv1_1]
              have qe := f_cp_step0 (f := w) (g := kp) (dp := 0) (n := i) (by omega)
              rw [Int.zero_add] at qe
              exact qe
    refine LP1 (6894 - 0 : Int).toNat.succ 0 kp M ?_ ?_ ?_ ?_ ?_
    · omega
    · exact fun a i _ => rfl
    · exact hkp
    · omega
    · exact f_cp_0
  · exfalso
    omega
set_option maxRecDepth 20000 in
theorem s_X12_image_back (E : ax_Env) (l : Launch) (d : Nat) (hd : 1 ≤ d) (M : ax_Mem) {w : Int → Int} (hw : M 331 = w) {kp : Int → Int} (hkp : M 332 = kp) {hi : Int} (hhi : M 330 5 = hi) (hg0 : hi = 1) : ax_G E l d iX12_image [.inr 330, .inl 0] M (fun z0 M2 => z0 = some (.inl 1) ∧ (∀ x0 i0 : Int, ¬ (x0 = 331 ∨ (x0 = 330 ∧ i0 = 4) ∨ (x0 = 330 ∧ i0 = 5)) → M2 x0 i0 = M x0 i0) ∧ M2 331 = f_cp kp 0 w 0 6894 ∧ M2 330 4 = 0 ∧ M2 330 5 = 1) := by
  obtain ⟨d, rfl⟩ : ∃ d0, d = d0 + 1 := ⟨d - 1, by omega⟩
  refine ax_start rfl (Nat.le_of_ble_eq_true rfl) (ls := [some (.inr 330), some (.inl 0), none]) rfl (fun hav hcm => ?_)
  clear hav
  refine ax_iload_n dX12_image_0 rfl rfl (pc' := 1) rfl ?_
  refine ax_if_ne (tgt := 13) dX12_image_1 (by decide) (pc' := 4) rfl (fun h1 => ?_) (fun h1 => ?_)
  · exfalso
    omega
  · refine ax_aload_n dX12_image_4 rfl rfl (pc' := 5) rfl ?_
    refine ax_geti (v := hi) dX12_image_5 flX12_527 rfl sh_330 hhi rfl (pc' := 8) rfl ?_
    refine ax_if_ne (tgt := 13) dX12_image_8 (by decide) (pc' := 11) rfl (fun h8 => ?_) (fun h8 => ?_)
    · refine ax_iconst dX12_image_13 (by decide) (pc' := 14) rfl ?_
      refine ax_istore_n dX12_image_14 rfl (by decide) (ls' := [some (.inr 330), some (.inl 0), some (.inl 0)]) rfl (pc' := 15) rfl ?_
      have LP1 : ∀ (kq2 : Nat) (i : Int) (kv1 : Int → Int) (M1 : ax_Mem) (hm1 : 6894 - i < (kq2 : Nat)) (fr1 : ∀ x0 i0 : Int, ¬ (x0 = 331) → M1 x0 i0 = M x0 i0) (mr1_331 : M1 331 = kv1) (iv1_0 : 0 ≤ i ∧ i ≤ 6894) (iv1_1 : kv1 = f_cp kp 0 w 0 i), ax_W E l (d + 1) 0 0 iX12_image 15 [some (.inr 330), some (.inl 0), some (.inl i)] [] SH M1 (ax_P (fun z0 M2 => z0 = some (.inl 1) ∧ (∀ x0 i0 : Int, ¬ (x0 = 331 ∨ (x0 = 330 ∧ i0 = 4) ∨ (x0 = 330 ∧ i0 = 5)) → M2 x0 i0 = M x0 i0) ∧ M2 331 = f_cp kp 0 w 0 6894 ∧ M2 330 4 = 0 ∧ M2 330 5 = 1)) := by
        intro kq2
        induction kq2 with
        | zero =>
          intro i kv1 M1 hm1 fr1 mr1_331 iv1_0 iv1_1
          exfalso
          omega
        | succ kq2 ih3 =>
          intro i kv1 M1 hm1 fr1 mr1_331 iv1_0 iv1_1
          refine ax_iload_n dX12_image_15 rfl rfl (pc' := 16) rfl ?_
          refine ax_sipush dX12_image_16 (by decide) (pc' := 19) rfl ?_
          refine ax_icmp_ge (tgt := 59) dX12_image_19 (by decide) (pc' := 22) rfl (fun h19 => ?_) (fun h19 => ?_)
          · refine ax_iload_n dX12_image_59 rfl rfl (pc' := 60) rfl ?_
            refine ax_if_ne (tgt := 67) dX12_image_60 (by decide) (pc' := 63) rfl (fun h60 => ?_) (fun h60 => ?_)
            · exfalso
              omega
            · refine ax_aload_n dX12_image_63 rfl rfl (pc' := 64) rfl ?_
              refine ax_invG [] [] dX12_image_64 mlX12_93 sh_330 rfl rfl rfl (Nat.le_of_ble_eq_true rfl) (s_X12_forgets E l _ (by omega) _ ) (pc' := 67) rfl (fun vv M_64 hq co64 hcm64 => ?_)
              obtain ⟨rfl, frM_64, msM_64_0⟩ := hq
              refine ax_reS (st2 := []) rfl ?_
              refine ax_aload_n dX12_image_67 rfl rfl (pc' := 68) rfl ?_
              refine ax_iconst dX12_image_68 (by decide) (pc' := 69) rfl ?_
              refine ax_puti dX12_image_69 flX12_527 (Or.inr ⟨rfl, by first | exact Or.inl rfl | exact Or.inr rfl | omega⟩) sh_330 rfl (pc' := 72) rfl ?_
              refine ax_iconst dX12_image_72 (by decide) (pc' := 73) rfl ?_
              refine ax_zret dX12_image_73 rfl (by decide) ?_
              refine ⟨rfl, ?_, ?_, ?_, ?_, ?_⟩
              · rfl
              · intro x0 i0 hai
                exact (ax_up_miss (by omega) ((frM_64 x0 i0 (by omega)).trans ((fr1 x0 i0 (by omega)).trans rfl)))
              · refine Eq.trans (ax_up_rowmiss (by decide) ((funext fun i0 => frM_64 331 i0 (by omega)).trans mr1_331)) ?_
                rw [iv1_1, show i = 6894 by omega]
              · exact (ax_up_miss (by decide) msM_64_0)
              · exact (ax_up_hit _ _ _ _)
          · refine ax_iload_n dX12_image_22 rfl rfl (pc' := 23) rfl ?_
            refine ax_if_eq (tgt := 41) dX12_image_23 (by decide) (pc' := 26) rfl (fun h23 => ?_) (fun h23 => ?_)
            · refine ax_aload_n dX12_image_41 rfl rfl (pc' := 42) rfl ?_
              refine ax_getr (v := 331) dX12_image_42 flX12_7 rfl sh_330 rfl (pc' := 45) rfl ?_
              refine ax_iload_n dX12_image_45 rfl rfl (pc' := 46) rfl ?_
              refine ax_aload_n dX12_image_46 rfl rfl (pc' := 47) rfl ?_
              refine ax_getr (v := 332) dX12_image_47 flX12_13 rfl sh_330 rfl (pc' := 50) rfl ?_
              refine ax_iload_n dX12_image_50 rfl rfl (pc' := 51) rfl ?_
              refine ax_iald (v := kp i) dX12_image_51 sh_332 rfl (by omega) (by omega) ((congrFun ((funext fun i0 => fr1 332 i0 (by omega)).trans hkp) i).trans rfl) (pc' := 52) rfl ?_
              refine ax_iast dX12_image_52 sh_331 rfl (by omega) (by omega) (pc' := 53) rfl ?_
              refine ax_iinc dX12_image_53 rfl (by decide) (by omega) (ls' := [some (.inr 330), some (.inl 0), some (.inl (i + 1))]) rfl (pc' := 56) rfl ?_
              refine ax_goto dX12_image_56 (pc' := 15) (by decide) ?_
              refine ih3 (i + 1) (f_up kv1 i (kp i)) (ax_up M1 331 i (kp i)) ?_ ?_ ?_ ?_ ?_
              · omega
              · intro x0 i0 hai
                exact (ax_up_miss (by omega) ((fr1 x0 i0 (by omega)).trans rfl))
              · exact (ax_up_rowhit mr1_331)
              · omega
              · rw [iv1_1]
                have qe := f_cp_step0 (f := kp) (g := w) (dp := 0) (n := i) (by omega)
                rw [Int.zero_add] at qe
                exact qe
            · exfalso
              omega
      refine LP1 (6894 - 0 : Int).toNat.succ 0 w M ?_ ?_ ?_ ?_ ?_
      · omega
      · exact fun a i _ => rfl
      · exact hw
      · omega
      · exact f_cp_0
    · exfalso
      omega
set_option maxRecDepth 20000 in
theorem s_X12_image_no (E : ax_Env) (l : Launch) (d : Nat) (hd : 1 ≤ d) (M : ax_Mem) {hi : Int} (hhi : M 330 5 = hi) (hg0 : hi = 0) : ax_G E l d iX12_image [.inr 330, .inl 0] M (fun z0 M2 => z0 = some (.inl 0) ∧ M = M2) := by
  obtain ⟨d, rfl⟩ : ∃ d0, d = d0 + 1 := ⟨d - 1, by omega⟩
  refine ax_start rfl (Nat.le_of_ble_eq_true rfl) (ls := [some (.inr 330), some (.inl 0), none]) rfl (fun hav hcm => ?_)
  clear hav
  refine ax_iload_n dX12_image_0 rfl rfl (pc' := 1) rfl ?_
  refine ax_if_ne (tgt := 13) dX12_image_1 (by decide) (pc' := 4) rfl (fun h1 => ?_) (fun h1 => ?_)
  · exfalso
    omega
  · refine ax_aload_n dX12_image_4 rfl rfl (pc' := 5) rfl ?_
    refine ax_geti (v := hi) dX12_image_5 flX12_527 rfl sh_330 hhi rfl (pc' := 8) rfl ?_
    refine ax_if_ne (tgt := 13) dX12_image_8 (by decide) (pc' := 11) rfl (fun h8 => ?_) (fun h8 => ?_)
    · exfalso
      omega
    · refine ax_iconst dX12_image_11 (by decide) (pc' := 12) rfl ?_
      refine ax_zret dX12_image_12 rfl (by decide) ?_
      refine ⟨rfl, ?_, ?_⟩
      · rfl
      · rfl
