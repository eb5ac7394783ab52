/-! bytes -/
theorem f_bv8 (x : BitVec 32) (n : Nat) (h : n ≤ 24) : (x >>> n) &&& 255#32 = (x.sshiftRight n) &&& 255#32 := by
  apply BitVec.eq_of_getLsbD_eq
  intro i hi
  rw [BitVec.getLsbD_and, BitVec.getLsbD_and, BitVec.getLsbD_ushiftRight, BitVec.getLsbD_sshiftRight]
  by_cases h8 : i < 8
  · have h1 : decide (32 ≤ i) = false := decide_eq_false (by omega)
    rw [h1, if_pos (by omega)]
    simp
  · have h2 : (255#32).getLsbD i = false := by
      have key : ∀ j : Fin 32, 8 ≤ j.val → (255#32).getLsbD j.val = false := by decide
      exact key ⟨i, hi⟩ (by show 8 ≤ i; omega)
    rw [h2, Bool.and_false, Bool.and_false]
theorem f_byt (v s : Int) (h : s = 24 ∨ s = 16 ∨ s = 8 ∨ s = 0) : ax_and (ax_ushr v s) 255 = ax_and (ax_shr v s) 255 := by
  unfold ax_and ax_ushr ax_shr
  rw [Int32.ofInt_toInt, Int32.ofInt_toInt]
  refine congrArg Int32.toInt ?_
  refine Int32.toBitVec_inj.mp ?_
  rcases h with rfl | rfl | rfl | rfl
  · exact f_bv8 (Int32.ofInt v).toBitVec 24 (by decide)
  · exact f_bv8 (Int32.ofInt v).toBitVec 16 (by decide)
  · exact f_bv8 (Int32.ofInt v).toBitVec 8 (by decide)
  · exact f_bv8 (Int32.ofInt v).toBitVec 0 (by decide)
def f_fd4 (tb : Int → Int) (tn v : Int) : Int → Int := f_up (f_up (f_up (f_up tb tn (ax_and (ax_ushr v 24) 255)) (tn + 1) (ax_and (ax_ushr v 16) 255)) (tn + 2) (ax_and (ax_ushr v 8) 255)) (tn + 3) (ax_and (ax_ushr v 0) 255)
theorem f_fd4_out {tb : Int → Int} {tn v i : Int} (h : ¬ (tn ≤ i ∧ i < tn + 4)) : f_fd4 tb tn v i = tb i := by
  unfold f_fd4
  exact f_up_ne (by omega) (f_up_ne (by omega) (f_up_ne (by omega) (f_up_ne (by omega) rfl)))
theorem f_fd4_in {tb : Int → Int} {tn v i : Int} (h : tn ≤ i ∧ i < tn + 4) : f_fd4 tb tn v i = ax_and (ax_shr v (24 - 8 * (i - tn))) 255 := by
  rw [← f_byt _ _ (by omega)]
  unfold f_fd4
  by_cases h0 : i = tn
  · rw [h0, show 24 - 8 * (tn - tn) = 24 by omega]
    exact f_up_ne (by omega) (f_up_ne (by omega) (f_up_ne (by omega) (f_up_same _ _ _)))
  by_cases h1 : i = tn + 1
  · rw [h1, show 24 - 8 * (tn + 1 - tn) = 16 by omega]
    exact f_up_ne (by omega) (f_up_ne (by omega) (f_up_same _ _ _))
  by_cases h2 : i = tn + 2
  · rw [h2, show 24 - 8 * (tn + 2 - tn) = 8 by omega]
    exact f_up_ne (by omega) (f_up_same _ _ _)
  · obtain rfl : i = tn + 3 := by omega
    rw [show 24 - 8 * (tn + 3 - tn) = 0 by omega]
    exact f_up_same _ _ _
theorem f_loop_up {g ta : Int → Int} {tn i : Int} : ∀ n : Nat, f_loop (fun k t => f_up t (tn + k) (g k)) 0 (n : Int) ta i = if tn ≤ i ∧ i < tn + n then g (i - tn) else ta i := by
  intro n
  induction n with
  | zero => rw [f_loop_done (by omega), if_neg (by omega)]
  | succ n ih =>
    rw [show ((n + 1 : Nat) : Int) = (n : Int) + 1 by omega, f_loop_last (by omega)]
    by_cases h : i = tn + n
    · rw [if_pos (by omega), h, show tn + (n : Int) - tn = n by omega]
      exact f_up_same _ _ _
    · refine f_up_ne h (ih.trans ?_)
      by_cases h2 : tn ≤ i ∧ i < tn + n
      · rw [if_pos h2, if_pos (by omega)]
      · rw [if_neg h2, if_neg (by omega)]
theorem f_feed_eq {ta : Int → Int} {tn x1 x2 x3 x4 x5 : Int} : f_fd4 (f_fd4 (f_fd4 (f_fd4 (f_fd4 ta tn x1) (tn + 4) x2) (tn + 4 + 4) x3) (tn + 4 + 4 + 4) x4) (tn + 4 + 4 + 4 + 4) x5 = f_feed ta tn x1 x2 x3 x4 x5 := by
  funext i
  unfold f_feed
  rw [show (20 : Int) = ((20 : Nat) : Int) from rfl, f_loop_up 20]
  by_cases hn : tn ≤ i ∧ i < tn + 20
  · rw [if_pos (by omega)]
    unfold f_fb
    by_cases h1 : i < tn + 4
    · rw [if_pos (by omega), f_fd4_out (by omega), f_fd4_out (by omega), f_fd4_out (by omega), f_fd4_out (by omega), f_fd4_in (by omega), show (i - tn) % 4 = i - tn by omega]
    rw [if_neg (by omega)]
    by_cases h2 : i < tn + 8
    · rw [if_pos (by omega), f_fd4_out (by omega), f_fd4_out (by omega), f_fd4_out (by omega), f_fd4_in (by omega), show (i - tn) % 4 = i - (tn + 4) by omega]
    rw [if_neg (by omega)]
    by_cases h3 : i < tn + 12
    · rw [if_pos (by omega), f_fd4_out (by omega), f_fd4_out (by omega), f_fd4_in (by omega), show (i - tn) % 4 = i - (tn + 4 + 4) by omega]
    rw [if_neg (by omega)]
    by_cases h4 : i < tn + 16
    · rw [if_pos (by omega), f_fd4_out (by omega), f_fd4_in (by omega), show (i - tn) % 4 = i - (tn + 4 + 4 + 4) by omega]
    · rw [if_neg (by omega), f_fd4_in (by omega), show (i - tn) % 4 = i - (tn + 4 + 4 + 4 + 4) by omega]
  · rw [if_neg (by omega), f_fd4_out (by omega), f_fd4_out (by omega), f_fd4_out (by omega), f_fd4_out (by omega), f_fd4_out (by omega)]
theorem f_feed_tp {ta : Int → Int} {tn x1 x2 x3 x4 x5 : Int} (h : f_tp ta tn) : f_tp (f_feed ta tn x1 x2 x3 x4 x5) (tn + 20) := by
  intro k h0 hk
  unfold f_feed
  rw [show (20 : Int) = ((20 : Nat) : Int) from rfl, f_loop_up 20]
  split
  · unfold f_fb
    exact ax_and_255 _
  · exact h k h0 (by omega)
set_option maxRecDepth 20000 in
theorem s_X11_feed_no (E : ax_Env) (l : Launch) (d : Nat) (hd : 1 ≤ d) (M : ax_Mem) (x1 x2 x3 x4 x5 : Int) {tn : Int} (htn : M 58 1 = tn) (hg0 : 0 ≤ tn ∧ tn ≤ 400) (hg1 : 400 < tn + 20) : ax_G E l d iX11_feed [.inr 0, .inl x1, .inl x2, .inl x3, .inl x4, .inl x5] M (fun z0 M2 => z0 = some (.inl (-1)) ∧ M = M2) := by
  obtain ⟨d, rfl⟩ : ∃ d0, d = d0 + 1 := ⟨d - 1, by omega⟩
  refine ax_start rfl (Nat.le_of_ble_eq_true rfl) (ls := [some (.inr 0), some (.inl x1), some (.inl x2), some (.inl x3), some (.inl x4), some (.inl x5)]) rfl (fun hav hcm => ?_)
  have hc1 : -2147483648 ≤ x1 ∧ x1 < 2147483648 := hav (.inl x1) (by simp)
  have hc2 : -2147483648 ≤ x2 ∧ x2 < 2147483648 := hav (.inl x2) (by simp)
  have hc3 : -2147483648 ≤ x3 ∧ x3 < 2147483648 := hav (.inl x3) (by simp)
  have hc4 : -2147483648 ≤ x4 ∧ x4 < 2147483648 := hav (.inl x4) (by simp)
  have hc5 : -2147483648 ≤ x5 ∧ x5 < 2147483648 := hav (.inl x5) (by simp)
  clear hav
  refine ax_aload_n dX11_feed_0 rfl rfl (pc' := 1) rfl ?_
  refine ax_getr (v := 58) dX11_feed_1 flX11_33 rfl sh_0 rfl (pc' := 4) rfl ?_
  refine ax_geti (v := tn) dX11_feed_4 flX11_195 rfl sh_58 htn rfl (pc' := 7) rfl ?_
  refine ax_bipush dX11_feed_7 (by decide) (pc' := 9) rfl ?_
  refine ax_iadd dX11_feed_9 (by omega) (pc' := 10) rfl ?_
  refine ax_sipush dX11_feed_10 (by decide) (pc' := 13) rfl ?_
  refine ax_icmp_le (tgt := 18) dX11_feed_13 (by decide) (pc' := 16) rfl (fun h13 => ?_) (fun h13 => ?_)
  · exfalso
    omega
  · refine ax_iconst dX11_feed_16 (by decide) (pc' := 17) rfl ?_
    refine ax_iret dX11_feed_17 rfl ?_
    refine ⟨rfl, ?_, ?_⟩
    · rfl
    · rfl
set_option maxRecDepth 20000 in
theorem s_X11_feed_ok (E : ax_Env) (l : Launch) (d : Nat) (hd : 1 ≤ d) (M : ax_Mem) (x1 x2 x3 x4 x5 : Int) {ta : Int → Int} (hta : M 59 = ta) {tn : Int} (htn : M 58 1 = tn) (hg0 : 0 ≤ tn ∧ tn + 20 ≤ 400) : ax_G E l d iX11_feed [.inr 0, .inl x1, .inl x2, .inl x3, .inl x4, .inl x5] M (fun z0 M2 => z0 = some (.inl (tn + 20)) ∧ (∀ x0 i0 : Int, ¬ (x0 = 59 ∨ (x0 = 58 ∧ i0 = 1)) → M2 x0 i0 = M x0 i0) ∧ M2 59 = f_feed ta tn x1 x2 x3 x4 x5 ∧ M2 58 1 = tn + 20) := by
  obtain ⟨d, rfl⟩ : ∃ d0, d = d0 + 1 := ⟨d - 1, by omega⟩
  refine ax_start rfl (Nat.le_of_ble_eq_true rfl) (ls := [some (.inr 0), some (.inl x1), some (.inl x2), some (.inl x3), some (.inl x4), some (.inl x5)]) rfl (fun hav hcm => ?_)
  have hc1 : -2147483648 ≤ x1 ∧ x1 < 2147483648 := hav (.inl x1) (by simp)
  have hc2 : -2147483648 ≤ x2 ∧ x2 < 2147483648 := hav (.inl x2) (by simp)
  have hc3 : -2147483648 ≤ x3 ∧ x3 < 2147483648 := hav (.inl x3) (by simp)
  have hc4 : -2147483648 ≤ x4 ∧ x4 < 2147483648 := hav (.inl x4) (by simp)
  have hc5 : -2147483648 ≤ x5 ∧ x5 < 2147483648 := hav (.inl x5) (by simp)
  clear hav
  refine ax_aload_n dX11_feed_0 rfl rfl (pc' := 1) rfl ?_
  refine ax_getr (v := 58) dX11_feed_1 flX11_33 rfl sh_0 rfl (pc' := 4) rfl ?_
  refine ax_geti (v := tn) dX11_feed_4 flX11_195 rfl sh_58 htn rfl (pc' := 7) rfl ?_
  refine ax_bipush dX11_feed_7 (by decide) (pc' := 9) rfl ?_
  refine ax_iadd dX11_feed_9 (by omega) (pc' := 10) rfl ?_
  refine ax_sipush dX11_feed_10 (by decide) (pc' := 13) rfl ?_
  refine ax_icmp_le (tgt := 18) dX11_feed_13 (by decide) (pc' := 16) rfl (fun h13 => ?_) (fun h13 => ?_)
  · refine ax_aload_n dX11_feed_18 rfl rfl (pc' := 19) rfl ?_
    refine ax_getr (v := 58) dX11_feed_19 flX11_33 rfl sh_0 rfl (pc' := 22) rfl ?_
    refine ax_iload_n dX11_feed_22 rfl rfl (pc' := 23) rfl ?_
    refine ax_invG [.inl x1] [] dX11_feed_23 mlX11_196 sh_58 rfl rfl rfl (Nat.le_of_ble_eq_true rfl) (s_X8_feedNumber E l _ (by omega) _ x1 hta htn (by first | omega | assumption)) (pc' := 26) rfl (fun vv M_23 hq co23 hcm23 => ?_)
    obtain ⟨rfl, frM_23, mrM_23_0, msM_23_0⟩ := hq
    refine ax_reS (st2 := []) rfl ?_
    refine ax_aload_n dX11_feed_26 rfl rfl (pc' := 27) rfl ?_
    refine ax_getr (v := 58) dX11_feed_27 flX11_33 rfl sh_0 rfl (pc' := 30) rfl ?_
    refine ax_iload_n dX11_feed_30 rfl rfl (pc' := 31) rfl ?_
    refine ax_invG [.inl x2] [] dX11_feed_31 mlX11_196 sh_58 rfl rfl rfl (Nat.le_of_ble_eq_true rfl) (s_X8_feedNumber E l _ (by omega) _ x2 mrM_23_0 msM_23_0 (by first | omega | assumption)) (pc' := 34) rfl (fun vv M_31 hq co31 hcm31 => ?_)
    obtain ⟨rfl, frM_31, mrM_31_0, msM_31_0⟩ := hq
    refine ax_reS (st2 := []) rfl ?_
    refine ax_aload_n dX11_feed_34 rfl rfl (pc' := 35) rfl ?_
    refine ax_getr (v := 58) dX11_feed_35 flX11_33 rfl sh_0 rfl (pc' := 38) rfl ?_
    refine ax_iload_n dX11_feed_38 rfl rfl (pc' := 39) rfl ?_
    refine ax_invG [.inl x3] [] dX11_feed_39 mlX11_196 sh_58 rfl rfl rfl (Nat.le_of_ble_eq_true rfl) (s_X8_feedNumber E l _ (by omega) _ x3 mrM_31_0 msM_31_0 (by first | omega | assumption)) (pc' := 42) rfl (fun vv M_39 hq co39 hcm39 => ?_)
    obtain ⟨rfl, frM_39, mrM_39_0, msM_39_0⟩ := hq
    refine ax_reS (st2 := []) rfl ?_
    refine ax_aload_n dX11_feed_42 rfl rfl (pc' := 43) rfl ?_
    refine ax_getr (v := 58) dX11_feed_43 flX11_33 rfl sh_0 rfl (pc' := 46) rfl ?_
    refine ax_iload dX11_feed_46 rfl (pc' := 48) rfl ?_
    refine ax_invG [.inl x4] [] dX11_feed_48 mlX11_196 sh_58 rfl rfl rfl (Nat.le_of_ble_eq_true rfl) (s_X8_feedNumber E l _ (by omega) _ x4 mrM_39_0 msM_39_0 (by first | omega | assumption)) (pc' := 51) rfl (fun vv M_48 hq co48 hcm48 => ?_)
    obtain ⟨rfl, frM_48, mrM_48_0, msM_48_0⟩ := hq
    refine ax_reS (st2 := []) rfl ?_
    refine ax_aload_n dX11_feed_51 rfl rfl (pc' := 52) rfl ?_
    refine ax_getr (v := 58) dX11_feed_52 flX11_33 rfl sh_0 rfl (pc' := 55) rfl ?_
    refine ax_iload dX11_feed_55 rfl (pc' := 57) rfl ?_
    refine ax_invG [.inl x5] [] dX11_feed_57 mlX11_196 sh_58 rfl rfl rfl (Nat.le_of_ble_eq_true rfl) (s_X8_feedNumber E l _ (by omega) _ x5 mrM_48_0 msM_48_0 (by first | omega | assumption)) (pc' := 60) rfl (fun vv M_57 hq co57 hcm57 => ?_)
    obtain ⟨rfl, frM_57, mrM_57_0, msM_57_0⟩ := hq
    refine ax_reS (st2 := []) rfl ?_
    refine ax_aload_n dX11_feed_60 rfl rfl (pc' := 61) rfl ?_
    refine ax_getr (v := 58) dX11_feed_61 flX11_33 rfl sh_0 rfl (pc' := 64) rfl ?_
    refine ax_geti (v := ((((tn + 4) + 4) + 4) + 4) + 4) dX11_feed_64 flX11_195 rfl sh_58 msM_57_0 rfl (pc' := 67) rfl ?_
    refine ax_iret dX11_feed_67 rfl ?_
    refine ⟨rfl, ?_, ?_, ?_, ?_⟩
    · refine congrArg (fun z => some (Sum.inl z)) ?_
      omega
    · intro x0 i0 hai
      exact ((frM_57 x0 i0 (fun h => h.elim (fun h => hai (Or.inl h)) (fun h => hai (Or.inr h)))).trans ((frM_48 x0 i0 (fun h => h.elim (fun h => hai (Or.inl h)) (fun h => hai (Or.inr h)))).trans ((frM_39 x0 i0 (fun h => h.elim (fun h => hai (Or.inl h)) (fun h => hai (Or.inr h)))).trans ((frM_31 x0 i0 (fun h => h.elim (fun h => hai (Or.inl h)) (fun h => hai (Or.inr h)))).trans ((frM_23 x0 i0 (fun h => h.elim (fun h => hai (Or.inl h)) (fun h => hai (Or.inr h)))).trans rfl)))))
    · refine Eq.trans mrM_57_0 ?_
      exact f_feed_eq
    · refine Eq.trans msM_57_0 ?_
      omega
  · exfalso
    omega
