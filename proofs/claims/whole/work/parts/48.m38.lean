/-! the world's own methods, for the world that is -/
theorem f_wm_rm {M : ax_Mem} {w : Int → Int} {i : Int} (h : f_wm M 1 w) (hi : f_isR w i) : f_rm M (5 + 4 * i) w i := (h.2.2 i hi.1 (by omega)).2 hi.2.2
theorem f_wm_th {M : ax_Mem} {w : Int → Int} {i : Int} (h : f_wm M 1 w) (hi : 0 ≤ i ∧ i < 8) : M (5 + 4 * i) 0 = f_R w i 0 := (h.2.2 i hi.1 hi.2).1
theorem f_part_onl {w : Int → Int} {r p : Int} (hp : 0 ≤ p ∧ p < 24) (hr : 0 ≤ r ∧ r < 8) (hl : f_R w r 1 ≤ 24) (h1 : f_R w r 0 = 1) (h : f_pfr w r p = -1) : f_onl r w (f_part w r p) := by
  have e : f_onl r w (f_p2 w r p) := by
    have e2 := (f_p2_r hr hp hl h1).1
    rw [f_p1_none h] at e2
    exact e2
  unfold f_part
  split
  · exact f_onl_tr (f_onl_tr e (f_onl_sR (by omega))) (f_onl_sR (by omega))
  · exact f_onl_tr e (f_onl_sR (by omega))
set_option maxRecDepth 20000 in
theorem s_X11_isIn (E : ax_Env) (l : Launch) (d : Nat) (hd : 0 ≤ d) (M : ax_Mem) (v b : Int) : ax_G E l d iX11_isIn [.inl v, .inl b] M (fun z0 M2 => z0 = some (.inl (f_b (0 ≤ v ∧ v < b))) ∧ M = M2) := by
  refine ax_start rfl (Nat.le_of_ble_eq_true rfl) (ls := [some (.inl v), some (.inl b)]) rfl (fun hav hcm => ?_)
  have hc0 : -2147483648 ≤ v ∧ v < 2147483648 := hav (.inl v) (by simp)
  have hc1 : -2147483648 ≤ b ∧ b < 2147483648 := hav (.inl b) (by simp)
  clear hav
  refine ax_iload_n dX11_isIn_0 rfl rfl (pc' := 1) rfl ?_
  refine ax_if_lt (tgt := 13) dX11_isIn_1 (by decide) (pc' := 4) rfl (fun h1 => ?_) (fun h1 => ?_)
  · refine ax_iconst dX11_isIn_13 (by decide) (pc' := 14) rfl ?_
    refine ax_zret dX11_isIn_14 rfl (by decide) ?_
    refine ⟨rfl, ?_, ?_⟩
    · refine congrArg (fun z => some (Sum.inl z)) ?_
      unfold f_b; split <;> omega
    · rfl
  · refine ax_iload_n dX11_isIn_4 rfl rfl (pc' := 5) rfl ?_
    refine ax_iload_n dX11_isIn_5 rfl rfl (pc' := 6) rfl ?_
    refine ax_icmp_ge (tgt := 13) dX11_isIn_6 (by decide) (pc' := 9) rfl (fun h6 => ?_) (fun h6 => ?_)
    · refine ax_iconst dX11_isIn_13 (by decide) (pc' := 14) rfl ?_
      refine ax_zret dX11_isIn_14 rfl (by decide) ?_
      refine ⟨rfl, ?_, ?_⟩
      · refine congrArg (fun z => some (Sum.inl z)) ?_
        unfold f_b; split <;> omega
      · rfl
    · refine ax_iconst dX11_isIn_9 (by decide) (pc' := 10) rfl ?_
      refine ax_goto dX11_isIn_10 (pc' := 14) (by decide) ?_
      refine ax_zret dX11_isIn_14 rfl (by decide) ?_
      refine ⟨rfl, ?_, ?_⟩
      · refine congrArg (fun z => some (Sum.inl z)) ?_
        unfold f_b; split <;> omega
      · rfl
set_option maxRecDepth 20000 in
theorem s_X9_freeNumber (E : ax_Env) (l : Launch) (d : Nat) (hd : 0 ≤ d) (M : ax_Mem) (w : Int → Int) (hg0 : f_wm M 1 w) (hg1 : f_ok w) : ax_G E l d iX9_freeNumber [.inr 1] M (fun z0 M2 => z0 = some (.inl (f_free w)) ∧ M = M2) := by
  refine ax_start rfl (Nat.le_of_ble_eq_true rfl) (ls := [some (.inr 1), none]) rfl (fun hav hcm => ?_)
  clear hav
  refine ax_iconst dX9_freeNumber_0 (by decide) (pc' := 1) rfl ?_
  refine ax_istore_n dX9_freeNumber_1 rfl (by decide) (ls' := [some (.inr 1), some (.inl 0)]) rfl (pc' := 2) rfl ?_
  have LP1 : ∀ (kq2 : Nat) (i : Int) (hm1 : 8 - i < (kq2 : Nat)) (iv1_0 : 0 ≤ i ∧ i ≤ 8) (iv1_1 : f_first (fun r => f_R w r 0 = 0) i 8 = f_free w), ax_W E l d 0 0 iX9_freeNumber 2 [some (.inr 1), some (.inl i)] [] SH M (ax_P (fun z0 M2 => z0 = some (.inl (f_free w)) ∧ M = M2)) := by
    intro kq2
    induction kq2 with
    | zero =>
      intro i hm1 iv1_0 iv1_1
      exfalso
      omega
    | succ kq2 ih3 =>
      intro i hm1 iv1_0 iv1_1
      refine ax_iload_n dX9_freeNumber_2 rfl rfl (pc' := 3) rfl ?_
      refine ax_bipush dX9_freeNumber_3 (by decide) (pc' := 5) rfl ?_
      refine ax_icmp_ge (tgt := 28) dX9_freeNumber_5 (by decide) (pc' := 8) rfl (fun h5 => ?_) (fun h5 => ?_)
      · refine ax_iconst dX9_freeNumber_28 (by decide) (pc' := 29) rfl ?_
        refine ax_iret dX9_freeNumber_29 rfl ?_
        refine ⟨rfl, ?_, ?_⟩
        · refine congrArg (fun z => some (Sum.inl z)) ?_
          exact (f_first_done (by omega)).symm.trans iv1_1
        · rfl
      · have qt := f_wm_th hg0 (i := i) ⟨by omega, by omega⟩
        have qk := (hg1 i (by omega) (by omega)).1
        refine ax_aload_n dX9_freeNumber_8 rfl rfl (pc' := 9) rfl ?_
        refine ax_getr (v := 4) dX9_freeNumber_9 flX9_20 rfl sh_1 rfl (pc' := 12) rfl ?_
        refine ax_iload_n dX9_freeNumber_12 rfl rfl (pc' := 13) rfl ?_
        refine ax_aald (v := 5 + 4 * i) dX9_freeNumber_13 sh_4 (by decide) (by omega) (by omega) (f_av_now _ ⟨by omega, by omega⟩) (pc' := 14) rfl ?_
        refine ax_geti (v := M (5 + 4 * i) 0) dX9_freeNumber_14 flX9_50 rfl (f_rp_now ⟨by omega, by omega⟩).1 rfl rfl (pc' := 17) rfl ?_
        refine ax_if_ne (tgt := 22) dX9_freeNumber_17 (by decide) (pc' := 20) rfl (fun h17 => ?_) (fun h17 => ?_)
        · refine ax_iinc dX9_freeNumber_22 rfl (by decide) (by omega) (ls' := [some (.inr 1), some (.inl (i + 1))]) rfl (pc' := 25) rfl ?_
          refine ax_goto dX9_freeNumber_25 (pc' := 2) (by decide) ?_
          refine ih3 (i + 1) ?_ ?_ ?_
          · omega
          · omega
          · rw [← iv1_1]
            symm
            exact f_first_miss (by omega) (by omega)
        · refine ax_iload_n dX9_freeNumber_20 rfl rfl (pc' := 21) rfl ?_
          refine ax_iret dX9_freeNumber_21 rfl ?_
          refine ⟨rfl, ?_, ?_⟩
          · refine congrArg (fun z => some (Sum.inl z)) ?_
            rw [← iv1_1]
            symm
            exact f_first_hit (by omega) (by omega)
          · rfl
  refine LP1 (8 - 0 : Int).toNat.succ 0 ?_ ?_ ?_
  · omega
  · omega
  · rfl
set_option maxRecDepth 20000 in
theorem s_X9_ropeAt_ok (E : ax_Env) (l : Launch) (d : Nat) (hd : 1 ≤ d) (M : ax_Mem) (i : Int) (w : Int → Int) (hg0 : f_wm M 1 w) (hg1 : f_ok w) (hg2 : f_isR w i) : ax_G E l d iX9_ropeAt [.inr 1, .inl i] M (fun z0 M2 => z0 = some (.inr (5 + 4 * i)) ∧ M = M2) := by
  obtain ⟨d, rfl⟩ : ∃ d0, d = d0 + 1 := ⟨d - 1, by omega⟩
  refine ax_start rfl (Nat.le_of_ble_eq_true rfl) (ls := [some (.inr 1), some (.inl i)]) rfl (fun hav hcm => ?_)
  have hc1 : -2147483648 ≤ i ∧ i < 2147483648 := hav (.inl i) (by simp)
  clear hav
  have qt := f_wm_th hg0 (i := i) ⟨hg2.1, by omega⟩
  refine ax_iload_n dX9_ropeAt_0 rfl rfl (pc' := 1) rfl ?_
  refine ax_bipush dX9_ropeAt_1 (by decide) (pc' := 3) rfl ?_
  refine ax_insG [.inl i, .inl 8] [] dX9_ropeAt_3 mlX9_58 rfl rfl (Nat.le_of_ble_eq_true rfl) (s_X11_isIn E l _ (by omega) _ i 8) (pc' := 6) rfl (fun vv M_3 hq co3 hcm3 => ?_)
  obtain ⟨rfl, rfl⟩ := hq
  refine ax_reS (st2 := [.inl (f_b (0 ≤ i ∧ i < 8))]) rfl ?_
  refine ax_if_eq (tgt := 30) dX9_ropeAt_6 (by decide) (pc' := 9) rfl (fun h6 => ?_) (fun h6 => ?_)
  · replace h6 := f_b_0 h6
    exfalso
    omega
  · replace h6 := f_b_1 h6
    refine ax_aload_n dX9_ropeAt_9 rfl rfl (pc' := 10) rfl ?_
    refine ax_getr (v := 4) dX9_ropeAt_10 flX9_20 rfl sh_1 rfl (pc' := 13) rfl ?_
    refine ax_iload_n dX9_ropeAt_13 rfl rfl (pc' := 14) rfl ?_
    refine ax_aald (v := 5 + 4 * i) dX9_ropeAt_14 sh_4 (by decide) (by omega) (by omega) (f_av_now _ ⟨by omega, by omega⟩) (pc' := 15) rfl ?_
    refine ax_geti (v := M (5 + 4 * i) 0) dX9_ropeAt_15 flX9_50 rfl (f_rp_now ⟨by omega, by omega⟩).1 rfl rfl (pc' := 18) rfl ?_
    refine ax_if_eq (tgt := 30) dX9_ropeAt_18 (by decide) (pc' := 21) rfl (fun h18 => ?_) (fun h18 => ?_)
    · exfalso
      omega
    · refine ax_aload_n dX9_ropeAt_21 rfl rfl (pc' := 22) rfl ?_
      refine ax_getr (v := 4) dX9_ropeAt_22 flX9_20 rfl sh_1 rfl (pc' := 25) rfl ?_
      refine ax_iload_n dX9_ropeAt_25 rfl rfl (pc' := 26) rfl ?_
      refine ax_aald (v := 5 + 4 * i) dX9_ropeAt_26 sh_4 (by decide) (by omega) (by omega) (f_av_now _ ⟨by omega, by omega⟩) (pc' := 27) rfl ?_
      refine ax_goto dX9_ropeAt_27 (pc' := 31) (by decide) ?_
      refine ax_aret dX9_ropeAt_31 rfl ?_
      refine ⟨rfl, ?_, ?_⟩
      · rfl
      · rfl
set_option maxRecDepth 20000 in
theorem s_X9_ropeAt_no (E : ax_Env) (l : Launch) (d : Nat) (hd : 1 ≤ d) (M : ax_Mem) (i : Int) (w : Int → Int) (hg0 : f_wm M 1 w) (hg1 : f_ok w) (hg2 : ¬ f_isR w i) : ax_G E l d iX9_ropeAt [.inr 1, .inl i] M (fun z0 M2 => z0 = some (.inr (-1)) ∧ M = M2) := by
  obtain ⟨d, rfl⟩ : ∃ d0, d = d0 + 1 := ⟨d - 1, by omega⟩
  refine ax_start rfl (Nat.le_of_ble_eq_true rfl) (ls := [some (.inr 1), some (.inl i)]) rfl (fun hav hcm => ?_)
  have hc1 : -2147483648 ≤ i ∧ i < 2147483648 := hav (.inl i) (by simp)
  clear hav
  refine ax_iload_n dX9_ropeAt_0 rfl rfl (pc' := 1) rfl ?_
  refine ax_bipush dX9_ropeAt_1 (by decide) (pc' := 3) rfl ?_
  refine ax_insG [.inl i, .inl 8] [] dX9_ropeAt_3 mlX9_58 rfl rfl (Nat.le_of_ble_eq_true rfl) (s_X11_isIn E l _ (by omega) _ i 8) (pc' := 6) rfl (fun vv M_3 hq co3 hcm3 => ?_)
  obtain ⟨rfl, rfl⟩ := hq
  refine ax_reS (st2 := [.inl (f_b (0 ≤ i ∧ i < 8))]) rfl ?_
  refine ax_if_eq (tgt := 30) dX9_ropeAt_6 (by decide) (pc' := 9) rfl (fun h6 => ?_) (fun h6 => ?_)
  · replace h6 := f_b_0 h6
    refine ax_null dX9_ropeAt_30 (pc' := 31) rfl ?_
    refine ax_aret dX9_ropeAt_31 rfl ?_
    refine ⟨rfl, ?_, ?_⟩
    · rfl
    · rfl
  · replace h6 := f_b_1 h6
    have qt := f_wm_th hg0 (i := i) h6
    have qk := (hg1 i (by omega) (by omega)).1
    refine ax_aload_n dX9_ropeAt_9 rfl rfl (pc' := 10) rfl ?_
    refine ax_getr (v := 4) dX9_ropeAt_10 flX9_20 rfl sh_1 rfl (pc' := 13) rfl ?_
    refine ax_iload_n dX9_ropeAt_13 rfl rfl (pc' := 14) rfl ?_
    refine ax_aald (v := 5 + 4 * i) dX9_ropeAt_14 sh_4 (by decide) (by omega) (by omega) (f_av_now _ ⟨by omega, by omega⟩) (pc' := 15) rfl ?_
    refine ax_geti (v := M (5 + 4 * i) 0) dX9_ropeAt_15 flX9_50 rfl (f_rp_now ⟨by omega, by omega⟩).1 rfl rfl (pc' := 18) rfl ?_
    refine ax_if_eq (tgt := 30) dX9_ropeAt_18 (by decide) (pc' := 21) rfl (fun h18 => ?_) (fun h18 => ?_)
    · refine ax_null dX9_ropeAt_30 (pc' := 31) rfl ?_
      refine ax_aret dX9_ropeAt_31 rfl ?_
      refine ⟨rfl, ?_, ?_⟩
      · rfl
      · rfl
    · exfalso
      exact hg2 ⟨by omega, by omega, by omega⟩
set_option maxRecDepth 20000 in
theorem s_X9_ropeSet (E : ax_Env) (l : Launch) (d : Nat) (hd : 0 ≤ d) (M : ax_Mem) (w : Int → Int) (hg0 : f_wm M 1 w) (hg1 : f_ok w) : ax_G E l d iX9_ropeSet [.inr 1] M (fun z0 M2 => z0 = some (.inl (f_set w)) ∧ M = M2) := by
  refine ax_start rfl (Nat.le_of_ble_eq_true rfl) (ls := [some (.inr 1), none, none]) rfl (fun hav hcm => ?_)
  clear hav
  refine ax_iconst dX9_ropeSet_0 (by decide) (pc' := 1) rfl ?_
  refine ax_istore_n dX9_ropeSet_1 rfl (by decide) (ls' := [some (.inr 1), some (.inl 0), none]) rfl (pc' := 2) rfl ?_
  refine ax_iconst dX9_ropeSet_2 (by decide) (pc' := 3) rfl ?_
  refine ax_istore_n dX9_ropeSet_3 rfl (by decide) (ls' := [some (.inr 1), some (.inl 0), some (.inl 0)]) rfl (pc' := 4) rfl ?_
  have LP1 : ∀ (kq2 : Nat) (i s : Int) (hm1 : 8 - i < (kq2 : Nat)) (iv1_0 : 0 ≤ i ∧ i ≤ 8) (iv1_1 : f_loop (fun r s => ax_or s (ax_shl (f_R w r 0) r)) i 8 s = f_set w), ax_W E l d 0 0 iX9_ropeSet 4 [some (.inr 1), some (.inl s), some (.inl i)] [] SH M (ax_P (fun z0 M2 => z0 = some (.inl (f_set w)) ∧ M = M2)) := by
    intro kq2
    induction kq2 with
    | zero =>
      intro i s hm1 iv1_0 iv1_1
      exfalso
      omega
    | succ kq2 ih3 =>
      intro i s hm1 iv1_0 iv1_1
      refine ax_iload_n dX9_ropeSet_4 rfl rfl (pc' := 5) rfl ?_
      refine ax_bipush dX9_ropeSet_5 (by decide) (pc' := 7) rfl ?_
      refine ax_icmp_ge (tgt := 38) dX9_ropeSet_7 (by decide) (pc' := 10) rfl (fun h7 => ?_) (fun h7 => ?_)
      · refine ax_iload_n dX9_ropeSet_38 rfl rfl (pc' := 39) rfl ?_
        refine ax_iret dX9_ropeSet_39 rfl ?_
        refine ⟨rfl, ?_, ?_⟩
        · refine congrArg (fun z => some (Sum.inl z)) ?_
          exact (f_loop_done (by omega)).symm.trans iv1_1
        · rfl
      · have qt := f_wm_th hg0 (i := i) ⟨by omega, by omega⟩
        have qk := (hg1 i (by omega) (by omega)).1
        refine ax_iload_n dX9_ropeSet_10 rfl rfl (pc' := 11) rfl ?_
        refine ax_aload_n dX9_ropeSet_11 rfl rfl (pc' := 12) rfl ?_
        refine ax_getr (v := 4) dX9_ropeSet_12 flX9_20 rfl sh_1 rfl (pc' := 15) rfl ?_
        refine ax_iload_n dX9_ropeSet_15 rfl rfl (pc' := 16) rfl ?_
        refine ax_aald (v := 5 + 4 * i) dX9_ropeSet_16 sh_4 (by decide) (by omega) (by omega) (f_av_now _ ⟨by omega, by omega⟩) (pc' := 17) rfl ?_
        refine ax_geti (v := M (5 + 4 * i) 0) dX9_ropeSet_17 flX9_50 rfl (f_rp_now ⟨by omega, by omega⟩).1 rfl rfl (pc' := 20) rfl ?_
        refine ax_if_eq (tgt := 29) dX9_ropeSet_20 (by decide) (pc' := 23) rfl (fun h20 => ?_) (fun h20 => ?_)
        · have qv : ax_or s (ax_shl (f_R w i 0) i) = ax_or s 0 := by
            rw [show f_R w i 0 = 0 by omega, f_shl0 ⟨by omega, by omega⟩]
          refine ax_iconst dX9_ropeSet_29 (by decide) (pc' := 30) rfl ?_
          refine ax_ior dX9_ropeSet_30 (pc' := 31) rfl ?_
          refine ax_istore_n dX9_ropeSet_31 rfl (by decide) (ls' := [some (.inr 1), some (.inl (ax_or s 0)), some (.inl i)]) rfl (pc' := 32) rfl ?_
          refine ax_iinc dX9_ropeSet_32 rfl (by decide) (by omega) (ls' := [some (.inr 1), some (.inl (ax_or s 0)), some (.inl (i + 1))]) rfl (pc' := 35) rfl ?_
          refine ax_goto dX9_ropeSet_35 (pc' := 4) (by decide) ?_
          refine ih3 (i + 1) (ax_or s 0) ?_ ?_ ?_
          · omega
          · omega
          · rw [← iv1_1, f_loop_step (lo := i) (by omega), qv]
        · have qv : ax_or s (ax_shl (f_R w i 0) i) = ax_or s (ax_shl 1 i) := by
            rw [show f_R w i 0 = 1 by omega]
          refine ax_iconst dX9_ropeSet_23 (by decide) (pc' := 24) rfl ?_
          refine ax_iload_n dX9_ropeSet_24 rfl rfl (pc' := 25) rfl ?_
          refine ax_ishl dX9_ropeSet_25 (pc' := 26) rfl ?_
          refine ax_goto dX9_ropeSet_26 (pc' := 30) (by decide) ?_
          refine ax_ior dX9_ropeSet_30 (pc' := 31) rfl ?_
          refine ax_istore_n dX9_ropeSet_31 rfl (by decide) (ls' := [some (.inr 1), some (.inl (ax_or s (ax_shl 1 i))), some (.inl i)]) rfl (pc' := 32) rfl ?_
          refine ax_iinc dX9_ropeSet_32 rfl (by decide) (by omega) (ls' := [some (.inr 1), some (.inl (ax_or s (ax_shl 1 i))), some (.inl (i + 1))]) rfl (pc' := 35) rfl ?_
          refine ax_goto dX9_ropeSet_35 (pc' := 4) (by decide) ?_
          refine ih3 (i + 1) (ax_or s (ax_shl 1 i)) ?_ ?_ ?_
          · omega
          · omega
          · rw [← iv1_1, f_loop_step (lo := i) (by omega), qv]
  refine LP1 (8 - 0 : Int).toNat.succ 0 0 ?_ ?_ ?_
  · omega
  · omega
  · rfl
set_option maxRecDepth 20000 in
theorem s_X9_drawBelow (E : ax_Env) (l : Launch) (d : Nat) (hd : 0 ≤ d) (M : ax_Mem) (m : Int) (w : Int → Int) (hg0 : f_wm M 1 w) (hg1 : f_ok w) (hg2 : 0 < m) : ax_G E l d iX9_drawBelow [.inr 1, .inl m] M (fun z0 M2 => z0 = some (.inl (f_rnd w m)) ∧ (∀ x0 i0 : Int, ¬ ((x0 = 1 ∧ i0 = 2)) → M2 x0 i0 = M x0 i0) ∧ (f_wm M2 1 (f_drw w))) := by
  refine ax_start rfl (Nat.le_of_ble_eq_true rfl) (ls := [some (.inr 1), some (.inl m)]) rfl (fun hav hcm => ?_)
  have hc1 : -2147483648 ≤ m ∧ m < 2147483648 := hav (.inl m) (by simp)
  clear hav
  have qd : M 1 2 = w 2 := hg0.1.2.2.1
  have qw : ax_wr (ax_wr (M 1 2 * 1664525) + 1013904223) = f_drw w 2 := by
    unfold f_drw
    rw [f_up_same, qd, Int.mul_comm]
  refine ax_aload_n dX9_drawBelow_0 rfl rfl (pc' := 1) rfl ?_
  refine ax_aload_n dX9_drawBelow_1 rfl rfl (pc' := 2) rfl ?_
  refine ax_geti (v := M 1 2) dX9_drawBelow_2 flX9_38 rfl sh_1 rfl rfl (pc' := 5) rfl ?_
  refine ax_ldc (n := 1664525) dX9_drawBelow_5 klX9_62 (by decide) (pc' := 7) rfl ?_
  refine ax_imulw dX9_drawBelow_7 (pc' := 8) rfl ?_
  refine ax_ldc (n := 1013904223) dX9_drawBelow_8 klX9_63 (by decide) (pc' := 10) rfl ?_
  refine ax_iaddw dX9_drawBelow_10 (pc' := 11) rfl ?_
  refine ax_puti dX9_drawBelow_11 flX9_38 (Or.inl rfl) sh_1 rfl (pc' := 14) rfl ?_
  refine ax_iload_n dX9_drawBelow_14 rfl rfl (pc' := 15) rfl ?_
  refine ax_if_le (tgt := 30) dX9_drawBelow_15 (by decide) (pc' := 18) rfl (fun h15 => ?_) (fun h15 => ?_)
  · exfalso
    omega
  · refine ax_aload_n dX9_drawBelow_18 rfl rfl (pc' := 19) rfl ?_
    refine ax_geti (v := ax_wr ((ax_wr ((M 1 2) * 1664525)) + 1013904223)) dX9_drawBelow_19 flX9_38 rfl sh_1 (show (ax_up M 1 2 (ax_wr ((ax_wr ((M 1 2) * 1664525)) + 1013904223))) 1 2 = ax_wr ((ax_wr ((M 1 2) * 1664525)) + 1013904223) from (ax_up_hit _ _ _ _)) rfl (pc' := 22) rfl ?_
    refine ax_bipush dX9_drawBelow_22 (by decide) (pc' := 24) rfl ?_
    refine ax_iushr dX9_drawBelow_24 (pc' := 25) rfl ?_
    refine ax_iload_n dX9_drawBelow_25 rfl rfl (pc' := 26) rfl ?_
    refine ax_irem dX9_drawBelow_26 (by exact f_ushr8 _) (by omega) (pc' := 27) rfl ?_
    refine ax_goto dX9_drawBelow_27 (pc' := 31) (by decide) ?_
    refine ax_iret dX9_drawBelow_31 rfl ?_
    refine ⟨rfl, ?_, ?_, ?_⟩
    · refine congrArg (fun z => some (Sum.inl z)) ?_
      unfold f_rnd
      rw [← qw]
    · intro x0 i0 hai
      exact (ax_up_miss (fun h => hai h) rfl)
    · refine f_wm_hd hg1 hg0 (fun i i1 i2 => f_up_o (by omega)) (fun x0 i0 x1 x2 => (ax_up_miss (by omega) rfl)) ⟨Eq.trans (ax_up_miss (by decide) rfl) (hg0.1.1.trans (f_up_o (by decide)).symm), Eq.trans (ax_up_miss (by decide) rfl) (hg0.1.2.1.trans (f_up_o (by decide)).symm), Eq.trans (ax_up_hit _ _ _ _) qw, Eq.trans (ax_up_miss (by decide) rfl) (hg0.1.2.2.2.trans (f_up_o (by decide)).symm)⟩
set_option maxRecDepth 20000 in
theorem s_X9_part (E : ax_Env) (l : Launch) (d : Nat) (hd : 3 ≤ d) (M : ax_Mem) (r p : Int) (w : Int → Int) (hg0 : f_wm M 1 w) (hg1 : f_ok w) (hg2 : f_isR w r) (hg3 : 0 ≤ p ∧ p < f_R w r 1) (hg4 : f_iv w) : ax_G E l d iX9_part [.inr 1, .inl r, .inl p] M (fun z0 M2 => z0 = some (.inl (f_pfr w r p)) ∧ (∀ x0 i0 : Int, ¬ ((1 ≤ x0 ∧ x0 < 37)) → M2 x0 i0 = M x0 i0) ∧ (f_wm M2 1 (f_part w r p))) := by
  obtain ⟨d, rfl⟩ : ∃ d0, d = d0 + 1 := ⟨d - 1, by omega⟩
  refine ax_start rfl (Nat.le_of_ble_eq_true rfl) (ls := [some (.inr 1), some (.inl r), some (.inl p), none, none]) rfl (fun hav hcm => ?_)
  have hc1 : -2147483648 ≤ r ∧ r < 2147483648 := hav (.inl r) (by simp)
  have hc2 : -2147483648 ≤ p ∧ p < 2147483648 := hav (.inl p) (by simp)
  clear hav
  have qrm := f_wm_rm hg0 hg2
  have ql : M (5 + 4 * r) 1 = f_R w r 1 := qrm.1
  have qlr := (hg1 r hg2.1 (by omega)).2
  have qth := f_wm_th hg0 (i := r) ⟨hg2.1, by omega⟩
  have qfr := f_free_cs w
  refine ax_aload_n dX9_part_0 rfl rfl (pc' := 1) rfl ?_
  refine ax_getr (v := 4) dX9_part_1 flX9_20 rfl sh_1 rfl (pc' := 4) rfl ?_
  refine ax_iload_n dX9_part_4 rfl rfl (pc' := 5) rfl ?_
  refine ax_aald (v := 5 + 4 * r) dX9_part_5 sh_4 (by decide) (by omega) (by omega) (f_av_now _ ⟨by omega, by omega⟩) (pc' := 6) rfl ?_
  refine ax_astore_n dX9_part_6 rfl (by decide) (ls' := [some (.inr 1), some (.inl r), some (.inl p), some (.inr (5 + 4 * r)), none]) rfl (pc' := 7) rfl ?_
  refine ax_aload_n dX9_part_7 rfl rfl (pc' := 8) rfl ?_
  refine ax_geti (v := M (5 + 4 * r) 1) dX9_part_8 flX9_64 rfl (f_rp_now ⟨by omega, by omega⟩).1 rfl rfl (pc' := 11) rfl ?_
  refine ax_iload_n dX9_part_11 rfl rfl (pc' := 12) rfl ?_
  refine ax_isub dX9_part_12 (by omega) (pc' := 13) rfl ?_
  refine ax_iconst dX9_part_13 (by decide) (pc' := 14) rfl ?_
  refine ax_icmp_ge (tgt := 21) dX9_part_14 (by decide) (pc' := 17) rfl (fun h14 => ?_) (fun h14 => ?_)
  · have qpf : f_pfr w r p = f_free w := by
      unfold f_pfr
      rw [if_neg (by omega)]
    refine ax_aload_n dX9_part_21 rfl rfl (pc' := 22) rfl ?_
    refine ax_invG [] [] dX9_part_22 mlX9_67 sh_1 rfl rfl rfl (Nat.le_of_ble_eq_true rfl) (s_X9_freeNumber E l _ (by omega) _ w (by first | omega | assumption) (by first | omega | assumption)) (pc' := 25) rfl (fun vv M_22 hq co22 hcm22 => ?_)
    obtain ⟨rfl, rfl⟩ := hq
    refine ax_reS (st2 := [.inl (f_free w)]) rfl ?_
    have cc22 : -2147483648 ≤ f_free w ∧ f_free w < 2147483648 := co22 _ rfl
    refine ax_istore dX9_part_25 (by decide) (ls' := [some (.inr 1), some (.inl r), some (.inl p), some (.inr (5 + 4 * r)), some (.inl (f_free w))]) rfl (pc' := 27) rfl ?_
    refine ax_aload_n dX9_part_27 rfl rfl (pc' := 28) rfl ?_
    refine ax_iload_n dX9_part_28 rfl rfl (pc' := 29) rfl ?_
    refine ax_invG [.inl p] [] dX9_part_29 mlX9_71 (f_rp_now ⟨by omega, by omega⟩).1 rfl rfl rfl (Nat.le_of_ble_eq_true rfl) (s_X7_forgetBeside E l _ (by omega) _ (5 + 4 * r) p rfl (f_rp_now ⟨by omega, by omega⟩) ⟨by omega, by omega⟩ (fun z k k1 k2 => by
      have q := (qrm.2.2.2.2 (p - 1) (by omega) (by omega)).2 k k1 k2
      have q2 := f_rg_h hg4 (r := r) (p := p - 1) (k := k) ⟨by omega, by omega⟩ ⟨by omega, by omega⟩ ⟨k1, k2⟩
      omega)) (pc' := 32) rfl (fun vv M_29 hq co29 hcm29 => ?_)
    obtain ⟨rfl, frM_29, mrM_29_0⟩ := hq
    refine ax_reS (st2 := []) rfl ?_
    refine ax_iload dX9_part_32 rfl (pc' := 34) rfl ?_
    refine ax_iconst dX9_part_34 (by decide) (pc' := 35) rfl ?_
    refine ax_icmp_eq (tgt := 50) dX9_part_35 (by decide) (pc' := 38) rfl (fun h35 => ?_) (fun h35 => ?_)
    · have qpn : f_pfr w r p = -1 := by omega
      refine ax_aload_n dX9_part_50 rfl rfl (pc' := 51) rfl ?_
      refine ax_iload_n dX9_part_51 rfl rfl (pc' := 52) rfl ?_
      refine ax_puti dX9_part_52 flX9_64 (Or.inl rfl) (f_rp_now ⟨by omega, by omega⟩).1 rfl (pc' := 55) rfl ?_
      refine ax_aload_n dX9_part_55 rfl rfl (pc' := 56) rfl ?_
      refine ax_iload_n dX9_part_56 rfl rfl (pc' := 57) rfl ?_
      refine ax_iconst dX9_part_57 (by decide) (pc' := 58) rfl ?_
      refine ax_icmp_lt (tgt := 65) dX9_part_58 (by decide) (pc' := 61) rfl (fun h58 => ?_) (fun h58 => ?_)
      · refine ax_iconst dX9_part_65 (by decide) (pc' := 66) rfl ?_
        refine ax_puti dX9_part_66 flX9_50 (Or.inr ⟨rfl, by first | exact Or.inl rfl | exact Or.inr rfl | omega⟩) (f_rp_now ⟨by omega, by omega⟩).1 rfl (pc' := 69) rfl ?_
        refine ax_iload dX9_part_69 rfl (pc' := 71) rfl ?_
        refine ax_iret dX9_part_71 rfl ?_
        refine ⟨rfl, ?_, ?_, ?_⟩
        · refine congrArg (fun z => some (Sum.inl z)) ?_
          first | exact qpf.symm | exact qpn.symm
        · intro x0 i0 hai
          exact (ax_up_miss (by omega) (ax_up_miss (by omega) ((frM_29 x0 i0 (by omega)).trans rfl)))
        · have hg2r : 0 ≤ r ∧ r < 8 := ⟨hg2.1, by omega⟩
          have qR0 : f_R (f_part w r p) r 0 = 0 := by
            rw [f_part_R hg2r hg2r (by omega), if_neg (by omega)]
            rw [if_pos ⟨rfl, rfl, by omega⟩]
          have qa : f_rm (ax_up (ax_up M_29 (5 + 4 * r) 1 p) (5 + 4 * r) 0 0) (5 + 4 * r) (f_part w r p) r := by
            refine f_rr_eq (show (ax_up (ax_up M_29 (5 + 4 * r) 1 p) (5 + 4 * r) 0 0) (5 + 4 * r) 1 = p from (ax_up_miss (fun h => absurd h.2 (by decide)) (ax_up_hit _ _ _ _))) (show (ax_up (ax_up M_29 (5 + 4 * r) 1 p) (5 + 4 * r) 0 0) (5 + 4 * r) 2 = M (5 + 4 * r) 2 from (ax_up_miss (fun h => absurd h.2 (by decide)) (ax_up_miss (fun h => absurd h.2 (by decide)) ((frM_29 (5 + 4 * r) 2 (by omega)).trans rfl)))) (show (ax_up (ax_up M_29 (5 + 4 * r) 1 p) (5 + 4 * r) 0 0) (5 + 4 * r) 3 = M (5 + 4 * r) 3 from (ax_up_miss (fun h => absurd h.2 (by decide)) (ax_up_miss (fun h => absurd h.2 (by decide)) ((frM_29 (5 + 4 * r) 3 (by omega)).trans rfl)))) (show (ax_up (ax_up M_29 (5 + 4 * r) 1 p) (5 + 4 * r) 0 0) (5 + 4 * r) 4 = M (5 + 4 * r) 4 from (ax_up_miss (fun h => absurd h.2 (by decide)) (ax_up_miss (fun h => absurd h.2 (by decide)) ((frM_29 (5 + 4 * r) 4 (by omega)).trans rfl)))) (show (ax_up (ax_up M_29 (5 + 4 * r) 1 p) (5 + 4 * r) 0 0) (5 + 4 * r + 1) = M (5 + 4 * r + 1) from (ax_up_rowmiss (by omega) (ax_up_rowmiss (by omega) ((funext fun i0 => frM_29 (5 + 4 * r + 1) i0 (by omega)).trans rfl)))) (show (ax_up (ax_up M_29 (5 + 4 * r) 1 p) (5 + 4 * r) 0 0) (5 + 4 * r + 2) = f_fgt (M ((5 + 4 * r) + 2)) p 6 from (ax_up_rowmiss (by omega) (ax_up_rowmiss (by omega) mrM_29_0))) (show (ax_up (ax_up M_29 (5 + 4 * r) 1 p) (5 + 4 * r) 0 0) (5 + 4 * r + 3) = M (5 + 4 * r + 3) from (ax_up_rowmiss (by omega) (ax_up_rowmiss (by omega) ((funext fun i0 => frM_29 (5 + 4 * r + 3) i0 (by omega)).trans rfl)))) ?_
            exact f_rr_part_r hg2r (by omega) hg2.2.2 hg3 qrm
          exact f_wm_2 hg2r hg2r hg1 hg0 (fun i i1 i2 => f_part_onl ⟨by omega, by omega⟩ hg2r (by omega) hg2.2.2 qpn i (by omega)) (fun x0 i0 x1 x2 x3 x4 => (ax_up_miss (by omega) (ax_up_miss (by omega) ((frM_29 x0 i0 (by omega)).trans rfl)))) ⟨Eq.trans (show (ax_up (ax_up M_29 (5 + 4 * r) 1 p) (5 + 4 * r) 0 0) (5 + 4 * r) 0 = _ from (ax_up_hit _ _ _ _)) qR0.symm, fun _ => qa⟩ ⟨Eq.trans (show (ax_up (ax_up M_29 (5 + 4 * r) 1 p) (5 + 4 * r) 0 0) (5 + 4 * r) 0 = _ from (ax_up_hit _ _ _ _)) qR0.symm, fun _ => qa⟩
      · refine ax_iconst dX9_part_61 (by decide) (pc' := 62) rfl ?_
        refine ax_goto dX9_part_62 (pc' := 66) (by decide) ?_
        refine ax_puti dX9_part_66 flX9_50 (Or.inr ⟨rfl, by first | exact Or.inl rfl | exact Or.inr rfl | omega⟩) (f_rp_now ⟨by omega, by omega⟩).1 rfl (pc' := 69) rfl ?_
        refine ax_iload dX9_part_69 rfl (pc' := 71) rfl ?_
        refine ax_iret dX9_part_71 rfl ?_
        refine ⟨rfl, ?_, ?_, ?_⟩
        · refine congrArg (fun z => some (Sum.inl z)) ?_
          first | exact qpf.symm | exact qpn.symm
        · intro x0 i0 hai
          exact (ax_up_miss (by omega) (ax_up_miss (by omega) ((frM_29 x0 i0 (by omega)).trans rfl)))
        · have hg2r : 0 ≤ r ∧ r < 8 := ⟨hg2.1, by omega⟩
          have qR0 : f_R (f_part w r p) r 0 = 1 := by
            rw [f_part_R hg2r hg2r (by omega), if_neg (by omega)]
            rw [if_neg (by omega), (f_p2_r hg2r ⟨by omega, by omega⟩ (by omega) hg2.2.2).2 0 (by decide) (by decide)]
            exact hg2.2.2
          have qa : f_rm (ax_up (ax_up M_29 (5 + 4 * r) 1 p) (5 + 4 * r) 0 1) (5 + 4 * r) (f_part w r p) r := by
            refine f_rr_eq (show (ax_up (ax_up M_29 (5 + 4 * r) 1 p) (5 + 4 * r) 0 1) (5 + 4 * r) 1 = p from (ax_up_miss (fun h => absurd h.2 (by decide)) (ax_up_hit _ _ _ _))) (show (ax_up (ax_up M_29 (5 + 4 * r) 1 p) (5 + 4 * r) 0 1) (5 + 4 * r) 2 = M (5 + 4 * r) 2 from (ax_up_miss (fun h => absurd h.2 (by decide)) (ax_up_miss (fun h => absurd h.2 (by decide)) ((frM_29 (5 + 4 * r) 2 (by omega)).trans rfl)))) (show (ax_up (ax_up M_29 (5 + 4 * r) 1 p) (5 + 4 * r) 0 1) (5 + 4 * r) 3 = M (5 + 4 * r) 3 from (ax_up_miss (fun h => absurd h.2 (by decide)) (ax_up_miss (fun h => absurd h.2 (by decide)) ((frM_29 (5 + 4 * r) 3 (by omega)).trans rfl)))) (show (ax_up (ax_up M_29 (5 + 4 * r) 1 p) (5 + 4 * r) 0 1) (5 + 4 * r) 4 = M (5 + 4 * r) 4 from (ax_up_miss (fun h => absurd h.2 (by decide)) (ax_up_miss (fun h => absurd h.2 (by decide)) ((frM_29 (5 + 4 * r) 4 (by omega)).trans rfl)))) (show (ax_up (ax_up M_29 (5 + 4 * r) 1 p) (5 + 4 * r) 0 1) (5 + 4 * r + 1) = M (5 + 4 * r + 1) from (ax_up_rowmiss (by omega) (ax_up_rowmiss (by omega) ((funext fun i0 => frM_29 (5 + 4 * r + 1) i0 (by omega)).trans rfl)))) (show (ax_up (ax_up M_29 (5 + 4 * r) 1 p) (5 + 4 * r) 0 1) (5 + 4 * r + 2) = f_fgt (M ((5 + 4 * r) + 2)) p 6 from (ax_up_rowmiss (by omega) (ax_up_rowmiss (by omega) mrM_29_0))) (show (ax_up (ax_up M_29 (5 + 4 * r) 1 p) (5 + 4 * r) 0 1) (5 + 4 * r + 3) = M (5 + 4 * r + 3) from (ax_up_rowmiss (by omega) (ax_up_rowmiss (by omega) ((funext fun i0 => frM_29 (5 + 4 * r + 3) i0 (by omega)).trans rfl)))) ?_
            exact f_rr_part_r hg2r (by omega) hg2.2.2 hg3 qrm
          exact f_wm_2 hg2r hg2r hg1 hg0 (fun i i1 i2 => f_part_onl ⟨by omega, by omega⟩ hg2r (by omega) hg2.2.2 qpn i (by omega)) (fun x0 i0 x1 x2 x3 x4 => (ax_up_miss (by omega) (ax_up_miss (by omega) ((frM_29 x0 i0 (by omega)).trans rfl)))) ⟨Eq.trans (show (ax_up (ax_up M_29 (5 + 4 * r) 1 p) (5 + 4 * r) 0 1) (5 + 4 * r) 0 = _ from (ax_up_hit _ _ _ _)) qR0.symm, fun _ => qa⟩ ⟨Eq.trans (show (ax_up (ax_up M_29 (5 + 4 * r) 1 p) (5 + 4 * r) 0 1) (5 + 4 * r) 0 = _ from (ax_up_hit _ _ _ _)) qR0.symm, fun _ => qa⟩
    · have qpn : f_pfr w r p ≠ -1 := by omega
      have qsr : f_free w ≠ r := by
        intro e
        rw [e] at qfr
        omega
      refine ax_aload_n dX9_part_38 rfl rfl (pc' := 39) rfl ?_
      refine ax_getr (v := 4) dX9_part_39 flX9_20 rfl sh_1 rfl (pc' := 42) rfl ?_
      refine ax_iload dX9_part_42 rfl (pc' := 44) rfl ?_
      refine ax_aald (v := 5 + 4 * (f_free w)) dX9_part_44 sh_4 (by decide) (by omega) (by omega) (f_av_now _ ⟨by omega, by omega⟩) (pc' := 45) rfl ?_
      refine ax_aload_n dX9_part_45 rfl rfl (pc' := 46) rfl ?_
      refine ax_iload_n dX9_part_46 rfl rfl (pc' := 47) rfl ?_
      refine ax_invG [.inr (5 + 4 * r), .inl p] [] dX9_part_47 mlX9_75 (f_rp_now ⟨by omega, by omega⟩).1 rfl rfl rfl (Nat.le_of_ble_eq_true rfl) (s_X7_takeTail E l _ (by omega) _ (5 + 4 * (f_free w)) (5 + 4 * r) p ((funext fun i0 => frM_29 ((5 + 4 * (f_free w)) + 1) i0 (by omega)).trans rfl) ((funext fun i0 => frM_29 ((5 + 4 * (f_free w)) + 2) i0 (by omega)).trans rfl) ((funext fun i0 => frM_29 ((5 + 4 * (f_free w)) + 3) i0 (by omega)).trans rfl) ((funext fun i0 => frM_29 ((5 + 4 * r) + 1) i0 (by omega)).trans rfl) mrM_29_0 ((funext fun i0 => frM_29 ((5 + 4 * r) + 3) i0 (by omega)).trans rfl) ((frM_29 (5 + 4 * r) 1 (by omega)).trans rfl) ((frM_29 (5 + 4 * r) 2 (by omega)).trans rfl) ((frM_29 (5 + 4 * r) 3 (by omega)).trans rfl) ((frM_29 (5 + 4 * r) 4 (by omega)).trans rfl) (f_rp_now ⟨by omega, by omega⟩) (f_rp_now ⟨by omega, by omega⟩) (by omega) ⟨by omega, by omega, by omega⟩) (pc' := 50) rfl (fun vv M_47 hq co47 hcm47 => ?_)
      obtain ⟨rfl, frM_47, mrM_47_0, mrM_47_1, mrM_47_2, msM_47_0, msM_47_1, msM_47_2, msM_47_3, msM_47_4⟩ := hq
      refine ax_reS (st2 := []) rfl ?_
      
      refine ax_aload_n dX9_part_50 rfl rfl (pc' := 51) rfl ?_
      refine ax_iload_n dX9_part_51 rfl rfl (pc' := 52) rfl ?_
      refine ax_puti dX9_part_52 flX9_64 (Or.inl rfl) (f_rp_now ⟨by omega, by omega⟩).1 rfl (pc' := 55) rfl ?_
      refine ax_aload_n dX9_part_55 rfl rfl (pc' := 56) rfl ?_
      refine ax_iload_n dX9_part_56 rfl rfl (pc' := 57) rfl ?_
      refine ax_iconst dX9_part_57 (by decide) (pc' := 58) rfl ?_
      refine ax_icmp_lt (tgt := 65) dX9_part_58 (by decide) (pc' := 61) rfl (fun h58 => ?_) (fun h58 => ?_)
      · refine ax_iconst dX9_part_65 (by decide) (pc' := 66) rfl ?_
        refine ax_puti dX9_part_66 flX9_50 (Or.inr ⟨rfl, by first | exact Or.inl rfl | exact Or.inr rfl | omega⟩) (f_rp_now ⟨by omega, by omega⟩).1 rfl (pc' := 69) rfl ?_
        refine ax_iload dX9_part_69 rfl (pc' := 71) rfl ?_
        refine ax_iret dX9_part_71 rfl ?_
        refine ⟨rfl, ?_, ?_, ?_⟩
        · refine congrArg (fun z => some (Sum.inl z)) ?_
          first | exact qpf.symm | exact qpn.symm
        · intro x0 i0 hai
          exact (ax_up_miss (by omega) (ax_up_miss (by omega) ((frM_47 x0 i0 (by omega)).trans ((frM_29 x0 i0 (by omega)).trans rfl))))
        · have hg2r : 0 ≤ r ∧ r < 8 := ⟨hg2.1, by omega⟩
          have qR0 : f_R (f_part w r p) r 0 = 0 := by
            rw [f_part_R hg2r hg2r (by omega), if_neg (by omega)]
            rw [if_pos ⟨rfl, rfl, by omega⟩]
          have qa : f_rm (ax_up (ax_up M_47 (5 + 4 * r) 1 p) (5 + 4 * r) 0 0) (5 + 4 * r) (f_part w r p) r := by
            refine f_rr_eq (show (ax_up (ax_up M_47 (5 + 4 * r) 1 p) (5 + 4 * r) 0 0) (5 + 4 * r) 1 = p from (ax_up_miss (fun h => absurd h.2 (by decide)) (ax_up_hit _ _ _ _))) (show (ax_up (ax_up M_47 (5 + 4 * r) 1 p) (5 + 4 * r) 0 0) (5 + 4 * r) 2 = M (5 + 4 * r) 2 from (ax_up_miss (fun h => absurd h.2 (by decide)) (ax_up_miss (fun h => absurd h.2 (by decide)) ((frM_47 (5 + 4 * r) 2 (by omega)).trans ((frM_29 (5 + 4 * r) 2 (by omega)).trans rfl))))) (show (ax_up (ax_up M_47 (5 + 4 * r) 1 p) (5 + 4 * r) 0 0) (5 + 4 * r) 3 = M (5 + 4 * r) 3 from (ax_up_miss (fun h => absurd h.2 (by decide)) (ax_up_miss (fun h => absurd h.2 (by decide)) ((frM_47 (5 + 4 * r) 3 (by omega)).trans ((frM_29 (5 + 4 * r) 3 (by omega)).trans rfl))))) (show (ax_up (ax_up M_47 (5 + 4 * r) 1 p) (5 + 4 * r) 0 0) (5 + 4 * r) 4 = M (5 + 4 * r) 4 from (ax_up_miss (fun h => absurd h.2 (by decide)) (ax_up_miss (fun h => absurd h.2 (by decide)) ((frM_47 (5 + 4 * r) 4 (by omega)).trans ((frM_29 (5 + 4 * r) 4 (by omega)).trans rfl))))) (show (ax_up (ax_up M_47 (5 + 4 * r) 1 p) (5 + 4 * r) 0 0) (5 + 4 * r + 1) = M (5 + 4 * r + 1) from (ax_up_rowmiss (by omega) (ax_up_rowmiss (by omega) ((funext fun i0 => frM_47 (5 + 4 * r + 1) i0 (by omega)).trans ((funext fun i0 => frM_29 (5 + 4 * r + 1) i0 (by omega)).trans rfl))))) (show (ax_up (ax_up M_47 (5 + 4 * r) 1 p) (5 + 4 * r) 0 0) (5 + 4 * r + 2) = f_fgt (M ((5 + 4 * r) + 2)) p 6 from (ax_up_rowmiss (by omega) (ax_up_rowmiss (by omega) ((funext fun i0 => frM_47 (5 + 4 * r + 2) i0 (by omega)).trans mrM_29_0)))) (show (ax_up (ax_up M_47 (5 + 4 * r) 1 p) (5 + 4 * r) 0 0) (5 + 4 * r + 3) = M (5 + 4 * r + 3) from (ax_up_rowmiss (by omega) (ax_up_rowmiss (by omega) ((funext fun i0 => frM_47 (5 + 4 * r + 3) i0 (by omega)).trans ((funext fun i0 => frM_29 (5 + 4 * r + 3) i0 (by omega)).trans rfl))))) ?_
            exact f_rr_part_r hg2r (by omega) hg2.2.2 hg3 qrm
          have qb : f_rm (ax_up (ax_up M_47 (5 + 4 * r) 1 p) (5 + 4 * r) 0 0) (5 + 4 * (f_free w)) (f_part w r p) (f_free w) := by
            refine f_rr_eq (show (ax_up (ax_up M_47 (5 + 4 * r) 1 p) (5 + 4 * r) 0 0) (5 + 4 * (f_free w)) 1 = (M (5 + 4 * r) 1) - p from (ax_up_miss (by omega) (ax_up_miss (by omega) msM_47_1))) (show (ax_up (ax_up M_47 (5 + 4 * r) 1 p) (5 + 4 * r) 0 0) (5 + 4 * (f_free w)) 2 = (M (5 + 4 * r) 2) from (ax_up_miss (by omega) (ax_up_miss (by omega) msM_47_2))) (show (ax_up (ax_up M_47 (5 + 4 * r) 1 p) (5 + 4 * r) 0 0) (5 + 4 * (f_free w)) 3 = (M (5 + 4 * r) 3) from (ax_up_miss (by omega) (ax_up_miss (by omega) msM_47_3))) (show (ax_up (ax_up M_47 (5 + 4 * r) 1 p) (5 + 4 * r) 0 0) (5 + 4 * (f_free w)) 4 = (M (5 + 4 * r) 4) from (ax_up_miss (by omega) (ax_up_miss (by omega) msM_47_4))) (show (ax_up (ax_up M_47 (5 + 4 * r) 1 p) (5 + 4 * r) 0 0) (5 + 4 * (f_free w) + 1) = f_cp (M ((5 + 4 * r) + 1)) p (f_flv (M ((5 + 4 * (f_free w)) + 1)) 24 (-1)) 0 ((M (5 + 4 * r) 1) - p) from (ax_up_rowmiss (by omega) (ax_up_rowmiss (by omega) mrM_47_0))) (show (ax_up (ax_up M_47 (5 + 4 * r) 1 p) (5 + 4 * r) 0 0) (5 + 4 * (f_free w) + 2) = f_cp (f_fgt (M ((5 + 4 * r) + 2)) p 6) (p * 6) (f_flv (M ((5 + 4 * (f_free w)) + 2)) 144 0) (0 * 6) (((M (5 + 4 * r) 1) - p) * 6) from (ax_up_rowmiss (by omega) (ax_up_rowmiss (by omega) mrM_47_1))) (show (ax_up (ax_up M_47 (5 + 4 * r) 1 p) (5 + 4 * r) 0 0) (5 + 4 * (f_free w) + 3) = f_cp (M ((5 + 4 * r) + 3)) (p * 6) (f_flv (M ((5 + 4 * (f_free w)) + 3)) 144 0) (0 * 6) (((M (5 + 4 * r) 1) - p) * 6) from (ax_up_rowmiss (by omega) (ax_up_rowmiss (by omega) mrM_47_2))) ?_
            rw [← qpf]
            exact f_rr_part_s hg2r (by omega) hg2.2.2 hg3 qpn qrm
          have qS0 : f_R (f_part w r p) (f_free w) 0 = 1 := by
            rw [f_part_R hg2r ⟨by omega, by omega⟩ (by omega), if_neg (by omega), if_neg (by omega), ← qpf, f_p2_s hg2r (by omega) hg2.2.2 hg3 qpn 0 (by decide) (by decide), if_pos rfl]
          exact f_wm_2 hg2r (s := f_free w) ⟨by omega, by omega⟩ hg1 hg0 (fun i i1 i2 => f_part_out ⟨by omega, by omega⟩ hg2r (by omega) hg2.2.2 i1 (by rw [qpf]; exact i2)) (fun x0 i0 x1 x2 x3 x4 => (ax_up_miss (by omega) (ax_up_miss (by omega) ((frM_47 x0 i0 (by omega)).trans ((frM_29 x0 i0 (by omega)).trans rfl))))) ⟨Eq.trans (show (ax_up (ax_up M_47 (5 + 4 * r) 1 p) (5 + 4 * r) 0 0) (5 + 4 * r) 0 = _ from (ax_up_hit _ _ _ _)) qR0.symm, fun _ => qa⟩ ⟨Eq.trans (show (ax_up (ax_up M_47 (5 + 4 * r) 1 p) (5 + 4 * r) 0 0) (5 + 4 * (f_free w)) 0 = _ from (ax_up_miss (by omega) (ax_up_miss (by omega) msM_47_0))) qS0.symm, fun _ => qb⟩
      · refine ax_iconst dX9_part_61 (by decide) (pc' := 62) rfl ?_
        refine ax_goto dX9_part_62 (pc' := 66) (by decide) ?_
        refine ax_puti dX9_part_66 flX9_50 (Or.inr ⟨rfl, by first | exact Or.inl rfl | exact Or.inr rfl | omega⟩) (f_rp_now ⟨by omega, by omega⟩).1 rfl (pc' := 69) rfl ?_
        refine ax_iload dX9_part_69 rfl (pc' := 71) rfl ?_
        refine ax_iret dX9_part_71 rfl ?_
        refine ⟨rfl, ?_, ?_, ?_⟩
        · refine congrArg (fun z => some (Sum.inl z)) ?_
          first | exact qpf.symm | exact qpn.symm
        · intro x0 i0 hai
          exact (ax_up_miss (by omega) (ax_up_miss (by omega) ((frM_47 x0 i0 (by omega)).trans ((frM_29 x0 i0 (by omega)).trans rfl))))
        · have hg2r : 0 ≤ r ∧ r < 8 := ⟨hg2.1, by omega⟩
          have qR0 : f_R (f_part w r p) r 0 = 1 := by
            rw [f_part_R hg2r hg2r (by omega), if_neg (by omega)]
            rw [if_neg (by omega), (f_p2_r hg2r ⟨by omega, by omega⟩ (by omega) hg2.2.2).2 0 (by decide) (by decide)]
            exact hg2.2.2
          have qa : f_rm (ax_up (ax_up M_47 (5 + 4 * r) 1 p) (5 + 4 * r) 0 1) (5 + 4 * r) (f_part w r p) r := by
            refine f_rr_eq (show (ax_up (ax_up M_47 (5 + 4 * r) 1 p) (5 + 4 * r) 0 1) (5 + 4 * r) 1 = p from (ax_up_miss (fun h => absurd h.2 (by decide)) (ax_up_hit _ _ _ _))) (show (ax_up (ax_up M_47 (5 + 4 * r) 1 p) (5 + 4 * r) 0 1) (5 + 4 * r) 2 = M (5 + 4 * r) 2 from (ax_up_miss (fun h => absurd h.2 (by decide)) (ax_up_miss (fun h => absurd h.2 (by decide)) ((frM_47 (5 + 4 * r) 2 (by omega)).trans ((frM_29 (5 + 4 * r) 2 (by omega)).trans rfl))))) (show (ax_up (ax_up M_47 (5 + 4 * r) 1 p) (5 + 4 * r) 0 1) (5 + 4 * r) 3 = M (5 + 4 * r) 3 from (ax_up_miss (fun h => absurd h.2 (by decide)) (ax_up_miss (fun h => absurd h.2 (by decide)) ((frM_47 (5 + 4 * r) 3 (by omega)).trans ((frM_29 (5 + 4 * r) 3 (by omega)).trans rfl))))) (show (ax_up (ax_up M_47 (5 + 4 * r) 1 p) (5 + 4 * r) 0 1) (5 + 4 * r) 4 = M (5 + 4 * r) 4 from (ax_up_miss (fun h => absurd h.2 (by decide)) (ax_up_miss (fun h => absurd h.2 (by decide)) ((frM_47 (5 + 4 * r) 4 (by omega)).trans ((frM_29 (5 + 4 * r) 4 (by omega)).trans rfl))))) (show (ax_up (ax_up M_47 (5 + 4 * r) 1 p) (5 + 4 * r) 0 1) (5 + 4 * r + 1) = M (5 + 4 * r + 1) from (ax_up_rowmiss (by omega) (ax_up_rowmiss (by omega) ((funext fun i0 => frM_47 (5 + 4 * r + 1) i0 (by omega)).trans ((funext fun i0 => frM_29 (5 + 4 * r + 1) i0 (by omega)).trans rfl))))) (show (ax_up (ax_up M_47 (5 + 4 * r) 1 p) (5 + 4 * r) 0 1) (5 + 4 * r + 2) = f_fgt (M ((5 + 4 * r) + 2)) p 6 from (ax_up_rowmiss (by omega) (ax_up_rowmiss (by omega) ((funext fun i0 => frM_47 (5 + 4 * r + 2) i0 (by omega)).trans mrM_29_0)))) (show (ax_up (ax_up M_47 (5 + 4 * r) 1 p) (5 + 4 * r) 0 1) (5 + 4 * r + 3) = M (5 + 4 * r + 3) from (ax_up_rowmiss (by omega) (ax_up_rowmiss (by omega) ((funext fun i0 => frM_47 (5 + 4 * r + 3) i0 (by omega)).trans ((funext fun i0 => frM_29 (5 + 4 * r + 3) i0 (by omega)).trans rfl))))) ?_
            exact f_rr_part_r hg2r (by omega) hg2.2.2 hg3 qrm
          have qb : f_rm (ax_up (ax_up M_47 (5 + 4 * r) 1 p) (5 + 4 * r) 0 1) (5 + 4 * (f_free w)) (f_part w r p) (f_free w) := by
            refine f_rr_eq (show (ax_up (ax_up M_47 (5 + 4 * r) 1 p) (5 + 4 * r) 0 1) (5 + 4 * (f_free w)) 1 = (M (5 + 4 * r) 1) - p from (ax_up_miss (by omega) (ax_up_miss (by omega) msM_47_1))) (show (ax_up (ax_up M_47 (5 + 4 * r) 1 p) (5 + 4 * r) 0 1) (5 + 4 * (f_free w)) 2 = (M (5 + 4 * r) 2) from (ax_up_miss (by omega) (ax_up_miss (by omega) msM_47_2))) (show (ax_up (ax_up M_47 (5 + 4 * r) 1 p) (5 + 4 * r) 0 1) (5 + 4 * (f_free w)) 3 = (M (5 + 4 * r) 3) from (ax_up_miss (by omega) (ax_up_miss (by omega) msM_47_3))) (show (ax_up (ax_up M_47 (5 + 4 * r) 1 p) (5 + 4 * r) 0 1) (5 + 4 * (f_free w)) 4 = (M (5 + 4 * r) 4) from (ax_up_miss (by omega) (ax_up_miss (by omega) msM_47_4))) (show (ax_up (ax_up M_47 (5 + 4 * r) 1 p) (5 + 4 * r) 0 1) (5 + 4 * (f_free w) + 1) = f_cp (M ((5 + 4 * r) + 1)) p (f_flv (M ((5 + 4 * (f_free w)) + 1)) 24 (-1)) 0 ((M (5 + 4 * r) 1) - p) from (ax_up_rowmiss (by omega) (ax_up_rowmiss (by omega) mrM_47_0))) (show (ax_up (ax_up M_47 (5 + 4 * r) 1 p) (5 + 4 * r) 0 1) (5 + 4 * (f_free w) + 2) = f_cp (f_fgt (M ((5 + 4 * r) + 2)) p 6) (p * 6) (f_flv (M ((5 + 4 * (f_free w)) + 2)) 144 0) (0 * 6) (((M (5 + 4 * r) 1) - p) * 6) from (ax_up_rowmiss (by omega) (ax_up_rowmiss (by omega) mrM_47_1))) (show (ax_up (ax_up M_47 (5 + 4 * r) 1 p) (5 + 4 * r) 0 1) (5 + 4 * (f_free w) + 3) = f_cp (M ((5 + 4 * r) + 3)) (p * 6) (f_flv (M ((5 + 4 * (f_free w)) + 3)) 144 0) (0 * 6) (((M (5 + 4 * r) 1) - p) * 6) from (ax_up_rowmiss (by omega) (ax_up_rowmiss (by omega) mrM_47_2))) ?_
            rw [← qpf]
            exact f_rr_part_s hg2r (by omega) hg2.2.2 hg3 qpn qrm
          have qS0 : f_R (f_part w r p) (f_free w) 0 = 1 := by
            rw [f_part_R hg2r ⟨by omega, by omega⟩ (by omega), if_neg (by omega), if_neg (by omega), ← qpf, f_p2_s hg2r (by omega) hg2.2.2 hg3 qpn 0 (by decide) (by decide), if_pos rfl]
          exact f_wm_2 hg2r (s := f_free w) ⟨by omega, by omega⟩ hg1 hg0 (fun i i1 i2 => f_part_out ⟨by omega, by omega⟩ hg2r (by omega) hg2.2.2 i1 (by rw [qpf]; exact i2)) (fun x0 i0 x1 x2 x3 x4 => (ax_up_miss (by omega) (ax_up_miss (by omega) ((frM_47 x0 i0 (by omega)).trans ((frM_29 x0 i0 (by omega)).trans rfl))))) ⟨Eq.trans (show (ax_up (ax_up M_47 (5 + 4 * r) 1 p) (5 + 4 * r) 0 1) (5 + 4 * r) 0 = _ from (ax_up_hit _ _ _ _)) qR0.symm, fun _ => qa⟩ ⟨Eq.trans (show (ax_up (ax_up M_47 (5 + 4 * r) 1 p) (5 + 4 * r) 0 1) (5 + 4 * (f_free w)) 0 = _ from (ax_up_miss (by omega) (ax_up_miss (by omega) msM_47_0))) qS0.symm, fun _ => qb⟩
  · have qpn : f_pfr w r p = -1 := by
      unfold f_pfr
      rw [if_pos (by omega)]
    refine ax_iconst dX9_part_17 (by decide) (pc' := 18) rfl ?_
    refine ax_goto dX9_part_18 (pc' := 25) (by decide) ?_
    refine ax_istore dX9_part_25 (by decide) (ls' := [some (.inr 1), some (.inl r), some (.inl p), some (.inr (5 + 4 * r)), some (.inl (-1))]) rfl (pc' := 27) rfl ?_
    refine ax_aload_n dX9_part_27 rfl rfl (pc' := 28) rfl ?_
    refine ax_iload_n dX9_part_28 rfl rfl (pc' := 29) rfl ?_
    refine ax_invG [.inl p] [] dX9_part_29 mlX9_71 (f_rp_now ⟨by omega, by omega⟩).1 rfl rfl rfl (Nat.le_of_ble_eq_true rfl) (s_X7_forgetBeside E l _ (by omega) _ (5 + 4 * r) p rfl (f_rp_now ⟨by omega, by omega⟩) ⟨by omega, by omega⟩ (fun z k k1 k2 => by
      have q := (qrm.2.2.2.2 (p - 1) (by omega) (by omega)).2 k k1 k2
      have q2 := f_rg_h hg4 (r := r) (p := p - 1) (k := k) ⟨by omega, by omega⟩ ⟨by omega, by omega⟩ ⟨k1, k2⟩
      omega)) (pc' := 32) rfl (fun vv M_29 hq co29 hcm29 => ?_)
    obtain ⟨rfl, frM_29, mrM_29_0⟩ := hq
    refine ax_reS (st2 := []) rfl ?_
    refine ax_iload dX9_part_32 rfl (pc' := 34) rfl ?_
    refine ax_iconst dX9_part_34 (by decide) (pc' := 35) rfl ?_
    refine ax_icmp_eq (tgt := 50) dX9_part_35 (by decide) (pc' := 38) rfl (fun h35 => ?_) (fun h35 => ?_)
    · 
      refine ax_aload_n dX9_part_50 rfl rfl (pc' := 51) rfl ?_
      refine ax_iload_n dX9_part_51 rfl rfl (pc' := 52) rfl ?_
      refine ax_puti dX9_part_52 flX9_64 (Or.inl rfl) (f_rp_now ⟨by omega, by omega⟩).1 rfl (pc' := 55) rfl ?_
      refine ax_aload_n dX9_part_55 rfl rfl (pc' := 56) rfl ?_
      refine ax_iload_n dX9_part_56 rfl rfl (pc' := 57) rfl ?_
      refine ax_iconst dX9_part_57 (by decide) (pc' := 58) rfl ?_
      refine ax_icmp_lt (tgt := 65) dX9_part_58 (by decide) (pc' := 61) rfl (fun h58 => ?_) (fun h58 => ?_)
      · refine ax_iconst dX9_part_65 (by decide) (pc' := 66) rfl ?_
        refine ax_puti dX9_part_66 flX9_50 (Or.inr ⟨rfl, by first | exact Or.inl rfl | exact Or.inr rfl | omega⟩) (f_rp_now ⟨by omega, by omega⟩).1 rfl (pc' := 69) rfl ?_
        refine ax_iload dX9_part_69 rfl (pc' := 71) rfl ?_
        refine ax_iret dX9_part_71 rfl ?_
        refine ⟨rfl, ?_, ?_, ?_⟩
        · refine congrArg (fun z => some (Sum.inl z)) ?_
          first | exact qpf.symm | exact qpn.symm
        · intro x0 i0 hai
          exact (ax_up_miss (by omega) (ax_up_miss (by omega) ((frM_29 x0 i0 (by omega)).trans rfl)))
        · have hg2r : 0 ≤ r ∧ r < 8 := ⟨hg2.1, by omega⟩
          have qR0 : f_R (f_part w r p) r 0 = 0 := by
            rw [f_part_R hg2r hg2r (by omega), if_neg (by omega)]
            rw [if_pos ⟨rfl, rfl, by omega⟩]
          have qa : f_rm (ax_up (ax_up M_29 (5 + 4 * r) 1 p) (5 + 4 * r) 0 0) (5 + 4 * r) (f_part w r p) r := by
            refine f_rr_eq (show (ax_up (ax_up M_29 (5 + 4 * r) 1 p) (5 + 4 * r) 0 0) (5 + 4 * r) 1 = p from (ax_up_miss (fun h => absurd h.2 (by decide)) (ax_up_hit _ _ _ _))) (show (ax_up (ax_up M_29 (5 + 4 * r) 1 p) (5 + 4 * r) 0 0) (5 + 4 * r) 2 = M (5 + 4 * r) 2 from (ax_up_miss (fun h => absurd h.2 (by decide)) (ax_up_miss (fun h => absurd h.2 (by decide)) ((frM_29 (5 + 4 * r) 2 (by omega)).trans rfl)))) (show (ax_up (ax_up M_29 (5 + 4 * r) 1 p) (5 + 4 * r) 0 0) (5 + 4 * r) 3 = M (5 + 4 * r) 3 from (ax_up_miss (fun h => absurd h.2 (by decide)) (ax_up_miss (fun h => absurd h.2 (by decide)) ((frM_29 (5 + 4 * r) 3 (by omega)).trans rfl)))) (show (ax_up (ax_up M_29 (5 + 4 * r) 1 p) (5 + 4 * r) 0 0) (5 + 4 * r) 4 = M (5 + 4 * r) 4 from (ax_up_miss (fun h => absurd h.2 (by decide)) (ax_up_miss (fun h => absurd h.2 (by decide)) ((frM_29 (5 + 4 * r) 4 (by omega)).trans rfl)))) (show (ax_up (ax_up M_29 (5 + 4 * r) 1 p) (5 + 4 * r) 0 0) (5 + 4 * r + 1) = M (5 + 4 * r + 1) from (ax_up_rowmiss (by omega) (ax_up_rowmiss (by omega) ((funext fun i0 => frM_29 (5 + 4 * r + 1) i0 (by omega)).trans rfl)))) (show (ax_up (ax_up M_29 (5 + 4 * r) 1 p) (5 + 4 * r) 0 0) (5 + 4 * r + 2) = f_fgt (M ((5 + 4 * r) + 2)) p 6 from (ax_up_rowmiss (by omega) (ax_up_rowmiss (by omega) mrM_29_0))) (show (ax_up (ax_up M_29 (5 + 4 * r) 1 p) (5 + 4 * r) 0 0) (5 + 4 * r + 3) = M (5 + 4 * r + 3) from (ax_up_rowmiss (by omega) (ax_up_rowmiss (by omega) ((funext fun i0 => frM_29 (5 + 4 * r + 3) i0 (by omega)).trans rfl)))) ?_
            exact f_rr_part_r hg2r (by omega) hg2.2.2 hg3 qrm
          exact f_wm_2 hg2r hg2r hg1 hg0 (fun i i1 i2 => f_part_onl ⟨by omega, by omega⟩ hg2r (by omega) hg2.2.2 qpn i (by omega)) (fun x0 i0 x1 x2 x3 x4 => (ax_up_miss (by omega) (ax_up_miss (by omega) ((frM_29 x0 i0 (by omega)).trans rfl)))) ⟨Eq.trans (show (ax_up (ax_up M_29 (5 + 4 * r) 1 p) (5 + 4 * r) 0 0) (5 + 4 * r) 0 = _ from (ax_up_hit _ _ _ _)) qR0.symm, fun _ => qa⟩ ⟨Eq.trans (show (ax_up (ax_up M_29 (5 + 4 * r) 1 p) (5 + 4 * r) 0 0) (5 + 4 * r) 0 = _ from (ax_up_hit _ _ _ _)) qR0.symm, fun _ => qa⟩
      · refine ax_iconst dX9_part_61 (by decide) (pc' := 62) rfl ?_
        refine ax_goto dX9_part_62 (pc' := 66) (by decide) ?_
        refine ax_puti dX9_part_66 flX9_50 (Or.inr ⟨rfl, by first | exact Or.inl rfl | exact Or.inr rfl | omega⟩) (f_rp_now ⟨by omega, by omega⟩).1 rfl (pc' := 69) rfl ?_
        refine ax_iload dX9_part_69 rfl (pc' := 71) rfl ?_
        refine ax_iret dX9_part_71 rfl ?_
        refine ⟨rfl, ?_, ?_, ?_⟩
        · refine congrArg (fun z => some (Sum.inl z)) ?_
          first | exact qpf.symm | exact qpn.symm
        · intro x0 i0 hai
          exact (ax_up_miss (by omega) (ax_up_miss (by omega) ((frM_29 x0 i0 (by omega)).trans rfl)))
        · have hg2r : 0 ≤ r ∧ r < 8 := ⟨hg2.1, by omega⟩
          have qR0 : f_R (f_part w r p) r 0 = 1 := by
            rw [f_part_R hg2r hg2r (by omega), if_neg (by omega)]
            rw [if_neg (by omega), (f_p2_r hg2r ⟨by omega, by omega⟩ (by omega) hg2.2.2).2 0 (by decide) (by decide)]
            exact hg2.2.2
          have qa : f_rm (ax_up (ax_up M_29 (5 + 4 * r) 1 p) (5 + 4 * r) 0 1) (5 + 4 * r) (f_part w r p) r := by
            refine f_rr_eq (show (ax_up (ax_up M_29 (5 + 4 * r) 1 p) (5 + 4 * r) 0 1) (5 + 4 * r) 1 = p from (ax_up_miss (fun h => absurd h.2 (by decide)) (ax_up_hit _ _ _ _))) (show (ax_up (ax_up M_29 (5 + 4 * r) 1 p) (5 + 4 * r) 0 1) (5 + 4 * r) 2 = M (5 + 4 * r) 2 from (ax_up_miss (fun h => absurd h.2 (by decide)) (ax_up_miss (fun h => absurd h.2 (by decide)) ((frM_29 (5 + 4 * r) 2 (by omega)).trans rfl)))) (show (ax_up (ax_up M_29 (5 + 4 * r) 1 p) (5 + 4 * r) 0 1) (5 + 4 * r) 3 = M (5 + 4 * r) 3 from (ax_up_miss (fun h => absurd h.2 (by decide)) (ax_up_miss (fun h => absurd h.2 (by decide)) ((frM_29 (5 + 4 * r) 3 (by omega)).trans rfl)))) (show (ax_up (ax_up M_29 (5 + 4 * r) 1 p) (5 + 4 * r) 0 1) (5 + 4 * r) 4 = M (5 + 4 * r) 4 from (ax_up_miss (fun h => absurd h.2 (by decide)) (ax_up_miss (fun h => absurd h.2 (by decide)) ((frM_29 (5 + 4 * r) 4 (by omega)).trans rfl)))) (show (ax_up (ax_up M_29 (5 + 4 * r) 1 p) (5 + 4 * r) 0 1) (5 + 4 * r + 1) = M (5 + 4 * r + 1) from (ax_up_rowmiss (by omega) (ax_up_rowmiss (by omega) ((funext fun i0 => frM_29 (5 + 4 * r + 1) i0 (by omega)).trans rfl)))) (show (ax_up (ax_up M_29 (5 + 4 * r) 1 p) (5 + 4 * r) 0 1) (5 + 4 * r + 2) = f_fgt (M ((5 + 4 * r) + 2)) p 6 from (ax_up_rowmiss (by omega) (ax_up_rowmiss (by omega) mrM_29_0))) (show (ax_up (ax_up M_29 (5 + 4 * r) 1 p) (5 + 4 * r) 0 1) (5 + 4 * r + 3) = M (5 + 4 * r + 3) from (ax_up_rowmiss (by omega) (ax_up_rowmiss (by omega) ((funext fun i0 => frM_29 (5 + 4 * r + 3) i0 (by omega)).trans rfl)))) ?_
            exact f_rr_part_r hg2r (by omega) hg2.2.2 hg3 qrm
          exact f_wm_2 hg2r hg2r hg1 hg0 (fun i i1 i2 => f_part_onl ⟨by omega, by omega⟩ hg2r (by omega) hg2.2.2 qpn i (by omega)) (fun x0 i0 x1 x2 x3 x4 => (ax_up_miss (by omega) (ax_up_miss (by omega) ((frM_29 x0 i0 (by omega)).trans rfl)))) ⟨Eq.trans (show (ax_up (ax_up M_29 (5 + 4 * r) 1 p) (5 + 4 * r) 0 1) (5 + 4 * r) 0 = _ from (ax_up_hit _ _ _ _)) qR0.symm, fun _ => qa⟩ ⟨Eq.trans (show (ax_up (ax_up M_29 (5 + 4 * r) 1 p) (5 + 4 * r) 0 1) (5 + 4 * r) 0 = _ from (ax_up_hit _ _ _ _)) qR0.symm, fun _ => qa⟩
    · exfalso
      omega
