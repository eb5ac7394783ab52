/-! texts of the program: length, letters -/
theorem f_sl_rg : ∀ i : Fin 30, 0 ≤ ax_sl i.val ∧ ax_sl i.val ≤ 200 ∧ ax_shr (ax_sl i.val) 0 = ax_sl i.val := by decide +kernel
theorem ax_and_255 (x : Int) : 0 ≤ ax_and x 255 ∧ ax_and x 255 ≤ 255 := by
  unfold ax_and
  have h2 : (Int32.ofInt x &&& Int32.ofInt 255).toBitVec.toNat ≤ 255 := by
    have e : (Int32.ofInt x &&& Int32.ofInt 255).toBitVec = (Int32.ofInt x).toBitVec &&& (Int32.ofInt 255).toBitVec := rfl
    rw [e, BitVec.toNat_and]
    exact Nat.and_le_right
  generalize Int32.ofInt x &&& Int32.ofInt 255 = y at h2 ⊢
  have h3 : y.toInt = y.toBitVec.toInt := rfl
  rw [h3, BitVec.toInt_eq_toNat_of_lt]
  · omega
  · omega
def f_ch (q : Nat) (j : Int) : Int := ax_and (ax_sb q j) 255
set_option maxRecDepth 20000 in
theorem s_J0_coder_7d493 (E : ax_Env) (l : Launch) (d : Nat) (hd : 0 ≤ d) (M : ax_Mem) (q : Nat) (hg0 : q < 30) : ax_G E l d iJ0_coder_7d493 [.inr (-(3 + (q : Int)))] M (fun z0 M2 => z0 = some (.inl 0) ∧ M = M2) := by
  refine ax_start rfl (Nat.le_of_ble_eq_true rfl) (ls := [some (.inr (-(3 + (q : Int))))]) rfl (fun hav hcm => ?_)
  clear hav
  refine ax_getsC dJ0_coder_7d493_0 flJ0_38 (pc' := 3) rfl ?_
  refine ax_if_eq (tgt := 13) dJ0_coder_7d493_3 (by decide) (pc' := 6) rfl (fun h3 => ?_) (fun h3 => ?_)
  · exfalso
    omega
  · refine ax_aload_n dJ0_coder_7d493_6 rfl rfl (pc' := 7) rfl ?_
    refine ax_sgetC (i := q) dJ0_coder_7d493_7 flJ0_15 hg0 rfl (pc' := 10) rfl ?_
    refine ax_goto dJ0_coder_7d493_10 (pc' := 14) (by decide) ?_
    refine ax_bret dJ0_coder_7d493_14 rfl (by omega) ?_
    refine ⟨rfl, ?_, ?_⟩
    · rfl
    · rfl
set_option maxRecDepth 20000 in
theorem s_J0_isLatin1_aae02 (E : ax_Env) (l : Launch) (d : Nat) (hd : 0 ≤ d) (M : ax_Mem) (q : Nat) (hg0 : q < 30) : ax_G E l d iJ0_isLatin1_aae02 [.inr (-(3 + (q : Int)))] M (fun z0 M2 => z0 = some (.inl 1) ∧ M = M2) := by
  refine ax_start rfl (Nat.le_of_ble_eq_true rfl) (ls := [some (.inr (-(3 + (q : Int))))]) rfl (fun hav hcm => ?_)
  clear hav
  refine ax_getsC dJ0_isLatin1_aae02_0 flJ0_38 (pc' := 3) rfl ?_
  refine ax_if_eq (tgt := 17) dJ0_isLatin1_aae02_3 (by decide) (pc' := 6) rfl (fun h3 => ?_) (fun h3 => ?_)
  · exfalso
    omega
  · refine ax_aload_n dJ0_isLatin1_aae02_6 rfl rfl (pc' := 7) rfl ?_
    refine ax_sgetC (i := q) dJ0_isLatin1_aae02_7 flJ0_15 hg0 rfl (pc' := 10) rfl ?_
    refine ax_if_ne (tgt := 17) dJ0_isLatin1_aae02_10 (by decide) (pc' := 13) rfl (fun h10 => ?_) (fun h10 => ?_)
    · exfalso
      omega
    · refine ax_iconst dJ0_isLatin1_aae02_13 (by decide) (pc' := 14) rfl ?_
      refine ax_goto dJ0_isLatin1_aae02_14 (pc' := 18) (by decide) ?_
      refine ax_zret dJ0_isLatin1_aae02_18 rfl (by decide) ?_
      refine ⟨rfl, ?_, ?_⟩
      · rfl
      · rfl
set_option maxRecDepth 20000 in
theorem s_J0_length_8abf5 (E : ax_Env) (l : Launch) (d : Nat) (hd : 1 ≤ d) (M : ax_Mem) (q : Nat) (hg0 : q < 30) : ax_G E l d iJ0_length_8abf5 [.inr (-(3 + (q : Int)))] M (fun z0 M2 => z0 = some (.inl (ax_sl q)) ∧ M = M2) := by
  obtain ⟨d, rfl⟩ : ∃ d0, d = d0 + 1 := ⟨d - 1, by omega⟩
  refine ax_start rfl (Nat.le_of_ble_eq_true rfl) (ls := [some (.inr (-(3 + (q : Int))))]) rfl (fun hav hcm => ?_)
  clear hav
  have qsl := f_sl_rg ⟨q, hg0⟩
  dsimp only at qsl
  refine ax_aload_n dJ0_length_8abf5_0 rfl rfl (pc' := 1) rfl ?_
  refine ax_sgetV (i := q) (r := -(1000 + (q : Int))) dJ0_length_8abf5_1 flJ0_9 hg0 rfl rfl (pc' := 4) rfl ?_
  refine ax_blen (i := q) dJ0_length_8abf5_4 hg0 rfl (by omega) (pc' := 5) rfl ?_
  refine ax_aload_n dJ0_length_8abf5_5 rfl rfl (pc' := 6) rfl ?_
  refine ax_invSG (i := q) [] [.inl (ax_sl q)] dJ0_length_8abf5_6 mlJ0_335 hg0 rfl rfl rfl (Nat.le_of_ble_eq_true rfl) (s_J0_coder_7d493 E l _ (by omega) _ q (by first | omega | assumption)) (pc' := 9) rfl (fun vv M_6 hq co6 hcm6 => ?_)
  obtain ⟨rfl, rfl⟩ := hq
  refine ax_reS (st2 := [.inl 0, .inl (ax_sl q)]) rfl ?_
  refine ax_ishr dJ0_length_8abf5_9 (pc' := 10) rfl ?_
  refine ax_iret dJ0_length_8abf5_10 rfl ?_
  refine ⟨rfl, ?_, ?_⟩
  · refine congrArg (fun z => some (Sum.inl z)) ?_
    exact qsl.2.2
  · rfl
set_option maxRecDepth 20000 in
theorem s_J3_checkIndex_8e157 (E : ax_Env) (l : Launch) (d : Nat) (hd : 1 ≤ d) (M : ax_Mem) (i n : Int) (hg0 : 0 ≤ i ∧ i < n) : ax_G E l d iJ3_checkIndex_8e157 [.inl i, .inl n, .inr (-100)] M (fun z0 M2 => z0 = some (.inl i) ∧ M = M2) := by
  obtain ⟨d, rfl⟩ : ∃ d0, d = d0 + 1 := ⟨d - 1, by omega⟩
  refine ax_start rfl (Nat.le_of_ble_eq_true rfl) (ls := [some (.inl i), some (.inl n), some (.inr (-100))]) rfl (fun hav hcm => ?_)
  have hc0 : -2147483648 ≤ i ∧ i < 2147483648 := hav (.inl i) (by simp)
  have hc1 : -2147483648 ≤ n ∧ n < 2147483648 := hav (.inl n) (by simp)
  clear hav
  refine ax_iload_n dJ3_checkIndex_8e157_0 rfl rfl (pc' := 1) rfl ?_
  refine ax_if_lt (tgt := 9) dJ3_checkIndex_8e157_1 (by decide) (pc' := 4) rfl (fun h1 => ?_) (fun h1 => ?_)
  · exfalso
    omega
  · refine ax_iload_n dJ3_checkIndex_8e157_4 rfl rfl (pc' := 5) rfl ?_
    refine ax_iload_n dJ3_checkIndex_8e157_5 rfl rfl (pc' := 6) rfl ?_
    refine ax_icmp_lt (tgt := 16) dJ3_checkIndex_8e157_6 (by decide) (pc' := 9) rfl (fun h6 => ?_) (fun h6 => ?_)
    · refine ax_iload_n dJ3_checkIndex_8e157_16 rfl rfl (pc' := 17) rfl ?_
      refine ax_iret dJ3_checkIndex_8e157_17 rfl ?_
      refine ⟨rfl, ?_, ?_⟩
      · rfl
      · rfl
    · exfalso
      omega
set_option maxRecDepth 20000 in
theorem s_J0_checkIndex_df160 (E : ax_Env) (l : Launch) (d : Nat) (hd : 2 ≤ d) (M : ax_Mem) (i n : Int) (hg0 : 0 ≤ i ∧ i < n) : ax_G E l d iJ0_checkIndex_df160 [.inl i, .inl n] M (fun z0 M2 => z0 = none ∧ M = M2) := by
  obtain ⟨d, rfl⟩ : ∃ d0, d = d0 + 1 := ⟨d - 1, by omega⟩
  refine ax_start rfl (Nat.le_of_ble_eq_true rfl) (ls := [some (.inl i), some (.inl n)]) rfl (fun hav hcm => ?_)
  have hc0 : -2147483648 ≤ i ∧ i < 2147483648 := hav (.inl i) (by simp)
  have hc1 : -2147483648 ≤ n ∧ n < 2147483648 := hav (.inl n) (by simp)
  clear hav
  refine ax_iload_n dJ0_checkIndex_df160_0 rfl rfl (pc' := 1) rfl ?_
  refine ax_iload_n dJ0_checkIndex_df160_1 rfl rfl (pc' := 2) rfl ?_
  refine ax_getsF dJ0_checkIndex_df160_2 flJ0_1053 (pc' := 5) rfl ?_
  refine ax_insG [.inl i, .inl n, .inr (-100)] [] dJ0_checkIndex_df160_5 mlJ0_1059 rfl rfl (Nat.le_of_ble_eq_true rfl) (s_J3_checkIndex_8e157 E l _ (by omega) _ i n (by first | omega | assumption)) (pc' := 8) rfl (fun vv M_5 hq co5 hcm5 => ?_)
  obtain ⟨rfl, rfl⟩ := hq
  refine ax_reS (st2 := [.inl i]) rfl ?_
  have cc5 : -2147483648 ≤ i ∧ i < 2147483648 := co5 _ rfl
  refine ax_pop dJ0_checkIndex_df160_8 (pc' := 9) rfl ?_
  refine ax_vret dJ0_checkIndex_df160_9 rfl ?_
  refine ⟨rfl, rfl, ?_⟩
  · rfl
set_option maxRecDepth 20000 in
theorem s_J1_charAt_3b067 (E : ax_Env) (l : Launch) (d : Nat) (hd : 3 ≤ d) (M : ax_Mem) (j : Int) (q : Nat) (hg0 : q < 30) (hg1 : 0 ≤ j ∧ j < ax_sl q) : ax_G E l d iJ1_charAt_3b067 [.inr (-(1000 + (q : Int))), .inl j] M (fun z0 M2 => z0 = some (.inl (f_ch q j)) ∧ M = M2) := by
  obtain ⟨d, rfl⟩ : ∃ d0, d = d0 + 1 := ⟨d - 1, by omega⟩
  refine ax_start rfl (Nat.le_of_ble_eq_true rfl) (ls := [some (.inr (-(1000 + (q : Int)))), some (.inl j)]) rfl (fun hav hcm => ?_)
  have hc1 : -2147483648 ≤ j ∧ j < 2147483648 := hav (.inl j) (by simp)
  clear hav
  have qsl := f_sl_rg ⟨q, hg0⟩
  dsimp only at qsl
  refine ax_iload_n dJ1_charAt_3b067_0 rfl rfl (pc' := 1) rfl ?_
  refine ax_aload_n dJ1_charAt_3b067_1 rfl rfl (pc' := 2) rfl ?_
  refine ax_blen (i := q) dJ1_charAt_3b067_2 hg0 rfl (by omega) (pc' := 3) rfl ?_
  refine ax_insG [.inl j, .inl (ax_sl q)] [] dJ1_charAt_3b067_3 mlJ1_9 rfl rfl (Nat.le_of_ble_eq_true rfl) (s_J0_checkIndex_df160 E l _ (by omega) _ j (ax_sl q) (by first | omega | assumption)) (pc' := 6) rfl (fun vv M_3 hq co3 hcm3 => ?_)
  obtain ⟨rfl, rfl⟩ := hq
  refine ax_reS (st2 := []) rfl ?_
  refine ax_aload_n dJ1_charAt_3b067_6 rfl rfl (pc' := 7) rfl ?_
  refine ax_iload_n dJ1_charAt_3b067_7 rfl rfl (pc' := 8) rfl ?_
  refine ax_bald (i := q) (v := ax_sb q j) dJ1_charAt_3b067_8 hg0 rfl (by omega) (by omega) rfl (pc' := 9) rfl ?_
  refine ax_sipush dJ1_charAt_3b067_9 (by decide) (pc' := 12) rfl ?_
  refine ax_iand dJ1_charAt_3b067_12 (pc' := 13) rfl ?_
  refine ax_i2c dJ1_charAt_3b067_13 (by first | omega | exact ⟨(ax_and_255 _).1, by have e := (ax_and_255 (ax_sb q j)).2; omega⟩) (pc' := 14) rfl ?_
  refine ax_cret dJ1_charAt_3b067_14 rfl (by have e := ax_and_255 (ax_sb q j); omega) ?_
  refine ⟨rfl, ?_, ?_⟩
  · rfl
  · rfl
set_option maxRecDepth 20000 in
theorem s_J0_charAt_5068e (E : ax_Env) (l : Launch) (d : Nat) (hd : 4 ≤ d) (M : ax_Mem) (j : Int) (q : Nat) (hg0 : q < 30) (hg1 : 0 ≤ j ∧ j < ax_sl q) : ax_G E l d iJ0_charAt_5068e [.inr (-(3 + (q : Int))), .inl j] M (fun z0 M2 => z0 = some (.inl (f_ch q j)) ∧ M = M2) := by
  obtain ⟨d, rfl⟩ : ∃ d0, d = d0 + 1 := ⟨d - 1, by omega⟩
  refine ax_start rfl (Nat.le_of_ble_eq_true rfl) (ls := [some (.inr (-(3 + (q : Int)))), some (.inl j)]) rfl (fun hav hcm => ?_)
  have hc1 : -2147483648 ≤ j ∧ j < 2147483648 := hav (.inl j) (by simp)
  clear hav
  refine ax_aload_n dJ0_charAt_5068e_0 rfl rfl (pc' := 1) rfl ?_
  refine ax_invSG (i := q) [] [] dJ0_charAt_5068e_1 mlJ0_492 hg0 rfl rfl rfl (Nat.le_of_ble_eq_true rfl) (s_J0_isLatin1_aae02 E l _ (by omega) _ q (by first | omega | assumption)) (pc' := 4) rfl (fun vv M_1 hq co1 hcm1 => ?_)
  obtain ⟨rfl, rfl⟩ := hq
  refine ax_reS (st2 := [.inl 1]) rfl ?_
  refine ax_if_eq (tgt := 16) dJ0_charAt_5068e_4 (by decide) (pc' := 7) rfl (fun h4 => ?_) (fun h4 => ?_)
  · exfalso
    omega
  · refine ax_aload_n dJ0_charAt_5068e_7 rfl rfl (pc' := 8) rfl ?_
    refine ax_sgetV (i := q) (r := -(1000 + (q : Int))) dJ0_charAt_5068e_8 flJ0_9 hg0 rfl rfl (pc' := 11) rfl ?_
    refine ax_iload_n dJ0_charAt_5068e_11 rfl rfl (pc' := 12) rfl ?_
    refine ax_insG [.inr (-(1000 + (q : Int))), .inl j] [] dJ0_charAt_5068e_12 mlJ0_495 rfl rfl (Nat.le_of_ble_eq_true rfl) (s_J1_charAt_3b067 E l _ (by omega) _ j q (by first | omega | assumption) (by first | omega | assumption)) (pc' := 15) rfl (fun vv M_12 hq co12 hcm12 => ?_)
    obtain ⟨rfl, rfl⟩ := hq
    refine ax_reS (st2 := [.inl (f_ch q j)]) rfl ?_
    have cc12 : -2147483648 ≤ f_ch q j ∧ f_ch q j < 2147483648 := co12 _ rfl
    refine ax_cret dJ0_charAt_5068e_15 rfl (by have e := ax_and_255 (ax_sb q j); unfold f_ch; omega) ?_
    refine ⟨rfl, ?_, ?_⟩
    · rfl
    · rfl
