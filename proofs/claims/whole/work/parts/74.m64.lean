/-! images -/
def f_bp (b : Int) : Prop := ax_sh SH b = some (0, 1, [some (b + 1)]) ∧ ax_sh SH (b + 1) = some (13, 1200, [])
def f_dp (a : Int) : Prop := ax_sh SH a = some (1, 7, [none, some (a + 1), some (a + 2), some (a + 3), none, some (a + 4), some (a + 5)]) ∧ ax_sh SH (a + 1) = some (13, 150, []) ∧ ax_sh SH (a + 2) = some (13, 150, []) ∧ ax_sh SH (a + 3) = some (13, 150, [])
def f_lor (M : ax_Mem) (b : Int) (w : Int → Int) (Ls : Int → List f_Ln) : Prop := f_lrn M (b + 13) Ls ∧ f_dm M (b + 2) w ∧ f_lt M b w ∧ f_tl M b w ∧ f_or M b w
theorem f_cp_in {g h : Int → Int} {n x : Int} (hx : 0 ≤ x ∧ x < n) : f_cp g 0 h 0 n x = g x := by
  unfold f_cp
  rw [if_pos (by omega), show 0 + (x - 0) = x by omega]
theorem f_fwd_cp {g h : Int → Int} {n : Int} : ∀ {L : List Int} {b : Int}, 0 ≤ b → b + (L.length : Int) ≤ n → f_fwd g b L → f_fwd (f_cp g 0 h 0 n) b L
  | [], _, _, _, _ => trivial
  | q :: tl, b, h0, h1, hf => by
    simp only [List.length_cons] at h1
    exact ⟨(f_cp_in ⟨h0, by omega⟩).trans hf.1, f_fwd_cp (by omega) (by omega) hf.2⟩
set_option maxRecDepth 20000 in
theorem s_X0_copyFrom (E : ax_Env) (l : Launch) (d : Nat) (hd : 1 ≤ d) (M : ax_Mem) (b c : Int) {g : Int → Int} (hg : M (b + 1) = g) {h : Int → Int} (hh : M (c + 1) = h) (hg0 : f_bp b) (hg1 : f_bp c) (hg2 : b + 2 ≤ c ∨ c + 2 ≤ b) : ax_G E l d iX0_copyFrom [.inr b, .inr c] M (fun z0 M2 => z0 = none ∧ (∀ x0 i0 : Int, ¬ (x0 = b + 1) → M2 x0 i0 = M x0 i0) ∧ M2 (b + 1) = f_cp h 0 g 0 1200) := by
  obtain ⟨d, rfl⟩ : ∃ d0, d = d0 + 1 := ⟨d - 1, by omega⟩
  refine ax_start rfl (Nat.le_of_ble_eq_true rfl) (ls := [some (.inr b), some (.inr c)]) rfl (fun hav hcm => ?_)
  clear hav
  refine ax_aload_n dX0_copyFrom_0 rfl rfl (pc' := 1) rfl ?_
  refine ax_getr (v := c + 1) dX0_copyFrom_1 flX0_11 rfl hg1.1 rfl (pc' := 4) rfl ?_
  refine ax_iconst dX0_copyFrom_4 (by decide) (pc' := 5) rfl ?_
  refine ax_aload_n dX0_copyFrom_5 rfl rfl (pc' := 6) rfl ?_
  refine ax_getr (v := b + 1) dX0_copyFrom_6 flX0_11 rfl hg0.1 rfl (pc' := 9) rfl ?_
  refine ax_iconst dX0_copyFrom_9 (by decide) (pc' := 10) rfl ?_
  refine ax_sipush dX0_copyFrom_10 (by decide) (pc' := 13) rfl ?_
  refine ax_copy dX0_copyFrom_13 mlX0_15 hg1.2 hg0.2 rfl rfl (by omega) (by omega) (by omega) (by omega) (by omega) (Nat.le_of_ble_eq_true rfl) (pc' := 16) rfl ?_
  obtain ⟨MC1, eMC1⟩ : ∃ z, z = ax_cp M (c + 1) 0 (b + 1) 0 1200 := ⟨_, rfl⟩
  change ax_W _ _ _ _ _ _ _ _ _ _ (ax_cp M (c + 1) 0 (b + 1) 0 1200) _
  rw [← eMC1]
  have fMC1 := ax_cp_fr eMC1
  have rMC1 := ax_cp_row eMC1 hh hg
  refine ax_vret dX0_copyFrom_16 rfl ?_
  refine ⟨rfl, rfl, ?_, ?_⟩
  · intro x0 i0 hai
    exact ((fMC1 x0 i0 (fun h => hai h)).trans rfl)
  · exact rMC1
set_option maxRecDepth 20000 in
theorem s_X3_copyFrom (E : ax_Env) (l : Launch) (d : Nat) (hd : 1 ≤ d) (M : ax_Mem) (b c : Int) {g : Int → Int} (hg : M (b + 1) = g) {h : Int → Int} (hh : M (c + 1) = h) {ln : Int} (hln : M c 0 = ln) {sz : Int} (hsz : M c 1 = sz) (hg0 : f_lp b) (hg1 : f_lp c) (hg2 : b + 2 ≤ c ∨ c + 2 ≤ b) : ax_G E l d iX3_copyFrom [.inr b, .inr c] M (fun z0 M2 => z0 = none ∧ (∀ x0 i0 : Int, ¬ (x0 = b + 1 ∨ (x0 = b ∧ i0 = 0) ∨ (x0 = b ∧ i0 = 1)) → M2 x0 i0 = M x0 i0) ∧ M2 (b + 1) = f_cp h 0 g 0 400 ∧ M2 b 0 = ln ∧ M2 b 1 = sz) := by
  obtain ⟨d, rfl⟩ : ∃ d0, d = d0 + 1 := ⟨d - 1, by omega⟩
  refine ax_start rfl (Nat.le_of_ble_eq_true rfl) (ls := [some (.inr b), some (.inr c)]) rfl (fun hav hcm => ?_)
  clear hav
  refine ax_aload_n dX3_copyFrom_0 rfl rfl (pc' := 1) rfl ?_
  refine ax_aload_n dX3_copyFrom_1 rfl rfl (pc' := 2) rfl ?_
  refine ax_geti (v := ln) dX3_copyFrom_2 flX3_15 rfl hg1.1 hln rfl (pc' := 5) rfl ?_
  refine ax_puti dX3_copyFrom_5 flX3_15 (Or.inl rfl) hg0.1 rfl (pc' := 8) rfl ?_
  refine ax_aload_n dX3_copyFrom_8 rfl rfl (pc' := 9) rfl ?_
  refine ax_aload_n dX3_copyFrom_9 rfl rfl (pc' := 10) rfl ?_
  refine ax_geti (v := sz) dX3_copyFrom_10 flX3_19 rfl hg1.1 (show (ax_up M b 0 ln) c 1 = sz from (ax_up_miss (by omega) hsz)) rfl (pc' := 13) rfl ?_
  refine ax_puti dX3_copyFrom_13 flX3_19 (Or.inl rfl) hg0.1 rfl (pc' := 16) rfl ?_
  refine ax_aload_n dX3_copyFrom_16 rfl rfl (pc' := 17) rfl ?_
  refine ax_getr (v := c + 1) dX3_copyFrom_17 flX3_11 rfl hg1.1 rfl (pc' := 20) rfl ?_
  refine ax_iconst dX3_copyFrom_20 (by decide) (pc' := 21) rfl ?_
  refine ax_aload_n dX3_copyFrom_21 rfl rfl (pc' := 22) rfl ?_
  refine ax_getr (v := b + 1) dX3_copyFrom_22 flX3_11 rfl hg0.1 rfl (pc' := 25) rfl ?_
  refine ax_iconst dX3_copyFrom_25 (by decide) (pc' := 26) rfl ?_
  refine ax_sipush dX3_copyFrom_26 (by decide) (pc' := 29) rfl ?_
  refine ax_copy dX3_copyFrom_29 mlX3_22 hg1.2 hg0.2 rfl rfl (by omega) (by omega) (by omega) (by omega) (by omega) (Nat.le_of_ble_eq_true rfl) (pc' := 32) rfl ?_
  obtain ⟨MC1, eMC1⟩ : ∃ z, z = ax_cp (ax_up (ax_up M b 0 ln) b 1 sz) (c + 1) 0 (b + 1) 0 400 := ⟨_, rfl⟩
  change ax_W _ _ _ _ _ _ _ _ _ _ (ax_cp (ax_up (ax_up M b 0 ln) b 1 sz) (c + 1) 0 (b + 1) 0 400) _
  rw [← eMC1]
  have fMC1 := ax_cp_fr eMC1
  have rMC1 := ax_cp_row eMC1 (ax_up_rowmiss (by omega) (ax_up_rowmiss (by omega) hh)) (ax_up_rowmiss (by omega) (ax_up_rowmiss (by omega) hg))
  refine ax_vret dX3_copyFrom_32 rfl ?_
  refine ⟨rfl, rfl, ?_, ?_, ?_, ?_⟩
  · intro x0 i0 hai
    exact ((fMC1 x0 i0 (fun h => hai (Or.inl h))).trans (ax_up_miss (fun h => hai (Or.inr (Or.inr h))) (ax_up_miss (fun h => hai (Or.inr (Or.inl h))) rfl)))
  · exact rMC1
  · exact ((fMC1 b 0 (by omega)).trans (ax_up_miss (fun h => absurd h.2 (by decide)) (ax_up_hit _ _ _ _)))
  · exact ((fMC1 b 1 (by omega)).trans (ax_up_hit _ _ _ _))
set_option maxRecDepth 20000 in
theorem s_X1_copyFrom (E : ax_Env) (l : Launch) (d : Nat) (hd : 1 ≤ d) (M : ax_Mem) (b c : Int) {ku1 : Int → Int} (hku1 : M (b + 1) = ku1) {ku2 : Int → Int} (hku2 : M (b + 2) = ku2) {ku3 : Int → Int} (hku3 : M (b + 3) = ku3) {kv1 : Int → Int} (hkv1 : M (c + 1) = kv1) {kv2 : Int → Int} (hkv2 : M (c + 2) = kv2) {kv3 : Int → Int} (hkv3 : M (c + 3) = kv3) {ct : Int} (hct : M c 0 = ct) (hg0 : f_dp b) (hg1 : f_dp c) (hg2 : b + 6 ≤ c ∨ c + 6 ≤ b) : ax_G E l d iX1_copyFrom [.inr b, .inr c] M (fun z0 M2 => z0 = none ∧ (∀ x0 i0 : Int, ¬ (x0 = b + 1 ∨ x0 = b + 2 ∨ x0 = b + 3 ∨ (x0 = b ∧ i0 = 0)) → M2 x0 i0 = M x0 i0) ∧ M2 (b + 1) = f_cp kv1 0 ku1 0 150 ∧ M2 (b + 2) = f_cp kv2 0 ku2 0 150 ∧ M2 (b + 3) = f_cp kv3 0 ku3 0 150 ∧ M2 b 0 = ct) := by
  obtain ⟨d, rfl⟩ : ∃ d0, d = d0 + 1 := ⟨d - 1, by omega⟩
  refine ax_start rfl (Nat.le_of_ble_eq_true rfl) (ls := [some (.inr b), some (.inr c)]) rfl (fun hav hcm => ?_)
  clear hav
  refine ax_aload_n dX1_copyFrom_0 rfl rfl (pc' := 1) rfl ?_
  refine ax_aload_n dX1_copyFrom_1 rfl rfl (pc' := 2) rfl ?_
  refine ax_geti (v := ct) dX1_copyFrom_2 flX1_27 rfl hg1.1 hct rfl (pc' := 5) rfl ?_
  refine ax_puti dX1_copyFrom_5 flX1_27 (Or.inl rfl) hg0.1 rfl (pc' := 8) rfl ?_
  refine ax_aload_n dX1_copyFrom_8 rfl rfl (pc' := 9) rfl ?_
  refine ax_getr (v := c + 1) dX1_copyFrom_9 flX1_11 rfl hg1.1 rfl (pc' := 12) rfl ?_
  refine ax_iconst dX1_copyFrom_12 (by decide) (pc' := 13) rfl ?_
  refine ax_aload_n dX1_copyFrom_13 rfl rfl (pc' := 14) rfl ?_
  refine ax_getr (v := b + 1) dX1_copyFrom_14 flX1_11 rfl hg0.1 rfl (pc' := 17) rfl ?_
  refine ax_iconst dX1_copyFrom_17 (by decide) (pc' := 18) rfl ?_
  refine ax_sipush dX1_copyFrom_18 (by decide) (pc' := 21) rfl ?_
  refine ax_copy dX1_copyFrom_21 mlX1_31 hg1.2.1 hg0.2.1 rfl rfl (by omega) (by omega) (by omega) (by omega) (by omega) (Nat.le_of_ble_eq_true rfl) (pc' := 24) rfl ?_
  obtain ⟨MC1, eMC1⟩ : ∃ z, z = ax_cp (ax_up M b 0 ct) (c + 1) 0 (b + 1) 0 150 := ⟨_, rfl⟩
  change ax_W _ _ _ _ _ _ _ _ _ _ (ax_cp (ax_up M b 0 ct) (c + 1) 0 (b + 1) 0 150) _
  rw [← eMC1]
  have fMC1 := ax_cp_fr eMC1
  have rMC1 := ax_cp_row eMC1 (ax_up_rowmiss (by omega) hkv1) (ax_up_rowmiss (by omega) hku1)
  refine ax_aload_n dX1_copyFrom_24 rfl rfl (pc' := 25) rfl ?_
  refine ax_getr (v := c + 2) dX1_copyFrom_25 flX1_15 rfl hg1.1 rfl (pc' := 28) rfl ?_
  refine ax_iconst dX1_copyFrom_28 (by decide) (pc' := 29) rfl ?_
  refine ax_aload_n dX1_copyFrom_29 rfl rfl (pc' := 30) rfl ?_
  refine ax_getr (v := b + 2) dX1_copyFrom_30 flX1_15 rfl hg0.1 rfl (pc' := 33) rfl ?_
  refine ax_iconst dX1_copyFrom_33 (by decide) (pc' := 34) rfl ?_
  refine ax_sipush dX1_copyFrom_34 (by decide) (pc' := 37) rfl ?_
  refine ax_copy dX1_copyFrom_37 mlX1_31 hg1.2.2.1 hg0.2.2.1 rfl rfl (by omega) (by omega) (by omega) (by omega) (by omega) (Nat.le_of_ble_eq_true rfl) (pc' := 40) rfl ?_
  obtain ⟨MC2, eMC2⟩ : ∃ z, z = ax_cp MC1 (c + 2) 0 (b + 2) 0 150 := ⟨_, rfl⟩
  change ax_W _ _ _ _ _ _ _ _ _ _ (ax_cp MC1 (c + 2) 0 (b + 2) 0 150) _
  rw [← eMC2]
  have fMC2 := ax_cp_fr eMC2
  have rMC2 := ax_cp_row eMC2 ((funext fun i0 => fMC1 (c + 2) i0 (by omega)).trans (ax_up_rowmiss (by omega) hkv2)) ((funext fun i0 => fMC1 (b + 2) i0 (by omega)).trans (ax_up_rowmiss (by omega) hku2))
  refine ax_aload_n dX1_copyFrom_40 rfl rfl (pc' := 41) rfl ?_
  refine ax_getr (v := c + 3) dX1_copyFrom_41 flX1_18 rfl hg1.1 rfl (pc' := 44) rfl ?_
  refine ax_iconst dX1_copyFrom_44 (by decide) (pc' := 45) rfl ?_
  refine ax_aload_n dX1_copyFrom_45 rfl rfl (pc' := 46) rfl ?_
  refine ax_getr (v := b + 3) dX1_copyFrom_46 flX1_18 rfl hg0.1 rfl (pc' := 49) rfl ?_
  refine ax_iconst dX1_copyFrom_49 (by decide) (pc' := 50) rfl ?_
  refine ax_sipush dX1_copyFrom_50 (by decide) (pc' := 53) rfl ?_
  refine ax_copy dX1_copyFrom_53 mlX1_31 hg1.2.2.2 hg0.2.2.2 rfl rfl (by omega) (by omega) (by omega) (by omega) (by omega) (Nat.le_of_ble_eq_true rfl) (pc' := 56) rfl ?_
  obtain ⟨MC3, eMC3⟩ : ∃ z, z = ax_cp MC2 (c + 3) 0 (b + 3) 0 150 := ⟨_, rfl⟩
  change ax_W _ _ _ _ _ _ _ _ _ _ (ax_cp MC2 (c + 3) 0 (b + 3) 0 150) _
  rw [← eMC3]
  have fMC3 := ax_cp_fr eMC3
  have rMC3 := ax_cp_row eMC3 ((funext fun i0 => fMC2 (c + 3) i0 (by omega)).trans ((funext fun i0 => fMC1 (c + 3) i0 (by omega)).trans (ax_up_rowmiss (by omega) hkv3))) ((funext fun i0 => fMC2 (b + 3) i0 (by omega)).trans ((funext fun i0 => fMC1 (b + 3) i0 (by omega)).trans (ax_up_rowmiss (by omega) hku3)))
  refine ax_vret dX1_copyFrom_56 rfl ?_
  refine ⟨rfl, rfl, ?_, ?_, ?_, ?_, ?_⟩
  · intro x0 i0 hai
    exact ((fMC3 x0 i0 (fun h => hai (Or.inr (Or.inr (Or.inl h))))).trans ((fMC2 x0 i0 (fun h => hai (Or.inr (Or.inl h)))).trans ((fMC1 x0 i0 (fun h => hai (Or.inl h))).trans (ax_up_miss (fun h => hai (Or.inr (Or.inr (Or.inr h)))) rfl))))
  · exact ((funext fun i0 => fMC3 (b + 1) i0 (by omega)).trans ((funext fun i0 => fMC2 (b + 1) i0 (by omega)).trans rMC1))
  · exact ((funext fun i0 => fMC3 (b + 2) i0 (by omega)).trans rMC2)
  · exact rMC3
  · exact ((fMC3 b 0 (by omega)).trans ((fMC2 b 0 (by omega)).trans ((fMC1 b 0 (by omega)).trans (ax_up_hit _ _ _ _))))
set_option maxRecDepth 20000 in
theorem s_X4_copy_im (E : ax_Env) (l : Launch) (d : Nat) (hd : 2 ≤ d) (M : ax_Mem) (w : Int → Int) (Ls : Int → List f_Ln) (hg0 : f_lor M 39 w Ls) (hg1 : w 2600 ≤ 150 ∧ w 2577 ≤ 6 ∧ w 2578 ≤ 7) (hg2 : f_shp w) : ax_G E l d iX4_copyFrom [.inr 311, .inr 39] M (fun z0 M2 => z0 = none ∧ (∀ x0 i0 : Int, ¬ ((311 ≤ x0 ∧ x0 < 330)) → M2 x0 i0 = M x0 i0) ∧ (f_lor M2 311 w Ls)) := by
  obtain ⟨d, rfl⟩ : ∃ d0, d = d0 + 1 := ⟨d - 1, by omega⟩
  refine ax_start rfl (Nat.le_of_ble_eq_true rfl) (ls := [some (.inr 311), some (.inr 39), none]) rfl (fun hav hcm => ?_)
  clear hav
  refine ax_iconst dX4_copyFrom_0 (by decide) (pc' := 1) rfl ?_
  refine ax_istore_n dX4_copyFrom_1 rfl (by decide) (ls' := [some (.inr 311), some (.inr 39), some (.inl 0)]) rfl (pc' := 2) rfl ?_
  refine ax_iload_n dX4_copyFrom_2 rfl rfl (pc' := 3) rfl ?_
  refine ax_iconst dX4_copyFrom_3 (by decide) (pc' := 4) rfl ?_
  refine ax_icmp_ge (tgt := 28) dX4_copyFrom_4 (by decide) (pc' := 7) rfl (fun h4 => ?_) (fun h4 => ?_)
  · exfalso
    omega
  · refine ax_aload_n dX4_copyFrom_7 rfl rfl (pc' := 8) rfl ?_
    refine ax_getr (v := 312) dX4_copyFrom_8 flX4_11 rfl sh_311 rfl (pc' := 11) rfl ?_
    refine ax_iload_n dX4_copyFrom_11 rfl rfl (pc' := 12) rfl ?_
    refine ax_aald (v := 324) dX4_copyFrom_12 sh_312 (by decide) (by decide) (by decide) rfl (pc' := 13) rfl ?_
    refine ax_aload_n dX4_copyFrom_13 rfl rfl (pc' := 14) rfl ?_
    refine ax_getr (v := 40) dX4_copyFrom_14 flX4_11 rfl sh_39 rfl (pc' := 17) rfl ?_
    refine ax_iload_n dX4_copyFrom_17 rfl rfl (pc' := 18) rfl ?_
    refine ax_aald (v := 52) dX4_copyFrom_18 sh_40 (by decide) (by decide) (by decide) rfl (pc' := 19) rfl ?_
    refine ax_invG [.inr 52] [] dX4_copyFrom_19 mlX4_41 sh_324 rfl rfl rfl (Nat.le_of_ble_eq_true rfl) (s_X3_copyFrom E l _ (by omega) _ 324 52 rfl rfl rfl rfl ⟨by first | exact sh_324 | exact sh_326 | exact sh_328, by first | exact sh_325 | exact sh_327 | exact sh_329⟩ ⟨by first | exact sh_52 | exact sh_54 | exact sh_56, by first | exact sh_53 | exact sh_55 | exact sh_57⟩ (by decide)) (pc' := 22) rfl (fun vv M_19 hq co19 hcm19 => ?_)
    obtain ⟨rfl, frM_19, mrM_19_0, msM_19_0, msM_19_1⟩ := hq
    refine ax_reS (st2 := []) rfl ?_
    refine ax_iinc dX4_copyFrom_22 rfl (by decide) (by omega) (ls' := [some (.inr 311), some (.inr 39), some (.inl 1)]) rfl (pc' := 25) rfl ?_
    refine ax_goto dX4_copyFrom_25 (pc' := 2) (by decide) ?_
    refine ax_iload_n dX4_copyFrom_2 rfl rfl (pc' := 3) rfl ?_
    refine ax_iconst dX4_copyFrom_3 (by decide) (pc' := 4) rfl ?_
    refine ax_icmp_ge (tgt := 28) dX4_copyFrom_4 (by decide) (pc' := 7) rfl (fun h4 => ?_) (fun h4 => ?_)
    · exfalso
      omega
    · refine ax_aload_n dX4_copyFrom_7 rfl rfl (pc' := 8) rfl ?_
      refine ax_getr (v := 312) dX4_copyFrom_8 flX4_11 rfl sh_311 rfl (pc' := 11) rfl ?_
      refine ax_iload_n dX4_copyFrom_11 rfl rfl (pc' := 12) rfl ?_
      refine ax_aald (v := 326) dX4_copyFrom_12 sh_312 (by decide) (by decide) (by decide) rfl (pc' := 13) rfl ?_
      refine ax_aload_n dX4_copyFrom_13 rfl rfl (pc' := 14) rfl ?_
      refine ax_getr (v := 40) dX4_copyFrom_14 flX4_11 rfl sh_39 rfl (pc' := 17) rfl ?_
      refine ax_iload_n dX4_copyFrom_17 rfl rfl (pc' := 18) rfl ?_
      refine ax_aald (v := 54) dX4_copyFrom_18 sh_40 (by decide) (by decide) (by decide) rfl (pc' := 19) rfl ?_
      refine ax_invG [.inr 54] [] dX4_copyFrom_19 mlX4_41 sh_326 rfl rfl rfl (Nat.le_of_ble_eq_true rfl) (s_X3_copyFrom E l _ (by omega) _ 326 54 ((funext fun i0 => frM_19 327 i0 (fun h => h.elim (fun h => absurd h (by decide)) (fun h => h.elim (fun h => absurd h.1 (by decide)) (fun h => absurd h.1 (by decide))))).trans rfl) ((funext fun i0 => frM_19 55 i0 (fun h => h.elim (fun h => absurd h (by decide)) (fun h => h.elim (fun h => absurd h.1 (by decide)) (fun h => absurd h.1 (by decide))))).trans rfl) ((frM_19 54 0 (fun h => h.elim (fun h => absurd h (by decide)) (fun h => h.elim (fun h => absurd h.1 (by decide)) (fun h => absurd h.1 (by decide))))).trans rfl) ((frM_19 54 1 (fun h => h.elim (fun h => absurd h (by decide)) (fun h => h.elim (fun h => absurd h.1 (by decide)) (fun h => absurd h.1 (by decide))))).trans rfl) ⟨by first | exact sh_324 | exact sh_326 | exact sh_328, by first | exact sh_325 | exact sh_327 | exact sh_329⟩ ⟨by first | exact sh_52 | exact sh_54 | exact sh_56, by first | exact sh_53 | exact sh_55 | exact sh_57⟩ (by decide)) (pc' := 22) rfl (fun vv M_19_1 hq co19 hcm19 => ?_)
      obtain ⟨rfl, frM_19_1, mrM_19_1_0, msM_19_1_0, msM_19_1_1⟩ := hq
      refine ax_reS (st2 := []) rfl ?_
      refine ax_iinc dX4_copyFrom_22 rfl (by decide) (by omega) (ls' := [some (.inr 311), some (.inr 39), some (.inl 2)]) rfl (pc' := 25) rfl ?_
      refine ax_goto dX4_copyFrom_25 (pc' := 2) (by decide) ?_
      refine ax_iload_n dX4_copyFrom_2 rfl rfl (pc' := 3) rfl ?_
      refine ax_iconst dX4_copyFrom_3 (by decide) (pc' := 4) rfl ?_
      refine ax_icmp_ge (tgt := 28) dX4_copyFrom_4 (by decide) (pc' := 7) rfl (fun h4 => ?_) (fun h4 => ?_)
      · exfalso
        omega
      · refine ax_aload_n dX4_copyFrom_7 rfl rfl (pc' := 8) rfl ?_
        refine ax_getr (v := 312) dX4_copyFrom_8 flX4_11 rfl sh_311 rfl (pc' := 11) rfl ?_
        refine ax_iload_n dX4_copyFrom_11 rfl rfl (pc' := 12) rfl ?_
        refine ax_aald (v := 328) dX4_copyFrom_12 sh_312 (by decide) (by decide) (by decide) rfl (pc' := 13) rfl ?_
        refine ax_aload_n dX4_copyFrom_13 rfl rfl (pc' := 14) rfl ?_
        refine ax_getr (v := 40) dX4_copyFrom_14 flX4_11 rfl sh_39 rfl (pc' := 17) rfl ?_
        refine ax_iload_n dX4_copyFrom_17 rfl rfl (pc' := 18) rfl ?_
        refine ax_aald (v := 56) dX4_copyFrom_18 sh_40 (by decide) (by decide) (by decide) rfl (pc' := 19) rfl ?_
        refine ax_invG [.inr 56] [] dX4_copyFrom_19 mlX4_41 sh_328 rfl rfl rfl (Nat.le_of_ble_eq_true rfl) (s_X3_copyFrom E l _ (by omega) _ 328 56 ((funext fun i0 => frM_19_1 329 i0 (fun h => h.elim (fun h => absurd h (by decide)) (fun h => h.elim (fun h => absurd h.1 (by decide)) (fun h => absurd h.1 (by decide))))).trans ((funext fun i0 => frM_19 329 i0 (fun h => h.elim (fun h => absurd h (by decide)) (fun h => h.elim (fun h => absurd h.1 (by decide)) (fun h => absurd h.1 (by decide))))).trans rfl)) ((funext fun i0 => frM_19_1 57 i0 (fun h => h.elim (fun h => absurd h (by decide)) (fun h => h.elim (fun h => absurd h.1 (by decide)) (fun h => absurd h.1 (by decide))))).trans ((funext fun i0 => frM_19 57 i0 (fun h => h.elim (fun h => absurd h (by decide)) (fun h => h.elim (fun h => absurd h.1 (by decide)) (fun h => absurd h.1 (by decide))))).trans rfl)) ((frM_19_1 56 0 (fun h => h.elim (fun h => absurd h (by decide)) (fun h => h.elim (fun h => absurd h.1 (by decide)) (fun h => absurd h.1 (by decide))))).trans ((frM_19 56 0 (fun h => h.elim (fun h => absurd h (by decide)) (fun h => h.elim (fun h => absurd h.1 (by decide)) (fun h => absurd h.1 (by decide))))).trans rfl)) ((frM_19_1 56 1 (fun h => h.elim (fun h => absurd h (by decide)) (fun h => h.elim (fun h => absurd h.1 (by decide)) (fun h => absurd h.1 (by decide))))).trans ((frM_19 56 1 (fun h => h.elim (fun h => absurd h (by decide)) (fun h => h.elim (fun h => absurd h.1 (by decide)) (fun h => absurd h.1 (by decide))))).trans rfl)) ⟨by first | exact sh_324 | exact sh_326 | exact sh_328, by first | exact sh_325 | exact sh_327 | exact sh_329⟩ ⟨by first | exact sh_52 | exact sh_54 | exact sh_56, by first | exact sh_53 | exact sh_55 | exact sh_57⟩ (by decide)) (pc' := 22) rfl (fun vv M_19_2 hq co19 hcm19 => ?_)
        obtain ⟨rfl, frM_19_2, mrM_19_2_0, msM_19_2_0, msM_19_2_1⟩ := hq
        refine ax_reS (st2 := []) rfl ?_
        refine ax_iinc dX4_copyFrom_22 rfl (by decide) (by omega) (ls' := [some (.inr 311), some (.inr 39), some (.inl 3)]) rfl (pc' := 25) rfl ?_
        refine ax_goto dX4_copyFrom_25 (pc' := 2) (by decide) ?_
        refine ax_iload_n dX4_copyFrom_2 rfl rfl (pc' := 3) rfl ?_
        refine ax_iconst dX4_copyFrom_3 (by decide) (pc' := 4) rfl ?_
        refine ax_icmp_ge (tgt := 28) dX4_copyFrom_4 (by decide) (pc' := 7) rfl (fun h4 => ?_) (fun h4 => ?_)
        · refine ax_aload_n dX4_copyFrom_28 rfl rfl (pc' := 29) rfl ?_
          refine ax_getr (v := 313) dX4_copyFrom_29 flX4_20 rfl sh_311 rfl (pc' := 32) rfl ?_
          refine ax_aload_n dX4_copyFrom_32 rfl rfl (pc' := 33) rfl ?_
          refine ax_getr (v := 41) dX4_copyFrom_33 flX4_20 rfl sh_39 rfl (pc' := 36) rfl ?_
          refine ax_invG [.inr 41] [] dX4_copyFrom_36 mlX4_45 sh_313 rfl rfl rfl (Nat.le_of_ble_eq_true rfl) (s_X1_copyFrom E l _ (by omega) _ 313 41 ((funext fun i0 => frM_19_2 314 i0 (fun h => h.elim (fun h => absurd h (by decide)) (fun h => h.elim (fun h => absurd h.1 (by decide)) (fun h => absurd h.1 (by decide))))).trans ((funext fun i0 => frM_19_1 314 i0 (fun h => h.elim (fun h => absurd h (by decide)) (fun h => h.elim (fun h => absurd h.1 (by decide)) (fun h => absurd h.1 (by decide))))).trans ((funext fun i0 => frM_19 314 i0 (fun h => h.elim (fun h => absurd h (by decide)) (fun h => h.elim (fun h => absurd h.1 (by decide)) (fun h => absurd h.1 (by decide))))).trans rfl))) ((funext fun i0 => frM_19_2 315 i0 (fun h => h.elim (fun h => absurd h (by decide)) (fun h => h.elim (fun h => absurd h.1 (by decide)) (fun h => absurd h.1 (by decide))))).trans ((funext fun i0 => frM_19_1 315 i0 (fun h => h.elim (fun h => absurd h (by decide)) (fun h => h.elim (fun h => absurd h.1 (by decide)) (fun h => absurd h.1 (by decide))))).trans ((funext fun i0 => frM_19 315 i0 (fun h => h.elim (fun h => absurd h (by decide)) (fun h => h.elim (fun h => absurd h.1 (by decide)) (fun h => absurd h.1 (by decide))))).trans rfl))) ((funext fun i0 => frM_19_2 316 i0 (fun h => h.elim (fun h => absurd h (by decide)) (fun h => h.elim (fun h => absurd h.1 (by decide)) (fun h => absurd h.1 (by decide))))).trans ((funext fun i0 => frM_19_1 316 i0 (fun h => h.elim (fun h => absurd h (by decide)) (fun h => h.elim (fun h => absurd h.1 (by decide)) (fun h => absurd h.1 (by decide))))).trans ((funext fun i0 => frM_19 316 i0 (fun h => h.elim (fun h => absurd h (by decide)) (fun h => h.elim (fun h => absurd h.1 (by decide)) (fun h => absurd h.1 (by decide))))).trans rfl))) ((funext fun i0 => frM_19_2 42 i0 (fun h => h.elim (fun h => absurd h (by decide)) (fun h => h.elim (fun h => absurd h.1 (by decide)) (fun h => absurd h.1 (by decide))))).trans ((funext fun i0 => frM_19_1 42 i0 (fun h => h.elim (fun h => absurd h (by decide)) (fun h => h.elim (fun h => absurd h.1 (by decide)) (fun h => absurd h.1 (by decide))))).trans ((funext fun i0 => frM_19 42 i0 (fun h => h.elim (fun h => absurd h (by decide)) (fun h => h.elim (fun h => absurd h.1 (by decide)) (fun h => absurd h.1 (by decide))))).trans rfl))) ((funext fun i0 => frM_19_2 43 i0 (fun h => h.elim (fun h => absurd h (by decide)) (fun h => h.elim (fun h => absurd h.1 (by decide)) (fun h => absurd h.1 (by decide))))).trans ((funext fun i0 => frM_19_1 43 i0 (fun h => h.elim (fun h => absurd h (by decide)) (fun h => h.elim (fun h => absurd h.1 (by decide)) (fun h => absurd h.1 (by decide))))).trans ((funext fun i0 => frM_19 43 i0 (fun h => h.elim (fun h => absurd h (by decide)) (fun h => h.elim (fun h => absurd h.1 (by decide)) (fun h => absurd h.1 (by decide))))).trans rfl))) ((funext fun i0 => frM_19_2 44 i0 (fun h => h.elim (fun h => absurd h (by decide)) (fun h => h.elim (fun h => absurd h.1 (by decide)) (fun h => absurd h.1 (by decide))))).trans ((funext fun i0 => frM_19_1 44 i0 (fun h => h.elim (fun h => absurd h (by decide)) (fun h => h.elim (fun h => absurd h.1 (by decide)) (fun h => absurd h.1 (by decide))))).trans ((funext fun i0 => frM_19 44 i0 (fun h => h.elim (fun h => absurd h (by decide)) (fun h => h.elim (fun h => absurd h.1 (by decide)) (fun h => absurd h.1 (by decide))))).trans rfl))) ((frM_19_2 41 0 (fun h => h.elim (fun h => absurd h (by decide)) (fun h => h.elim (fun h => absurd h.1 (by decide)) (fun h => absurd h.1 (by decide))))).trans ((frM_19_1 41 0 (fun h => h.elim (fun h => absurd h (by decide)) (fun h => h.elim (fun h => absurd h.1 (by decide)) (fun h => absurd h.1 (by decide))))).trans ((frM_19 41 0 (fun h => h.elim (fun h => absurd h (by decide)) (fun h => h.elim (fun h => absurd h.1 (by decide)) (fun h => absurd h.1 (by decide))))).trans rfl))) ⟨sh_313, sh_314, sh_315, sh_316⟩ ⟨sh_41, sh_42, sh_43, sh_44⟩ (by decide)) (pc' := 39) rfl (fun vv M_36 hq co36 hcm36 => ?_)
          obtain ⟨rfl, frM_36, mrM_36_0, mrM_36_1, mrM_36_2, msM_36_0⟩ := hq
          refine ax_reS (st2 := []) rfl ?_
          refine ax_aload_n dX4_copyFrom_39 rfl rfl (pc' := 40) rfl ?_
          refine ax_getr (v := 47) dX4_copyFrom_40 flX4_24 rfl sh_39 rfl (pc' := 43) rfl ?_
          refine ax_iconst dX4_copyFrom_43 (by decide) (pc' := 44) rfl ?_
          refine ax_aload_n dX4_copyFrom_44 rfl rfl (pc' := 45) rfl ?_
          refine ax_getr (v := 319) dX4_copyFrom_45 flX4_24 rfl sh_311 rfl (pc' := 48) rfl ?_
          refine ax_iconst dX4_copyFrom_48 (by decide) (pc' := 49) rfl ?_
          refine ax_bipush dX4_copyFrom_49 (by decide) (pc' := 51) rfl ?_
          refine ax_copy dX4_copyFrom_51 mlX4_48 sh_47 sh_319 rfl rfl (by omega) (by omega) (by omega) (by omega) (by omega) (Nat.le_of_ble_eq_true rfl) (pc' := 54) rfl ?_
          obtain ⟨MC3, eMC3⟩ : ∃ z, z = ax_cp M_36 47 0 319 0 28 := ⟨_, rfl⟩
          change ax_W _ _ _ _ _ _ _ _ _ _ (ax_cp M_36 47 0 319 0 28) _
          rw [← eMC3]
          have fMC3 := ax_cp_fr eMC3
          have rMC3 := ax_cp_row eMC3 ((funext fun i0 => frM_36 47 i0 (fun h => h.elim (fun h => absurd h (by decide)) (fun h => h.elim (fun h => absurd h (by decide)) (fun h => h.elim (fun h => absurd h (by decide)) (fun h => absurd h.1 (by decide)))))).trans ((funext fun i0 => frM_19_2 47 i0 (fun h => h.elim (fun h => absurd h (by decide)) (fun h => h.elim (fun h => absurd h.1 (by decide)) (fun h => absurd h.1 (by decide))))).trans ((funext fun i0 => frM_19_1 47 i0 (fun h => h.elim (fun h => absurd h (by decide)) (fun h => h.elim (fun h => absurd h.1 (by decide)) (fun h => absurd h.1 (by decide))))).trans ((funext fun i0 => frM_19 47 i0 (fun h => h.elim (fun h => absurd h (by decide)) (fun h => h.elim (fun h => absurd h.1 (by decide)) (fun h => absurd h.1 (by decide))))).trans rfl)))) ((funext fun i0 => frM_36 319 i0 (fun h => h.elim (fun h => absurd h (by decide)) (fun h => h.elim (fun h => absurd h (by decide)) (fun h => h.elim (fun h => absurd h (by decide)) (fun h => absurd h.1 (by decide)))))).trans ((funext fun i0 => frM_19_2 319 i0 (fun h => h.elim (fun h => absurd h (by decide)) (fun h => h.elim (fun h => absurd h.1 (by decide)) (fun h => absurd h.1 (by decide))))).trans ((funext fun i0 => frM_19_1 319 i0 (fun h => h.elim (fun h => absurd h (by decide)) (fun h => h.elim (fun h => absurd h.1 (by decide)) (fun h => absurd h.1 (by decide))))).trans ((funext fun i0 => frM_19 319 i0 (fun h => h.elim (fun h => absurd h (by decide)) (fun h => h.elim (fun h => absurd h.1 (by decide)) (fun h => absurd h.1 (by decide))))).trans rfl))))
          refine ax_aload_n dX4_copyFrom_54 rfl rfl (pc' := 55) rfl ?_
          refine ax_getr (v := 48) dX4_copyFrom_55 flX4_28 rfl sh_39 rfl (pc' := 58) rfl ?_
          refine ax_iconst dX4_copyFrom_58 (by decide) (pc' := 59) rfl ?_
          refine ax_aload_n dX4_copyFrom_59 rfl rfl (pc' := 60) rfl ?_
          refine ax_getr (v := 320) dX4_copyFrom_60 flX4_28 rfl sh_311 rfl (pc' := 63) rfl ?_
          refine ax_iconst dX4_copyFrom_63 (by decide) (pc' := 64) rfl ?_
          refine ax_iconst dX4_copyFrom_64 (by decide) (pc' := 65) rfl ?_
          refine ax_copy dX4_copyFrom_65 mlX4_48 sh_48 sh_320 rfl rfl (by omega) (by omega) (by omega) (by omega) (by omega) (Nat.le_of_ble_eq_true rfl) (pc' := 68) rfl ?_
          obtain ⟨MC4, eMC4⟩ : ∃ z, z = ax_cp MC3 48 0 320 0 4 := ⟨_, rfl⟩
          change ax_W _ _ _ _ _ _ _ _ _ _ (ax_cp MC3 48 0 320 0 4) _
          rw [← eMC4]
          have fMC4 := ax_cp_fr eMC4
          have rMC4 := ax_cp_row eMC4 ((funext fun i0 => fMC3 48 i0 (fun h => absurd h (by decide))).trans ((funext fun i0 => frM_36 48 i0 (fun h => h.elim (fun h => absurd h (by decide)) (fun h => h.elim (fun h => absurd h (by decide)) (fun h => h.elim (fun h => absurd h (by decide)) (fun h => absurd h.1 (by decide)))))).trans ((funext fun i0 => frM_19_2 48 i0 (fun h => h.elim (fun h => absurd h (by decide)) (fun h => h.elim (fun h => absurd h.1 (by decide)) (fun h => absurd h.1 (by decide))))).trans ((funext fun i0 => frM_19_1 48 i0 (fun h => h.elim (fun h => absurd h (by decide)) (fun h => h.elim (fun h => absurd h.1 (by decide)) (fun h => absurd h.1 (by decide))))).trans ((funext fun i0 => frM_19 48 i0 (fun h => h.elim (fun h => absurd h (by decide)) (fun h => h.elim (fun h => absurd h.1 (by decide)) (fun h => absurd h.1 (by decide))))).trans rfl))))) ((funext fun i0 => fMC3 320 i0 (fun h => absurd h (by decide))).trans ((funext fun i0 => frM_36 320 i0 (fun h => h.elim (fun h => absurd h (by decide)) (fun h => h.elim (fun h => absurd h (by decide)) (fun h => h.elim (fun h => absurd h (by decide)) (fun h => absurd h.1 (by decide)))))).trans ((funext fun i0 => frM_19_2 320 i0 (fun h => h.elim (fun h => absurd h (by decide)) (fun h => h.elim (fun h => absurd h.1 (by decide)) (fun h => absurd h.1 (by decide))))).trans ((funext fun i0 => frM_19_1 320 i0 (fun h => h.elim (fun h => absurd h (by decide)) (fun h => h.elim (fun h => absurd h.1 (by decide)) (fun h => absurd h.1 (by decide))))).trans ((funext fun i0 => frM_19 320 i0 (fun h => h.elim (fun h => absurd h (by decide)) (fun h => h.elim (fun h => absurd h.1 (by decide)) (fun h => absurd h.1 (by decide))))).trans rfl)))))
          refine ax_aload_n dX4_copyFrom_68 rfl rfl (pc' := 69) rfl ?_
          refine ax_getr (v := 49) dX4_copyFrom_69 flX4_31 rfl sh_39 rfl (pc' := 72) rfl ?_
          refine ax_iconst dX4_copyFrom_72 (by decide) (pc' := 73) rfl ?_
          refine ax_aload_n dX4_copyFrom_73 rfl rfl (pc' := 74) rfl ?_
          refine ax_getr (v := 321) dX4_copyFrom_74 flX4_31 rfl sh_311 rfl (pc' := 77) rfl ?_
          refine ax_iconst dX4_copyFrom_77 (by decide) (pc' := 78) rfl ?_
          refine ax_bipush dX4_copyFrom_78 (by decide) (pc' := 80) rfl ?_
          refine ax_copy dX4_copyFrom_80 mlX4_48 sh_49 sh_321 rfl rfl (by omega) (by omega) (by omega) (by omega) (by omega) (Nat.le_of_ble_eq_true rfl) (pc' := 83) rfl ?_
          obtain ⟨MC5, eMC5⟩ : ∃ z, z = ax_cp MC4 49 0 321 0 6 := ⟨_, rfl⟩
          change ax_W _ _ _ _ _ _ _ _ _ _ (ax_cp MC4 49 0 321 0 6) _
          rw [← eMC5]
          have fMC5 := ax_cp_fr eMC5
          have rMC5 := ax_cp_row eMC5 ((funext fun i0 => fMC4 49 i0 (fun h => absurd h (by decide))).trans ((funext fun i0 => fMC3 49 i0 (fun h => absurd h (by decide))).trans ((funext fun i0 => frM_36 49 i0 (fun h => h.elim (fun h => absurd h (by decide)) (fun h => h.elim (fun h => absurd h (by decide)) (fun h => h.elim (fun h => absurd h (by decide)) (fun h => absurd h.1 (by decide)))))).trans ((funext fun i0 => frM_19_2 49 i0 (fun h => h.elim (fun h => absurd h (by decide)) (fun h => h.elim (fun h => absurd h.1 (by decide)) (fun h => absurd h.1 (by decide))))).trans ((funext fun i0 => frM_19_1 49 i0 (fun h => h.elim (fun h => absurd h (by decide)) (fun h => h.elim (fun h => absurd h.1 (by decide)) (fun h => absurd h.1 (by decide))))).trans ((funext fun i0 => frM_19 49 i0 (fun h => h.elim (fun h => absurd h (by decide)) (fun h => h.elim (fun h => absurd h.1 (by decide)) (fun h => absurd h.1 (by decide))))).trans rfl)))))) ((funext fun i0 => fMC4 321 i0 (fun h => absurd h (by decide))).trans ((funext fun i0 => fMC3 321 i0 (fun h => absurd h (by decide))).trans ((funext fun i0 => frM_36 321 i0 (fun h => h.elim (fun h => absurd h (by decide)) (fun h => h.elim (fun h => absurd h (by decide)) (fun h => h.elim (fun h => absurd h (by decide)) (fun h => absurd h.1 (by decide)))))).trans ((funext fun i0 => frM_19_2 321 i0 (fun h => h.elim (fun h => absurd h (by decide)) (fun h => h.elim (fun h => absurd h.1 (by decide)) (fun h => absurd h.1 (by decide))))).trans ((funext fun i0 => frM_19_1 321 i0 (fun h => h.elim (fun h => absurd h (by decide)) (fun h => h.elim (fun h => absurd h.1 (by decide)) (fun h => absurd h.1 (by decide))))).trans ((funext fun i0 => frM_19 321 i0 (fun h => h.elim (fun h => absurd h (by decide)) (fun h => h.elim (fun h => absurd h.1 (by decide)) (fun h => absurd h.1 (by decide))))).trans rfl))))))
          refine ax_aload_n dX4_copyFrom_83 rfl rfl (pc' := 84) rfl ?_
          refine ax_getr (v := 50) dX4_copyFrom_84 flX4_34 rfl sh_39 rfl (pc' := 87) rfl ?_
          refine ax_iconst dX4_copyFrom_87 (by decide) (pc' := 88) rfl ?_
          refine ax_aload_n dX4_copyFrom_88 rfl rfl (pc' := 89) rfl ?_
          refine ax_getr (v := 322) dX4_copyFrom_89 flX4_34 rfl sh_311 rfl (pc' := 92) rfl ?_
          refine ax_iconst dX4_copyFrom_92 (by decide) (pc' := 93) rfl ?_
          refine ax_bipush dX4_copyFrom_93 (by decide) (pc' := 95) rfl ?_
          refine ax_copy dX4_copyFrom_95 mlX4_48 sh_50 sh_322 rfl rfl (by omega) (by omega) (by omega) (by omega) (by omega) (Nat.le_of_ble_eq_true rfl) (pc' := 98) rfl ?_
          obtain ⟨MC6, eMC6⟩ : ∃ z, z = ax_cp MC5 50 0 322 0 6 := ⟨_, rfl⟩
          change ax_W _ _ _ _ _ _ _ _ _ _ (ax_cp MC5 50 0 322 0 6) _
          rw [← eMC6]
          have fMC6 := ax_cp_fr eMC6
          have rMC6 := ax_cp_row eMC6 ((funext fun i0 => fMC5 50 i0 (fun h => absurd h (by decide))).trans ((funext fun i0 => fMC4 50 i0 (fun h => absurd h (by decide))).trans ((funext fun i0 => fMC3 50 i0 (fun h => absurd h (by decide))).trans ((funext fun i0 => frM_36 50 i0 (fun h => h.elim (fun h => absurd h (by decide)) (fun h => h.elim (fun h => absurd h (by decide)) (fun h => h.elim (fun h => absurd h (by decide)) (fun h => absurd h.1 (by decide)))))).trans ((funext fun i0 => frM_19_2 50 i0 (fun h => h.elim (fun h => absurd h (by decide)) (fun h => h.elim (fun h => absurd h.1 (by decide)) (fun h => absurd h.1 (by decide))))).trans ((funext fun i0 => frM_19_1 50 i0 (fun h => h.elim (fun h => absurd h (by decide)) (fun h => h.elim (fun h => absurd h.1 (by decide)) (fun h => absurd h.1 (by decide))))).trans ((funext fun i0 => frM_19 50 i0 (fun h => h.elim (fun h => absurd h (by decide)) (fun h => h.elim (fun h => absurd h.1 (by decide)) (fun h => absurd h.1 (by decide))))).trans rfl))))))) ((funext fun i0 => fMC5 322 i0 (fun h => absurd h (by decide))).trans ((funext fun i0 => fMC4 322 i0 (fun h => absurd h (by decide))).trans ((funext fun i0 => fMC3 322 i0 (fun h => absurd h (by decide))).trans ((funext fun i0 => frM_36 322 i0 (fun h => h.elim (fun h => absurd h (by decide)) (fun h => h.elim (fun h => absurd h (by decide)) (fun h => h.elim (fun h => absurd h (by decide)) (fun h => absurd h.1 (by decide)))))).trans ((funext fun i0 => frM_19_2 322 i0 (fun h => h.elim (fun h => absurd h (by decide)) (fun h => h.elim (fun h => absurd h.1 (by decide)) (fun h => absurd h.1 (by decide))))).trans ((funext fun i0 => frM_19_1 322 i0 (fun h => h.elim (fun h => absurd h (by decide)) (fun h => h.elim (fun h => absurd h.1 (by decide)) (fun h => absurd h.1 (by decide))))).trans ((funext fun i0 => frM_19 322 i0 (fun h => h.elim (fun h => absurd h (by decide)) (fun h => h.elim (fun h => absurd h.1 (by decide)) (fun h => absurd h.1 (by decide))))).trans rfl)))))))
          refine ax_aload_n dX4_copyFrom_98 rfl rfl (pc' := 99) rfl ?_
          refine ax_aload_n dX4_copyFrom_99 rfl rfl (pc' := 100) rfl ?_
          refine ax_geti (v := M 39 6) dX4_copyFrom_100 flX4_54 rfl sh_39 ((fMC6 39 6 (fun h => absurd h (by decide))).trans ((fMC5 39 6 (fun h => absurd h (by decide))).trans ((fMC4 39 6 (fun h => absurd h (by decide))).trans ((fMC3 39 6 (fun h => absurd h (by decide))).trans ((frM_36 39 6 (fun h => h.elim (fun h => absurd h (by decide)) (fun h => h.elim (fun h => absurd h (by decide)) (fun h => h.elim (fun h => absurd h (by decide)) (fun h => absurd h.1 (by decide)))))).trans ((frM_19_2 39 6 (fun h => h.elim (fun h => absurd h (by decide)) (fun h => h.elim (fun h => absurd h.1 (by decide)) (fun h => absurd h.1 (by decide))))).trans ((frM_19_1 39 6 (fun h => h.elim (fun h => absurd h (by decide)) (fun h => h.elim (fun h => absurd h.1 (by decide)) (fun h => absurd h.1 (by decide))))).trans ((frM_19 39 6 (fun h => h.elim (fun h => absurd h (by decide)) (fun h => h.elim (fun h => absurd h.1 (by decide)) (fun h => absurd h.1 (by decide))))).trans rfl)))))))) rfl (pc' := 103) rfl ?_
          refine ax_puti dX4_copyFrom_103 flX4_54 (Or.inl rfl) sh_311 rfl (pc' := 106) rfl ?_
          refine ax_aload_n dX4_copyFrom_106 rfl rfl (pc' := 107) rfl ?_
          refine ax_getr (v := 51) dX4_copyFrom_107 flX4_37 rfl sh_39 rfl (pc' := 110) rfl ?_
          refine ax_iconst dX4_copyFrom_110 (by decide) (pc' := 111) rfl ?_
          refine ax_aload_n dX4_copyFrom_111 rfl rfl (pc' := 112) rfl ?_
          refine ax_getr (v := 323) dX4_copyFrom_112 flX4_37 rfl sh_311 rfl (pc' := 115) rfl ?_
          refine ax_iconst dX4_copyFrom_115 (by decide) (pc' := 116) rfl ?_
          refine ax_bipush dX4_copyFrom_116 (by decide) (pc' := 118) rfl ?_
          refine ax_copy dX4_copyFrom_118 mlX4_48 sh_51 sh_323 rfl rfl (by omega) (by omega) (by omega) (by omega) (by omega) (Nat.le_of_ble_eq_true rfl) (pc' := 121) rfl ?_
          obtain ⟨MC7, eMC7⟩ : ∃ z, z = ax_cp (ax_up MC6 311 6 (M 39 6)) 51 0 323 0 7 := ⟨_, rfl⟩
          change ax_W _ _ _ _ _ _ _ _ _ _ (ax_cp (ax_up MC6 311 6 (M 39 6)) 51 0 323 0 7) _
          rw [← eMC7]
          have fMC7 := ax_cp_fr eMC7
          have rMC7 := ax_cp_row eMC7 (ax_up_rowmiss (by decide) ((funext fun i0 => fMC6 51 i0 (fun h => absurd h (by decide))).trans ((funext fun i0 => fMC5 51 i0 (fun h => absurd h (by decide))).trans ((funext fun i0 => fMC4 51 i0 (fun h => absurd h (by decide))).trans ((funext fun i0 => fMC3 51 i0 (fun h => absurd h (by decide))).trans ((funext fun i0 => frM_36 51 i0 (fun h => h.elim (fun h => absurd h (by decide)) (fun h => h.elim (fun h => absurd h (by decide)) (fun h => h.elim (fun h => absurd h (by decide)) (fun h => absurd h.1 (by decide)))))).trans ((funext fun i0 => frM_19_2 51 i0 (fun h => h.elim (fun h => absurd h (by decide)) (fun h => h.elim (fun h => absurd h.1 (by decide)) (fun h => absurd h.1 (by decide))))).trans ((funext fun i0 => frM_19_1 51 i0 (fun h => h.elim (fun h => absurd h (by decide)) (fun h => h.elim (fun h => absurd h.1 (by decide)) (fun h => absurd h.1 (by decide))))).trans ((funext fun i0 => frM_19 51 i0 (fun h => h.elim (fun h => absurd h (by decide)) (fun h => h.elim (fun h => absurd h.1 (by decide)) (fun h => absurd h.1 (by decide))))).trans rfl))))))))) (ax_up_rowmiss (by decide) ((funext fun i0 => fMC6 323 i0 (fun h => absurd h (by decide))).trans ((funext fun i0 => fMC5 323 i0 (fun h => absurd h (by decide))).trans ((funext fun i0 => fMC4 323 i0 (fun h => absurd h (by decide))).trans ((funext fun i0 => fMC3 323 i0 (fun h => absurd h (by decide))).trans ((funext fun i0 => frM_36 323 i0 (fun h => h.elim (fun h => absurd h (by decide)) (fun h => h.elim (fun h => absurd h (by decide)) (fun h => h.elim (fun h => absurd h (by decide)) (fun h => absurd h.1 (by decide)))))).trans ((funext fun i0 => frM_19_2 323 i0 (fun h => h.elim (fun h => absurd h (by decide)) (fun h => h.elim (fun h => absurd h.1 (by decide)) (fun h => absurd h.1 (by decide))))).trans ((funext fun i0 => frM_19_1 323 i0 (fun h => h.elim (fun h => absurd h (by decide)) (fun h => h.elim (fun h => absurd h.1 (by decide)) (fun h => absurd h.1 (by decide))))).trans ((funext fun i0 => frM_19 323 i0 (fun h => h.elim (fun h => absurd h (by decide)) (fun h => h.elim (fun h => absurd h.1 (by decide)) (fun h => absurd h.1 (by decide))))).trans rfl)))))))))
          refine ax_aload_n dX4_copyFrom_121 rfl rfl (pc' := 122) rfl ?_
          refine ax_aload_n dX4_copyFrom_122 rfl rfl (pc' := 123) rfl ?_
          refine ax_geti (v := M 39 8) dX4_copyFrom_123 flX4_58 rfl sh_39 (show MC7 39 8 = M 39 8 from ((fMC7 39 8 (fun h => absurd h (by decide))).trans (ax_up_miss (fun h => absurd h.1 (by decide)) ((fMC6 39 8 (fun h => absurd h (by decide))).trans ((fMC5 39 8 (fun h => absurd h (by decide))).trans ((fMC4 39 8 (fun h => absurd h (by decide))).trans ((fMC3 39 8 (fun h => absurd h (by decide))).trans ((frM_36 39 8 (fun h => h.elim (fun h => absurd h (by decide)) (fun h => h.elim (fun h => absurd h (by decide)) (fun h => h.elim (fun h => absurd h (by decide)) (fun h => absurd h.1 (by decide)))))).trans ((frM_19_2 39 8 (fun h => h.elim (fun h => absurd h (by decide)) (fun h => h.elim (fun h => absurd h.1 (by decide)) (fun h => absurd h.1 (by decide))))).trans ((frM_19_1 39 8 (fun h => h.elim (fun h => absurd h (by decide)) (fun h => h.elim (fun h => absurd h.1 (by decide)) (fun h => absurd h.1 (by decide))))).trans ((frM_19 39 8 (fun h => h.elim (fun h => absurd h (by decide)) (fun h => h.elim (fun h => absurd h.1 (by decide)) (fun h => absurd h.1 (by decide))))).trans rfl))))))))))) rfl (pc' := 126) rfl ?_
          refine ax_puti dX4_copyFrom_126 flX4_58 (Or.inl rfl) sh_311 rfl (pc' := 129) rfl ?_
          refine ax_vret dX4_copyFrom_129 rfl ?_
          refine ⟨rfl, rfl, ?_, ?_⟩
          · intro x0 i0 hai
            exact (ax_up_miss (fun h => hai (by rw [h.1]; decide)) ((fMC7 x0 i0 (fun h => hai (by rw [h]; decide))).trans (ax_up_miss (fun h => hai (by rw [h.1]; decide)) ((fMC6 x0 i0 (fun h => hai (by rw [h]; decide))).trans ((fMC5 x0 i0 (fun h => hai (by rw [h]; decide))).trans ((fMC4 x0 i0 (fun h => hai (by rw [h]; decide))).trans ((fMC3 x0 i0 (fun h => hai (by rw [h]; decide))).trans ((frM_36 x0 i0 (fun h => h.elim (fun h => hai (by rw [h]; decide)) (fun h => h.elim (fun h => hai (by rw [h]; decide)) (fun h => h.elim (fun h => hai (by rw [h]; decide)) (fun h => hai (by rw [h.1]; decide)))))).trans ((frM_19_2 x0 i0 (fun h => h.elim (fun h => hai (by rw [h]; decide)) (fun h => h.elim (fun h => hai (by rw [h.1]; decide)) (fun h => hai (by rw [h.1]; decide))))).trans ((frM_19_1 x0 i0 (fun h => h.elim (fun h => hai (by rw [h]; decide)) (fun h => h.elim (fun h => hai (by rw [h.1]; decide)) (fun h => hai (by rw [h.1]; decide))))).trans ((frM_19 x0 i0 (fun h => h.elim (fun h => hai (by rw [h]; decide)) (fun h => h.elim (fun h => hai (by rw [h.1]; decide)) (fun h => hai (by rw [h.1]; decide))))).trans rfl)))))))))))
          · refine ⟨fun k k1 k2 => ?_, ⟨Eq.trans (ax_up_miss (fun h => absurd h.1 (by decide)) ((fMC7 313 0 (fun h => absurd h (by decide))).trans (ax_up_miss (fun h => absurd h.1 (by decide)) ((fMC6 313 0 (fun h => absurd h (by decide))).trans ((fMC5 313 0 (fun h => absurd h (by decide))).trans ((fMC4 313 0 (fun h => absurd h (by decide))).trans ((fMC3 313 0 (fun h => absurd h (by decide))).trans msM_36_0))))))) hg0.2.1.1, fun i i1 i2 => ?_⟩, fun k k1 k2 => ?_, ⟨Eq.trans (ax_up_miss (by decide) ((fMC7 311 6 (fun h => absurd h (by decide))).trans (ax_up_hit _ _ _ _))) hg0.2.2.2.1.1, fun i i1 i2 => ?_⟩, ⟨Eq.trans (ax_up_hit _ _ _ _) hg0.2.2.2.2.1, fun i i1 i2 => ?_⟩⟩
            · have q := hg0.1 k k1 k2
              rcases (by omega : k = 0 ∨ k = 1 ∨ k = 2) with rfl | rfl | rfl
              · exact ⟨Eq.trans (ax_up_miss (fun h => absurd h.1 (by decide)) ((fMC7 324 0 (fun h => absurd h (by decide))).trans (ax_up_miss (fun h => absurd h.1 (by decide)) ((fMC6 324 0 (fun h => absurd h (by decide))).trans ((fMC5 324 0 (fun h => absurd h (by decide))).trans ((fMC4 324 0 (fun h => absurd h (by decide))).trans ((fMC3 324 0 (fun h => absurd h (by decide))).trans ((frM_36 324 0 (fun h => h.elim (fun h => absurd h (by decide)) (fun h => h.elim (fun h => absurd h (by decide)) (fun h => h.elim (fun h => absurd h (by decide)) (fun h => absurd h.1 (by decide)))))).trans ((frM_19_2 324 0 (fun h => h.elim (fun h => absurd h (by decide)) (fun h => h.elim (fun h => absurd h.1 (by decide)) (fun h => absurd h.1 (by decide))))).trans ((frM_19_1 324 0 (fun h => h.elim (fun h => absurd h (by decide)) (fun h => h.elim (fun h => absurd h.1 (by decide)) (fun h => absurd h.1 (by decide))))).trans msM_19_0)))))))))) q.1, Eq.trans (ax_up_miss (fun h => absurd h.1 (by decide)) ((fMC7 324 1 (fun h => absurd h (by decide))).trans (ax_up_miss (fun h => absurd h.1 (by decide)) ((fMC6 324 1 (fun h => absurd h (by decide))).trans ((fMC5 324 1 (fun h => absurd h (by decide))).trans ((fMC4 324 1 (fun h => absurd h (by decide))).trans ((fMC3 324 1 (fun h => absurd h (by decide))).trans ((frM_36 324 1 (fun h => h.elim (fun h => absurd h (by decide)) (fun h => h.elim (fun h => absurd h (by decide)) (fun h => h.elim (fun h => absurd h (by decide)) (fun h => absurd h.1 (by decide)))))).trans ((frM_19_2 324 1 (fun h => h.elim (fun h => absurd h (by decide)) (fun h => h.elim (fun h => absurd h.1 (by decide)) (fun h => absurd h.1 (by decide))))).trans ((frM_19_1 324 1 (fun h => h.elim (fun h => absurd h (by decide)) (fun h => h.elim (fun h => absurd h.1 (by decide)) (fun h => absurd h.1 (by decide))))).trans msM_19_1)))))))))) q.2.1, q.2.2.1, by
                  show f_fwd ((ax_up MC7 311 8 (M 39 8)) 325) 0 _
                  rw [(show (ax_up MC7 311 8 (M 39 8)) 325 = _ from (ax_up_rowmiss (by decide) ((funext fun i0 => fMC7 325 i0 (fun h => absurd h (by decide))).trans (ax_up_rowmiss (by decide) ((funext fun i0 => fMC6 325 i0 (fun h => absurd h (by decide))).trans ((funext fun i0 => fMC5 325 i0 (fun h => absurd h (by decide))).trans ((funext fun i0 => fMC4 325 i0 (fun h => absurd h (by decide))).trans ((funext fun i0 => fMC3 325 i0 (fun h => absurd h (by decide))).trans ((funext fun i0 => frM_36 325 i0 (fun h => h.elim (fun h => absurd h (by decide)) (fun h => h.elim (fun h => absurd h (by decide)) (fun h => h.elim (fun h => absurd h (by decide)) (fun h => absurd h.1 (by decide)))))).trans ((funext fun i0 => frM_19_2 325 i0 (fun h => h.elim (fun h => absurd h (by decide)) (fun h => h.elim (fun h => absurd h.1 (by decide)) (fun h => absurd h.1 (by decide))))).trans ((funext fun i0 => frM_19_1 325 i0 (fun h => h.elim (fun h => absurd h (by decide)) (fun h => h.elim (fun h => absurd h.1 (by decide)) (fun h => absurd h.1 (by decide))))).trans mrM_19_0)))))))))))]
                  exact f_fwd_cp (Int.le_refl 0) (by omega) q.2.2.2⟩
              · exact ⟨Eq.trans (ax_up_miss (fun h => absurd h.1 (by decide)) ((fMC7 326 0 (fun h => absurd h (by decide))).trans (ax_up_miss (fun h => absurd h.1 (by decide)) ((fMC6 326 0 (fun h => absurd h (by decide))).trans ((fMC5 326 0 (fun h => absurd h (by decide))).trans ((fMC4 326 0 (fun h => absurd h (by decide))).trans ((fMC3 326 0 (fun h => absurd h (by decide))).trans ((frM_36 326 0 (fun h => h.elim (fun h => absurd h (by decide)) (fun h => h.elim (fun h => absurd h (by decide)) (fun h => h.elim (fun h => absurd h (by decide)) (fun h => absurd h.1 (by decide)))))).trans ((frM_19_2 326 0 (fun h => h.elim (fun h => absurd h (by decide)) (fun h => h.elim (fun h => absurd h.1 (by decide)) (fun h => absurd h.1 (by decide))))).trans msM_19_1_0))))))))) q.1, Eq.trans (ax_up_miss (fun h => absurd h.1 (by decide)) ((fMC7 326 1 (fun h => absurd h (by decide))).trans (ax_up_miss (fun h => absurd h.1 (by decide)) ((fMC6 326 1 (fun h => absurd h (by decide))).trans ((fMC5 326 1 (fun h => absurd h (by decide))).trans ((fMC4 326 1 (fun h => absurd h (by decide))).trans ((fMC3 326 1 (fun h => absurd h (by decide))).trans ((frM_36 326 1 (fun h => h.elim (fun h => absurd h (by decide)) (fun h => h.elim (fun h => absurd h (by decide)) (fun h => h.elim (fun h => absurd h (by decide)) (fun h => absurd h.1 (by decide)))))).trans ((frM_19_2 326 1 (fun h => h.elim (fun h => absurd h (by decide)) (fun h => h.elim (fun h => absurd h.1 (by decide)) (fun h => absurd h.1 (by decide))))).trans msM_19_1_1))))))))) q.2.1, q.2.2.1, by
                  show f_fwd ((ax_up MC7 311 8 (M 39 8)) 327) 0 _
                  rw [(show (ax_up MC7 311 8 (M 39 8)) 327 = _ from (ax_up_rowmiss (by decide) ((funext fun i0 => fMC7 327 i0 (fun h => absurd h (by decide))).trans (ax_up_rowmiss (by decide) ((funext fun i0 => fMC6 327 i0 (fun h => absurd h (by decide))).trans ((funext fun i0 => fMC5 327 i0 (fun h => absurd h (by decide))).trans ((funext fun i0 => fMC4 327 i0 (fun h => absurd h (by decide))).trans ((funext fun i0 => fMC3 327 i0 (fun h => absurd h (by decide))).trans ((funext fun i0 => frM_36 327 i0 (fun h => h.elim (fun h => absurd h (by decide)) (fun h => h.elim (fun h => absurd h (by decide)) (fun h => h.elim (fun h => absurd h (by decide)) (fun h => absurd h.1 (by decide)))))).trans ((funext fun i0 => frM_19_2 327 i0 (fun h => h.elim (fun h => absurd h (by decide)) (fun h => h.elim (fun h => absurd h.1 (by decide)) (fun h => absurd h.1 (by decide))))).trans mrM_19_1_0))))))))))]
                  exact f_fwd_cp (Int.le_refl 0) (by omega) q.2.2.2⟩
              · exact ⟨Eq.trans (ax_up_miss (fun h => absurd h.1 (by decide)) ((fMC7 328 0 (fun h => absurd h (by decide))).trans (ax_up_miss (fun h => absurd h.1 (by decide)) ((fMC6 328 0 (fun h => absurd h (by decide))).trans ((fMC5 328 0 (fun h => absurd h (by decide))).trans ((fMC4 328 0 (fun h => absurd h (by decide))).trans ((fMC3 328 0 (fun h => absurd h (by decide))).trans ((frM_36 328 0 (fun h => h.elim (fun h => absurd h (by decide)) (fun h => h.elim (fun h => absurd h (by decide)) (fun h => h.elim (fun h => absurd h (by decide)) (fun h => absurd h.1 (by decide)))))).trans msM_19_2_0)))))))) q.1, Eq.trans (ax_up_miss (fun h => absurd h.1 (by decide)) ((fMC7 328 1 (fun h => absurd h (by decide))).trans (ax_up_miss (fun h => absurd h.1 (by decide)) ((fMC6 328 1 (fun h => absurd h (by decide))).trans ((fMC5 328 1 (fun h => absurd h (by decide))).trans ((fMC4 328 1 (fun h => absurd h (by decide))).trans ((fMC3 328 1 (fun h => absurd h (by decide))).trans ((frM_36 328 1 (fun h => h.elim (fun h => absurd h (by decide)) (fun h => h.elim (fun h => absurd h (by decide)) (fun h => h.elim (fun h => absurd h (by decide)) (fun h => absurd h.1 (by decide)))))).trans msM_19_2_1)))))))) q.2.1, q.2.2.1, by
                  show f_fwd ((ax_up MC7 311 8 (M 39 8)) 329) 0 _
                  rw [(show (ax_up MC7 311 8 (M 39 8)) 329 = _ from (ax_up_rowmiss (by decide) ((funext fun i0 => fMC7 329 i0 (fun h => absurd h (by decide))).trans (ax_up_rowmiss (by decide) ((funext fun i0 => fMC6 329 i0 (fun h => absurd h (by decide))).trans ((funext fun i0 => fMC5 329 i0 (fun h => absurd h (by decide))).trans ((funext fun i0 => fMC4 329 i0 (fun h => absurd h (by decide))).trans ((funext fun i0 => fMC3 329 i0 (fun h => absurd h (by decide))).trans ((funext fun i0 => frM_36 329 i0 (fun h => h.elim (fun h => absurd h (by decide)) (fun h => h.elim (fun h => absurd h (by decide)) (fun h => h.elim (fun h => absurd h (by decide)) (fun h => absurd h.1 (by decide)))))).trans mrM_19_2_0)))))))))]
                  exact f_fwd_cp (Int.le_refl 0) (by omega) q.2.2.2⟩
            · show (ax_up MC7 311 8 (M 39 8)) 314 i = _ ∧ (ax_up MC7 311 8 (M 39 8)) 315 i = _ ∧ (ax_up MC7 311 8 (M 39 8)) 316 i = _
              rw [(show (ax_up MC7 311 8 (M 39 8)) 314 = _ from (ax_up_rowmiss (by decide) ((funext fun i0 => fMC7 314 i0 (fun h => absurd h (by decide))).trans (ax_up_rowmiss (by decide) ((funext fun i0 => fMC6 314 i0 (fun h => absurd h (by decide))).trans ((funext fun i0 => fMC5 314 i0 (fun h => absurd h (by decide))).trans ((funext fun i0 => fMC4 314 i0 (fun h => absurd h (by decide))).trans ((funext fun i0 => fMC3 314 i0 (fun h => absurd h (by decide))).trans mrM_36_0)))))))), (show (ax_up MC7 311 8 (M 39 8)) 315 = _ from (ax_up_rowmiss (by decide) ((funext fun i0 => fMC7 315 i0 (fun h => absurd h (by decide))).trans (ax_up_rowmiss (by decide) ((funext fun i0 => fMC6 315 i0 (fun h => absurd h (by decide))).trans ((funext fun i0 => fMC5 315 i0 (fun h => absurd h (by decide))).trans ((funext fun i0 => fMC4 315 i0 (fun h => absurd h (by decide))).trans ((funext fun i0 => fMC3 315 i0 (fun h => absurd h (by decide))).trans mrM_36_1)))))))), (show (ax_up MC7 311 8 (M 39 8)) 316 = _ from (ax_up_rowmiss (by decide) ((funext fun i0 => fMC7 316 i0 (fun h => absurd h (by decide))).trans (ax_up_rowmiss (by decide) ((funext fun i0 => fMC6 316 i0 (fun h => absurd h (by decide))).trans ((funext fun i0 => fMC5 316 i0 (fun h => absurd h (by decide))).trans ((funext fun i0 => fMC4 316 i0 (fun h => absurd h (by decide))).trans ((funext fun i0 => fMC3 316 i0 (fun h => absurd h (by decide))).trans mrM_36_2)))))))), f_cp_in ⟨i1, by omega⟩, f_cp_in ⟨i1, by omega⟩, f_cp_in ⟨i1, by omega⟩]
              exact hg0.2.1.2 i i1 i2
            · have q := hg0.2.2.1 k k1 k2
              have qs := hg2 k k1 k2
              refine ⟨?_, fun i i1 i2 => ?_⟩
              · show (ax_up MC7 311 8 (M 39 8)) 320 k = _
                rw [(show (ax_up MC7 311 8 (M 39 8)) 320 = _ from (ax_up_rowmiss (by decide) ((funext fun i0 => fMC7 320 i0 (fun h => absurd h (by decide))).trans (ax_up_rowmiss (by decide) ((funext fun i0 => fMC6 320 i0 (fun h => absurd h (by decide))).trans ((funext fun i0 => fMC5 320 i0 (fun h => absurd h (by decide))).trans rMC4)))))), f_cp_in ⟨k1, by omega⟩]
                exact q.1
              · show (ax_up MC7 311 8 (M 39 8)) 319 (k * 7 + i) = _
                rw [(show (ax_up MC7 311 8 (M 39 8)) 319 = _ from (ax_up_rowmiss (by decide) ((funext fun i0 => fMC7 319 i0 (fun h => absurd h (by decide))).trans (ax_up_rowmiss (by decide) ((funext fun i0 => fMC6 319 i0 (fun h => absurd h (by decide))).trans ((funext fun i0 => fMC5 319 i0 (fun h => absurd h (by decide))).trans ((funext fun i0 => fMC4 319 i0 (fun h => absurd h (by decide))).trans rMC3))))))), f_cp_in ⟨by omega, by omega⟩]
                exact q.2 i i1 i2
            · show (ax_up MC7 311 8 (M 39 8)) 321 i = _ ∧ (ax_up MC7 311 8 (M 39 8)) 322 i = _
              rw [(show (ax_up MC7 311 8 (M 39 8)) 321 = _ from (ax_up_rowmiss (by decide) ((funext fun i0 => fMC7 321 i0 (fun h => absurd h (by decide))).trans (ax_up_rowmiss (by decide) ((funext fun i0 => fMC6 321 i0 (fun h => absurd h (by decide))).trans rMC5))))), (show (ax_up MC7 311 8 (M 39 8)) 322 = _ from (ax_up_rowmiss (by decide) ((funext fun i0 => fMC7 322 i0 (fun h => absurd h (by decide))).trans (ax_up_rowmiss (by decide) rMC6)))), f_cp_in ⟨i1, by omega⟩, f_cp_in ⟨i1, by omega⟩]
              exact hg0.2.2.2.1.2 i i1 i2
            · show (ax_up MC7 311 8 (M 39 8)) 323 i = _
              rw [(show (ax_up MC7 311 8 (M 39 8)) 323 = _ from (ax_up_rowmiss (by decide) rMC7)), f_cp_in ⟨i1, by omega⟩]
              exact hg0.2.2.2.2.2 i i1 i2
        · exfalso
          omega
set_option maxRecDepth 20000 in
theorem s_X4_copy_ba (E : ax_Env) (l : Launch) (d : Nat) (hd : 2 ≤ d) (M : ax_Mem) (w : Int → Int) (Ls : Int → List f_Ln) (hg0 : f_lor M 311 w Ls) (hg1 : w 2600 ≤ 150 ∧ w 2577 ≤ 6 ∧ w 2578 ≤ 7) (hg2 : f_shp w) : ax_G E l d iX4_copyFrom [.inr 39, .inr 311] M (fun z0 M2 => z0 = none ∧ (∀ x0 i0 : Int, ¬ ((39 ≤ x0 ∧ x0 < 58)) → M2 x0 i0 = M x0 i0) ∧ (f_lor M2 39 w Ls)) := by
  obtain ⟨d, rfl⟩ : ∃ d0, d = d0 + 1 := ⟨d - 1, by omega⟩
  refine ax_start rfl (Nat.le_of_ble_eq_true rfl) (ls := [some (.inr 39), some (.inr 311), none]) rfl (fun hav hcm => ?_)
  clear hav
  refine ax_iconst dX4_copyFrom_0 (by decide) (pc' := 1) rfl ?_
  refine ax_istore_n dX4_copyFrom_1 rfl (by decide) (ls' := [some (.inr 39), some (.inr 311), some (.inl 0)]) rfl (pc' := 2) rfl ?_
  refine ax_iload_n dX4_copyFrom_2 rfl rfl (pc' := 3) rfl ?_
  refine ax_iconst dX4_copyFrom_3 (by decide) (pc' := 4) rfl ?_
  refine ax_icmp_ge (tgt := 28) dX4_copyFrom_4 (by decide) (pc' := 7) rfl (fun h4 => ?_) (fun h4 => ?_)
  · exfalso
    omega
  · refine ax_aload_n dX4_copyFrom_7 rfl rfl (pc' := 8) rfl ?_
    refine ax_getr (v := 40) dX4_copyFrom_8 flX4_11 rfl sh_39 rfl (pc' := 11) rfl ?_
    refine ax_iload_n dX4_copyFrom_11 rfl rfl (pc' := 12) rfl ?_
    refine ax_aald (v := 52) dX4_copyFrom_12 sh_40 (by decide) (by decide) (by decide) rfl (pc' := 13) rfl ?_
    refine ax_aload_n dX4_copyFrom_13 rfl rfl (pc' := 14) rfl ?_
    refine ax_getr (v := 312) dX4_copyFrom_14 flX4_11 rfl sh_311 rfl (pc' := 17) rfl ?_
    refine ax_iload_n dX4_copyFrom_17 rfl rfl (pc' := 18) rfl ?_
    refine ax_aald (v := 324) dX4_copyFrom_18 sh_312 (by decide) (by decide) (by decide) rfl (pc' := 19) rfl ?_
    refine ax_invG [.inr 324] [] dX4_copyFrom_19 mlX4_41 sh_52 rfl rfl rfl (Nat.le_of_ble_eq_true rfl) (s_X3_copyFrom E l _ (by omega) _ 52 324 rfl rfl rfl rfl ⟨by first | exact sh_52 | exact sh_54 | exact sh_56, by first | exact sh_53 | exact sh_55 | exact sh_57⟩ ⟨by first | exact sh_324 | exact sh_326 | exact sh_328, by first | exact sh_325 | exact sh_327 | exact sh_329⟩ (by decide)) (pc' := 22) rfl (fun vv M_19 hq co19 hcm19 => ?_)
    obtain ⟨rfl, frM_19, mrM_19_0, msM_19_0, msM_19_1⟩ := hq
    refine ax_reS (st2 := []) rfl ?_
    refine ax_iinc dX4_copyFrom_22 rfl (by decide) (by omega) (ls' := [some (.inr 39), some (.inr 311), some (.inl 1)]) rfl (pc' := 25) rfl ?_
    refine ax_goto dX4_copyFrom_25 (pc' := 2) (by decide) ?_
    refine ax_iload_n dX4_copyFrom_2 rfl rfl (pc' := 3) rfl ?_
    refine ax_iconst dX4_copyFrom_3 (by decide) (pc' := 4) rfl ?_
    refine ax_icmp_ge (tgt := 28) dX4_copyFrom_4 (by decide) (pc' := 7) rfl (fun h4 => ?_) (fun h4 => ?_)
    · exfalso
      omega
    · refine ax_aload_n dX4_copyFrom_7 rfl rfl (pc' := 8) rfl ?_
      refine ax_getr (v := 40) dX4_copyFrom_8 flX4_11 rfl sh_39 rfl (pc' := 11) rfl ?_
      refine ax_iload_n dX4_copyFrom_11 rfl rfl (pc' := 12) rfl ?_
      refine ax_aald (v := 54) dX4_copyFrom_12 sh_40 (by decide) (by decide) (by decide) rfl (pc' := 13) rfl ?_
      refine ax_aload_n dX4_copyFrom_13 rfl rfl (pc' := 14) rfl ?_
      refine ax_getr (v := 312) dX4_copyFrom_14 flX4_11 rfl sh_311 rfl (pc' := 17) rfl ?_
      refine ax_iload_n dX4_copyFrom_17 rfl rfl (pc' := 18) rfl ?_
      refine ax_aald (v := 326) dX4_copyFrom_18 sh_312 (by decide) (by decide) (by decide) rfl (pc' := 19) rfl ?_
      refine ax_invG [.inr 326] [] dX4_copyFrom_19 mlX4_41 sh_54 rfl rfl rfl (Nat.le_of_ble_eq_true rfl) (s_X3_copyFrom E l _ (by omega) _ 54 326 ((funext fun i0 => frM_19 55 i0 (fun h => h.elim (fun h => absurd h (by decide)) (fun h => h.elim (fun h => absurd h.1 (by decide)) (fun h => absurd h.1 (by decide))))).trans rfl) ((funext fun i0 => frM_19 327 i0 (fun h => h.elim (fun h => absurd h (by decide)) (fun h => h.elim (fun h => absurd h.1 (by decide)) (fun h => absurd h.1 (by decide))))).trans rfl) ((frM_19 326 0 (fun h => h.elim (fun h => absurd h (by decide)) (fun h => h.elim (fun h => absurd h.1 (by decide)) (fun h => absurd h.1 (by decide))))).trans rfl) ((frM_19 326 1 (fun h => h.elim (fun h => absurd h (by decide)) (fun h => h.elim (fun h => absurd h.1 (by decide)) (fun h => absurd h.1 (by decide))))).trans rfl) ⟨by first | exact sh_52 | exact sh_54 | exact sh_56, by first | exact sh_53 | exact sh_55 | exact sh_57⟩ ⟨by first | exact sh_324 | exact sh_326 | exact sh_328, by first | exact sh_325 | exact sh_327 | exact sh_329⟩ (by decide)) (pc' := 22) rfl (fun vv M_19_1 hq co19 hcm19 => ?_)
      obtain ⟨rfl, frM_19_1, mrM_19_1_0, msM_19_1_0, msM_19_1_1⟩ := hq
      refine ax_reS (st2 := []) rfl ?_
      refine ax_iinc dX4_copyFrom_22 rfl (by decide) (by omega) (ls' := [some (.inr 39), some (.inr 311), some (.inl 2)]) rfl (pc' := 25) rfl ?_
      refine ax_goto dX4_copyFrom_25 (pc' := 2) (by decide) ?_
      refine ax_iload_n dX4_copyFrom_2 rfl rfl (pc' := 3) rfl ?_
      refine ax_iconst dX4_copyFrom_3 (by decide) (pc' := 4) rfl ?_
      refine ax_icmp_ge (tgt := 28) dX4_copyFrom_4 (by decide) (pc' := 7) rfl (fun h4 => ?_) (fun h4 => ?_)
      · exfalso
        omega
      · refine ax_aload_n dX4_copyFrom_7 rfl rfl (pc' := 8) rfl ?_
        refine ax_getr (v := 40) dX4_copyFrom_8 flX4_11 rfl sh_39 rfl (pc' := 11) rfl ?_
        refine ax_iload_n dX4_copyFrom_11 rfl rfl (pc' := 12) rfl ?_
        refine ax_aald (v := 56) dX4_copyFrom_12 sh_40 (by decide) (by decide) (by decide) rfl (pc' := 13) rfl ?_
        refine ax_aload_n dX4_copyFrom_13 rfl rfl (pc' := 14) rfl ?_
        refine ax_getr (v := 312) dX4_copyFrom_14 flX4_11 rfl sh_311 rfl (pc' := 17) rfl ?_
        refine ax_iload_n dX4_copyFrom_17 rfl rfl (pc' := 18) rfl ?_
        refine ax_aald (v := 328) dX4_copyFrom_18 sh_312 (by decide) (by decide) (by decide) rfl (pc' := 19) rfl ?_
        refine ax_invG [.inr 328] [] dX4_copyFrom_19 mlX4_41 sh_56 rfl rfl rfl (Nat.le_of_ble_eq_true rfl) (s_X3_copyFrom E l _ (by omega) _ 56 328 ((funext fun i0 => frM_19_1 57 i0 (fun h => h.elim (fun h => absurd h (by decide)) (fun h => h.elim (fun h => absurd h.1 (by decide)) (fun h => absurd h.1 (by decide))))).trans ((funext fun i0 => frM_19 57 i0 (fun h => h.elim (fun h => absurd h (by decide)) (fun h => h.elim (fun h => absurd h.1 (by decide)) (fun h => absurd h.1 (by decide))))).trans rfl)) ((funext fun i0 => frM_19_1 329 i0 (fun h => h.elim (fun h => absurd h (by decide)) (fun h => h.elim (fun h => absurd h.1 (by decide)) (fun h => absurd h.1 (by decide))))).trans ((funext fun i0 => frM_19 329 i0 (fun h => h.elim (fun h => absurd h (by decide)) (fun h => h.elim (fun h => absurd h.1 (by decide)) (fun h => absurd h.1 (by decide))))).trans rfl)) ((frM_19_1 328 0 (fun h => h.elim (fun h => absurd h (by decide)) (fun h => h.elim (fun h => absurd h.1 (by decide)) (fun h => absurd h.1 (by decide))))).trans ((frM_19 328 0 (fun h => h.elim (fun h => absurd h (by decide)) (fun h => h.elim (fun h => absurd h.1 (by decide)) (fun h => absurd h.1 (by decide))))).trans rfl)) ((frM_19_1 328 1 (fun h => h.elim (fun h => absurd h (by decide)) (fun h => h.elim (fun h => absurd h.1 (by decide)) (fun h => absurd h.1 (by decide))))).trans ((frM_19 328 1 (fun h => h.elim (fun h => absurd h (by decide)) (fun h => h.elim (fun h => absurd h.1 (by decide)) (fun h => absurd h.1 (by decide))))).trans rfl)) ⟨by first | exact sh_52 | exact sh_54 | exact sh_56, by first | exact sh_53 | exact sh_55 | exact sh_57⟩ ⟨by first | exact sh_324 | exact sh_326 | exact sh_328, by first | exact sh_325 | exact sh_327 | exact sh_329⟩ (by decide)) (pc' := 22) rfl (fun vv M_19_2 hq co19 hcm19 => ?_)
        obtain ⟨rfl, frM_19_2, mrM_19_2_0, msM_19_2_0, msM_19_2_1⟩ := hq
        refine ax_reS (st2 := []) rfl ?_
        refine ax_iinc dX4_copyFrom_22 rfl (by decide) (by omega) (ls' := [some (.inr 39), some (.inr 311), some (.inl 3)]) rfl (pc' := 25) rfl ?_
        refine ax_goto dX4_copyFrom_25 (pc' := 2) (by decide) ?_
        refine ax_iload_n dX4_copyFrom_2 rfl rfl (pc' := 3) rfl ?_
        refine ax_iconst dX4_copyFrom_3 (by decide) (pc' := 4) rfl ?_
        refine ax_icmp_ge (tgt := 28) dX4_copyFrom_4 (by decide) (pc' := 7) rfl (fun h4 => ?_) (fun h4 => ?_)
        · refine ax_aload_n dX4_copyFrom_28 rfl rfl (pc' := 29) rfl ?_
          refine ax_getr (v := 41) dX4_copyFrom_29 flX4_20 rfl sh_39 rfl (pc' := 32) rfl ?_
          refine ax_aload_n dX4_copyFrom_32 rfl rfl (pc' := 33) rfl ?_
          refine ax_getr (v := 313) dX4_copyFrom_33 flX4_20 rfl sh_311 rfl (pc' := 36) rfl ?_
          refine ax_invG [.inr 313] [] dX4_copyFrom_36 mlX4_45 sh_41 rfl rfl rfl (Nat.le_of_ble_eq_true rfl) (s_X1_copyFrom E l _ (by omega) _ 41 313 ((funext fun i0 => frM_19_2 42 i0 (fun h => h.elim (fun h => absurd h (by decide)) (fun h => h.elim (fun h => absurd h.1 (by decide)) (fun h => absurd h.1 (by decide))))).trans ((funext fun i0 => frM_19_1 42 i0 (fun h => h.elim (fun h => absurd h (by decide)) (fun h => h.elim (fun h => absurd h.1 (by decide)) (fun h => absurd h.1 (by decide))))).trans ((funext fun i0 => frM_19 42 i0 (fun h => h.elim (fun h => absurd h (by decide)) (fun h => h.elim (fun h => absurd h.1 (by decide)) (fun h => absurd h.1 (by decide))))).trans rfl))) ((funext fun i0 => frM_19_2 43 i0 (fun h => h.elim (fun h => absurd h (by decide)) (fun h => h.elim (fun h => absurd h.1 (by decide)) (fun h => absurd h.1 (by decide))))).trans ((funext fun i0 => frM_19_1 43 i0 (fun h => h.elim (fun h => absurd h (by decide)) (fun h => h.elim (fun h => absurd h.1 (by decide)) (fun h => absurd h.1 (by decide))))).trans ((funext fun i0 => frM_19 43 i0 (fun h => h.elim (fun h => absurd h (by decide)) (fun h => h.elim (fun h => absurd h.1 (by decide)) (fun h => absurd h.1 (by decide))))).trans rfl))) ((funext fun i0 => frM_19_2 44 i0 (fun h => h.elim (fun h => absurd h (by decide)) (fun h => h.elim (fun h => absurd h.1 (by decide)) (fun h => absurd h.1 (by decide))))).trans ((funext fun i0 => frM_19_1 44 i0 (fun h => h.elim (fun h => absurd h (by decide)) (fun h => h.elim (fun h => absurd h.1 (by decide)) (fun h => absurd h.1 (by decide))))).trans ((funext fun i0 => frM_19 44 i0 (fun h => h.elim (fun h => absurd h (by decide)) (fun h => h.elim (fun h => absurd h.1 (by decide)) (fun h => absurd h.1 (by decide))))).trans rfl))) ((funext fun i0 => frM_19_2 314 i0 (fun h => h.elim (fun h => absurd h (by decide)) (fun h => h.elim (fun h => absurd h.1 (by decide)) (fun h => absurd h.1 (by decide))))).trans ((funext fun i0 => frM_19_1 314 i0 (fun h => h.elim (fun h => absurd h (by decide)) (fun h => h.elim (fun h => absurd h.1 (by decide)) (fun h => absurd h.1 (by decide))))).trans ((funext fun i0 => frM_19 314 i0 (fun h => h.elim (fun h => absurd h (by decide)) (fun h => h.elim (fun h => absurd h.1 (by decide)) (fun h => absurd h.1 (by decide))))).trans rfl))) ((funext fun i0 => frM_19_2 315 i0 (fun h => h.elim (fun h => absurd h (by decide)) (fun h => h.elim (fun h => absurd h.1 (by decide)) (fun h => absurd h.1 (by decide))))).trans ((funext fun i0 => frM_19_1 315 i0 (fun h => h.elim (fun h => absurd h (by decide)) (fun h => h.elim (fun h => absurd h.1 (by decide)) (fun h => absurd h.1 (by decide))))).trans ((funext fun i0 => frM_19 315 i0 (fun h => h.elim (fun h => absurd h (by decide)) (fun h => h.elim (fun h => absurd h.1 (by decide)) (fun h => absurd h.1 (by decide))))).trans rfl))) ((funext fun i0 => frM_19_2 316 i0 (fun h => h.elim (fun h => absurd h (by decide)) (fun h => h.elim (fun h => absurd h.1 (by decide)) (fun h => absurd h.1 (by decide))))).trans ((funext fun i0 => frM_19_1 316 i0 (fun h => h.elim (fun h => absurd h (by decide)) (fun h => h.elim (fun h => absurd h.1 (by decide)) (fun h => absurd h.1 (by decide))))).trans ((funext fun i0 => frM_19 316 i0 (fun h => h.elim (fun h => absurd h (by decide)) (fun h => h.elim (fun h => absurd h.1 (by decide)) (fun h => absurd h.1 (by decide))))).trans rfl))) ((frM_19_2 313 0 (fun h => h.elim (fun h => absurd h (by decide)) (fun h => h.elim (fun h => absurd h.1 (by decide)) (fun h => absurd h.1 (by decide))))).trans ((frM_19_1 313 0 (fun h => h.elim (fun h => absurd h (by decide)) (fun h => h.elim (fun h => absurd h.1 (by decide)) (fun h => absurd h.1 (by decide))))).trans ((frM_19 313 0 (fun h => h.elim (fun h => absurd h (by decide)) (fun h => h.elim (fun h => absurd h.1 (by decide)) (fun h => absurd h.1 (by decide))))).trans rfl))) ⟨sh_41, sh_42, sh_43, sh_44⟩ ⟨sh_313, sh_314, sh_315, sh_316⟩ (by decide)) (pc' := 39) rfl (fun vv M_36 hq co36 hcm36 => ?_)
          obtain ⟨rfl, frM_36, mrM_36_0, mrM_36_1, mrM_36_2, msM_36_0⟩ := hq
          refine ax_reS (st2 := []) rfl ?_
          refine ax_aload_n dX4_copyFrom_39 rfl rfl (pc' := 40) rfl ?_
          refine ax_getr (v := 319) dX4_copyFrom_40 flX4_24 rfl sh_311 rfl (pc' := 43) rfl ?_
          refine ax_iconst dX4_copyFrom_43 (by decide) (pc' := 44) rfl ?_
          refine ax_aload_n dX4_copyFrom_44 rfl rfl (pc' := 45) rfl ?_
          refine ax_getr (v := 47) dX4_copyFrom_45 flX4_24 rfl sh_39 rfl (pc' := 48) rfl ?_
          refine ax_iconst dX4_copyFrom_48 (by decide) (pc' := 49) rfl ?_
          refine ax_bipush dX4_copyFrom_49 (by decide) (pc' := 51) rfl ?_
          refine ax_copy dX4_copyFrom_51 mlX4_48 sh_319 sh_47 rfl rfl (by omega) (by omega) (by omega) (by omega) (by omega) (Nat.le_of_ble_eq_true rfl) (pc' := 54) rfl ?_
          obtain ⟨MC3, eMC3⟩ : ∃ z, z = ax_cp M_36 319 0 47 0 28 := ⟨_, rfl⟩
          change ax_W _ _ _ _ _ _ _ _ _ _ (ax_cp M_36 319 0 47 0 28) _
          rw [← eMC3]
          have fMC3 := ax_cp_fr eMC3
          have rMC3 := ax_cp_row eMC3 ((funext fun i0 => frM_36 319 i0 (fun h => h.elim (fun h => absurd h (by decide)) (fun h => h.elim (fun h => absurd h (by decide)) (fun h => h.elim (fun h => absurd h (by decide)) (fun h => absurd h.1 (by decide)))))).trans ((funext fun i0 => frM_19_2 319 i0 (fun h => h.elim (fun h => absurd h (by decide)) (fun h => h.elim (fun h => absurd h.1 (by decide)) (fun h => absurd h.1 (by decide))))).trans ((funext fun i0 => frM_19_1 319 i0 (fun h => h.elim (fun h => absurd h (by decide)) (fun h => h.elim (fun h => absurd h.1 (by decide)) (fun h => absurd h.1 (by decide))))).trans ((funext fun i0 => frM_19 319 i0 (fun h => h.elim (fun h => absurd h (by decide)) (fun h => h.elim (fun h => absurd h.1 (by decide)) (fun h => absurd h.1 (by decide))))).trans rfl)))) ((funext fun i0 => frM_36 47 i0 (fun h => h.elim (fun h => absurd h (by decide)) (fun h => h.elim (fun h => absurd h (by decide)) (fun h => h.elim (fun h => absurd h (by decide)) (fun h => absurd h.1 (by decide)))))).trans ((funext fun i0 => frM_19_2 47 i0 (fun h => h.elim (fun h => absurd h (by decide)) (fun h => h.elim (fun h => absurd h.1 (by decide)) (fun h => absurd h.1 (by decide))))).trans ((funext fun i0 => frM_19_1 47 i0 (fun h => h.elim (fun h => absurd h (by decide)) (fun h => h.elim (fun h => absurd h.1 (by decide)) (fun h => absurd h.1 (by decide))))).trans ((funext fun i0 => frM_19 47 i0 (fun h => h.elim (fun h => absurd h (by decide)) (fun h => h.elim (fun h => absurd h.1 (by decide)) (fun h => absurd h.1 (by decide))))).trans rfl))))
          refine ax_aload_n dX4_copyFrom_54 rfl rfl (pc' := 55) rfl ?_
          refine ax_getr (v := 320) dX4_copyFrom_55 flX4_28 rfl sh_311 rfl (pc' := 58) rfl ?_
          refine ax_iconst dX4_copyFrom_58 (by decide) (pc' := 59) rfl ?_
          refine ax_aload_n dX4_copyFrom_59 rfl rfl (pc' := 60) rfl ?_
          refine ax_getr (v := 48) dX4_copyFrom_60 flX4_28 rfl sh_39 rfl (pc' := 63) rfl ?_
          refine ax_iconst dX4_copyFrom_63 (by decide) (pc' := 64) rfl ?_
          refine ax_iconst dX4_copyFrom_64 (by decide) (pc' := 65) rfl ?_
          refine ax_copy dX4_copyFrom_65 mlX4_48 sh_320 sh_48 rfl rfl (by omega) (by omega) (by omega) (by omega) (by omega) (Nat.le_of_ble_eq_true rfl) (pc' := 68) rfl ?_
          obtain ⟨MC4, eMC4⟩ : ∃ z, z = ax_cp MC3 320 0 48 0 4 := ⟨_, rfl⟩
          change ax_W _ _ _ _ _ _ _ _ _ _ (ax_cp MC3 320 0 48 0 4) _
          rw [← eMC4]
          have fMC4 := ax_cp_fr eMC4
          have rMC4 := ax_cp_row eMC4 ((funext fun i0 => fMC3 320 i0 (fun h => absurd h (by decide))).trans ((funext fun i0 => frM_36 320 i0 (fun h => h.elim (fun h => absurd h (by decide)) (fun h => h.elim (fun h => absurd h (by decide)) (fun h => h.elim (fun h => absurd h (by decide)) (fun h => absurd h.1 (by decide)))))).trans ((funext fun i0 => frM_19_2 320 i0 (fun h => h.elim (fun h => absurd h (by decide)) (fun h => h.elim (fun h => absurd h.1 (by decide)) (fun h => absurd h.1 (by decide))))).trans ((funext fun i0 => frM_19_1 320 i0 (fun h => h.elim (fun h => absurd h (by decide)) (fun h => h.elim (fun h => absurd h.1 (by decide)) (fun h => absurd h.1 (by decide))))).trans ((funext fun i0 => frM_19 320 i0 (fun h => h.elim (fun h => absurd h (by decide)) (fun h => h.elim (fun h => absurd h.1 (by decide)) (fun h => absurd h.1 (by decide))))).trans rfl))))) ((funext fun i0 => fMC3 48 i0 (fun h => absurd h (by decide))).trans ((funext fun i0 => frM_36 48 i0 (fun h => h.elim (fun h => absurd h (by decide)) (fun h => h.elim (fun h => absurd h (by decide)) (fun h => h.elim (fun h => absurd h (by decide)) (fun h => absurd h.1 (by decide)))))).trans ((funext fun i0 => frM_19_2 48 i0 (fun h => h.elim (fun h => absurd h (by decide)) (fun h => h.elim (fun h => absurd h.1 (by decide)) (fun h => absurd h.1 (by decide))))).trans ((funext fun i0 => frM_19_1 48 i0 (fun h => h.elim (fun h => absurd h (by decide)) (fun h => h.elim (fun h => absurd h.1 (by decide)) (fun h => absurd h.1 (by decide))))).trans ((funext fun i0 => frM_19 48 i0 (fun h => h.elim (fun h => absurd h (by decide)) (fun h => h.elim (fun h => absurd h.1 (by decide)) (fun h => absurd h.1 (by decide))))).trans rfl)))))
          refine ax_aload_n dX4_copyFrom_68 rfl rfl (pc' := 69) rfl ?_
          refine ax_getr (v := 321) dX4_copyFrom_69 flX4_31 rfl sh_311 rfl (pc' := 72) rfl ?_
          refine ax_iconst dX4_copyFrom_72 (by decide) (pc' := 73) rfl ?_
          refine ax_aload_n dX4_copyFrom_73 rfl rfl (pc' := 74) rfl ?_
          refine ax_getr (v := 49) dX4_copyFrom_74 flX4_31 rfl sh_39 rfl (pc' := 77) rfl ?_
          refine ax_iconst dX4_copyFrom_77 (by decide) (pc' := 78) rfl ?_
          refine ax_bipush dX4_copyFrom_78 (by decide) (pc' := 80) rfl ?_
          refine ax_copy dX4_copyFrom_80 mlX4_48 sh_321 sh_49 rfl rfl (by omega) (by omega) (by omega) (by omega) (by omega) (Nat.le_of_ble_eq_true rfl) (pc' := 83) rfl ?_
          obtain ⟨MC5, eMC5⟩ : ∃ z, z = ax_cp MC4 321 0 49 0 6 := ⟨_, rfl⟩
          change ax_W _ _ _ _ _ _ _ _ _ _ (ax_cp MC4 321 0 49 0 6) _
          rw [← eMC5]
          have fMC5 := ax_cp_fr eMC5
          have rMC5 := ax_cp_row eMC5 ((funext fun i0 => fMC4 321 i0 (fun h => absurd h (by decide))).trans ((funext fun i0 => fMC3 321 i0 (fun h => absurd h (by decide))).trans ((funext fun i0 => frM_36 321 i0 (fun h => h.elim (fun h => absurd h (by decide)) (fun h => h.elim (fun h => absurd h (by decide)) (fun h => h.elim (fun h => absurd h (by decide)) (fun h => absurd h.1 (by decide)))))).trans ((funext fun i0 => frM_19_2 321 i0 (fun h => h.elim (fun h => absurd h (by decide)) (fun h => h.elim (fun h => absurd h.1 (by decide)) (fun h => absurd h.1 (by decide))))).trans ((funext fun i0 => frM_19_1 321 i0 (fun h => h.elim (fun h => absurd h (by decide)) (fun h => h.elim (fun h => absurd h.1 (by decide)) (fun h => absurd h.1 (by decide))))).trans ((funext fun i0 => frM_19 321 i0 (fun h => h.elim (fun h => absurd h (by decide)) (fun h => h.elim (fun h => absurd h.1 (by decide)) (fun h => absurd h.1 (by decide))))).trans rfl)))))) ((funext fun i0 => fMC4 49 i0 (fun h => absurd h (by decide))).trans ((funext fun i0 => fMC3 49 i0 (fun h => absurd h (by decide))).trans ((funext fun i0 => frM_36 49 i0 (fun h => h.elim (fun h => absurd h (by decide)) (fun h => h.elim (fun h => absurd h (by decide)) (fun h => h.elim (fun h => absurd h (by decide)) (fun h => absurd h.1 (by decide)))))).trans ((funext fun i0 => frM_19_2 49 i0 (fun h => h.elim (fun h => absurd h (by decide)) (fun h => h.elim (fun h => absurd h.1 (by decide)) (fun h => absurd h.1 (by decide))))).trans ((funext fun i0 => frM_19_1 49 i0 (fun h => h.elim (fun h => absurd h (by decide)) (fun h => h.elim (fun h => absurd h.1 (by decide)) (fun h => absurd h.1 (by decide))))).trans ((funext fun i0 => frM_19 49 i0 (fun h => h.elim (fun h => absurd h (by decide)) (fun h => h.elim (fun h => absurd h.1 (by decide)) (fun h => absurd h.1 (by decide))))).trans rfl))))))
          refine ax_aload_n dX4_copyFrom_83 rfl rfl (pc' := 84) rfl ?_
          refine ax_getr (v := 322) dX4_copyFrom_84 flX4_34 rfl sh_311 rfl (pc' := 87) rfl ?_
          refine ax_iconst dX4_copyFrom_87 (by decide) (pc' := 88) rfl ?_
          refine ax_aload_n dX4_copyFrom_88 rfl rfl (pc' := 89) rfl ?_
          refine ax_getr (v := 50) dX4_copyFrom_89 flX4_34 rfl sh_39 rfl (pc' := 92) rfl ?_
          refine ax_iconst dX4_copyFrom_92 (by decide) (pc' := 93) rfl ?_
          refine ax_bipush dX4_copyFrom_93 (by decide) (pc' := 95) rfl ?_
          refine ax_copy dX4_copyFrom_95 mlX4_48 sh_322 sh_50 rfl rfl (by omega) (by omega) (by omega) (by omega) (by omega) (Nat.le_of_ble_eq_true rfl) (pc' := 98) rfl ?_
          obtain ⟨MC6, eMC6⟩ : ∃ z, z = ax_cp MC5 322 0 50 0 6 := ⟨_, rfl⟩
          change ax_W _ _ _ _ _ _ _ _ _ _ (ax_cp MC5 322 0 50 0 6) _
          rw [← eMC6]
          have fMC6 := ax_cp_fr eMC6
          have rMC6 := ax_cp_row eMC6 ((funext fun i0 => fMC5 322 i0 (fun h => absurd h (by decide))).trans ((funext fun i0 => fMC4 322 i0 (fun h => absurd h (by decide))).trans ((funext fun i0 => fMC3 322 i0 (fun h => absurd h (by decide))).trans ((funext fun i0 => frM_36 322 i0 (fun h => h.elim (fun h => absurd h (by decide)) (fun h => h.elim (fun h => absurd h (by decide)) (fun h => h.elim (fun h => absurd h (by decide)) (fun h => absurd h.1 (by decide)))))).trans ((funext fun i0 => frM_19_2 322 i0 (fun h => h.elim (fun h => absurd h (by decide)) (fun h => h.elim (fun h => absurd h.1 (by decide)) (fun h => absurd h.1 (by decide))))).trans ((funext fun i0 => frM_19_1 322 i0 (fun h => h.elim (fun h => absurd h (by decide)) (fun h => h.elim (fun h => absurd h.1 (by decide)) (fun h => absurd h.1 (by decide))))).trans ((funext fun i0 => frM_19 322 i0 (fun h => h.elim (fun h => absurd h (by decide)) (fun h => h.elim (fun h => absurd h.1 (by decide)) (fun h => absurd h.1 (by decide))))).trans rfl))))))) ((funext fun i0 => fMC5 50 i0 (fun h => absurd h (by decide))).trans ((funext fun i0 => fMC4 50 i0 (fun h => absurd h (by decide))).trans ((funext fun i0 => fMC3 50 i0 (fun h => absurd h (by decide))).trans ((funext fun i0 => frM_36 50 i0 (fun h => h.elim (fun h => absurd h (by decide)) (fun h => h.elim (fun h => absurd h (by decide)) (fun h => h.elim (fun h => absurd h (by decide)) (fun h => absurd h.1 (by decide)))))).trans ((funext fun i0 => frM_19_2 50 i0 (fun h => h.elim (fun h => absurd h (by decide)) (fun h => h.elim (fun h => absurd h.1 (by decide)) (fun h => absurd h.1 (by decide))))).trans ((funext fun i0 => frM_19_1 50 i0 (fun h => h.elim (fun h => absurd h (by decide)) (fun h => h.elim (fun h => absurd h.1 (by decide)) (fun h => absurd h.1 (by decide))))).trans ((funext fun i0 => frM_19 50 i0 (fun h => h.elim (fun h => absurd h (by decide)) (fun h => h.elim (fun h => absurd h.1 (by decide)) (fun h => absurd h.1 (by decide))))).trans rfl)))))))
          refine ax_aload_n dX4_copyFrom_98 rfl rfl (pc' := 99) rfl ?_
          refine ax_aload_n dX4_copyFrom_99 rfl rfl (pc' := 100) rfl ?_
          refine ax_geti (v := M 311 6) dX4_copyFrom_100 flX4_54 rfl sh_311 ((fMC6 311 6 (fun h => absurd h (by decide))).trans ((fMC5 311 6 (fun h => absurd h (by decide))).trans ((fMC4 311 6 (fun h => absurd h (by decide))).trans ((fMC3 311 6 (fun h => absurd h (by decide))).trans ((frM_36 311 6 (fun h => h.elim (fun h => absurd h (by decide)) (fun h => h.elim (fun h => absurd h (by decide)) (fun h => h.elim (fun h => absurd h (by decide)) (fun h => absurd h.1 (by decide)))))).trans ((frM_19_2 311 6 (fun h => h.elim (fun h => absurd h (by decide)) (fun h => h.elim (fun h => absurd h.1 (by decide)) (fun h => absurd h.1 (by decide))))).trans ((frM_19_1 311 6 (fun h => h.elim (fun h => absurd h (by decide)) (fun h => h.elim (fun h => absurd h.1 (by decide)) (fun h => absurd h.1 (by decide))))).trans ((frM_19 311 6 (fun h => h.elim (fun h => absurd h (by decide)) (fun h => h.elim (fun h => absurd h.1 (by decide)) (fun h => absurd h.1 (by decide))))).trans rfl)))))))) rfl (pc' := 103) rfl ?_
          refine ax_puti dX4_copyFrom_103 flX4_54 (Or.inl rfl) sh_39 rfl (pc' := 106) rfl ?_
          refine ax_aload_n dX4_copyFrom_106 rfl rfl (pc' := 107) rfl ?_
          refine ax_getr (v := 323) dX4_copyFrom_107 flX4_37 rfl sh_311 rfl (pc' := 110) rfl ?_
          refine ax_iconst dX4_copyFrom_110 (by decide) (pc' := 111) rfl ?_
          refine ax_aload_n dX4_copyFrom_111 rfl rfl (pc' := 112) rfl ?_
          refine ax_getr (v := 51) dX4_copyFrom_112 flX4_37 rfl sh_39 rfl (pc' := 115) rfl ?_
          refine ax_iconst dX4_copyFrom_115 (by decide) (pc' := 116) rfl ?_
          refine ax_bipush dX4_copyFrom_116 (by decide) (pc' := 118) rfl ?_
          refine ax_copy dX4_copyFrom_118 mlX4_48 sh_323 sh_51 rfl rfl (by omega) (by omega) (by omega) (by omega) (by omega) (Nat.le_of_ble_eq_true rfl) (pc' := 121) rfl ?_
          obtain ⟨MC7, eMC7⟩ : ∃ z, z = ax_cp (ax_up MC6 39 6 (M 311 6)) 323 0 51 0 7 := ⟨_, rfl⟩
          change ax_W _ _ _ _ _ _ _ _ _ _ (ax_cp (ax_up MC6 39 6 (M 311 6)) 323 0 51 0 7) _
          rw [← eMC7]
          have fMC7 := ax_cp_fr eMC7
          have rMC7 := ax_cp_row eMC7 (ax_up_rowmiss (by decide) ((funext fun i0 => fMC6 323 i0 (fun h => absurd h (by decide))).trans ((funext fun i0 => fMC5 323 i0 (fun h => absurd h (by decide))).trans ((funext fun i0 => fMC4 323 i0 (fun h => absurd h (by decide))).trans ((funext fun i0 => fMC3 323 i0 (fun h => absurd h (by decide))).trans ((funext fun i0 => frM_36 323 i0 (fun h => h.elim (fun h => absurd h (by decide)) (fun h => h.elim (fun h => absurd h (by decide)) (fun h => h.elim (fun h => absurd h (by decide)) (fun h => absurd h.1 (by decide)))))).trans ((funext fun i0 => frM_19_2 323 i0 (fun h => h.elim (fun h => absurd h (by decide)) (fun h => h.elim (fun h => absurd h.1 (by decide)) (fun h => absurd h.1 (by decide))))).trans ((funext fun i0 => frM_19_1 323 i0 (fun h => h.elim (fun h => absurd h (by decide)) (fun h => h.elim (fun h => absurd h.1 (by decide)) (fun h => absurd h.1 (by decide))))).trans ((funext fun i0 => frM_19 323 i0 (fun h => h.elim (fun h => absurd h (by decide)) (fun h => h.elim (fun h => absurd h.1 (by decide)) (fun h => absurd h.1 (by decide))))).trans rfl))))))))) (ax_up_rowmiss (by decide) ((funext fun i0 => fMC6 51 i0 (fun h => absurd h (by decide))).trans ((funext fun i0 => fMC5 51 i0 (fun h => absurd h (by decide))).trans ((funext fun i0 => fMC4 51 i0 (fun h => absurd h (by decide))).trans ((funext fun i0 => fMC3 51 i0 (fun h => absurd h (by decide))).trans ((funext fun i0 => frM_36 51 i0 (fun h => h.elim (fun h => absurd h (by decide)) (fun h => h.elim (fun h => absurd h (by decide)) (fun h => h.elim (fun h => absurd h (by decide)) (fun h => absurd h.1 (by decide)))))).trans ((funext fun i0 => frM_19_2 51 i0 (fun h => h.elim (fun h => absurd h (by decide)) (fun h => h.elim (fun h => absurd h.1 (by decide)) (fun h => absurd h.1 (by decide))))).trans ((funext fun i0 => frM_19_1 51 i0 (fun h => h.elim (fun h => absurd h (by decide)) (fun h => h.elim (fun h => absurd h.1 (by decide)) (fun h => absurd h.1 (by decide))))).trans ((funext fun i0 => frM_19 51 i0 (fun h => h.elim (fun h => absurd h (by decide)) (fun h => h.elim (fun h => absurd h.1 (by decide)) (fun h => absurd h.1 (by decide))))).trans rfl)))))))))
          refine ax_aload_n dX4_copyFrom_121 rfl rfl (pc' := 122) rfl ?_
          refine ax_aload_n dX4_copyFrom_122 rfl rfl (pc' := 123) rfl ?_
          refine ax_geti (v := M 311 8) dX4_copyFrom_123 flX4_58 rfl sh_311 (show MC7 311 8 = M 311 8 from ((fMC7 311 8 (fun h => absurd h (by decide))).trans (ax_up_miss (fun h => absurd h.1 (by decide)) ((fMC6 311 8 (fun h => absurd h (by decide))).trans ((fMC5 311 8 (fun h => absurd h (by decide))).trans ((fMC4 311 8 (fun h => absurd h (by decide))).trans ((fMC3 311 8 (fun h => absurd h (by decide))).trans ((frM_36 311 8 (fun h => h.elim (fun h => absurd h (by decide)) (fun h => h.elim (fun h => absurd h (by decide)) (fun h => h.elim (fun h => absurd h (by decide)) (fun h => absurd h.1 (by decide)))))).trans ((frM_19_2 311 8 (fun h => h.elim (fun h => absurd h (by decide)) (fun h => h.elim (fun h => absurd h.1 (by decide)) (fun h => absurd h.1 (by decide))))).trans ((frM_19_1 311 8 (fun h => h.elim (fun h => absurd h (by decide)) (fun h => h.elim (fun h => absurd h.1 (by decide)) (fun h => absurd h.1 (by decide))))).trans ((frM_19 311 8 (fun h => h.elim (fun h => absurd h (by decide)) (fun h => h.elim (fun h => absurd h.1 (by decide)) (fun h => absurd h.1 (by decide))))).trans rfl))))))))))) rfl (pc' := 126) rfl ?_
          refine ax_puti dX4_copyFrom_126 flX4_58 (Or.inl rfl) sh_39 rfl (pc' := 129) rfl ?_
          refine ax_vret dX4_copyFrom_129 rfl ?_
          refine ⟨rfl, rfl, ?_, ?_⟩
          · intro x0 i0 hai
            exact (ax_up_miss (fun h => hai (by rw [h.1]; decide)) ((fMC7 x0 i0 (fun h => hai (by rw [h]; decide))).trans (ax_up_miss (fun h => hai (by rw [h.1]; decide)) ((fMC6 x0 i0 (fun h => hai (by rw [h]; decide))).trans ((fMC5 x0 i0 (fun h => hai (by rw [h]; decide))).trans ((fMC4 x0 i0 (fun h => hai (by rw [h]; decide))).trans ((fMC3 x0 i0 (fun h => hai (by rw [h]; decide))).trans ((frM_36 x0 i0 (fun h => h.elim (fun h => hai (by rw [h]; decide)) (fun h => h.elim (fun h => hai (by rw [h]; decide)) (fun h => h.elim (fun h => hai (by rw [h]; decide)) (fun h => hai (by rw [h.1]; decide)))))).trans ((frM_19_2 x0 i0 (fun h => h.elim (fun h => hai (by rw [h]; decide)) (fun h => h.elim (fun h => hai (by rw [h.1]; decide)) (fun h => hai (by rw [h.1]; decide))))).trans ((frM_19_1 x0 i0 (fun h => h.elim (fun h => hai (by rw [h]; decide)) (fun h => h.elim (fun h => hai (by rw [h.1]; decide)) (fun h => hai (by rw [h.1]; decide))))).trans ((frM_19 x0 i0 (fun h => h.elim (fun h => hai (by rw [h]; decide)) (fun h => h.elim (fun h => hai (by rw [h.1]; decide)) (fun h => hai (by rw [h.1]; decide))))).trans rfl)))))))))))
          · refine ⟨fun k k1 k2 => ?_, ⟨Eq.trans (ax_up_miss (fun h => absurd h.1 (by decide)) ((fMC7 41 0 (fun h => absurd h (by decide))).trans (ax_up_miss (fun h => absurd h.1 (by decide)) ((fMC6 41 0 (fun h => absurd h (by decide))).trans ((fMC5 41 0 (fun h => absurd h (by decide))).trans ((fMC4 41 0 (fun h => absurd h (by decide))).trans ((fMC3 41 0 (fun h => absurd h (by decide))).trans msM_36_0))))))) hg0.2.1.1, fun i i1 i2 => ?_⟩, fun k k1 k2 => ?_, ⟨Eq.trans (ax_up_miss (by decide) ((fMC7 39 6 (fun h => absurd h (by decide))).trans (ax_up_hit _ _ _ _))) hg0.2.2.2.1.1, fun i i1 i2 => ?_⟩, ⟨Eq.trans (ax_up_hit _ _ _ _) hg0.2.2.2.2.1, fun i i1 i2 => ?_⟩⟩
            · have q := hg0.1 k k1 k2
              rcases (by omega : k = 0 ∨ k = 1 ∨ k = 2) with rfl | rfl | rfl
              · exact ⟨Eq.trans (ax_up_miss (fun h => absurd h.1 (by decide)) ((fMC7 52 0 (fun h => absurd h (by decide))).trans (ax_up_miss (fun h => absurd h.1 (by decide)) ((fMC6 52 0 (fun h => absurd h (by decide))).trans ((fMC5 52 0 (fun h => absurd h (by decide))).trans ((fMC4 52 0 (fun h => absurd h (by decide))).trans ((fMC3 52 0 (fun h => absurd h (by decide))).trans ((frM_36 52 0 (fun h => h.elim (fun h => absurd h (by decide)) (fun h => h.elim (fun h => absurd h (by decide)) (fun h => h.elim (fun h => absurd h (by decide)) (fun h => absurd h.1 (by decide)))))).trans ((frM_19_2 52 0 (fun h => h.elim (fun h => absurd h (by decide)) (fun h => h.elim (fun h => absurd h.1 (by decide)) (fun h => absurd h.1 (by decide))))).trans ((frM_19_1 52 0 (fun h => h.elim (fun h => absurd h (by decide)) (fun h => h.elim (fun h => absurd h.1 (by decide)) (fun h => absurd h.1 (by decide))))).trans msM_19_0)))))))))) q.1, Eq.trans (ax_up_miss (fun h => absurd h.1 (by decide)) ((fMC7 52 1 (fun h => absurd h (by decide))).trans (ax_up_miss (fun h => absurd h.1 (by decide)) ((fMC6 52 1 (fun h => absurd h (by decide))).trans ((fMC5 52 1 (fun h => absurd h (by decide))).trans ((fMC4 52 1 (fun h => absurd h (by decide))).trans ((fMC3 52 1 (fun h => absurd h (by decide))).trans ((frM_36 52 1 (fun h => h.elim (fun h => absurd h (by decide)) (fun h => h.elim (fun h => absurd h (by decide)) (fun h => h.elim (fun h => absurd h (by decide)) (fun h => absurd h.1 (by decide)))))).trans ((frM_19_2 52 1 (fun h => h.elim (fun h => absurd h (by decide)) (fun h => h.elim (fun h => absurd h.1 (by decide)) (fun h => absurd h.1 (by decide))))).trans ((frM_19_1 52 1 (fun h => h.elim (fun h => absurd h (by decide)) (fun h => h.elim (fun h => absurd h.1 (by decide)) (fun h => absurd h.1 (by decide))))).trans msM_19_1)))))))))) q.2.1, q.2.2.1, by
                  show f_fwd ((ax_up MC7 39 8 (M 311 8)) 53) 0 _
                  rw [(show (ax_up MC7 39 8 (M 311 8)) 53 = _ from (ax_up_rowmiss (by decide) ((funext fun i0 => fMC7 53 i0 (fun h => absurd h (by decide))).trans (ax_up_rowmiss (by decide) ((funext fun i0 => fMC6 53 i0 (fun h => absurd h (by decide))).trans ((funext fun i0 => fMC5 53 i0 (fun h => absurd h (by decide))).trans ((funext fun i0 => fMC4 53 i0 (fun h => absurd h (by decide))).trans ((funext fun i0 => fMC3 53 i0 (fun h => absurd h (by decide))).trans ((funext fun i0 => frM_36 53 i0 (fun h => h.elim (fun h => absurd h (by decide)) (fun h => h.elim (fun h => absurd h (by decide)) (fun h => h.elim (fun h => absurd h (by decide)) (fun h => absurd h.1 (by decide)))))).trans ((funext fun i0 => frM_19_2 53 i0 (fun h => h.elim (fun h => absurd h (by decide)) (fun h => h.elim (fun h => absurd h.1 (by decide)) (fun h => absurd h.1 (by decide))))).trans ((funext fun i0 => frM_19_1 53 i0 (fun h => h.elim (fun h => absurd h (by decide)) (fun h => h.elim (fun h => absurd h.1 (by decide)) (fun h => absurd h.1 (by decide))))).trans mrM_19_0)))))))))))]
                  exact f_fwd_cp (Int.le_refl 0) (by omega) q.2.2.2⟩
              · exact ⟨Eq.trans (ax_up_miss (fun h => absurd h.1 (by decide)) ((fMC7 54 0 (fun h => absurd h (by decide))).trans (ax_up_miss (fun h => absurd h.1 (by decide)) ((fMC6 54 0 (fun h => absurd h (by decide))).trans ((fMC5 54 0 (fun h => absurd h (by decide))).trans ((fMC4 54 0 (fun h => absurd h (by decide))).trans ((fMC3 54 0 (fun h => absurd h (by decide))).trans ((frM_36 54 0 (fun h => h.elim (fun h => absurd h (by decide)) (fun h => h.elim (fun h => absurd h (by decide)) (fun h => h.elim (fun h => absurd h (by decide)) (fun h => absurd h.1 (by decide)))))).trans ((frM_19_2 54 0 (fun h => h.elim (fun h => absurd h (by decide)) (fun h => h.elim (fun h => absurd h.1 (by decide)) (fun h => absurd h.1 (by decide))))).trans msM_19_1_0))))))))) q.1, Eq.trans (ax_up_miss (fun h => absurd h.1 (by decide)) ((fMC7 54 1 (fun h => absurd h (by decide))).trans (ax_up_miss (fun h => absurd h.1 (by decide)) ((fMC6 54 1 (fun h => absurd h (by decide))).trans ((fMC5 54 1 (fun h => absurd h (by decide))).trans ((fMC4 54 1 (fun h => absurd h (by decide))).trans ((fMC3 54 1 (fun h => absurd h (by decide))).trans ((frM_36 54 1 (fun h => h.elim (fun h => absurd h (by decide)) (fun h => h.elim (fun h => absurd h (by decide)) (fun h => h.elim (fun h => absurd h (by decide)) (fun h => absurd h.1 (by decide)))))).trans ((frM_19_2 54 1 (fun h => h.elim (fun h => absurd h (by decide)) (fun h => h.elim (fun h => absurd h.1 (by decide)) (fun h => absurd h.1 (by decide))))).trans msM_19_1_1))))))))) q.2.1, q.2.2.1, by
                  show f_fwd ((ax_up MC7 39 8 (M 311 8)) 55) 0 _
                  rw [(show (ax_up MC7 39 8 (M 311 8)) 55 = _ from (ax_up_rowmiss (by decide) ((funext fun i0 => fMC7 55 i0 (fun h => absurd h (by decide))).trans (ax_up_rowmiss (by decide) ((funext fun i0 => fMC6 55 i0 (fun h => absurd h (by decide))).trans ((funext fun i0 => fMC5 55 i0 (fun h => absurd h (by decide))).trans ((funext fun i0 => fMC4 55 i0 (fun h => absurd h (by decide))).trans ((funext fun i0 => fMC3 55 i0 (fun h => absurd h (by decide))).trans ((funext fun i0 => frM_36 55 i0 (fun h => h.elim (fun h => absurd h (by decide)) (fun h => h.elim (fun h => absurd h (by decide)) (fun h => h.elim (fun h => absurd h (by decide)) (fun h => absurd h.1 (by decide)))))).trans ((funext fun i0 => frM_19_2 55 i0 (fun h => h.elim (fun h => absurd h (by decide)) (fun h => h.elim (fun h => absurd h.1 (by decide)) (fun h => absurd h.1 (by decide))))).trans mrM_19_1_0))))))))))]
                  exact f_fwd_cp (Int.le_refl 0) (by omega) q.2.2.2⟩
              · exact ⟨Eq.trans (ax_up_miss (fun h => absurd h.1 (by decide)) ((fMC7 56 0 (fun h => absurd h (by decide))).trans (ax_up_miss (fun h => absurd h.1 (by decide)) ((fMC6 56 0 (fun h => absurd h (by decide))).trans ((fMC5 56 0 (fun h => absurd h (by decide))).trans ((fMC4 56 0 (fun h => absurd h (by decide))).trans ((fMC3 56 0 (fun h => absurd h (by decide))).trans ((frM_36 56 0 (fun h => h.elim (fun h => absurd h (by decide)) (fun h => h.elim (fun h => absurd h (by decide)) (fun h => h.elim (fun h => absurd h (by decide)) (fun h => absurd h.1 (by decide)))))).trans msM_19_2_0)))))))) q.1, Eq.trans (ax_up_miss (fun h => absurd h.1 (by decide)) ((fMC7 56 1 (fun h => absurd h (by decide))).trans (ax_up_miss (fun h => absurd h.1 (by decide)) ((fMC6 56 1 (fun h => absurd h (by decide))).trans ((fMC5 56 1 (fun h => absurd h (by decide))).trans ((fMC4 56 1 (fun h => absurd h (by decide))).trans ((fMC3 56 1 (fun h => absurd h (by decide))).trans ((frM_36 56 1 (fun h => h.elim (fun h => absurd h (by decide)) (fun h => h.elim (fun h => absurd h (by decide)) (fun h => h.elim (fun h => absurd h (by decide)) (fun h => absurd h.1 (by decide)))))).trans msM_19_2_1)))))))) q.2.1, q.2.2.1, by
                  show f_fwd ((ax_up MC7 39 8 (M 311 8)) 57) 0 _
                  rw [(show (ax_up MC7 39 8 (M 311 8)) 57 = _ from (ax_up_rowmiss (by decide) ((funext fun i0 => fMC7 57 i0 (fun h => absurd h (by decide))).trans (ax_up_rowmiss (by decide) ((funext fun i0 => fMC6 57 i0 (fun h => absurd h (by decide))).trans ((funext fun i0 => fMC5 57 i0 (fun h => absurd h (by decide))).trans ((funext fun i0 => fMC4 57 i0 (fun h => absurd h (by decide))).trans ((funext fun i0 => fMC3 57 i0 (fun h => absurd h (by decide))).trans ((funext fun i0 => frM_36 57 i0 (fun h => h.elim (fun h => absurd h (by decide)) (fun h => h.elim (fun h => absurd h (by decide)) (fun h => h.elim (fun h => absurd h (by decide)) (fun h => absurd h.1 (by decide)))))).trans mrM_19_2_0)))))))))]
                  exact f_fwd_cp (Int.le_refl 0) (by omega) q.2.2.2⟩
            · show (ax_up MC7 39 8 (M 311 8)) 42 i = _ ∧ (ax_up MC7 39 8 (M 311 8)) 43 i = _ ∧ (ax_up MC7 39 8 (M 311 8)) 44 i = _
              rw [(show (ax_up MC7 39 8 (M 311 8)) 42 = _ from (ax_up_rowmiss (by decide) ((funext fun i0 => fMC7 42 i0 (fun h => absurd h (by decide))).trans (ax_up_rowmiss (by decide) ((funext fun i0 => fMC6 42 i0 (fun h => absurd h (by decide))).trans ((funext fun i0 => fMC5 42 i0 (fun h => absurd h (by decide))).trans ((funext fun i0 => fMC4 42 i0 (fun h => absurd h (by decide))).trans ((funext fun i0 => fMC3 42 i0 (fun h => absurd h (by decide))).trans mrM_36_0)))))))), (show (ax_up MC7 39 8 (M 311 8)) 43 = _ from (ax_up_rowmiss (by decide) ((funext fun i0 => fMC7 43 i0 (fun h => absurd h (by decide))).trans (ax_up_rowmiss (by decide) ((funext fun i0 => fMC6 43 i0 (fun h => absurd h (by decide))).trans ((funext fun i0 => fMC5 43 i0 (fun h => absurd h (by decide))).trans ((funext fun i0 => fMC4 43 i0 (fun h => absurd h (by decide))).trans ((funext fun i0 => fMC3 43 i0 (fun h => absurd h (by decide))).trans mrM_36_1)))))))), (show (ax_up MC7 39 8 (M 311 8)) 44 = _ from (ax_up_rowmiss (by decide) ((funext fun i0 => fMC7 44 i0 (fun h => absurd h (by decide))).trans (ax_up_rowmiss (by decide) ((funext fun i0 => fMC6 44 i0 (fun h => absurd h (by decide))).trans ((funext fun i0 => fMC5 44 i0 (fun h => absurd h (by decide))).trans ((funext fun i0 => fMC4 44 i0 (fun h => absurd h (by decide))).trans ((funext fun i0 => fMC3 44 i0 (fun h => absurd h (by decide))).trans mrM_36_2)))))))), f_cp_in ⟨i1, by omega⟩, f_cp_in ⟨i1, by omega⟩, f_cp_in ⟨i1, by omega⟩]
              exact hg0.2.1.2 i i1 i2
            · have q := hg0.2.2.1 k k1 k2
              have qs := hg2 k k1 k2
              refine ⟨?_, fun i i1 i2 => ?_⟩
              · show (ax_up MC7 39 8 (M 311 8)) 48 k = _
                rw [(show (ax_up MC7 39 8 (M 311 8)) 48 = _ from (ax_up_rowmiss (by decide) ((funext fun i0 => fMC7 48 i0 (fun h => absurd h (by decide))).trans (ax_up_rowmiss (by decide) ((funext fun i0 => fMC6 48 i0 (fun h => absurd h (by decide))).trans ((funext fun i0 => fMC5 48 i0 (fun h => absurd h (by decide))).trans rMC4)))))), f_cp_in ⟨k1, by omega⟩]
                exact q.1
              · show (ax_up MC7 39 8 (M 311 8)) 47 (k * 7 + i) = _
                rw [(show (ax_up MC7 39 8 (M 311 8)) 47 = _ from (ax_up_rowmiss (by decide) ((funext fun i0 => fMC7 47 i0 (fun h => absurd h (by decide))).trans (ax_up_rowmiss (by decide) ((funext fun i0 => fMC6 47 i0 (fun h => absurd h (by decide))).trans ((funext fun i0 => fMC5 47 i0 (fun h => absurd h (by decide))).trans ((funext fun i0 => fMC4 47 i0 (fun h => absurd h (by decide))).trans rMC3))))))), f_cp_in ⟨by omega, by omega⟩]
                exact q.2 i i1 i2
            · show (ax_up MC7 39 8 (M 311 8)) 49 i = _ ∧ (ax_up MC7 39 8 (M 311 8)) 50 i = _
              rw [(show (ax_up MC7 39 8 (M 311 8)) 49 = _ from (ax_up_rowmiss (by decide) ((funext fun i0 => fMC7 49 i0 (fun h => absurd h (by decide))).trans (ax_up_rowmiss (by decide) ((funext fun i0 => fMC6 49 i0 (fun h => absurd h (by decide))).trans rMC5))))), (show (ax_up MC7 39 8 (M 311 8)) 50 = _ from (ax_up_rowmiss (by decide) ((funext fun i0 => fMC7 50 i0 (fun h => absurd h (by decide))).trans (ax_up_rowmiss (by decide) rMC6)))), f_cp_in ⟨i1, by omega⟩, f_cp_in ⟨i1, by omega⟩]
              exact hg0.2.2.2.1.2 i i1 i2
            · show (ax_up MC7 39 8 (M 311 8)) 51 i = _
              rw [(show (ax_up MC7 39 8 (M 311 8)) 51 = _ from (ax_up_rowmiss (by decide) rMC7)), f_cp_in ⟨i1, by omega⟩]
              exact hg0.2.2.2.2.2 i i1 i2
        · exfalso
          omega
