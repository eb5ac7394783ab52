/-! small ones of the parser -/
set_option maxRecDepth 20000 in
theorem s_X12_bad (E : ax_Env) (l : Launch) (d : Nat) (hd : 0 ≤ d) (M : ax_Mem) (k : Int) {tk : Int} (htk : M 330 20 = tk) : ax_G E l d iX12_bad [.inr 330, .inl k] M (fun z0 M2 => z0 = some (.inl 0) ∧ (∀ x0 i0 : Int, ¬ ((x0 = 330 ∧ i0 = 22) ∨ (x0 = 330 ∧ i0 = 23)) → M2 x0 i0 = M x0 i0) ∧ M2 330 22 = k ∧ M2 330 23 = tk) := by
  refine ax_start rfl (Nat.le_of_ble_eq_true rfl) (ls := [some (.inr 330), some (.inl k)]) rfl (fun hav hcm => ?_)
  have hc1 : -2147483648 ≤ k ∧ k < 2147483648 := hav (.inl k) (by simp)
  clear hav
  refine ax_aload_n dX12_bad_0 rfl rfl (pc' := 1) rfl ?_
  refine ax_iload_n dX12_bad_1 rfl rfl (pc' := 2) rfl ?_
  refine ax_puti dX12_bad_2 flX12_223 (Or.inl rfl) sh_330 rfl (pc' := 5) rfl ?_
  refine ax_aload_n dX12_bad_5 rfl rfl (pc' := 6) rfl ?_
  refine ax_aload_n dX12_bad_6 rfl rfl (pc' := 7) rfl ?_
  refine ax_geti (v := tk) dX12_bad_7 flX12_126 rfl sh_330 (show (ax_up M 330 22 k) 330 20 = tk from (ax_up_miss (by decide) htk)) rfl (pc' := 10) rfl ?_
  refine ax_puti dX12_bad_10 flX12_226 (Or.inl rfl) sh_330 rfl (pc' := 13) rfl ?_
  refine ax_iconst dX12_bad_13 (by decide) (pc' := 14) rfl ?_
  refine ax_zret dX12_bad_14 rfl (by decide) ?_
  refine ⟨rfl, ?_, ?_, ?_, ?_⟩
  · rfl
  · intro x0 i0 hai
    exact (ax_up_miss (by omega) (ax_up_miss (by omega) rfl))
  · exact (ax_up_miss (by decide) (ax_up_hit _ _ _ _))
  · exact (ax_up_hit _ _ _ _)
set_option maxRecDepth 20000 in
theorem s_X12_lay (E : ax_Env) (l : Launch) (d : Nat) (hd : 0 ≤ d) (M : ax_Mem) (k v : Int) {fs : Int → Int} (hfs : M 336 = fs) {sn : Int} (hsn : M 330 15 = sn) (hg0 : 0 ≤ sn ∧ sn < 410) : ax_G E l d iX12_lay [.inr 330, .inl k, .inl v] M (fun z0 M2 => z0 = none ∧ (∀ x0 i0 : Int, ¬ (x0 = 336 ∨ (x0 = 330 ∧ i0 = 15)) → M2 x0 i0 = M x0 i0) ∧ M2 336 = f_up (f_up fs (2 * sn) k) (2 * sn + 1) v ∧ M2 330 15 = sn + 1) := by
  refine ax_start rfl (Nat.le_of_ble_eq_true rfl) (ls := [some (.inr 330), some (.inl k), some (.inl v)]) rfl (fun hav hcm => ?_)
  have hc1 : -2147483648 ≤ k ∧ k < 2147483648 := hav (.inl k) (by simp)
  have hc2 : -2147483648 ≤ v ∧ v < 2147483648 := hav (.inl v) (by simp)
  clear hav
  refine ax_aload_n dX12_lay_0 rfl rfl (pc' := 1) rfl ?_
  refine ax_getr (v := 336) dX12_lay_1 flX12_25 rfl sh_330 rfl (pc' := 4) rfl ?_
  refine ax_iconst dX12_lay_4 (by decide) (pc' := 5) rfl ?_
  refine ax_aload_n dX12_lay_5 rfl rfl (pc' := 6) rfl ?_
  refine ax_geti (v := sn) dX12_lay_6 flX12_235 rfl sh_330 hsn rfl (pc' := 9) rfl ?_
  refine ax_imul dX12_lay_9 (by omega) (pc' := 10) rfl ?_
  refine ax_iload_n dX12_lay_10 rfl rfl (pc' := 11) rfl ?_
  refine ax_iast dX12_lay_11 sh_336 rfl (by omega) (by omega) (pc' := 12) rfl ?_
  refine ax_aload_n dX12_lay_12 rfl rfl (pc' := 13) rfl ?_
  refine ax_getr (v := 336) dX12_lay_13 flX12_25 rfl sh_330 rfl (pc' := 16) rfl ?_
  refine ax_iconst dX12_lay_16 (by decide) (pc' := 17) rfl ?_
  refine ax_aload_n dX12_lay_17 rfl rfl (pc' := 18) rfl ?_
  refine ax_geti (v := sn) dX12_lay_18 flX12_235 rfl sh_330 (show (ax_up M 336 (2 * sn) k) 330 15 = sn from (ax_up_miss (by omega) hsn)) rfl (pc' := 21) rfl ?_
  refine ax_imul dX12_lay_21 (by omega) (pc' := 22) rfl ?_
  refine ax_iconst dX12_lay_22 (by decide) (pc' := 23) rfl ?_
  refine ax_iadd dX12_lay_23 (by omega) (pc' := 24) rfl ?_
  refine ax_iload_n dX12_lay_24 rfl rfl (pc' := 25) rfl ?_
  refine ax_iast dX12_lay_25 sh_336 rfl (by omega) (by omega) (pc' := 26) rfl ?_
  refine ax_aload_n dX12_lay_26 rfl rfl (pc' := 27) rfl ?_
  refine ax_dup dX12_lay_27 (pc' := 28) rfl ?_
  refine ax_geti (v := sn) dX12_lay_28 flX12_235 rfl sh_330 (show (ax_up (ax_up M 336 (2 * sn) k) 336 (2 * sn + 1) v) 330 15 = sn from (ax_up_miss (by omega) (ax_up_miss (by omega) hsn))) rfl (pc' := 31) rfl ?_
  refine ax_iconst dX12_lay_31 (by decide) (pc' := 32) rfl ?_
  refine ax_iadd dX12_lay_32 (by omega) (pc' := 33) rfl ?_
  refine ax_puti dX12_lay_33 flX12_235 (Or.inl rfl) sh_330 rfl (pc' := 36) rfl ?_
  refine ax_vret dX12_lay_36 rfl ?_
  refine ⟨rfl, rfl, ?_, ?_, ?_⟩
  · intro x0 i0 hai
    exact (ax_up_miss (by omega) (ax_up_miss (by omega) (ax_up_miss (by omega) rfl)))
  · exact (ax_up_rowmiss (by decide) (ax_up_rowhit (ax_up_rowhit hfs)))
  · exact (ax_up_hit _ _ _ _)
set_option maxRecDepth 20000 in
theorem s_X12_need_no (E : ax_Env) (l : Launch) (d : Nat) (hd : 10 ≤ d) (M : ax_Mem) (t : Int) {to : Int} (hto : M 330 19 = to) {tk : Int} (htk : M 330 20 = tk) (hg0 : to ≠ t) : ax_G E l d iX12_need [.inr 330, .inl t] M (fun z0 M2 => z0 = some (.inl 0) ∧ (∀ x0 i0 : Int, ¬ ((x0 = 330 ∧ i0 = 22) ∨ (x0 = 330 ∧ i0 = 23)) → M2 x0 i0 = M x0 i0) ∧ M2 330 22 = 1 ∧ M2 330 23 = tk) := by
  obtain ⟨d, rfl⟩ : ∃ d0, d = d0 + 1 := ⟨d - 1, by omega⟩
  refine ax_start rfl (Nat.le_of_ble_eq_true rfl) (ls := [some (.inr 330), some (.inl t)]) rfl (fun hav hcm => ?_)
  have hc1 : -2147483648 ≤ t ∧ t < 2147483648 := hav (.inl t) (by simp)
  clear hav
  refine ax_aload_n dX12_need_0 rfl rfl (pc' := 1) rfl ?_
  refine ax_geti (v := to) dX12_need_1 flX12_208 rfl sh_330 hto rfl (pc' := 4) rfl ?_
  refine ax_iload_n dX12_need_4 rfl rfl (pc' := 5) rfl ?_
  refine ax_icmp_eq (tgt := 14) dX12_need_5 (by decide) (pc' := 8) rfl (fun h5 => ?_) (fun h5 => ?_)
  · exfalso
    omega
  · refine ax_aload_n dX12_need_8 rfl rfl (pc' := 9) rfl ?_
    refine ax_iconst dX12_need_9 (by decide) (pc' := 10) rfl ?_
    refine ax_invG [.inl 1] [] dX12_need_10 mlX12_229 sh_330 rfl rfl rfl (Nat.le_of_ble_eq_true rfl) (s_X12_bad E l _ (by omega) _ 1 htk) (pc' := 13) rfl (fun vv M_10 hq co10 hcm10 => ?_)
    obtain ⟨rfl, frM_10, msM_10_0, msM_10_1⟩ := hq
    refine ax_reS (st2 := [.inl 0]) rfl ?_
    refine ax_zret dX12_need_13 rfl (by decide) ?_
    refine ⟨rfl, ?_, ?_, ?_, ?_⟩
    · rfl
    · intro x0 i0 hai
      exact ((frM_10 x0 i0 (by omega)).trans rfl)
    · exact msM_10_0
    · exact msM_10_1
set_option maxRecDepth 20000 in
theorem s_X12_need_ok (E : ax_Env) (l : Launch) (d : Nat) (hd : 10 ≤ d) (M : ax_Mem) (t : Int) {ta : Int → Int} (hta : M 339 = ta) {p0 : Int} (hp0 : M 330 18 = p0) {tn : Int} (htn : M 330 17 = tn) {rd : Int} (hrd : M 330 13 = rd) {v0 : Int} (hv0 : M 330 21 = v0) {to : Int} (hto : M 330 19 = to) (hg0 : 0 ≤ p0 ∧ p0 ≤ tn ∧ tn ≤ 400) (hg1 : f_tp ta tn) (hg2 : to = t) : ax_G E l d iX12_need [.inr 330, .inl t] M (fun z0 M2 => z0 = some (.inl 1) ∧ (∀ x0 i0 : Int, ¬ ((x0 = 330 ∧ i0 = 18) ∨ (x0 = 330 ∧ i0 = 19) ∨ (x0 = 330 ∧ i0 = 20) ∨ (x0 = 330 ∧ i0 = 21)) → M2 x0 i0 = M x0 i0) ∧ M2 330 18 = f_nE ta tn p0 ∧ M2 330 19 = f_nT ta tn p0 rd ∧ M2 330 20 = f_nS ta tn p0 ∧ M2 330 21 = f_nV ta tn p0 v0) := by
  obtain ⟨d, rfl⟩ : ∃ d0, d = d0 + 1 := ⟨d - 1, by omega⟩
  refine ax_start rfl (Nat.le_of_ble_eq_true rfl) (ls := [some (.inr 330), some (.inl t)]) rfl (fun hav hcm => ?_)
  have hc1 : -2147483648 ≤ t ∧ t < 2147483648 := hav (.inl t) (by simp)
  clear hav
  refine ax_aload_n dX12_need_0 rfl rfl (pc' := 1) rfl ?_
  refine ax_geti (v := to) dX12_need_1 flX12_208 rfl sh_330 hto rfl (pc' := 4) rfl ?_
  refine ax_iload_n dX12_need_4 rfl rfl (pc' := 5) rfl ?_
  refine ax_icmp_eq (tgt := 14) dX12_need_5 (by decide) (pc' := 8) rfl (fun h5 => ?_) (fun h5 => ?_)
  · refine ax_aload_n dX12_need_14 rfl rfl (pc' := 15) rfl ?_
    refine ax_invG [] [] dX12_need_15 mlX12_232 sh_330 rfl rfl rfl (Nat.le_of_ble_eq_true rfl) (s_X12_next0 E l _ (by omega) _ hta hp0 htn hrd hv0 (by first | omega | assumption) (by first | omega | assumption)) (pc' := 18) rfl (fun vv M_15 hq co15 hcm15 => ?_)
    obtain ⟨rfl, frM_15, msM_15_0, msM_15_1, msM_15_2, msM_15_3⟩ := hq
    refine ax_reS (st2 := []) rfl ?_
    refine ax_iconst dX12_need_18 (by decide) (pc' := 19) rfl ?_
    refine ax_zret dX12_need_19 rfl (by decide) ?_
    refine ⟨rfl, ?_, ?_, ?_, ?_, ?_, ?_⟩
    · rfl
    · intro x0 i0 hai
      exact ((frM_15 x0 i0 (by omega)).trans rfl)
    · exact msM_15_0
    · exact msM_15_1
    · exact msM_15_2
    · exact msM_15_3
  · exfalso
    omega
