/-! the mutual ones: C is told of level nd -/
def f_C1 (nd : Nat) : Prop := ∀ (E : ax_Env) (l : Launch) (d : Nat) (hd : 13 + 3 * nd ≤ d) (M : ax_Mem) (L : List f_Tk) {ta : Int → Int} (hta : M 339 = ta) {fs : Int → Int} (hfs : M 336 = fs) {p0 : Int} (hp0 : M 330 18 = p0) {to : Int} (hto : M 330 19 = to) {tk : Int} (htk : M 330 20 = tk) {v0 : Int} (hv0 : M 330 21 = v0) {sn : Int} (hsn : M 330 15 = sn) {dp : Int} (hdp : M 330 25 = dp) {tn : Int} (htn : M 330 17 = tn) {rd : Int} (hrd : M 330 13 = rd) (hg0 : 0 ≤ tn ∧ tn ≤ 400) (hg1 : f_tp ta tn) (hg2 : f_cur ta tn rd L p0 to tk v0) (hg3 : 0 ≤ sn ∧ sn + (L.length : Int) ≤ 405) (hg4 : 0 ≤ dp ∧ dp + (nd : Int) = 8), ax_G E l d iX12_oneTest [.inr 330] M (fun z0 M2 => z0 = some (.inl (f_rb (f_one nd L))) ∧ (∀ x0 i0 : Int, ¬ (x0 = 336 ∨ (x0 = 330 ∧ i0 = 15) ∨ (x0 = 330 ∧ i0 = 18) ∨ (x0 = 330 ∧ i0 = 19) ∨ (x0 = 330 ∧ i0 = 20) ∨ (x0 = 330 ∧ i0 = 21) ∨ (x0 = 330 ∧ i0 = 22) ∨ (x0 = 330 ∧ i0 = 23) ∨ (x0 = 330 ∧ i0 = 25)) → M2 x0 i0 = M x0 i0) ∧ (f_pok ta tn rd fs sn dp (f_one nd L) M2) ∧ (0 ≤ M2 330 21 ∧ M2 330 21 ≤ 9999))
theorem f_one_z (L : List f_Tk) : f_one 0 L = if f_T L = 6 ∨ f_T L = 140 then .inl (3, f_S L) else f_cmp L := rfl
theorem f_one_s (d : Nat) (L : List f_Tk) : f_one (d + 1) L = if f_T L = 6 then f_aft [(30, 0)] (f_one d L.tail) else if f_T L = 140 then f_seq (f_any (f_one d) L.tail) (f_ned 141) else f_cmp L := rfl
set_option maxRecDepth 20000 in
theorem s_X12_opens_no (E : ax_Env) (l : Launch) (d : Nat) (hd : 10 ≤ d) (M : ax_Mem) {dp : Int} (hdp : M 330 25 = dp) {tk : Int} (htk : M 330 20 = tk) (hg0 : dp = 8) : ax_G E l d iX12_opens [.inr 330] M (fun z0 M2 => z0 = some (.inl 0) ∧ (∀ x0 i0 : Int, ¬ ((x0 = 330 ∧ i0 = 22) ∨ (x0 = 330 ∧ i0 = 23)) → M2 x0 i0 = M x0 i0) ∧ M2 330 22 = 3 ∧ M2 330 23 = tk) := by
  obtain ⟨d, rfl⟩ : ∃ d0, d = d0 + 1 := ⟨d - 1, by omega⟩
  refine ax_start rfl (Nat.le_of_ble_eq_true rfl) (ls := [some (.inr 330)]) rfl (fun hav hcm => ?_)
  clear hav
  refine ax_aload_n dX12_opens_0 rfl rfl (pc' := 1) rfl ?_
  refine ax_geti (v := dp) dX12_opens_1 flX12_238 rfl sh_330 hdp rfl (pc' := 4) rfl ?_
  refine ax_bipush dX12_opens_4 (by decide) (pc' := 6) rfl ?_
  refine ax_icmp_ne (tgt := 15) dX12_opens_6 (by decide) (pc' := 9) rfl (fun h6 => ?_) (fun h6 => ?_)
  · exfalso
    omega
  · refine ax_aload_n dX12_opens_9 rfl rfl (pc' := 10) rfl ?_
    refine ax_iconst dX12_opens_10 (by decide) (pc' := 11) rfl ?_
    refine ax_invG [.inl 3] [] dX12_opens_11 mlX12_229 sh_330 rfl rfl rfl (Nat.le_of_ble_eq_true rfl) (s_X12_bad E l _ (by omega) _ 3 htk) (pc' := 14) rfl (fun vv M_11 hq co11 hcm11 => ?_)
    obtain ⟨rfl, frM_11, msM_11_0, msM_11_1⟩ := hq
    refine ax_reS (st2 := [.inl 0]) rfl ?_
    refine ax_zret dX12_opens_14 rfl (by decide) ?_
    refine ⟨rfl, ?_, ?_, ?_, ?_⟩
    · rfl
    · intro x0 i0 hai
      exact ((frM_11 x0 i0 (fun h => h.elim (fun h => hai (Or.inl h)) (fun h => hai (Or.inr h)))).trans rfl)
    · exact msM_11_0
    · exact msM_11_1
set_option maxRecDepth 20000 in
theorem s_X12_opens_ok (E : ax_Env) (l : Launch) (d : Nat) (hd : 10 ≤ d) (M : ax_Mem) {ta : Int → Int} (hta : M 339 = ta) {p0 : Int} (hp0 : M 330 18 = p0) {tn : Int} (htn : M 330 17 = tn) {rd : Int} (hrd : M 330 13 = rd) {v0 : Int} (hv0 : M 330 21 = v0) {to : Int} (hto : M 330 19 = to) {dp : Int} (hdp : M 330 25 = dp) (hg0 : 0 ≤ p0 ∧ p0 ≤ tn ∧ tn ≤ 400) (hg1 : f_tp ta tn) (hg2 : 0 ≤ dp ∧ dp < 8) : ax_G E l d iX12_opens [.inr 330] M (fun z0 M2 => z0 = some (.inl 1) ∧ (∀ x0 i0 : Int, ¬ ((x0 = 330 ∧ i0 = 18) ∨ (x0 = 330 ∧ i0 = 19) ∨ (x0 = 330 ∧ i0 = 20) ∨ (x0 = 330 ∧ i0 = 21) ∨ (x0 = 330 ∧ i0 = 25)) → M2 x0 i0 = M x0 i0) ∧ M2 330 18 = f_nE ta tn p0 ∧ M2 330 19 = f_nT ta tn p0 rd ∧ M2 330 20 = f_nS ta tn p0 ∧ M2 330 21 = f_nV ta tn p0 v0 ∧ M2 330 25 = dp + 1) := by
  obtain ⟨d, rfl⟩ : ∃ d0, d = d0 + 1 := ⟨d - 1, by omega⟩
  refine ax_start rfl (Nat.le_of_ble_eq_true rfl) (ls := [some (.inr 330)]) rfl (fun hav hcm => ?_)
  clear hav
  refine ax_aload_n dX12_opens_0 rfl rfl (pc' := 1) rfl ?_
  refine ax_geti (v := dp) dX12_opens_1 flX12_238 rfl sh_330 hdp rfl (pc' := 4) rfl ?_
  refine ax_bipush dX12_opens_4 (by decide) (pc' := 6) rfl ?_
  refine ax_icmp_ne (tgt := 15) dX12_opens_6 (by decide) (pc' := 9) rfl (fun h6 => ?_) (fun h6 => ?_)
  · refine ax_aload_n dX12_opens_15 rfl rfl (pc' := 16) rfl ?_
    refine ax_dup dX12_opens_16 (pc' := 17) rfl ?_
    refine ax_geti (v := dp) dX12_opens_17 flX12_238 rfl sh_330 hdp rfl (pc' := 20) rfl ?_
    refine ax_iconst dX12_opens_20 (by decide) (pc' := 21) rfl ?_
    refine ax_iadd dX12_opens_21 (by omega) (pc' := 22) rfl ?_
    refine ax_puti dX12_opens_22 flX12_238 (Or.inl rfl) sh_330 rfl (pc' := 25) rfl ?_
    refine ax_aload_n dX12_opens_25 rfl rfl (pc' := 26) rfl ?_
    refine ax_invG [] [] dX12_opens_26 mlX12_232 sh_330 rfl rfl rfl (Nat.le_of_ble_eq_true rfl) (s_X12_next0 E l _ (by omega) _ (ax_up_rowmiss (by decide) hta) (ax_up_miss (by decide) hp0) (ax_up_miss (by decide) htn) (ax_up_miss (by decide) hrd) (ax_up_miss (by decide) hv0) (by first | omega | assumption) (by first | omega | assumption)) (pc' := 29) rfl (fun vv M_26 hq co26 hcm26 => ?_)
    obtain ⟨rfl, frM_26, msM_26_0, msM_26_1, msM_26_2, msM_26_3⟩ := hq
    refine ax_reS (st2 := []) rfl ?_
    refine ax_iconst dX12_opens_29 (by decide) (pc' := 30) rfl ?_
    refine ax_zret dX12_opens_30 rfl (by decide) ?_
    refine ⟨rfl, ?_, ?_, ?_, ?_, ?_, ?_, ?_⟩
    · rfl
    · intro x0 i0 hai
      exact ((frM_26 x0 i0 (fun h => h.elim (fun h => hai (Or.inl h)) (fun h => h.elim (fun h => hai (Or.inr (Or.inl h))) (fun h => h.elim (fun h => hai (Or.inr (Or.inr (Or.inl h)))) (fun h => hai (Or.inr (Or.inr (Or.inr (Or.inl h))))))))).trans (ax_up_miss (fun h => hai (Or.inr (Or.inr (Or.inr (Or.inr h))))) rfl))
    · exact msM_26_0
    · exact msM_26_1
    · exact msM_26_2
    · exact msM_26_3
    · exact ((frM_26 330 25 (fun h => h.elim (fun h => absurd h.2 (by decide)) (fun h => h.elim (fun h => absurd h.2 (by decide)) (fun h => h.elim (fun h => absurd h.2 (by decide)) (fun h => absurd h.2 (by decide)))))).trans (ax_up_hit _ _ _ _))
  · exfalso
    omega
set_option maxRecDepth 20000 in
theorem s_X12_needL (E : ax_Env) (l : Launch) (d : Nat) (hd : 10 ≤ d) (M : ax_Mem) (t : Int) (L : List f_Tk) {ta : Int → Int} (hta : M 339 = ta) {fs : Int → Int} (hfs : M 336 = fs) {p0 : Int} (hp0 : M 330 18 = p0) {to : Int} (hto : M 330 19 = to) {tk : Int} (htk : M 330 20 = tk) {v0 : Int} (hv0 : M 330 21 = v0) {sn : Int} (hsn : M 330 15 = sn) {dp : Int} (hdp : M 330 25 = dp) {tn : Int} (htn : M 330 17 = tn) {rd : Int} (hrd : M 330 13 = rd) (hg0 : 0 ≤ tn ∧ tn ≤ 400) (hg1 : f_tp ta tn) (hg2 : f_cur ta tn rd L p0 to tk v0) (hg3 : 0 ≤ sn ∧ sn + (L.length : Int) ≤ 405) (hg4 : t ≠ 0) : ax_G E l d iX12_need [.inr 330, .inl t] M (fun z0 M2 => z0 = some (.inl (f_rb (f_ned t L))) ∧ (∀ x0 i0 : Int, ¬ (x0 = 336 ∨ (x0 = 330 ∧ i0 = 15) ∨ (x0 = 330 ∧ i0 = 18) ∨ (x0 = 330 ∧ i0 = 19) ∨ (x0 = 330 ∧ i0 = 20) ∨ (x0 = 330 ∧ i0 = 21) ∨ (x0 = 330 ∧ i0 = 22) ∨ (x0 = 330 ∧ i0 = 23)) → M2 x0 i0 = M x0 i0) ∧ (f_pok ta tn rd fs sn dp (f_ned t L) M2) ∧ (0 ≤ M2 330 21 ∧ M2 330 21 ≤ 9999)) := by
  obtain ⟨d, rfl⟩ : ∃ d0, d = d0 + 1 := ⟨d - 1, by omega⟩
  refine ax_start rfl (Nat.le_of_ble_eq_true rfl) (ls := [some (.inr 330), some (.inl t)]) rfl (fun hav hcm => ?_)
  have hc1 : -2147483648 ≤ t ∧ t < 2147483648 := hav (.inl t) (by simp)
  clear hav
  have qR := f_cur_rg hg2
  have qh := f_cur_hd hg2
  refine ax_aload_n dX12_need_0 rfl rfl (pc' := 1) rfl ?_
  refine ax_geti (v := to) dX12_need_1 flX12_208 rfl sh_330 hto rfl (pc' := 4) rfl ?_
  refine ax_iload_n dX12_need_4 rfl rfl (pc' := 5) rfl ?_
  refine ax_icmp_eq (tgt := 14) dX12_need_5 (by decide) (pc' := 8) rfl (fun h5 => ?_) (fun h5 => ?_)
  · have qz : f_ned t L = .inr (L.tail, []) := by
      unfold f_ned
      rw [if_pos (by omega)]
    obtain ⟨L9, qt9, ql9, qc9⟩ := f_cur_next hg2 (by omega)
    have qR9 := f_cur_rg qc9
    have qh9 := f_cur_hd qc9
    refine ax_aload_n dX12_need_14 rfl rfl (pc' := 15) rfl ?_
    refine ax_invG [] [] dX12_need_15 mlX12_232 sh_330 rfl rfl rfl (Nat.le_of_ble_eq_true rfl) (s_X12_next0 E l _ (by omega) _ hta hp0 htn hrd hv0 (by first | omega | assumption) (by first | omega | assumption)) (pc' := 18) rfl (fun vv M_15 hq co15 hcm15 => ?_)
    obtain ⟨rfl, frM_15, msM_15_0, msM_15_1, msM_15_2, msM_15_3⟩ := hq
    refine ax_reS (st2 := []) rfl ?_
    refine ax_iconst dX12_need_18 (by decide) (pc' := 19) rfl ?_
    refine ax_zret dX12_need_19 rfl (by decide) ?_
    refine ⟨rfl, ?_, ?_, ?_, ?_⟩
    · refine congrArg (fun z => some (Sum.inl z)) ?_
      rw [qz]
      rfl
    · intro x0 i0 hai
      exact ((frM_15 x0 i0 (fun h => h.elim (fun h => hai (Or.inr (Or.inr (Or.inl h)))) (fun h => h.elim (fun h => hai (Or.inr (Or.inr (Or.inr (Or.inl h))))) (fun h => h.elim (fun h => hai (Or.inr (Or.inr (Or.inr (Or.inr (Or.inl h)))))) (fun h => hai (Or.inr (Or.inr (Or.inr (Or.inr (Or.inr (Or.inl h))))))))))).trans rfl)
    · refine f_pok_ok (qz.trans (by rw [qt9])) (Eq.trans ((funext fun i0 => frM_15 336 i0 (fun h => h.elim (fun h => absurd h.1 (by decide)) (fun h => h.elim (fun h => absurd h.1 (by decide)) (fun h => h.elim (fun h => absurd h.1 (by decide)) (fun h => absurd h.1 (by decide)))))).trans hfs) ?_) (Eq.trans ((frM_15 330 15 (fun h => h.elim (fun h => absurd h.2 (by decide)) (fun h => h.elim (fun h => absurd h.2 (by decide)) (fun h => h.elim (fun h => absurd h.2 (by decide)) (fun h => absurd h.2 (by decide)))))).trans hsn) ?_) qc9 msM_15_0 msM_15_1 msM_15_2 msM_15_3 ((frM_15 330 25 (fun h => h.elim (fun h => absurd h.2 (by decide)) (fun h => h.elim (fun h => absurd h.2 (by decide)) (fun h => h.elim (fun h => absurd h.2 (by decide)) (fun h => absurd h.2 (by decide)))))).trans hdp)
      · rfl
      · exact (Int.add_zero _).symm
    · have q9 : M_15 330 21 = f_nV ta tn p0 v0 := msM_15_3
      have q9b : 0 ≤ f_nV ta tn p0 v0 ∧ f_nV ta tn p0 v0 ≤ 9999 := by omega
      exact f_r9 q9 q9b
  · have qz : f_ned t L = .inl (1, tk) := by
      unfold f_ned
      rw [if_neg (by omega), qh.2.2]
    refine ax_aload_n dX12_need_8 rfl rfl (pc' := 9) rfl ?_
    refine ax_iconst dX12_need_9 (by decide) (pc' := 10) rfl ?_
    refine ax_invG [.inl 1] [] dX12_need_10 mlX12_229 sh_330 rfl rfl rfl (Nat.le_of_ble_eq_true rfl) (s_X12_bad E l _ (by omega) _ 1 htk) (pc' := 13) rfl (fun vv M_10 hq co10 hcm10 => ?_)
    obtain ⟨rfl, frM_10, msM_10_0, msM_10_1⟩ := hq
    refine ax_reS (st2 := [.inl 0]) rfl ?_
    refine ax_zret dX12_need_13 rfl (by decide) ?_
    refine ⟨rfl, ?_, ?_, ?_, ?_⟩
    · refine congrArg (fun z => some (Sum.inl z)) ?_
      rw [qz]
      rfl
    · intro x0 i0 hai
      exact ((frM_10 x0 i0 (fun h => h.elim (fun h => hai (Or.inr (Or.inr (Or.inr (Or.inr (Or.inr (Or.inr (Or.inl h)))))))) (fun h => hai (Or.inr (Or.inr (Or.inr (Or.inr (Or.inr (Or.inr (Or.inr h)))))))))).trans rfl)
    · exact f_pok_no qz msM_10_0 msM_10_1
    · have q9 : M_10 330 21 = v0 := ((frM_10 330 21 (fun h => h.elim (fun h => absurd h.2 (by decide)) (fun h => absurd h.2 (by decide)))).trans hv0)
      have q9b : 0 ≤ v0 ∧ v0 ≤ 9999 := by omega
      exact f_r9 q9 q9b
set_option maxRecDepth 20000 in
theorem s_X12_every (nd : Nat) (H1 : f_C1 nd) (E : ax_Env) (l : Launch) (d : Nat) (hd : 14 + 3 * nd ≤ d) (M : ax_Mem) (L : List f_Tk) {ta : Int → Int} (hta : M 339 = ta) {fs : Int → Int} (hfs : M 336 = fs) {p0 : Int} (hp0 : M 330 18 = p0) {to : Int} (hto : M 330 19 = to) {tk : Int} (htk : M 330 20 = tk) {v0 : Int} (hv0 : M 330 21 = v0) {sn : Int} (hsn : M 330 15 = sn) {dp : Int} (hdp : M 330 25 = dp) {tn : Int} (htn : M 330 17 = tn) {rd : Int} (hrd : M 330 13 = rd) (hg0 : 0 ≤ tn ∧ tn ≤ 400) (hg1 : f_tp ta tn) (hg2 : f_cur ta tn rd L p0 to tk v0) (hg3 : 0 ≤ sn ∧ sn + (L.length : Int) ≤ 405) (hg4 : 0 ≤ dp ∧ dp + (nd : Int) = 8) : ax_G E l d iX12_every [.inr 330] M (fun z0 M2 => z0 = some (.inl (f_rb (f_evy (f_one nd) L))) ∧ (∀ x0 i0 : Int, ¬ (x0 = 336 ∨ (x0 = 330 ∧ i0 = 15) ∨ (x0 = 330 ∧ i0 = 18) ∨ (x0 = 330 ∧ i0 = 19) ∨ (x0 = 330 ∧ i0 = 20) ∨ (x0 = 330 ∧ i0 = 21) ∨ (x0 = 330 ∧ i0 = 22) ∨ (x0 = 330 ∧ i0 = 23) ∨ (x0 = 330 ∧ i0 = 25)) → M2 x0 i0 = M x0 i0) ∧ (f_pok ta tn rd fs sn dp (f_evy (f_one nd) L) M2) ∧ (0 ≤ M2 330 21 ∧ M2 330 21 ≤ 9999)) := by
  obtain ⟨d, rfl⟩ : ∃ d0, d = d0 + 1 := ⟨d - 1, by omega⟩
  refine ax_start rfl (Nat.le_of_ble_eq_true rfl) (ls := [some (.inr 330)]) rfl (fun hav hcm => ?_)
  clear hav
  have qR := f_cur_rg hg2
  have qh := f_cur_hd hg2
  refine ax_aload_n dX12_every_0 rfl rfl (pc' := 1) rfl ?_
  refine ax_invG [] [] dX12_every_1 mlX12_255 sh_330 rfl rfl rfl (Nat.le_of_ble_eq_true rfl) (H1 E l _ (by omega) _ L hta hfs hp0 hto htk hv0 hsn hdp htn hrd (by first | omega | assumption) (by first | omega | assumption) (by first | omega | assumption) (by first | omega | assumption) (by first | omega | assumption)) (pc' := 4) rfl (fun vv M_1 hq co1 hcm1 => ?_)
  obtain ⟨rfl, frM_1, fa1_0, fa1_1⟩ := hq
  refine ax_reS (st2 := [.inl (f_rb (f_one nd L))]) rfl ?_
  have cc1 : -2147483648 ≤ f_rb (f_one nd L) ∧ f_rb (f_one nd L) < 2147483648 := co1 _ rfl
  refine ax_if_ne (tgt := 9) dX12_every_4 (by decide) (pc' := 7) rfl (fun h4 => ?_) (fun h4 => ?_)
  · obtain ⟨L2, o2, qr2⟩ := f_rb_ok h4
    rw [qr2] at fa1_0
    obtain ⟨qm2, qs2, qc2, qd2⟩ := fa1_0
    have qg2 := f_one_gd nd _ L2 o2 qr2
    have qR2 := f_cur_rg qc2
    have qh2 := f_cur_hd qc2
    have qw2 := f_wt_len o2
    have LP1 : ∀ (kq2 : Nat) (f1 : Int → Int) (s1 p1 t1 k1 v1 d1 : Int) (L1 : List f_Tk) (o1 : List f_Op) (M1 : ax_Mem) (hm1 : (L1.length : Int) < (kq2 : Nat)) (fr1 : ∀ x0 i0 : Int, ¬ (x0 = 336 ∨ (x0 = 330 ∧ i0 = 15) ∨ (x0 = 330 ∧ i0 = 18) ∨ (x0 = 330 ∧ i0 = 19) ∨ (x0 = 330 ∧ i0 = 20) ∨ (x0 = 330 ∧ i0 = 21) ∨ (x0 = 330 ∧ i0 = 25) ∨ (x0 = 330 ∧ i0 = 22) ∨ (x0 = 330 ∧ i0 = 23)) → M1 x0 i0 = M_1 x0 i0) (mr1_336 : M1 336 = f1) (ms1_330_15 : M1 330 15 = s1) (ms1_330_18 : M1 330 18 = p1) (ms1_330_19 : M1 330 19 = t1) (ms1_330_20 : M1 330 20 = k1) (ms1_330_21 : M1 330 21 = v1) (ms1_330_25 : M1 330 25 = d1) (iv1_0 : f_cur ta tn rd L1 p1 t1 k1 v1) (iv1_1 : f1 = f_put fs sn o1) (iv1_2 : s1 = sn + (o1.length : Int)) (iv1_3 : f_wt o1 + L1.length ≤ L.length) (iv1_4 : f_evy (f_one nd) L = f_pre o1 (f_rep (f_qOp 5 31 (f_one nd)) L1)) (iv1_5 : d1 = dp), ax_W E l (d + 1) 0 0 iX12_every 9 [some (.inr 330)] [] SH M1 (ax_P (fun z0 M2 => z0 = some (.inl (f_rb (f_evy (f_one nd) L))) ∧ (∀ x0 i0 : Int, ¬ (x0 = 336 ∨ (x0 = 330 ∧ i0 = 15) ∨ (x0 = 330 ∧ i0 = 18) ∨ (x0 = 330 ∧ i0 = 19) ∨ (x0 = 330 ∧ i0 = 20) ∨ (x0 = 330 ∧ i0 = 21) ∨ (x0 = 330 ∧ i0 = 22) ∨ (x0 = 330 ∧ i0 = 23) ∨ (x0 = 330 ∧ i0 = 25)) → M2 x0 i0 = M x0 i0) ∧ (f_pok ta tn rd fs sn dp (f_evy (f_one nd) L) M2) ∧ (0 ≤ M2 330 21 ∧ M2 330 21 ≤ 9999))) := by
      intro kq2
      induction kq2 with
      | zero =>
        intro f1 s1 p1 t1 k1 v1 d1 L1 o1 M1 hm1 fr1 mr1_336 ms1_330_15 ms1_330_18 ms1_330_19 ms1_330_20 ms1_330_21 ms1_330_25 iv1_0 iv1_1 iv1_2 iv1_3 iv1_4 iv1_5
        exfalso
        omega
      | succ kq2 ih3 =>
        intro f1 s1 p1 t1 k1 v1 d1 L1 o1 M1 hm1 fr1 mr1_336 ms1_330_15 ms1_330_18 ms1_330_19 ms1_330_20 ms1_330_21 ms1_330_25 iv1_0 iv1_1 iv1_2 iv1_3 iv1_4 iv1_5
        have qR1 := f_cur_rg iv1_0
        have qh1 := f_cur_hd iv1_0
        have qw1 := f_wt_len o1
        refine ax_aload_n dX12_every_9 rfl rfl (pc' := 10) rfl ?_
        refine ax_geti (v := t1) dX12_every_10 flX12_208 rfl sh_330 ms1_330_19 rfl (pc' := 13) rfl ?_
        refine ax_iconst dX12_every_13 (by decide) (pc' := 14) rfl ?_
        refine ax_icmp_ne (tgt := 40) dX12_every_14 (by decide) (pc' := 17) rfl (fun h14 => ?_) (fun h14 => ?_)
        · have qz : f_evy (f_one nd) L = .inr (L1, o1) := by
            rw [iv1_4, f_rep_none (by unfold f_qOp; rw [if_neg (by omega)]), f_pre_nil]
          refine ax_iconst dX12_every_40 (by decide) (pc' := 41) rfl ?_
          refine ax_zret dX12_every_41 rfl (by decide) ?_
          refine ⟨rfl, ?_, ?_, ?_, ?_⟩
          · refine congrArg (fun z => some (Sum.inl z)) ?_
            rw [qz]
            rfl
          · intro x0 i0 hai
            exact ((fr1 x0 i0 (fun h => h.elim (fun h => hai (Or.inl h)) (fun h => h.elim (fun h => hai (Or.inr (Or.inl h))) (fun h => h.elim (fun h => hai (Or.inr (Or.inr (Or.inl h)))) (fun h => h.elim (fun h => hai (Or.inr (Or.inr (Or.inr (Or.inl h))))) (fun h => h.elim (fun h => hai (Or.inr (Or.inr (Or.inr (Or.inr (Or.inl h)))))) (fun h => h.elim (fun h => hai (Or.inr (Or.inr (Or.inr (Or.inr (Or.inr (Or.inl h))))))) (fun h => h.elim (fun h => hai (Or.inr (Or.inr (Or.inr (Or.inr (Or.inr (Or.inr (Or.inr (Or.inr h))))))))) (fun h => h.elim (fun h => hai (Or.inr (Or.inr (Or.inr (Or.inr (Or.inr (Or.inr (Or.inl h)))))))) (fun h => hai (Or.inr (Or.inr (Or.inr (Or.inr (Or.inr (Or.inr (Or.inr (Or.inl h)))))))))))))))))).trans ((frM_1 x0 i0 (fun h => h.elim (fun h => hai (Or.inl h)) (fun h => h.elim (fun h => hai (Or.inr (Or.inl h))) (fun h => h.elim (fun h => hai (Or.inr (Or.inr (Or.inl h)))) (fun h => h.elim (fun h => hai (Or.inr (Or.inr (Or.inr (Or.inl h))))) (fun h => h.elim (fun h => hai (Or.inr (Or.inr (Or.inr (Or.inr (Or.inl h)))))) (fun h => h.elim (fun h => hai (Or.inr (Or.inr (Or.inr (Or.inr (Or.inr (Or.inl h))))))) (fun h => h.elim (fun h => hai (Or.inr (Or.inr (Or.inr (Or.inr (Or.inr (Or.inr (Or.inl h)))))))) (fun h => h.elim (fun h => hai (Or.inr (Or.inr (Or.inr (Or.inr (Or.inr (Or.inr (Or.inr (Or.inl h))))))))) (fun h => hai (Or.inr (Or.inr (Or.inr (Or.inr (Or.inr (Or.inr (Or.inr (Or.inr h)))))))))))))))))).trans rfl))
          · refine f_pok_ok qz (Eq.trans mr1_336 ?_) (Eq.trans ms1_330_15 ?_) iv1_0 ms1_330_18 ms1_330_19 ms1_330_20 ms1_330_21 (Eq.trans ms1_330_25 ?_)
            · exact iv1_1
            · exact iv1_2
            · exact iv1_5
          · have q9 : M1 330 21 = v1 := ms1_330_21
            have q9b : 0 ≤ v1 ∧ v1 ≤ 9999 := by omega
            exact f_r9 q9 q9b
        · have qq1 : (f_qOp 5 31 (f_one nd)) L1 = some (f_aft [(31, 0)] (f_one nd L1.tail)) := by
            unfold f_qOp
            rw [if_pos (by omega)]
          obtain ⟨L4, qt4, ql4, qc4⟩ := f_cur_next iv1_0 (by omega)
          have qR4 := f_cur_rg qc4
          have qh4 := f_cur_hd qc4
          refine ax_aload_n dX12_every_17 rfl rfl (pc' := 18) rfl ?_
          refine ax_invG [] [] dX12_every_18 mlX12_232 sh_330 rfl rfl rfl (Nat.le_of_ble_eq_true rfl) (s_X12_next0 E l _ (by omega) _ ((funext fun i0 => fr1 339 i0 (fun h => h.elim (fun h => absurd h (by decide)) (fun h => h.elim (fun h => absurd h.1 (by decide)) (fun h => h.elim (fun h => absurd h.1 (by decide)) (fun h => h.elim (fun h => absurd h.1 (by decide)) (fun h => h.elim (fun h => absurd h.1 (by decide)) (fun h => h.elim (fun h => absurd h.1 (by decide)) (fun h => h.elim (fun h => absurd h.1 (by decide)) (fun h => h.elim (fun h => absurd h.1 (by decide)) (fun h => absurd h.1 (by decide))))))))))).trans ((funext fun i0 => frM_1 339 i0 (fun h => h.elim (fun h => absurd h (by decide)) (fun h => h.elim (fun h => absurd h.1 (by decide)) (fun h => h.elim (fun h => absurd h.1 (by decide)) (fun h => h.elim (fun h => absurd h.1 (by decide)) (fun h => h.elim (fun h => absurd h.1 (by decide)) (fun h => h.elim (fun h => absurd h.1 (by decide)) (fun h => h.elim (fun h => absurd h.1 (by decide)) (fun h => h.elim (fun h => absurd h.1 (by decide)) (fun h => absurd h.1 (by decide))))))))))).trans hta)) ms1_330_18 ((fr1 330 17 (fun h => h.elim (fun h => absurd h (by decide)) (fun h => h.elim (fun h => absurd h.2 (by decide)) (fun h => h.elim (fun h => absurd h.2 (by decide)) (fun h => h.elim (fun h => absurd h.2 (by decide)) (fun h => h.elim (fun h => absurd h.2 (by decide)) (fun h => h.elim (fun h => absurd h.2 (by decide)) (fun h => h.elim (fun h => absurd h.2 (by decide)) (fun h => h.elim (fun h => absurd h.2 (by decide)) (fun h => absurd h.2 (by decide))))))))))).trans ((frM_1 330 17 (fun h => h.elim (fun h => absurd h (by decide)) (fun h => h.elim (fun h => absurd h.2 (by decide)) (fun h => h.elim (fun h => absurd h.2 (by decide)) (fun h => h.elim (fun h => absurd h.2 (by decide)) (fun h => h.elim (fun h => absurd h.2 (by decide)) (fun h => h.elim (fun h => absurd h.2 (by decide)) (fun h => h.elim (fun h => absurd h.2 (by decide)) (fun h => h.elim (fun h => absurd h.2 (by decide)) (fun h => absurd h.2 (by decide))))))))))).trans htn)) ((fr1 330 13 (fun h => h.elim (fun h => absurd h (by decide)) (fun h => h.elim (fun h => absurd h.2 (by decide)) (fun h => h.elim (fun h => absurd h.2 (by decide)) (fun h => h.elim (fun h => absurd h.2 (by decide)) (fun h => h.elim (fun h => absurd h.2 (by decide)) (fun h => h.elim (fun h => absurd h.2 (by decide)) (fun h => h.elim (fun h => absurd h.2 (by decide)) (fun h => h.elim (fun h => absurd h.2 (by decide)) (fun h => absurd h.2 (by decide))))))))))).trans ((frM_1 330 13 (fun h => h.elim (fun h => absurd h (by decide)) (fun h => h.elim (fun h => absurd h.2 (by decide)) (fun h => h.elim (fun h => absurd h.2 (by decide)) (fun h => h.elim (fun h => absurd h.2 (by decide)) (fun h => h.elim (fun h => absurd h.2 (by decide)) (fun h => h.elim (fun h => absurd h.2 (by decide)) (fun h => h.elim (fun h => absurd h.2 (by decide)) (fun h => h.elim (fun h => absurd h.2 (by decide)) (fun h => absurd h.2 (by decide))))))))))).trans hrd)) ms1_330_21 (by first | omega | assumption) (by first | omega | assumption)) (pc' := 21) rfl (fun vv M_18 hq co18 hcm18 => ?_)
          obtain ⟨rfl, frM_18, msM_18_0, msM_18_1, msM_18_2, msM_18_3⟩ := hq
          refine ax_reS (st2 := []) rfl ?_
          refine ax_aload_n dX12_every_21 rfl rfl (pc' := 22) rfl ?_
          refine ax_invG [] [] dX12_every_22 mlX12_255 sh_330 rfl rfl rfl (Nat.le_of_ble_eq_true rfl) (H1 E l _ (by omega) _ L4 ((funext fun i0 => frM_18 339 i0 (fun h => h.elim (fun h => absurd h.1 (by decide)) (fun h => h.elim (fun h => absurd h.1 (by decide)) (fun h => h.elim (fun h => absurd h.1 (by decide)) (fun h => absurd h.1 (by decide)))))).trans ((funext fun i0 => fr1 339 i0 (fun h => h.elim (fun h => absurd h (by decide)) (fun h => h.elim (fun h => absurd h.1 (by decide)) (fun h => h.elim (fun h => absurd h.1 (by decide)) (fun h => h.elim (fun h => absurd h.1 (by decide)) (fun h => h.elim (fun h => absurd h.1 (by decide)) (fun h => h.elim (fun h => absurd h.1 (by decide)) (fun h => h.elim (fun h => absurd h.1 (by decide)) (fun h => h.elim (fun h => absurd h.1 (by decide)) (fun h => absurd h.1 (by decide))))))))))).trans ((funext fun i0 => frM_1 339 i0 (fun h => h.elim (fun h => absurd h (by decide)) (fun h => h.elim (fun h => absurd h.1 (by decide)) (fun h => h.elim (fun h => absurd h.1 (by decide)) (fun h => h.elim (fun h => absurd h.1 (by decide)) (fun h => h.elim (fun h => absurd h.1 (by decide)) (fun h => h.elim (fun h => absurd h.1 (by decide)) (fun h => h.elim (fun h => absurd h.1 (by decide)) (fun h => h.elim (fun h => absurd h.1 (by decide)) (fun h => absurd h.1 (by decide))))))))))).trans hta))) ((funext fun i0 => frM_18 336 i0 (fun h => h.elim (fun h => absurd h.1 (by decide)) (fun h => h.elim (fun h => absurd h.1 (by decide)) (fun h => h.elim (fun h => absurd h.1 (by decide)) (fun h => absurd h.1 (by decide)))))).trans mr1_336) msM_18_0 msM_18_1 msM_18_2 msM_18_3 ((frM_18 330 15 (fun h => h.elim (fun h => absurd h.2 (by decide)) (fun h => h.elim (fun h => absurd h.2 (by decide)) (fun h => h.elim (fun h => absurd h.2 (by decide)) (fun h => absurd h.2 (by decide)))))).trans ms1_330_15) ((frM_18 330 25 (fun h => h.elim (fun h => absurd h.2 (by decide)) (fun h => h.elim (fun h => absurd h.2 (by decide)) (fun h => h.elim (fun h => absurd h.2 (by decide)) (fun h => absurd h.2 (by decide)))))).trans ms1_330_25) ((frM_18 330 17 (fun h => h.elim (fun h => absurd h.2 (by decide)) (fun h => h.elim (fun h => absurd h.2 (by decide)) (fun h => h.elim (fun h => absurd h.2 (by decide)) (fun h => absurd h.2 (by decide)))))).trans ((fr1 330 17 (fun h => h.elim (fun h => absurd h (by decide)) (fun h => h.elim (fun h => absurd h.2 (by decide)) (fun h => h.elim (fun h => absurd h.2 (by decide)) (fun h => h.elim (fun h => absurd h.2 (by decide)) (fun h => h.elim (fun h => absurd h.2 (by decide)) (fun h => h.elim (fun h => absurd h.2 (by decide)) (fun h => h.elim (fun h => absurd h.2 (by decide)) (fun h => h.elim (fun h => absurd h.2 (by decide)) (fun h => absurd h.2 (by decide))))))))))).trans ((frM_1 330 17 (fun h => h.elim (fun h => absurd h (by decide)) (fun h => h.elim (fun h => absurd h.2 (by decide)) (fun h => h.elim (fun h => absurd h.2 (by decide)) (fun h => h.elim (fun h => absurd h.2 (by decide)) (fun h => h.elim (fun h => absurd h.2 (by decide)) (fun h => h.elim (fun h => absurd h.2 (by decide)) (fun h => h.elim (fun h => absurd h.2 (by decide)) (fun h => h.elim (fun h => absurd h.2 (by decide)) (fun h => absurd h.2 (by decide))))))))))).trans htn))) ((frM_18 330 13 (fun h => h.elim (fun h => absurd h.2 (by decide)) (fun h => h.elim (fun h => absurd h.2 (by decide)) (fun h => h.elim (fun h => absurd h.2 (by decide)) (fun h => absurd h.2 (by decide)))))).trans ((fr1 330 13 (fun h => h.elim (fun h => absurd h (by decide)) (fun h => h.elim (fun h => absurd h.2 (by decide)) (fun h => h.elim (fun h => absurd h.2 (by decide)) (fun h => h.elim (fun h => absurd h.2 (by decide)) (fun h => h.elim (fun h => absurd h.2 (by decide)) (fun h => h.elim (fun h => absurd h.2 (by decide)) (fun h => h.elim (fun h => absurd h.2 (by decide)) (fun h => h.elim (fun h => absurd h.2 (by decide)) (fun h => absurd h.2 (by decide))))))))))).trans ((frM_1 330 13 (fun h => h.elim (fun h => absurd h (by decide)) (fun h => h.elim (fun h => absurd h.2 (by decide)) (fun h => h.elim (fun h => absurd h.2 (by decide)) (fun h => h.elim (fun h => absurd h.2 (by decide)) (fun h => h.elim (fun h => absurd h.2 (by decide)) (fun h => h.elim (fun h => absurd h.2 (by decide)) (fun h => h.elim (fun h => absurd h.2 (by decide)) (fun h => h.elim (fun h => absurd h.2 (by decide)) (fun h => absurd h.2 (by decide))))))))))).trans hrd))) (by first | omega | assumption) (by first | omega | assumption) (by first | omega | assumption) (by first | omega | assumption) (by first | omega | assumption)) (pc' := 25) rfl (fun vv M_22 hq co22 hcm22 => ?_)
          obtain ⟨rfl, frM_22, fa22_0, fa22_1⟩ := hq
          refine ax_reS (st2 := [.inl (f_rb (f_one nd L4))]) rfl ?_
          have cc22 : -2147483648 ≤ f_rb (f_one nd L4) ∧ f_rb (f_one nd L4) < 2147483648 := co22 _ rfl
          refine ax_if_ne (tgt := 30) dX12_every_25 (by decide) (pc' := 28) rfl (fun h25 => ?_) (fun h25 => ?_)
          · obtain ⟨L8, o8, qr8⟩ := f_rb_ok h25
            rw [qr8] at fa22_0
            obtain ⟨qm8, qs8, qc8, qd8⟩ := fa22_0
            have qg8 := f_one_gd nd _ L8 o8 qr8
            have qR8 := f_cur_rg qc8
            have qh8 := f_cur_hd qc8
            have qw8 := f_wt_len o8
            obtain ⟨o3, qo3⟩ : ∃ z, z = o8 ++ [((31 : Int), (0 : Int))] := ⟨_, rfl⟩
            obtain ⟨L3, qL3⟩ : ∃ z, z = L8 := ⟨_, rfl⟩
            have qq : (f_qOp 5 31 (f_one nd)) L1 = some (f_aft [(31, 0)] (f_one nd L4)) := by
              rw [qq1, qt4]
            have qr3 : f_aft [(31, 0)] (f_one nd L4) = .inr (L3, o3) := by
              rw [f_aft_ok qr8, qo3, qL3]
            have qg3 := (f_qOp_gd (by decide) (by decide) (f_one_gd nd)) L1 _ qq L3 o3 qr3
            have qw3 := f_wt_len o3
            have qc3 : f_cur ta tn rd L3 (M_22 330 18) (M_22 330 19) (M_22 330 20) (M_22 330 21) := by
              rw [qL3]
              exact qc8
            refine ax_aload_n dX12_every_30 rfl rfl (pc' := 31) rfl ?_
            refine ax_bipush dX12_every_31 (by decide) (pc' := 33) rfl ?_
            refine ax_iconst dX12_every_33 (by decide) (pc' := 34) rfl ?_
            refine ax_invG [.inl 31, .inl 0] [] dX12_every_34 mlX12_245 sh_330 rfl rfl rfl (Nat.le_of_ble_eq_true rfl) (s_X12_lay E l _ (by omega) _ 31 0 rfl rfl (by first | omega | assumption)) (pc' := 37) rfl (fun vv M_34 hq co34 hcm34 => ?_)
            obtain ⟨rfl, frM_34, mrM_34_0, msM_34_0⟩ := hq
            refine ax_reS (st2 := []) rfl ?_
            have qp3 : f_up (f_up (M_22 336) (2 * (M_22 330 15)) 31) (2 * (M_22 330 15) + 1) 0 = f_put f1 s1 o3 := by
              rw [qo3]
              exact f_put_snoc qm8 qs8
            have qn3 : (M_22 330 15) + 1 = s1 + (o3.length : Int) := by
              rw [qo3, List.length_append, qs8]
              simp only [List.length_cons, List.length_nil]
              omega
            refine ax_goto dX12_every_37 (pc' := 9) (by decide) ?_
            refine ih3 (f_up (f_up (M_22 336) (2 * (M_22 330 15)) 31) (2 * (M_22 330 15) + 1) 0) ((M_22 330 15) + 1) (M_22 330 18) (M_22 330 19) (M_22 330 20) (M_22 330 21) (M_22 330 25) L3 (o1 ++ o3) M_34 ?_ ?_ ?_ ?_ ?_ ?_ ?_ ?_ ?_ ?_ ?_ ?_ ?_ ?_ ?_
            · omega
            · intro x0 i0 hai
              exact ((frM_34 x0 i0 (fun h => h.elim (fun h => hai (Or.inl h)) (fun h => hai (Or.inr (Or.inl h))))).trans ((frM_22 x0 i0 (fun h => h.elim (fun h => hai (Or.inl h)) (fun h => h.elim (fun h => hai (Or.inr (Or.inl h))) (fun h => h.elim (fun h => hai (Or.inr (Or.inr (Or.inl h)))) (fun h => h.elim (fun h => hai (Or.inr (Or.inr (Or.inr (Or.inl h))))) (fun h => h.elim (fun h => hai (Or.inr (Or.inr (Or.inr (Or.inr (Or.inl h)))))) (fun h => h.elim (fun h => hai (Or.inr (Or.inr (Or.inr (Or.inr (Or.inr (Or.inl h))))))) (fun h => h.elim (fun h => hai (Or.inr (Or.inr (Or.inr (Or.inr (Or.inr (Or.inr (Or.inr (Or.inl h))))))))) (fun h => h.elim (fun h => hai (Or.inr (Or.inr (Or.inr (Or.inr (Or.inr (Or.inr (Or.inr (Or.inr h))))))))) (fun h => hai (Or.inr (Or.inr (Or.inr (Or.inr (Or.inr (Or.inr (Or.inl h))))))))))))))))).trans ((frM_18 x0 i0 (fun h => h.elim (fun h => hai (Or.inr (Or.inr (Or.inl h)))) (fun h => h.elim (fun h => hai (Or.inr (Or.inr (Or.inr (Or.inl h))))) (fun h => h.elim (fun h => hai (Or.inr (Or.inr (Or.inr (Or.inr (Or.inl h)))))) (fun h => hai (Or.inr (Or.inr (Or.inr (Or.inr (Or.inr (Or.inl h))))))))))).trans ((fr1 x0 i0 (fun h => h.elim (fun h => hai (Or.inl h)) (fun h => h.elim (fun h => hai (Or.inr (Or.inl h))) (fun h => h.elim (fun h => hai (Or.inr (Or.inr (Or.inl h)))) (fun h => h.elim (fun h => hai (Or.inr (Or.inr (Or.inr (Or.inl h))))) (fun h => h.elim (fun h => hai (Or.inr (Or.inr (Or.inr (Or.inr (Or.inl h)))))) (fun h => h.elim (fun h => hai (Or.inr (Or.inr (Or.inr (Or.inr (Or.inr (Or.inl h))))))) (fun h => h.elim (fun h => hai (Or.inr (Or.inr (Or.inr (Or.inr (Or.inr (Or.inr (Or.inl h)))))))) (fun h => h.elim (fun h => hai (Or.inr (Or.inr (Or.inr (Or.inr (Or.inr (Or.inr (Or.inr (Or.inl h))))))))) (fun h => hai (Or.inr (Or.inr (Or.inr (Or.inr (Or.inr (Or.inr (Or.inr (Or.inr h)))))))))))))))))).trans rfl))))
            · exact mrM_34_0
            · exact msM_34_0
            · exact ((frM_34 330 18 (fun h => h.elim (fun h => absurd h (by decide)) (fun h => absurd h.2 (by decide)))).trans rfl)
            · exact ((frM_34 330 19 (fun h => h.elim (fun h => absurd h (by decide)) (fun h => absurd h.2 (by decide)))).trans rfl)
            · exact ((frM_34 330 20 (fun h => h.elim (fun h => absurd h (by decide)) (fun h => absurd h.2 (by decide)))).trans rfl)
            · exact ((frM_34 330 21 (fun h => h.elim (fun h => absurd h (by decide)) (fun h => absurd h.2 (by decide)))).trans rfl)
            · exact ((frM_34 330 25 (fun h => h.elim (fun h => absurd h (by decide)) (fun h => absurd h.2 (by decide)))).trans rfl)
            · exact qc3
            · rw [qp3]
              exact f_put_more iv1_1 iv1_2
            · rw [qn3, iv1_2, List.length_append]
              omega
            · rw [f_wt_app]
              omega
            · rw [iv1_4, f_rep_some (f_qOp_gd (by decide) (by decide) (f_one_gd nd)) qq, qr3]
              show f_pre o1 (f_pre o3 (f_rep (f_qOp 5 31 (f_one nd)) L3)) = f_pre (o1 ++ o3) (f_rep (f_qOp 5 31 (f_one nd)) L3)
              exact f_pre_pre o1 o3 _
            · exact qd8.trans iv1_5
          · obtain ⟨kk8, ss8, qr8⟩ := f_rb_no h25
            rw [qr8] at fa22_0
            have qz : f_evy (f_one nd) L = .inl (kk8, ss8) := by
              rw [iv1_4]
              refine f_rep_no (f_qOp_gd (by decide) (by decide) (f_one_gd nd)) ?_
              rw [qq1, qt4, f_aft_no qr8]
            refine ax_iconst dX12_every_28 (by decide) (pc' := 29) rfl ?_
            refine ax_zret dX12_every_29 rfl (by decide) ?_
            refine ⟨rfl, ?_, ?_, ?_, ?_⟩
            · refine congrArg (fun z => some (Sum.inl z)) ?_
              rw [qz]
              rfl
            · intro x0 i0 hai
              exact ((frM_22 x0 i0 (fun h => h.elim (fun h => hai (Or.inl h)) (fun h => h.elim (fun h => hai (Or.inr (Or.inl h))) (fun h => h.elim (fun h => hai (Or.inr (Or.inr (Or.inl h)))) (fun h => h.elim (fun h => hai (Or.inr (Or.inr (Or.inr (Or.inl h))))) (fun h => h.elim (fun h => hai (Or.inr (Or.inr (Or.inr (Or.inr (Or.inl h)))))) (fun h => h.elim (fun h => hai (Or.inr (Or.inr (Or.inr (Or.inr (Or.inr (Or.inl h))))))) (fun h => h.elim (fun h => hai (Or.inr (Or.inr (Or.inr (Or.inr (Or.inr (Or.inr (Or.inl h)))))))) (fun h => h.elim (fun h => hai (Or.inr (Or.inr (Or.inr (Or.inr (Or.inr (Or.inr (Or.inr (Or.inl h))))))))) (fun h => hai (Or.inr (Or.inr (Or.inr (Or.inr (Or.inr (Or.inr (Or.inr (Or.inr h)))))))))))))))))).trans ((frM_18 x0 i0 (fun h => h.elim (fun h => hai (Or.inr (Or.inr (Or.inl h)))) (fun h => h.elim (fun h => hai (Or.inr (Or.inr (Or.inr (Or.inl h))))) (fun h => h.elim (fun h => hai (Or.inr (Or.inr (Or.inr (Or.inr (Or.inl h)))))) (fun h => hai (Or.inr (Or.inr (Or.inr (Or.inr (Or.inr (Or.inl h))))))))))).trans ((fr1 x0 i0 (fun h => h.elim (fun h => hai (Or.inl h)) (fun h => h.elim (fun h => hai (Or.inr (Or.inl h))) (fun h => h.elim (fun h => hai (Or.inr (Or.inr (Or.inl h)))) (fun h => h.elim (fun h => hai (Or.inr (Or.inr (Or.inr (Or.inl h))))) (fun h => h.elim (fun h => hai (Or.inr (Or.inr (Or.inr (Or.inr (Or.inl h)))))) (fun h => h.elim (fun h => hai (Or.inr (Or.inr (Or.inr (Or.inr (Or.inr (Or.inl h))))))) (fun h => h.elim (fun h => hai (Or.inr (Or.inr (Or.inr (Or.inr (Or.inr (Or.inr (Or.inr (Or.inr h))))))))) (fun h => h.elim (fun h => hai (Or.inr (Or.inr (Or.inr (Or.inr (Or.inr (Or.inr (Or.inl h)))))))) (fun h => hai (Or.inr (Or.inr (Or.inr (Or.inr (Or.inr (Or.inr (Or.inr (Or.inl h)))))))))))))))))).trans ((frM_1 x0 i0 (fun h => h.elim (fun h => hai (Or.inl h)) (fun h => h.elim (fun h => hai (Or.inr (Or.inl h))) (fun h => h.elim (fun h => hai (Or.inr (Or.inr (Or.inl h)))) (fun h => h.elim (fun h => hai (Or.inr (Or.inr (Or.inr (Or.inl h))))) (fun h => h.elim (fun h => hai (Or.inr (Or.inr (Or.inr (Or.inr (Or.inl h)))))) (fun h => h.elim (fun h => hai (Or.inr (Or.inr (Or.inr (Or.inr (Or.inr (Or.inl h))))))) (fun h => h.elim (fun h => hai (Or.inr (Or.inr (Or.inr (Or.inr (Or.inr (Or.inr (Or.inl h)))))))) (fun h => h.elim (fun h => hai (Or.inr (Or.inr (Or.inr (Or.inr (Or.inr (Or.inr (Or.inr (Or.inl h))))))))) (fun h => hai (Or.inr (Or.inr (Or.inr (Or.inr (Or.inr (Or.inr (Or.inr (Or.inr h)))))))))))))))))).trans rfl))))
            · exact f_pok_no qz fa22_0.1 fa22_0.2
            · have q9 : M_22 330 21 = M_22 330 21 := rfl
              have q9b : 0 ≤ M_22 330 21 ∧ M_22 330 21 ≤ 9999 := by omega
              exact f_r9 q9 q9b
    refine LP1 ((L2.length : Int) : Int).toNat.succ (M_1 336) (M_1 330 15) (M_1 330 18) (M_1 330 19) (M_1 330 20) (M_1 330 21) (M_1 330 25) L2 o2 M_1 ?_ ?_ ?_ ?_ ?_ ?_ ?_ ?_ ?_ ?_ ?_ ?_ ?_ ?_ ?_
    · omega
    · exact fun a i _ => rfl
    · exact rfl
    · exact rfl
    · exact rfl
    · exact rfl
    · exact rfl
    · exact rfl
    · exact rfl
    · exact qc2
    · exact qm2
    · exact qs2
    · omega
    · unfold f_evy
      rw [qr2]
      rfl
    · exact qd2
  · obtain ⟨kk2, ss2, qr2⟩ := f_rb_no h4
    rw [qr2] at fa1_0
    have qz : f_evy (f_one nd) L = .inl (kk2, ss2) := by
      unfold f_evy
      rw [qr2]
      rfl
    refine ax_iconst dX12_every_7 (by decide) (pc' := 8) rfl ?_
    refine ax_zret dX12_every_8 rfl (by decide) ?_
    refine ⟨rfl, ?_, ?_, ?_, ?_⟩
    · refine congrArg (fun z => some (Sum.inl z)) ?_
      rw [qz]
      rfl
    · intro x0 i0 hai
      exact ((frM_1 x0 i0 (fun h => h.elim (fun h => hai (Or.inl h)) (fun h => h.elim (fun h => hai (Or.inr (Or.inl h))) (fun h => h.elim (fun h => hai (Or.inr (Or.inr (Or.inl h)))) (fun h => h.elim (fun h => hai (Or.inr (Or.inr (Or.inr (Or.inl h))))) (fun h => h.elim (fun h => hai (Or.inr (Or.inr (Or.inr (Or.inr (Or.inl h)))))) (fun h => h.elim (fun h => hai (Or.inr (Or.inr (Or.inr (Or.inr (Or.inr (Or.inl h))))))) (fun h => h.elim (fun h => hai (Or.inr (Or.inr (Or.inr (Or.inr (Or.inr (Or.inr (Or.inl h)))))))) (fun h => h.elim (fun h => hai (Or.inr (Or.inr (Or.inr (Or.inr (Or.inr (Or.inr (Or.inr (Or.inl h))))))))) (fun h => hai (Or.inr (Or.inr (Or.inr (Or.inr (Or.inr (Or.inr (Or.inr (Or.inr h)))))))))))))))))).trans rfl)
    · exact f_pok_no qz fa1_0.1 fa1_0.2
    · have q9 : M_1 330 21 = M_1 330 21 := rfl
      have q9b : 0 ≤ M_1 330 21 ∧ M_1 330 21 ≤ 9999 := by omega
      exact f_r9 q9 q9b
set_option maxRecDepth 20000 in
theorem s_X12_any (nd : Nat) (H1 : f_C1 nd) (E : ax_Env) (l : Launch) (d : Nat) (hd : 15 + 3 * nd ≤ d) (M : ax_Mem) (L : List f_Tk) {ta : Int → Int} (hta : M 339 = ta) {fs : Int → Int} (hfs : M 336 = fs) {p0 : Int} (hp0 : M 330 18 = p0) {to : Int} (hto : M 330 19 = to) {tk : Int} (htk : M 330 20 = tk) {v0 : Int} (hv0 : M 330 21 = v0) {sn : Int} (hsn : M 330 15 = sn) {dp : Int} (hdp : M 330 25 = dp) {tn : Int} (htn : M 330 17 = tn) {rd : Int} (hrd : M 330 13 = rd) (hg0 : 0 ≤ tn ∧ tn ≤ 400) (hg1 : f_tp ta tn) (hg2 : f_cur ta tn rd L p0 to tk v0) (hg3 : 0 ≤ sn ∧ sn + (L.length : Int) ≤ 405) (hg4 : 0 ≤ dp ∧ dp + (nd : Int) = 8) : ax_G E l d iX12_any [.inr 330] M (fun z0 M2 => z0 = some (.inl (f_rb (f_any (f_one nd) L))) ∧ (∀ x0 i0 : Int, ¬ (x0 = 336 ∨ (x0 = 330 ∧ i0 = 15) ∨ (x0 = 330 ∧ i0 = 18) ∨ (x0 = 330 ∧ i0 = 19) ∨ (x0 = 330 ∧ i0 = 20) ∨ (x0 = 330 ∧ i0 = 21) ∨ (x0 = 330 ∧ i0 = 22) ∨ (x0 = 330 ∧ i0 = 23) ∨ (x0 = 330 ∧ i0 = 25)) → M2 x0 i0 = M x0 i0) ∧ (f_pok ta tn rd fs sn dp (f_any (f_one nd) L) M2) ∧ (0 ≤ M2 330 21 ∧ M2 330 21 ≤ 9999)) := by
  obtain ⟨d, rfl⟩ : ∃ d0, d = d0 + 1 := ⟨d - 1, by omega⟩
  refine ax_start rfl (Nat.le_of_ble_eq_true rfl) (ls := [some (.inr 330)]) rfl (fun hav hcm => ?_)
  clear hav
  have qR := f_cur_rg hg2
  have qh := f_cur_hd hg2
  refine ax_aload_n dX12_any_0 rfl rfl (pc' := 1) rfl ?_
  refine ax_invG [] [] dX12_any_1 mlX12_252 sh_330 rfl rfl rfl (Nat.le_of_ble_eq_true rfl) (s_X12_every nd H1 E l _ (by omega) _ L hta hfs hp0 hto htk hv0 hsn hdp htn hrd (by first | omega | assumption) (by first | omega | assumption) (by first | omega | assumption) (by first | omega | assumption) (by first | omega | assumption)) (pc' := 4) rfl (fun vv M_1 hq co1 hcm1 => ?_)
  obtain ⟨rfl, frM_1, fa1_0, fa1_1⟩ := hq
  refine ax_reS (st2 := [.inl (f_rb (f_evy (f_one nd) L))]) rfl ?_
  have cc1 : -2147483648 ≤ f_rb (f_evy (f_one nd) L) ∧ f_rb (f_evy (f_one nd) L) < 2147483648 := co1 _ rfl
  refine ax_if_ne (tgt := 9) dX12_any_4 (by decide) (pc' := 7) rfl (fun h4 => ?_) (fun h4 => ?_)
  · obtain ⟨L2, o2, qr2⟩ := f_rb_ok h4
    rw [qr2] at fa1_0
    obtain ⟨qm2, qs2, qc2, qd2⟩ := fa1_0
    have qg2 := f_evy_gd (f_one_gd nd) _ L2 o2 qr2
    have qR2 := f_cur_rg qc2
    have qh2 := f_cur_hd qc2
    have qw2 := f_wt_len o2
    have LP1 : ∀ (kq2 : Nat) (f1 : Int → Int) (s1 p1 t1 k1 v1 d1 : Int) (L1 : List f_Tk) (o1 : List f_Op) (M1 : ax_Mem) (hm1 : (L1.length : Int) < (kq2 : Nat)) (fr1 : ∀ x0 i0 : Int, ¬ (x0 = 336 ∨ (x0 = 330 ∧ i0 = 15) ∨ (x0 = 330 ∧ i0 = 18) ∨ (x0 = 330 ∧ i0 = 19) ∨ (x0 = 330 ∧ i0 = 20) ∨ (x0 = 330 ∧ i0 = 21) ∨ (x0 = 330 ∧ i0 = 25) ∨ (x0 = 330 ∧ i0 = 22) ∨ (x0 = 330 ∧ i0 = 23)) → M1 x0 i0 = M_1 x0 i0) (mr1_336 : M1 336 = f1) (ms1_330_15 : M1 330 15 = s1) (ms1_330_18 : M1 330 18 = p1) (ms1_330_19 : M1 330 19 = t1) (ms1_330_20 : M1 330 20 = k1) (ms1_330_21 : M1 330 21 = v1) (ms1_330_25 : M1 330 25 = d1) (iv1_0 : f_cur ta tn rd L1 p1 t1 k1 v1) (iv1_1 : f1 = f_put fs sn o1) (iv1_2 : s1 = sn + (o1.length : Int)) (iv1_3 : f_wt o1 + L1.length ≤ L.length) (iv1_4 : f_any (f_one nd) L = f_pre o1 (f_rep (f_qOp 4 32 (f_evy (f_one nd))) L1)) (iv1_5 : d1 = dp), ax_W E l (d + 1) 0 0 iX12_any 9 [some (.inr 330)] [] SH M1 (ax_P (fun z0 M2 => z0 = some (.inl (f_rb (f_any (f_one nd) L))) ∧ (∀ x0 i0 : Int, ¬ (x0 = 336 ∨ (x0 = 330 ∧ i0 = 15) ∨ (x0 = 330 ∧ i0 = 18) ∨ (x0 = 330 ∧ i0 = 19) ∨ (x0 = 330 ∧ i0 = 20) ∨ (x0 = 330 ∧ i0 = 21) ∨ (x0 = 330 ∧ i0 = 22) ∨ (x0 = 330 ∧ i0 = 23) ∨ (x0 = 330 ∧ i0 = 25)) → M2 x0 i0 = M x0 i0) ∧ (f_pok ta tn rd fs sn dp (f_any (f_one nd) L) M2) ∧ (0 ≤ M2 330 21 ∧ M2 330 21 ≤ 9999))) := by
      intro kq2
      induction kq2 with
      | zero =>
        intro f1 s1 p1 t1 k1 v1 d1 L1 o1 M1 hm1 fr1 mr1_336 ms1_330_15 ms1_330_18 ms1_330_19 ms1_330_20 ms1_330_21 ms1_330_25 iv1_0 iv1_1 iv1_2 iv1_3 iv1_4 iv1_5
        exfalso
        omega
      | succ kq2 ih3 =>
        intro f1 s1 p1 t1 k1 v1 d1 L1 o1 M1 hm1 fr1 mr1_336 ms1_330_15 ms1_330_18 ms1_330_19 ms1_330_20 ms1_330_21 ms1_330_25 iv1_0 iv1_1 iv1_2 iv1_3 iv1_4 iv1_5
        have qR1 := f_cur_rg iv1_0
        have qh1 := f_cur_hd iv1_0
        have qw1 := f_wt_len o1
        refine ax_aload_n dX12_any_9 rfl rfl (pc' := 10) rfl ?_
        refine ax_geti (v := t1) dX12_any_10 flX12_208 rfl sh_330 ms1_330_19 rfl (pc' := 13) rfl ?_
        refine ax_iconst dX12_any_13 (by decide) (pc' := 14) rfl ?_
        refine ax_icmp_ne (tgt := 40) dX12_any_14 (by decide) (pc' := 17) rfl (fun h14 => ?_) (fun h14 => ?_)
        · have qz : f_any (f_one nd) L = .inr (L1, o1) := by
            rw [iv1_4, f_rep_none (by unfold f_qOp; rw [if_neg (by omega)]), f_pre_nil]
          refine ax_iconst dX12_any_40 (by decide) (pc' := 41) rfl ?_
          refine ax_zret dX12_any_41 rfl (by decide) ?_
          refine ⟨rfl, ?_, ?_, ?_, ?_⟩
          · refine congrArg (fun z => some (Sum.inl z)) ?_
            rw [qz]
            rfl
          · intro x0 i0 hai
            exact ((fr1 x0 i0 (fun h => h.elim (fun h => hai (Or.inl h)) (fun h => h.elim (fun h => hai (Or.inr (Or.inl h))) (fun h => h.elim (fun h => hai (Or.inr (Or.inr (Or.inl h)))) (fun h => h.elim (fun h => hai (Or.inr (Or.inr (Or.inr (Or.inl h))))) (fun h => h.elim (fun h => hai (Or.inr (Or.inr (Or.inr (Or.inr (Or.inl h)))))) (fun h => h.elim (fun h => hai (Or.inr (Or.inr (Or.inr (Or.inr (Or.inr (Or.inl h))))))) (fun h => h.elim (fun h => hai (Or.inr (Or.inr (Or.inr (Or.inr (Or.inr (Or.inr (Or.inr (Or.inr h))))))))) (fun h => h.elim (fun h => hai (Or.inr (Or.inr (Or.inr (Or.inr (Or.inr (Or.inr (Or.inl h)))))))) (fun h => hai (Or.inr (Or.inr (Or.inr (Or.inr (Or.inr (Or.inr (Or.inr (Or.inl h)))))))))))))))))).trans ((frM_1 x0 i0 (fun h => h.elim (fun h => hai (Or.inl h)) (fun h => h.elim (fun h => hai (Or.inr (Or.inl h))) (fun h => h.elim (fun h => hai (Or.inr (Or.inr (Or.inl h)))) (fun h => h.elim (fun h => hai (Or.inr (Or.inr (Or.inr (Or.inl h))))) (fun h => h.elim (fun h => hai (Or.inr (Or.inr (Or.inr (Or.inr (Or.inl h)))))) (fun h => h.elim (fun h => hai (Or.inr (Or.inr (Or.inr (Or.inr (Or.inr (Or.inl h))))))) (fun h => h.elim (fun h => hai (Or.inr (Or.inr (Or.inr (Or.inr (Or.inr (Or.inr (Or.inl h)))))))) (fun h => h.elim (fun h => hai (Or.inr (Or.inr (Or.inr (Or.inr (Or.inr (Or.inr (Or.inr (Or.inl h))))))))) (fun h => hai (Or.inr (Or.inr (Or.inr (Or.inr (Or.inr (Or.inr (Or.inr (Or.inr h)))))))))))))))))).trans rfl))
          · refine f_pok_ok qz (Eq.trans mr1_336 ?_) (Eq.trans ms1_330_15 ?_) iv1_0 ms1_330_18 ms1_330_19 ms1_330_20 ms1_330_21 (Eq.trans ms1_330_25 ?_)
            · exact iv1_1
            · exact iv1_2
            · exact iv1_5
          · have q9 : M1 330 21 = v1 := ms1_330_21
            have q9b : 0 ≤ v1 ∧ v1 ≤ 9999 := by omega
            exact f_r9 q9 q9b
        · have qq1 : (f_qOp 4 32 (f_evy (f_one nd))) L1 = some (f_aft [(32, 0)] (f_evy (f_one nd) L1.tail)) := by
            unfold f_qOp
            rw [if_pos (by omega)]
          obtain ⟨L4, qt4, ql4, qc4⟩ := f_cur_next iv1_0 (by omega)
          have qR4 := f_cur_rg qc4
          have qh4 := f_cur_hd qc4
          refine ax_aload_n dX12_any_17 rfl rfl (pc' := 18) rfl ?_
          refine ax_invG [] [] dX12_any_18 mlX12_232 sh_330 rfl rfl rfl (Nat.le_of_ble_eq_true rfl) (s_X12_next0 E l _ (by omega) _ ((funext fun i0 => fr1 339 i0 (fun h => h.elim (fun h => absurd h (by decide)) (fun h => h.elim (fun h => absurd h.1 (by decide)) (fun h => h.elim (fun h => absurd h.1 (by decide)) (fun h => h.elim (fun h => absurd h.1 (by decide)) (fun h => h.elim (fun h => absurd h.1 (by decide)) (fun h => h.elim (fun h => absurd h.1 (by decide)) (fun h => h.elim (fun h => absurd h.1 (by decide)) (fun h => h.elim (fun h => absurd h.1 (by decide)) (fun h => absurd h.1 (by decide))))))))))).trans ((funext fun i0 => frM_1 339 i0 (fun h => h.elim (fun h => absurd h (by decide)) (fun h => h.elim (fun h => absurd h.1 (by decide)) (fun h => h.elim (fun h => absurd h.1 (by decide)) (fun h => h.elim (fun h => absurd h.1 (by decide)) (fun h => h.elim (fun h => absurd h.1 (by decide)) (fun h => h.elim (fun h => absurd h.1 (by decide)) (fun h => h.elim (fun h => absurd h.1 (by decide)) (fun h => h.elim (fun h => absurd h.1 (by decide)) (fun h => absurd h.1 (by decide))))))))))).trans hta)) ms1_330_18 ((fr1 330 17 (fun h => h.elim (fun h => absurd h (by decide)) (fun h => h.elim (fun h => absurd h.2 (by decide)) (fun h => h.elim (fun h => absurd h.2 (by decide)) (fun h => h.elim (fun h => absurd h.2 (by decide)) (fun h => h.elim (fun h => absurd h.2 (by decide)) (fun h => h.elim (fun h => absurd h.2 (by decide)) (fun h => h.elim (fun h => absurd h.2 (by decide)) (fun h => h.elim (fun h => absurd h.2 (by decide)) (fun h => absurd h.2 (by decide))))))))))).trans ((frM_1 330 17 (fun h => h.elim (fun h => absurd h (by decide)) (fun h => h.elim (fun h => absurd h.2 (by decide)) (fun h => h.elim (fun h => absurd h.2 (by decide)) (fun h => h.elim (fun h => absurd h.2 (by decide)) (fun h => h.elim (fun h => absurd h.2 (by decide)) (fun h => h.elim (fun h => absurd h.2 (by decide)) (fun h => h.elim (fun h => absurd h.2 (by decide)) (fun h => h.elim (fun h => absurd h.2 (by decide)) (fun h => absurd h.2 (by decide))))))))))).trans htn)) ((fr1 330 13 (fun h => h.elim (fun h => absurd h (by decide)) (fun h => h.elim (fun h => absurd h.2 (by decide)) (fun h => h.elim (fun h => absurd h.2 (by decide)) (fun h => h.elim (fun h => absurd h.2 (by decide)) (fun h => h.elim (fun h => absurd h.2 (by decide)) (fun h => h.elim (fun h => absurd h.2 (by decide)) (fun h => h.elim (fun h => absurd h.2 (by decide)) (fun h => h.elim (fun h => absurd h.2 (by decide)) (fun h => absurd h.2 (by decide))))))))))).trans ((frM_1 330 13 (fun h => h.elim (fun h => absurd h (by decide)) (fun h => h.elim (fun h => absurd h.2 (by decide)) (fun h => h.elim (fun h => absurd h.2 (by decide)) (fun h => h.elim (fun h => absurd h.2 (by decide)) (fun h => h.elim (fun h => absurd h.2 (by decide)) (fun h => h.elim (fun h => absurd h.2 (by decide)) (fun h => h.elim (fun h => absurd h.2 (by decide)) (fun h => h.elim (fun h => absurd h.2 (by decide)) (fun h => absurd h.2 (by decide))))))))))).trans hrd)) ms1_330_21 (by first | omega | assumption) (by first | omega | assumption)) (pc' := 21) rfl (fun vv M_18 hq co18 hcm18 => ?_)
          obtain ⟨rfl, frM_18, msM_18_0, msM_18_1, msM_18_2, msM_18_3⟩ := hq
          refine ax_reS (st2 := []) rfl ?_
          refine ax_aload_n dX12_any_21 rfl rfl (pc' := 22) rfl ?_
          refine ax_invG [] [] dX12_any_22 mlX12_252 sh_330 rfl rfl rfl (Nat.le_of_ble_eq_true rfl) (s_X12_every nd H1 E l _ (by omega) _ L4 ((funext fun i0 => frM_18 339 i0 (fun h => h.elim (fun h => absurd h.1 (by decide)) (fun h => h.elim (fun h => absurd h.1 (by decide)) (fun h => h.elim (fun h => absurd h.1 (by decide)) (fun h => absurd h.1 (by decide)))))).trans ((funext fun i0 => fr1 339 i0 (fun h => h.elim (fun h => absurd h (by decide)) (fun h => h.elim (fun h => absurd h.1 (by decide)) (fun h => h.elim (fun h => absurd h.1 (by decide)) (fun h => h.elim (fun h => absurd h.1 (by decide)) (fun h => h.elim (fun h => absurd h.1 (by decide)) (fun h => h.elim (fun h => absurd h.1 (by decide)) (fun h => h.elim (fun h => absurd h.1 (by decide)) (fun h => h.elim (fun h => absurd h.1 (by decide)) (fun h => absurd h.1 (by decide))))))))))).trans ((funext fun i0 => frM_1 339 i0 (fun h => h.elim (fun h => absurd h (by decide)) (fun h => h.elim (fun h => absurd h.1 (by decide)) (fun h => h.elim (fun h => absurd h.1 (by decide)) (fun h => h.elim (fun h => absurd h.1 (by decide)) (fun h => h.elim (fun h => absurd h.1 (by decide)) (fun h => h.elim (fun h => absurd h.1 (by decide)) (fun h => h.elim (fun h => absurd h.1 (by decide)) (fun h => h.elim (fun h => absurd h.1 (by decide)) (fun h => absurd h.1 (by decide))))))))))).trans hta))) ((funext fun i0 => frM_18 336 i0 (fun h => h.elim (fun h => absurd h.1 (by decide)) (fun h => h.elim (fun h => absurd h.1 (by decide)) (fun h => h.elim (fun h => absurd h.1 (by decide)) (fun h => absurd h.1 (by decide)))))).trans mr1_336) msM_18_0 msM_18_1 msM_18_2 msM_18_3 ((frM_18 330 15 (fun h => h.elim (fun h => absurd h.2 (by decide)) (fun h => h.elim (fun h => absurd h.2 (by decide)) (fun h => h.elim (fun h => absurd h.2 (by decide)) (fun h => absurd h.2 (by decide)))))).trans ms1_330_15) ((frM_18 330 25 (fun h => h.elim (fun h => absurd h.2 (by decide)) (fun h => h.elim (fun h => absurd h.2 (by decide)) (fun h => h.elim (fun h => absurd h.2 (by decide)) (fun h => absurd h.2 (by decide)))))).trans ms1_330_25) ((frM_18 330 17 (fun h => h.elim (fun h => absurd h.2 (by decide)) (fun h => h.elim (fun h => absurd h.2 (by decide)) (fun h => h.elim (fun h => absurd h.2 (by decide)) (fun h => absurd h.2 (by decide)))))).trans ((fr1 330 17 (fun h => h.elim (fun h => absurd h (by decide)) (fun h => h.elim (fun h => absurd h.2 (by decide)) (fun h => h.elim (fun h => absurd h.2 (by decide)) (fun h => h.elim (fun h => absurd h.2 (by decide)) (fun h => h.elim (fun h => absurd h.2 (by decide)) (fun h => h.elim (fun h => absurd h.2 (by decide)) (fun h => h.elim (fun h => absurd h.2 (by decide)) (fun h => h.elim (fun h => absurd h.2 (by decide)) (fun h => absurd h.2 (by decide))))))))))).trans ((frM_1 330 17 (fun h => h.elim (fun h => absurd h (by decide)) (fun h => h.elim (fun h => absurd h.2 (by decide)) (fun h => h.elim (fun h => absurd h.2 (by decide)) (fun h => h.elim (fun h => absurd h.2 (by decide)) (fun h => h.elim (fun h => absurd h.2 (by decide)) (fun h => h.elim (fun h => absurd h.2 (by decide)) (fun h => h.elim (fun h => absurd h.2 (by decide)) (fun h => h.elim (fun h => absurd h.2 (by decide)) (fun h => absurd h.2 (by decide))))))))))).trans htn))) ((frM_18 330 13 (fun h => h.elim (fun h => absurd h.2 (by decide)) (fun h => h.elim (fun h => absurd h.2 (by decide)) (fun h => h.elim (fun h => absurd h.2 (by decide)) (fun h => absurd h.2 (by decide)))))).trans ((fr1 330 13 (fun h => h.elim (fun h => absurd h (by decide)) (fun h => h.elim (fun h => absurd h.2 (by decide)) (fun h => h.elim (fun h => absurd h.2 (by decide)) (fun h => h.elim (fun h => absurd h.2 (by decide)) (fun h => h.elim (fun h => absurd h.2 (by decide)) (fun h => h.elim (fun h => absurd h.2 (by decide)) (fun h => h.elim (fun h => absurd h.2 (by decide)) (fun h => h.elim (fun h => absurd h.2 (by decide)) (fun h => absurd h.2 (by decide))))))))))).trans ((frM_1 330 13 (fun h => h.elim (fun h => absurd h (by decide)) (fun h => h.elim (fun h => absurd h.2 (by decide)) (fun h => h.elim (fun h => absurd h.2 (by decide)) (fun h => h.elim (fun h => absurd h.2 (by decide)) (fun h => h.elim (fun h => absurd h.2 (by decide)) (fun h => h.elim (fun h => absurd h.2 (by decide)) (fun h => h.elim (fun h => absurd h.2 (by decide)) (fun h => h.elim (fun h => absurd h.2 (by decide)) (fun h => absurd h.2 (by decide))))))))))).trans hrd))) (by first | omega | assumption) (by first | omega | assumption) (by first | omega | assumption) (by first | omega | assumption) (by first | omega | assumption)) (pc' := 25) rfl (fun vv M_22 hq co22 hcm22 => ?_)
          obtain ⟨rfl, frM_22, fa22_0, fa22_1⟩ := hq
          refine ax_reS (st2 := [.inl (f_rb (f_evy (f_one nd) L4))]) rfl ?_
          have cc22 : -2147483648 ≤ f_rb (f_evy (f_one nd) L4) ∧ f_rb (f_evy (f_one nd) L4) < 2147483648 := co22 _ rfl
          refine ax_if_ne (tgt := 30) dX12_any_25 (by decide) (pc' := 28) rfl (fun h25 => ?_) (fun h25 => ?_)
          · obtain ⟨L8, o8, qr8⟩ := f_rb_ok h25
            rw [qr8] at fa22_0
            obtain ⟨qm8, qs8, qc8, qd8⟩ := fa22_0
            have qg8 := f_evy_gd (f_one_gd nd) _ L8 o8 qr8
            have qR8 := f_cur_rg qc8
            have qh8 := f_cur_hd qc8
            have qw8 := f_wt_len o8
            obtain ⟨o3, qo3⟩ : ∃ z, z = o8 ++ [((32 : Int), (0 : Int))] := ⟨_, rfl⟩
            obtain ⟨L3, qL3⟩ : ∃ z, z = L8 := ⟨_, rfl⟩
            have qq : (f_qOp 4 32 (f_evy (f_one nd))) L1 = some (f_aft [(32, 0)] (f_evy (f_one nd) L4)) := by
              rw [qq1, qt4]
            have qr3 : f_aft [(32, 0)] (f_evy (f_one nd) L4) = .inr (L3, o3) := by
              rw [f_aft_ok qr8, qo3, qL3]
            have qg3 := (f_qOp_gd (by decide) (by decide) (f_evy_gd (f_one_gd nd))) L1 _ qq L3 o3 qr3
            have qw3 := f_wt_len o3
            have qc3 : f_cur ta tn rd L3 (M_22 330 18) (M_22 330 19) (M_22 330 20) (M_22 330 21) := by
              rw [qL3]
              exact qc8
            refine ax_aload_n dX12_any_30 rfl rfl (pc' := 31) rfl ?_
            refine ax_bipush dX12_any_31 (by decide) (pc' := 33) rfl ?_
            refine ax_iconst dX12_any_33 (by decide) (pc' := 34) rfl ?_
            refine ax_invG [.inl 32, .inl 0] [] dX12_any_34 mlX12_245 sh_330 rfl rfl rfl (Nat.le_of_ble_eq_true rfl) (s_X12_lay E l _ (by omega) _ 32 0 rfl rfl (by first | omega | assumption)) (pc' := 37) rfl (fun vv M_34 hq co34 hcm34 => ?_)
            obtain ⟨rfl, frM_34, mrM_34_0, msM_34_0⟩ := hq
            refine ax_reS (st2 := []) rfl ?_
            have qp3 : f_up (f_up (M_22 336) (2 * (M_22 330 15)) 32) (2 * (M_22 330 15) + 1) 0 = f_put f1 s1 o3 := by
              rw [qo3]
              exact f_put_snoc qm8 qs8
            have qn3 : (M_22 330 15) + 1 = s1 + (o3.length : Int) := by
              rw [qo3, List.length_append, qs8]
              simp only [List.length_cons, List.length_nil]
              omega
            refine ax_goto dX12_any_37 (pc' := 9) (by decide) ?_
            refine ih3 (f_up (f_up (M_22 336) (2 * (M_22 330 15)) 32) (2 * (M_22 330 15) + 1) 0) ((M_22 330 15) + 1) (M_22 330 18) (M_22 330 19) (M_22 330 20) (M_22 330 21) (M_22 330 25) L3 (o1 ++ o3) M_34 ?_ ?_ ?_ ?_ ?_ ?_ ?_ ?_ ?_ ?_ ?_ ?_ ?_ ?_ ?_
            · omega
            · intro x0 i0 hai
              exact ((frM_34 x0 i0 (fun h => h.elim (fun h => hai (Or.inl h)) (fun h => hai (Or.inr (Or.inl h))))).trans ((frM_22 x0 i0 (fun h => h.elim (fun h => hai (Or.inl h)) (fun h => h.elim (fun h => hai (Or.inr (Or.inl h))) (fun h => h.elim (fun h => hai (Or.inr (Or.inr (Or.inl h)))) (fun h => h.elim (fun h => hai (Or.inr (Or.inr (Or.inr (Or.inl h))))) (fun h => h.elim (fun h => hai (Or.inr (Or.inr (Or.inr (Or.inr (Or.inl h)))))) (fun h => h.elim (fun h => hai (Or.inr (Or.inr (Or.inr (Or.inr (Or.inr (Or.inl h))))))) (fun h => h.elim (fun h => hai (Or.inr (Or.inr (Or.inr (Or.inr (Or.inr (Or.inr (Or.inr (Or.inl h))))))))) (fun h => h.elim (fun h => hai (Or.inr (Or.inr (Or.inr (Or.inr (Or.inr (Or.inr (Or.inr (Or.inr h))))))))) (fun h => hai (Or.inr (Or.inr (Or.inr (Or.inr (Or.inr (Or.inr (Or.inl h))))))))))))))))).trans ((frM_18 x0 i0 (fun h => h.elim (fun h => hai (Or.inr (Or.inr (Or.inl h)))) (fun h => h.elim (fun h => hai (Or.inr (Or.inr (Or.inr (Or.inl h))))) (fun h => h.elim (fun h => hai (Or.inr (Or.inr (Or.inr (Or.inr (Or.inl h)))))) (fun h => hai (Or.inr (Or.inr (Or.inr (Or.inr (Or.inr (Or.inl h))))))))))).trans ((fr1 x0 i0 (fun h => h.elim (fun h => hai (Or.inl h)) (fun h => h.elim (fun h => hai (Or.inr (Or.inl h))) (fun h => h.elim (fun h => hai (Or.inr (Or.inr (Or.inl h)))) (fun h => h.elim (fun h => hai (Or.inr (Or.inr (Or.inr (Or.inl h))))) (fun h => h.elim (fun h => hai (Or.inr (Or.inr (Or.inr (Or.inr (Or.inl h)))))) (fun h => h.elim (fun h => hai (Or.inr (Or.inr (Or.inr (Or.inr (Or.inr (Or.inl h))))))) (fun h => h.elim (fun h => hai (Or.inr (Or.inr (Or.inr (Or.inr (Or.inr (Or.inr (Or.inl h)))))))) (fun h => h.elim (fun h => hai (Or.inr (Or.inr (Or.inr (Or.inr (Or.inr (Or.inr (Or.inr (Or.inl h))))))))) (fun h => hai (Or.inr (Or.inr (Or.inr (Or.inr (Or.inr (Or.inr (Or.inr (Or.inr h)))))))))))))))))).trans rfl))))
            · exact mrM_34_0
            · exact msM_34_0
            · exact ((frM_34 330 18 (fun h => h.elim (fun h => absurd h (by decide)) (fun h => absurd h.2 (by decide)))).trans rfl)
            · exact ((frM_34 330 19 (fun h => h.elim (fun h => absurd h (by decide)) (fun h => absurd h.2 (by decide)))).trans rfl)
            · exact ((frM_34 330 20 (fun h => h.elim (fun h => absurd h (by decide)) (fun h => absurd h.2 (by decide)))).trans rfl)
            · exact ((frM_34 330 21 (fun h => h.elim (fun h => absurd h (by decide)) (fun h => absurd h.2 (by decide)))).trans rfl)
            · exact ((frM_34 330 25 (fun h => h.elim (fun h => absurd h (by decide)) (fun h => absurd h.2 (by decide)))).trans rfl)
            · exact qc3
            · rw [qp3]
              exact f_put_more iv1_1 iv1_2
            · rw [qn3, iv1_2, List.length_append]
              omega
            · rw [f_wt_app]
              omega
            · rw [iv1_4, f_rep_some (f_qOp_gd (by decide) (by decide) (f_evy_gd (f_one_gd nd))) qq, qr3]
              show f_pre o1 (f_pre o3 (f_rep (f_qOp 4 32 (f_evy (f_one nd))) L3)) = f_pre (o1 ++ o3) (f_rep (f_qOp 4 32 (f_evy (f_one nd))) L3)
              exact f_pre_pre o1 o3 _
            · exact qd8.trans iv1_5
          · obtain ⟨kk8, ss8, qr8⟩ := f_rb_no h25
            rw [qr8] at fa22_0
            have qz : f_any (f_one nd) L = .inl (kk8, ss8) := by
              rw [iv1_4]
              refine f_rep_no (f_qOp_gd (by decide) (by decide) (f_evy_gd (f_one_gd nd))) ?_
              rw [qq1, qt4, f_aft_no qr8]
            refine ax_iconst dX12_any_28 (by decide) (pc' := 29) rfl ?_
            refine ax_zret dX12_any_29 rfl (by decide) ?_
            refine ⟨rfl, ?_, ?_, ?_, ?_⟩
            · refine congrArg (fun z => some (Sum.inl z)) ?_
              rw [qz]
              rfl
            · intro x0 i0 hai
              exact ((frM_22 x0 i0 (fun h => h.elim (fun h => hai (Or.inl h)) (fun h => h.elim (fun h => hai (Or.inr (Or.inl h))) (fun h => h.elim (fun h => hai (Or.inr (Or.inr (Or.inl h)))) (fun h => h.elim (fun h => hai (Or.inr (Or.inr (Or.inr (Or.inl h))))) (fun h => h.elim (fun h => hai (Or.inr (Or.inr (Or.inr (Or.inr (Or.inl h)))))) (fun h => h.elim (fun h => hai (Or.inr (Or.inr (Or.inr (Or.inr (Or.inr (Or.inl h))))))) (fun h => h.elim (fun h => hai (Or.inr (Or.inr (Or.inr (Or.inr (Or.inr (Or.inr (Or.inl h)))))))) (fun h => h.elim (fun h => hai (Or.inr (Or.inr (Or.inr (Or.inr (Or.inr (Or.inr (Or.inr (Or.inl h))))))))) (fun h => hai (Or.inr (Or.inr (Or.inr (Or.inr (Or.inr (Or.inr (Or.inr (Or.inr h)))))))))))))))))).trans ((frM_18 x0 i0 (fun h => h.elim (fun h => hai (Or.inr (Or.inr (Or.inl h)))) (fun h => h.elim (fun h => hai (Or.inr (Or.inr (Or.inr (Or.inl h))))) (fun h => h.elim (fun h => hai (Or.inr (Or.inr (Or.inr (Or.inr (Or.inl h)))))) (fun h => hai (Or.inr (Or.inr (Or.inr (Or.inr (Or.inr (Or.inl h))))))))))).trans ((fr1 x0 i0 (fun h => h.elim (fun h => hai (Or.inl h)) (fun h => h.elim (fun h => hai (Or.inr (Or.inl h))) (fun h => h.elim (fun h => hai (Or.inr (Or.inr (Or.inl h)))) (fun h => h.elim (fun h => hai (Or.inr (Or.inr (Or.inr (Or.inl h))))) (fun h => h.elim (fun h => hai (Or.inr (Or.inr (Or.inr (Or.inr (Or.inl h)))))) (fun h => h.elim (fun h => hai (Or.inr (Or.inr (Or.inr (Or.inr (Or.inr (Or.inl h))))))) (fun h => h.elim (fun h => hai (Or.inr (Or.inr (Or.inr (Or.inr (Or.inr (Or.inr (Or.inr (Or.inr h))))))))) (fun h => h.elim (fun h => hai (Or.inr (Or.inr (Or.inr (Or.inr (Or.inr (Or.inr (Or.inl h)))))))) (fun h => hai (Or.inr (Or.inr (Or.inr (Or.inr (Or.inr (Or.inr (Or.inr (Or.inl h)))))))))))))))))).trans ((frM_1 x0 i0 (fun h => h.elim (fun h => hai (Or.inl h)) (fun h => h.elim (fun h => hai (Or.inr (Or.inl h))) (fun h => h.elim (fun h => hai (Or.inr (Or.inr (Or.inl h)))) (fun h => h.elim (fun h => hai (Or.inr (Or.inr (Or.inr (Or.inl h))))) (fun h => h.elim (fun h => hai (Or.inr (Or.inr (Or.inr (Or.inr (Or.inl h)))))) (fun h => h.elim (fun h => hai (Or.inr (Or.inr (Or.inr (Or.inr (Or.inr (Or.inl h))))))) (fun h => h.elim (fun h => hai (Or.inr (Or.inr (Or.inr (Or.inr (Or.inr (Or.inr (Or.inl h)))))))) (fun h => h.elim (fun h => hai (Or.inr (Or.inr (Or.inr (Or.inr (Or.inr (Or.inr (Or.inr (Or.inl h))))))))) (fun h => hai (Or.inr (Or.inr (Or.inr (Or.inr (Or.inr (Or.inr (Or.inr (Or.inr h)))))))))))))))))).trans rfl))))
            · exact f_pok_no qz fa22_0.1 fa22_0.2
            · have q9 : M_22 330 21 = M_22 330 21 := rfl
              have q9b : 0 ≤ M_22 330 21 ∧ M_22 330 21 ≤ 9999 := by omega
              exact f_r9 q9 q9b
    refine LP1 ((L2.length : Int) : Int).toNat.succ (M_1 336) (M_1 330 15) (M_1 330 18) (M_1 330 19) (M_1 330 20) (M_1 330 21) (M_1 330 25) L2 o2 M_1 ?_ ?_ ?_ ?_ ?_ ?_ ?_ ?_ ?_ ?_ ?_ ?_ ?_ ?_ ?_
    · omega
    · exact fun a i _ => rfl
    · exact rfl
    · exact rfl
    · exact rfl
    · exact rfl
    · exact rfl
    · exact rfl
    · exact rfl
    · exact qc2
    · exact qm2
    · exact qs2
    · omega
    · unfold f_any
      rw [qr2]
      rfl
    · exact qd2
  · obtain ⟨kk2, ss2, qr2⟩ := f_rb_no h4
    rw [qr2] at fa1_0
    have qz : f_any (f_one nd) L = .inl (kk2, ss2) := by
      unfold f_any
      rw [qr2]
      rfl
    refine ax_iconst dX12_any_7 (by decide) (pc' := 8) rfl ?_
    refine ax_zret dX12_any_8 rfl (by decide) ?_
    refine ⟨rfl, ?_, ?_, ?_, ?_⟩
    · refine congrArg (fun z => some (Sum.inl z)) ?_
      rw [qz]
      rfl
    · intro x0 i0 hai
      exact ((frM_1 x0 i0 (fun h => h.elim (fun h => hai (Or.inl h)) (fun h => h.elim (fun h => hai (Or.inr (Or.inl h))) (fun h => h.elim (fun h => hai (Or.inr (Or.inr (Or.inl h)))) (fun h => h.elim (fun h => hai (Or.inr (Or.inr (Or.inr (Or.inl h))))) (fun h => h.elim (fun h => hai (Or.inr (Or.inr (Or.inr (Or.inr (Or.inl h)))))) (fun h => h.elim (fun h => hai (Or.inr (Or.inr (Or.inr (Or.inr (Or.inr (Or.inl h))))))) (fun h => h.elim (fun h => hai (Or.inr (Or.inr (Or.inr (Or.inr (Or.inr (Or.inr (Or.inl h)))))))) (fun h => h.elim (fun h => hai (Or.inr (Or.inr (Or.inr (Or.inr (Or.inr (Or.inr (Or.inr (Or.inl h))))))))) (fun h => hai (Or.inr (Or.inr (Or.inr (Or.inr (Or.inr (Or.inr (Or.inr (Or.inr h)))))))))))))))))).trans rfl)
    · exact f_pok_no qz fa1_0.1 fa1_0.2
    · have q9 : M_1 330 21 = M_1 330 21 := rfl
      have q9b : 0 ≤ M_1 330 21 ∧ M_1 330 21 ≤ 9999 := by omega
      exact f_r9 q9 q9b
set_option maxRecDepth 20000 in
theorem s_one_0 (E : ax_Env) (l : Launch) (d : Nat) (hd : 13 ≤ d) (M : ax_Mem) (L : List f_Tk) {ta : Int → Int} (hta : M 339 = ta) {fs : Int → Int} (hfs : M 336 = fs) {p0 : Int} (hp0 : M 330 18 = p0) {to : Int} (hto : M 330 19 = to) {tk : Int} (htk : M 330 20 = tk) {v0 : Int} (hv0 : M 330 21 = v0) {sn : Int} (hsn : M 330 15 = sn) {dp : Int} (hdp : M 330 25 = dp) {tn : Int} (htn : M 330 17 = tn) {rd : Int} (hrd : M 330 13 = rd) (hg0 : 0 ≤ tn ∧ tn ≤ 400) (hg1 : f_tp ta tn) (hg2 : f_cur ta tn rd L p0 to tk v0) (hg3 : 0 ≤ sn ∧ sn + (L.length : Int) ≤ 405) (hg4 : 0 ≤ dp ∧ dp + ((0 : Nat) : Int) = 8) : ax_G E l d iX12_oneTest [.inr 330] M (fun z0 M2 => z0 = some (.inl (f_rb (f_one 0 L))) ∧ (∀ x0 i0 : Int, ¬ (x0 = 336 ∨ (x0 = 330 ∧ i0 = 15) ∨ (x0 = 330 ∧ i0 = 18) ∨ (x0 = 330 ∧ i0 = 19) ∨ (x0 = 330 ∧ i0 = 20) ∨ (x0 = 330 ∧ i0 = 21) ∨ (x0 = 330 ∧ i0 = 22) ∨ (x0 = 330 ∧ i0 = 23) ∨ (x0 = 330 ∧ i0 = 25)) → M2 x0 i0 = M x0 i0) ∧ (f_pok ta tn rd fs sn dp (f_one 0 L) M2) ∧ (0 ≤ M2 330 21 ∧ M2 330 21 ≤ 9999)) := by
  obtain ⟨d, rfl⟩ : ∃ d0, d = d0 + 1 := ⟨d - 1, by omega⟩
  refine ax_start rfl (Nat.le_of_ble_eq_true rfl) (ls := [some (.inr 330), none]) rfl (fun hav hcm => ?_)
  clear hav
  have qR := f_cur_rg hg2
  have qh := f_cur_hd hg2
  refine ax_aload_n dX12_oneTest_0 rfl rfl (pc' := 1) rfl ?_
  refine ax_geti (v := to) dX12_oneTest_1 flX12_208 rfl sh_330 hto rfl (pc' := 4) rfl ?_
  refine ax_bipush dX12_oneTest_4 (by decide) (pc' := 6) rfl ?_
  refine ax_icmp_ne (tgt := 44) dX12_oneTest_6 (by decide) (pc' := 9) rfl (fun h6 => ?_) (fun h6 => ?_)
  · refine ax_aload_n dX12_oneTest_44 rfl rfl (pc' := 45) rfl ?_
    refine ax_geti (v := to) dX12_oneTest_45 flX12_208 rfl sh_330 hto rfl (pc' := 48) rfl ?_
    refine ax_sipush dX12_oneTest_48 (by decide) (pc' := 51) rfl ?_
    refine ax_icmp_ne (tgt := 92) dX12_oneTest_51 (by decide) (pc' := 54) rfl (fun h51 => ?_) (fun h51 => ?_)
    · have qb : f_one 0 L = f_cmp L := by
        rw [f_one_z]
        rw [if_neg (by omega)]
      refine ax_aload_n dX12_oneTest_92 rfl rfl (pc' := 93) rfl ?_
      refine ax_invG [] [] dX12_oneTest_93 mlX12_267 sh_330 rfl rfl rfl (Nat.le_of_ble_eq_true rfl) (s_X12_sumUp E l _ (by omega) _ L hta hfs hp0 hto htk hv0 hsn hdp htn hrd (by first | omega | assumption) (by first | omega | assumption) (by first | omega | assumption) (by first | omega | assumption)) (pc' := 96) rfl (fun vv M_93 hq co93 hcm93 => ?_)
      obtain ⟨rfl, frM_93, fa93_0, fa93_1⟩ := hq
      refine ax_reS (st2 := [.inl (f_rb (f_sumU L))]) rfl ?_
      have cc93 : -2147483648 ≤ f_rb (f_sumU L) ∧ f_rb (f_sumU L) < 2147483648 := co93 _ rfl
      refine ax_if_ne (tgt := 101) dX12_oneTest_96 (by decide) (pc' := 99) rfl (fun h96 => ?_) (fun h96 => ?_)
      · obtain ⟨L2, o2, qr2⟩ := f_rb_ok h96
        rw [qr2] at fa93_0
        obtain ⟨qm2, qs2, qc2, qd2⟩ := fa93_0
        have qg2 := f_sumU_gd _ L2 o2 qr2
        have qR2 := f_cur_rg qc2
        have qh2 := f_cur_hd qc2
        have qw2 := f_wt_len o2
        refine ax_aload_n dX12_oneTest_101 rfl rfl (pc' := 102) rfl ?_
        refine ax_geti (v := M_93 330 19) dX12_oneTest_102 flX12_208 rfl sh_330 rfl rfl (pc' := 105) rfl ?_
        refine ax_sipush dX12_oneTest_105 (by decide) (pc' := 108) rfl ?_
        refine ax_icmp_ne (tgt := 116) dX12_oneTest_108 (by decide) (pc' := 111) rfl (fun h108 => ?_) (fun h108 => ?_)
        · refine ax_aload_n dX12_oneTest_116 rfl rfl (pc' := 117) rfl ?_
          refine ax_geti (v := M_93 330 19) dX12_oneTest_117 flX12_208 rfl sh_330 rfl rfl (pc' := 120) rfl ?_
          refine ax_sipush dX12_oneTest_120 (by decide) (pc' := 123) rfl ?_
          refine ax_icmp_ne (tgt := 131) dX12_oneTest_123 (by decide) (pc' := 126) rfl (fun h123 => ?_) (fun h123 => ?_)
          · refine ax_aload_n dX12_oneTest_131 rfl rfl (pc' := 132) rfl ?_
            refine ax_geti (v := M_93 330 19) dX12_oneTest_132 flX12_208 rfl sh_330 rfl rfl (pc' := 135) rfl ?_
            refine ax_sipush dX12_oneTest_135 (by decide) (pc' := 138) rfl ?_
            refine ax_icmp_ne (tgt := 146) dX12_oneTest_138 (by decide) (pc' := 141) rfl (fun h138 => ?_) (fun h138 => ?_)
            · have qz : f_one 0 L = .inl (1, M_93 330 20) := by
                rw [qb]
                unfold f_cmp
                rw [qr2]
                show f_pre o2 (f_cmp2 L2) = _
                unfold f_cmp2
                rw [if_pos (by unfold f_cmpS; rw [if_neg (by omega), if_neg (by omega), if_neg (by omega)]), qh2.2.2]
                rfl
              refine ax_iconst dX12_oneTest_146 (by decide) (pc' := 147) rfl ?_
              refine ax_istore_n dX12_oneTest_147 rfl (by decide) (ls' := [some (.inr 330), some (.inl (-1))]) rfl (pc' := 148) rfl ?_
              refine ax_iload_n dX12_oneTest_148 rfl rfl (pc' := 149) rfl ?_
              refine ax_iconst dX12_oneTest_149 (by decide) (pc' := 150) rfl ?_
              refine ax_icmp_ne (tgt := 159) dX12_oneTest_150 (by decide) (pc' := 153) rfl (fun h150 => ?_) (fun h150 => ?_)
              · exfalso
                omega
              · refine ax_aload_n dX12_oneTest_153 rfl rfl (pc' := 154) rfl ?_
                refine ax_iconst dX12_oneTest_154 (by decide) (pc' := 155) rfl ?_
                refine ax_invG [.inl 1] [] dX12_oneTest_155 mlX12_229 sh_330 rfl rfl rfl (Nat.le_of_ble_eq_true rfl) (s_X12_bad E l _ (by omega) _ 1 rfl) (pc' := 158) rfl (fun vv M_155 hq co155 hcm155 => ?_)
                obtain ⟨rfl, frM_155, msM_155_0, msM_155_1⟩ := hq
                refine ax_reS (st2 := [.inl 0]) rfl ?_
                refine ax_zret dX12_oneTest_158 rfl (by decide) ?_
                refine ⟨rfl, ?_, ?_, ?_, ?_⟩
                · refine congrArg (fun z => some (Sum.inl z)) ?_
                  rw [qz]
                  rfl
                · intro x0 i0 hai
                  exact ((frM_155 x0 i0 (fun h => h.elim (fun h => hai (Or.inr (Or.inr (Or.inr (Or.inr (Or.inr (Or.inr (Or.inl h)))))))) (fun h => hai (Or.inr (Or.inr (Or.inr (Or.inr (Or.inr (Or.inr (Or.inr (Or.inl h))))))))))).trans ((frM_93 x0 i0 (fun h => h.elim (fun h => hai (Or.inl h)) (fun h => h.elim (fun h => hai (Or.inr (Or.inl h))) (fun h => h.elim (fun h => hai (Or.inr (Or.inr (Or.inl h)))) (fun h => h.elim (fun h => hai (Or.inr (Or.inr (Or.inr (Or.inl h))))) (fun h => h.elim (fun h => hai (Or.inr (Or.inr (Or.inr (Or.inr (Or.inl h)))))) (fun h => h.elim (fun h => hai (Or.inr (Or.inr (Or.inr (Or.inr (Or.inr (Or.inl h))))))) (fun h => h.elim (fun h => hai (Or.inr (Or.inr (Or.inr (Or.inr (Or.inr (Or.inr (Or.inl h)))))))) (fun h => hai (Or.inr (Or.inr (Or.inr (Or.inr (Or.inr (Or.inr (Or.inr (Or.inl h))))))))))))))))).trans rfl))
                · exact f_pok_no qz msM_155_0 msM_155_1
                · have q9 : M_155 330 21 = M_93 330 21 := ((frM_155 330 21 (fun h => h.elim (fun h => absurd h.2 (by decide)) (fun h => absurd h.2 (by decide)))).trans rfl)
                  have q9b : 0 ≤ M_93 330 21 ∧ M_93 330 21 ≤ 9999 := by omega
                  exact f_r9 q9 q9b
            · have qk : f_cmpS L2 = 29 := by
                unfold f_cmpS
                rw [if_neg (by omega), if_neg (by omega), if_pos (by omega)]
              refine ax_bipush dX12_oneTest_141 (by decide) (pc' := 143) rfl ?_
              refine ax_goto dX12_oneTest_143 (pc' := 147) (by decide) ?_
              refine ax_istore_n dX12_oneTest_147 rfl (by decide) (ls' := [some (.inr 330), some (.inl 29)]) rfl (pc' := 148) rfl ?_
              refine ax_iload_n dX12_oneTest_148 rfl rfl (pc' := 149) rfl ?_
              refine ax_iconst dX12_oneTest_149 (by decide) (pc' := 150) rfl ?_
              refine ax_icmp_ne (tgt := 159) dX12_oneTest_150 (by decide) (pc' := 153) rfl (fun h150 => ?_) (fun h150 => ?_)
              · obtain ⟨L4, qt4, ql4, qc4⟩ := f_cur_next qc2 (by omega)
                have qR4 := f_cur_rg qc4
                have qh4 := f_cur_hd qc4
                have qe2 : f_cmp2 L2 = f_aft [(f_cmpS L2, 0)] (f_sumU L4) := by
                  unfold f_cmp2
                  rw [if_neg (by rw [qk]; decide), qt4]
                refine ax_aload_n dX12_oneTest_159 rfl rfl (pc' := 160) rfl ?_
                refine ax_invG [] [] dX12_oneTest_160 mlX12_232 sh_330 rfl rfl rfl (Nat.le_of_ble_eq_true rfl) (s_X12_next0 E l _ (by omega) _ ((funext fun i0 => frM_93 339 i0 (fun h => h.elim (fun h => absurd h (by decide)) (fun h => h.elim (fun h => absurd h.1 (by decide)) (fun h => h.elim (fun h => absurd h.1 (by decide)) (fun h => h.elim (fun h => absurd h.1 (by decide)) (fun h => h.elim (fun h => absurd h.1 (by decide)) (fun h => h.elim (fun h => absurd h.1 (by decide)) (fun h => h.elim (fun h => absurd h.1 (by decide)) (fun h => absurd h.1 (by decide)))))))))).trans hta) rfl ((frM_93 330 17 (fun h => h.elim (fun h => absurd h (by decide)) (fun h => h.elim (fun h => absurd h.2 (by decide)) (fun h => h.elim (fun h => absurd h.2 (by decide)) (fun h => h.elim (fun h => absurd h.2 (by decide)) (fun h => h.elim (fun h => absurd h.2 (by decide)) (fun h => h.elim (fun h => absurd h.2 (by decide)) (fun h => h.elim (fun h => absurd h.2 (by decide)) (fun h => absurd h.2 (by decide)))))))))).trans htn) ((frM_93 330 13 (fun h => h.elim (fun h => absurd h (by decide)) (fun h => h.elim (fun h => absurd h.2 (by decide)) (fun h => h.elim (fun h => absurd h.2 (by decide)) (fun h => h.elim (fun h => absurd h.2 (by decide)) (fun h => h.elim (fun h => absurd h.2 (by decide)) (fun h => h.elim (fun h => absurd h.2 (by decide)) (fun h => h.elim (fun h => absurd h.2 (by decide)) (fun h => absurd h.2 (by decide)))))))))).trans hrd) rfl (by first | omega | assumption) (by first | omega | assumption)) (pc' := 163) rfl (fun vv M_160 hq co160 hcm160 => ?_)
                obtain ⟨rfl, frM_160, msM_160_0, msM_160_1, msM_160_2, msM_160_3⟩ := hq
                refine ax_reS (st2 := []) rfl ?_
                refine ax_aload_n dX12_oneTest_163 rfl rfl (pc' := 164) rfl ?_
                refine ax_invG [] [] dX12_oneTest_164 mlX12_267 sh_330 rfl rfl rfl (Nat.le_of_ble_eq_true rfl) (s_X12_sumUp E l _ (by omega) _ L4 ((funext fun i0 => frM_160 339 i0 (fun h => h.elim (fun h => absurd h.1 (by decide)) (fun h => h.elim (fun h => absurd h.1 (by decide)) (fun h => h.elim (fun h => absurd h.1 (by decide)) (fun h => absurd h.1 (by decide)))))).trans ((funext fun i0 => frM_93 339 i0 (fun h => h.elim (fun h => absurd h (by decide)) (fun h => h.elim (fun h => absurd h.1 (by decide)) (fun h => h.elim (fun h => absurd h.1 (by decide)) (fun h => h.elim (fun h => absurd h.1 (by decide)) (fun h => h.elim (fun h => absurd h.1 (by decide)) (fun h => h.elim (fun h => absurd h.1 (by decide)) (fun h => h.elim (fun h => absurd h.1 (by decide)) (fun h => absurd h.1 (by decide)))))))))).trans hta)) ((funext fun i0 => frM_160 336 i0 (fun h => h.elim (fun h => absurd h.1 (by decide)) (fun h => h.elim (fun h => absurd h.1 (by decide)) (fun h => h.elim (fun h => absurd h.1 (by decide)) (fun h => absurd h.1 (by decide)))))).trans rfl) msM_160_0 msM_160_1 msM_160_2 msM_160_3 ((frM_160 330 15 (fun h => h.elim (fun h => absurd h.2 (by decide)) (fun h => h.elim (fun h => absurd h.2 (by decide)) (fun h => h.elim (fun h => absurd h.2 (by decide)) (fun h => absurd h.2 (by decide)))))).trans rfl) ((frM_160 330 25 (fun h => h.elim (fun h => absurd h.2 (by decide)) (fun h => h.elim (fun h => absurd h.2 (by decide)) (fun h => h.elim (fun h => absurd h.2 (by decide)) (fun h => absurd h.2 (by decide)))))).trans ((frM_93 330 25 (fun h => h.elim (fun h => absurd h (by decide)) (fun h => h.elim (fun h => absurd h.2 (by decide)) (fun h => h.elim (fun h => absurd h.2 (by decide)) (fun h => h.elim (fun h => absurd h.2 (by decide)) (fun h => h.elim (fun h => absurd h.2 (by decide)) (fun h => h.elim (fun h => absurd h.2 (by decide)) (fun h => h.elim (fun h => absurd h.2 (by decide)) (fun h => absurd h.2 (by decide)))))))))).trans hdp)) ((frM_160 330 17 (fun h => h.elim (fun h => absurd h.2 (by decide)) (fun h => h.elim (fun h => absurd h.2 (by decide)) (fun h => h.elim (fun h => absurd h.2 (by decide)) (fun h => absurd h.2 (by decide)))))).trans ((frM_93 330 17 (fun h => h.elim (fun h => absurd h (by decide)) (fun h => h.elim (fun h => absurd h.2 (by decide)) (fun h => h.elim (fun h => absurd h.2 (by decide)) (fun h => h.elim (fun h => absurd h.2 (by decide)) (fun h => h.elim (fun h => absurd h.2 (by decide)) (fun h => h.elim (fun h => absurd h.2 (by decide)) (fun h => h.elim (fun h => absurd h.2 (by decide)) (fun h => absurd h.2 (by decide)))))))))).trans htn)) ((frM_160 330 13 (fun h => h.elim (fun h => absurd h.2 (by decide)) (fun h => h.elim (fun h => absurd h.2 (by decide)) (fun h => h.elim (fun h => absurd h.2 (by decide)) (fun h => absurd h.2 (by decide)))))).trans ((frM_93 330 13 (fun h => h.elim (fun h => absurd h (by decide)) (fun h => h.elim (fun h => absurd h.2 (by decide)) (fun h => h.elim (fun h => absurd h.2 (by decide)) (fun h => h.elim (fun h => absurd h.2 (by decide)) (fun h => h.elim (fun h => absurd h.2 (by decide)) (fun h => h.elim (fun h => absurd h.2 (by decide)) (fun h => h.elim (fun h => absurd h.2 (by decide)) (fun h => absurd h.2 (by decide)))))))))).trans hrd)) (by first | omega | assumption) (by first | omega | assumption) (by first | omega | assumption) (by first | omega | assumption)) (pc' := 167) rfl (fun vv M_164 hq co164 hcm164 => ?_)
                obtain ⟨rfl, frM_164, fa164_0, fa164_1⟩ := hq
                refine ax_reS (st2 := [.inl (f_rb (f_sumU L4))]) rfl ?_
                have cc164 : -2147483648 ≤ f_rb (f_sumU L4) ∧ f_rb (f_sumU L4) < 2147483648 := co164 _ rfl
                refine ax_if_ne (tgt := 172) dX12_oneTest_167 (by decide) (pc' := 170) rfl (fun h167 => ?_) (fun h167 => ?_)
                · obtain ⟨L8, o8, qr8⟩ := f_rb_ok h167
                  rw [qr8] at fa164_0
                  obtain ⟨qm8, qs8, qc8, qd8⟩ := fa164_0
                  have qg8 := f_sumU_gd _ L8 o8 qr8
                  have qR8 := f_cur_rg qc8
                  have qh8 := f_cur_hd qc8
                  have qw8 := f_wt_len o8
                  have qz : f_one 0 L = .inr (L8, o2 ++ (o8 ++ [(f_cmpS L2, 0)])) := by
                    rw [qb]
                    unfold f_cmp
                    rw [qr2]
                    show f_pre o2 (f_cmp2 L2) = _
                    rw [qe2, f_aft_ok qr8]
                    rfl
                  refine ax_aload_n dX12_oneTest_172 rfl rfl (pc' := 173) rfl ?_
                  refine ax_iload_n dX12_oneTest_173 rfl rfl (pc' := 174) rfl ?_
                  refine ax_iconst dX12_oneTest_174 (by decide) (pc' := 175) rfl ?_
                  refine ax_invG [.inl 29, .inl 0] [] dX12_oneTest_175 mlX12_245 sh_330 rfl rfl rfl (Nat.le_of_ble_eq_true rfl) (s_X12_lay E l _ (by omega) _ 29 0 rfl rfl (by first | omega | assumption)) (pc' := 178) rfl (fun vv M_175 hq co175 hcm175 => ?_)
                  obtain ⟨rfl, frM_175, mrM_175_0, msM_175_0⟩ := hq
                  refine ax_reS (st2 := []) rfl ?_
                  refine ax_iconst dX12_oneTest_178 (by decide) (pc' := 179) rfl ?_
                  refine ax_zret dX12_oneTest_179 rfl (by decide) ?_
                  refine ⟨rfl, ?_, ?_, ?_, ?_⟩
                  · refine congrArg (fun z => some (Sum.inl z)) ?_
                    rw [qz]
                    rfl
                  · intro x0 i0 hai
                    exact ((frM_175 x0 i0 (fun h => h.elim (fun h => hai (Or.inl h)) (fun h => hai (Or.inr (Or.inl h))))).trans ((frM_164 x0 i0 (fun h => h.elim (fun h => hai (Or.inl h)) (fun h => h.elim (fun h => hai (Or.inr (Or.inl h))) (fun h => h.elim (fun h => hai (Or.inr (Or.inr (Or.inl h)))) (fun h => h.elim (fun h => hai (Or.inr (Or.inr (Or.inr (Or.inl h))))) (fun h => h.elim (fun h => hai (Or.inr (Or.inr (Or.inr (Or.inr (Or.inl h)))))) (fun h => h.elim (fun h => hai (Or.inr (Or.inr (Or.inr (Or.inr (Or.inr (Or.inl h))))))) (fun h => h.elim (fun h => hai (Or.inr (Or.inr (Or.inr (Or.inr (Or.inr (Or.inr (Or.inl h)))))))) (fun h => hai (Or.inr (Or.inr (Or.inr (Or.inr (Or.inr (Or.inr (Or.inr (Or.inl h))))))))))))))))).trans ((frM_160 x0 i0 (fun h => h.elim (fun h => hai (Or.inr (Or.inr (Or.inl h)))) (fun h => h.elim (fun h => hai (Or.inr (Or.inr (Or.inr (Or.inl h))))) (fun h => h.elim (fun h => hai (Or.inr (Or.inr (Or.inr (Or.inr (Or.inl h)))))) (fun h => hai (Or.inr (Or.inr (Or.inr (Or.inr (Or.inr (Or.inl h))))))))))).trans ((frM_93 x0 i0 (fun h => h.elim (fun h => hai (Or.inl h)) (fun h => h.elim (fun h => hai (Or.inr (Or.inl h))) (fun h => h.elim (fun h => hai (Or.inr (Or.inr (Or.inl h)))) (fun h => h.elim (fun h => hai (Or.inr (Or.inr (Or.inr (Or.inl h))))) (fun h => h.elim (fun h => hai (Or.inr (Or.inr (Or.inr (Or.inr (Or.inl h)))))) (fun h => h.elim (fun h => hai (Or.inr (Or.inr (Or.inr (Or.inr (Or.inr (Or.inl h))))))) (fun h => h.elim (fun h => hai (Or.inr (Or.inr (Or.inr (Or.inr (Or.inr (Or.inr (Or.inl h)))))))) (fun h => hai (Or.inr (Or.inr (Or.inr (Or.inr (Or.inr (Or.inr (Or.inr (Or.inl h))))))))))))))))).trans rfl))))
                  · refine f_pok_ok qz (Eq.trans mrM_175_0 ?_) (Eq.trans msM_175_0 ?_) qc8 ((frM_175 330 18 (fun h => h.elim (fun h => absurd h (by decide)) (fun h => absurd h.2 (by decide)))).trans rfl) ((frM_175 330 19 (fun h => h.elim (fun h => absurd h (by decide)) (fun h => absurd h.2 (by decide)))).trans rfl) ((frM_175 330 20 (fun h => h.elim (fun h => absurd h (by decide)) (fun h => absurd h.2 (by decide)))).trans rfl) ((frM_175 330 21 (fun h => h.elim (fun h => absurd h (by decide)) (fun h => absurd h.2 (by decide)))).trans rfl) ((frM_175 330 25 (fun h => h.elim (fun h => absurd h (by decide)) (fun h => absurd h.2 (by decide)))).trans ((frM_164 330 25 (fun h => h.elim (fun h => absurd h (by decide)) (fun h => h.elim (fun h => absurd h.2 (by decide)) (fun h => h.elim (fun h => absurd h.2 (by decide)) (fun h => h.elim (fun h => absurd h.2 (by decide)) (fun h => h.elim (fun h => absurd h.2 (by decide)) (fun h => h.elim (fun h => absurd h.2 (by decide)) (fun h => h.elim (fun h => absurd h.2 (by decide)) (fun h => absurd h.2 (by decide)))))))))).trans ((frM_160 330 25 (fun h => h.elim (fun h => absurd h.2 (by decide)) (fun h => h.elim (fun h => absurd h.2 (by decide)) (fun h => h.elim (fun h => absurd h.2 (by decide)) (fun h => absurd h.2 (by decide)))))).trans ((frM_93 330 25 (fun h => h.elim (fun h => absurd h (by decide)) (fun h => h.elim (fun h => absurd h.2 (by decide)) (fun h => h.elim (fun h => absurd h.2 (by decide)) (fun h => h.elim (fun h => absurd h.2 (by decide)) (fun h => h.elim (fun h => absurd h.2 (by decide)) (fun h => h.elim (fun h => absurd h.2 (by decide)) (fun h => h.elim (fun h => absurd h.2 (by decide)) (fun h => absurd h.2 (by decide)))))))))).trans hdp))))
                    · rw [qk, ← List.append_assoc, f_put_app, ← f_put_more qm2 qs2]
                      rw [← qm8, show sn + ((o2 ++ o8).length : Int) = M_164 330 15 by rw [List.length_append, qs8, qs2]; omega]
                      rfl
                    · rw [qs8, qs2]
                      simp only [List.length_append, List.length_cons, List.length_nil]
                      omega
                  · have q9 : M_175 330 21 = M_164 330 21 := ((frM_175 330 21 (fun h => h.elim (fun h => absurd h (by decide)) (fun h => absurd h.2 (by decide)))).trans rfl)
                    have q9b : 0 ≤ M_164 330 21 ∧ M_164 330 21 ≤ 9999 := by omega
                    exact f_r9 q9 q9b
                · obtain ⟨kk8, ss8, qr8⟩ := f_rb_no h167
                  rw [qr8] at fa164_0
                  have qz : f_one 0 L = .inl (kk8, ss8) := by
                    rw [qb]
                    unfold f_cmp
                    rw [qr2]
                    show f_pre o2 (f_cmp2 L2) = _
                    rw [qe2, f_aft_no qr8]
                    rfl
                  refine ax_iconst dX12_oneTest_170 (by decide) (pc' := 171) rfl ?_
                  refine ax_zret dX12_oneTest_171 rfl (by decide) ?_
                  refine ⟨rfl, ?_, ?_, ?_, ?_⟩
                  · refine congrArg (fun z => some (Sum.inl z)) ?_
                    rw [qz]
                    rfl
                  · intro x0 i0 hai
                    exact ((frM_164 x0 i0 (fun h => h.elim (fun h => hai (Or.inl h)) (fun h => h.elim (fun h => hai (Or.inr (Or.inl h))) (fun h => h.elim (fun h => hai (Or.inr (Or.inr (Or.inl h)))) (fun h => h.elim (fun h => hai (Or.inr (Or.inr (Or.inr (Or.inl h))))) (fun h => h.elim (fun h => hai (Or.inr (Or.inr (Or.inr (Or.inr (Or.inl h)))))) (fun h => h.elim (fun h => hai (Or.inr (Or.inr (Or.inr (Or.inr (Or.inr (Or.inl h))))))) (fun h => h.elim (fun h => hai (Or.inr (Or.inr (Or.inr (Or.inr (Or.inr (Or.inr (Or.inl h)))))))) (fun h => hai (Or.inr (Or.inr (Or.inr (Or.inr (Or.inr (Or.inr (Or.inr (Or.inl h))))))))))))))))).trans ((frM_160 x0 i0 (fun h => h.elim (fun h => hai (Or.inr (Or.inr (Or.inl h)))) (fun h => h.elim (fun h => hai (Or.inr (Or.inr (Or.inr (Or.inl h))))) (fun h => h.elim (fun h => hai (Or.inr (Or.inr (Or.inr (Or.inr (Or.inl h)))))) (fun h => hai (Or.inr (Or.inr (Or.inr (Or.inr (Or.inr (Or.inl h))))))))))).trans ((frM_93 x0 i0 (fun h => h.elim (fun h => hai (Or.inl h)) (fun h => h.elim (fun h => hai (Or.inr (Or.inl h))) (fun h => h.elim (fun h => hai (Or.inr (Or.inr (Or.inl h)))) (fun h => h.elim (fun h => hai (Or.inr (Or.inr (Or.inr (Or.inl h))))) (fun h => h.elim (fun h => hai (Or.inr (Or.inr (Or.inr (Or.inr (Or.inl h)))))) (fun h => h.elim (fun h => hai (Or.inr (Or.inr (Or.inr (Or.inr (Or.inr (Or.inl h))))))) (fun h => h.elim (fun h => hai (Or.inr (Or.inr (Or.inr (Or.inr (Or.inr (Or.inr (Or.inl h)))))))) (fun h => hai (Or.inr (Or.inr (Or.inr (Or.inr (Or.inr (Or.inr (Or.inr (Or.inl h))))))))))))))))).trans rfl)))
                  · exact f_pok_no qz fa164_0.1 fa164_0.2
                  · have q9 : M_164 330 21 = M_164 330 21 := rfl
                    have q9b : 0 ≤ M_164 330 21 ∧ M_164 330 21 ≤ 9999 := by omega
                    exact f_r9 q9 q9b
              · exfalso
                omega
          · have qk : f_cmpS L2 = 28 := by
              unfold f_cmpS
              rw [if_neg (by omega), if_pos (by omega)]
            refine ax_bipush dX12_oneTest_126 (by decide) (pc' := 128) rfl ?_
            refine ax_goto dX12_oneTest_128 (pc' := 147) (by decide) ?_
            refine ax_istore_n dX12_oneTest_147 rfl (by decide) (ls' := [some (.inr 330), some (.inl 28)]) rfl (pc' := 148) rfl ?_
            refine ax_iload_n dX12_oneTest_148 rfl rfl (pc' := 149) rfl ?_
            refine ax_iconst dX12_oneTest_149 (by decide) (pc' := 150) rfl ?_
            refine ax_icmp_ne (tgt := 159) dX12_oneTest_150 (by decide) (pc' := 153) rfl (fun h150 => ?_) (fun h150 => ?_)
            · obtain ⟨L4, qt4, ql4, qc4⟩ := f_cur_next qc2 (by omega)
              have qR4 := f_cur_rg qc4
              have qh4 := f_cur_hd qc4
              have qe2 : f_cmp2 L2 = f_aft [(f_cmpS L2, 0)] (f_sumU L4) := by
                unfold f_cmp2
                rw [if_neg (by rw [qk]; decide), qt4]
              refine ax_aload_n dX12_oneTest_159 rfl rfl (pc' := 160) rfl ?_
              refine ax_invG [] [] dX12_oneTest_160 mlX12_232 sh_330 rfl rfl rfl (Nat.le_of_ble_eq_true rfl) (s_X12_next0 E l _ (by omega) _ ((funext fun i0 => frM_93 339 i0 (fun h => h.elim (fun h => absurd h (by decide)) (fun h => h.elim (fun h => absurd h.1 (by decide)) (fun h => h.elim (fun h => absurd h.1 (by decide)) (fun h => h.elim (fun h => absurd h.1 (by decide)) (fun h => h.elim (fun h => absurd h.1 (by decide)) (fun h => h.elim (fun h => absurd h.1 (by decide)) (fun h => h.elim (fun h => absurd h.1 (by decide)) (fun h => absurd h.1 (by decide)))))))))).trans hta) rfl ((frM_93 330 17 (fun h => h.elim (fun h => absurd h (by decide)) (fun h => h.elim (fun h => absurd h.2 (by decide)) (fun h => h.elim (fun h => absurd h.2 (by decide)) (fun h => h.elim (fun h => absurd h.2 (by decide)) (fun h => h.elim (fun h => absurd h.2 (by decide)) (fun h => h.elim (fun h => absurd h.2 (by decide)) (fun h => h.elim (fun h => absurd h.2 (by decide)) (fun h => absurd h.2 (by decide)))))))))).trans htn) ((frM_93 330 13 (fun h => h.elim (fun h => absurd h (by decide)) (fun h => h.elim (fun h => absurd h.2 (by decide)) (fun h => h.elim (fun h => absurd h.2 (by decide)) (fun h => h.elim (fun h => absurd h.2 (by decide)) (fun h => h.elim (fun h => absurd h.2 (by decide)) (fun h => h.elim (fun h => absurd h.2 (by decide)) (fun h => h.elim (fun h => absurd h.2 (by decide)) (fun h => absurd h.2 (by decide)))))))))).trans hrd) rfl (by first | omega | assumption) (by first | omega | assumption)) (pc' := 163) rfl (fun vv M_160 hq co160 hcm160 => ?_)
              obtain ⟨rfl, frM_160, msM_160_0, msM_160_1, msM_160_2, msM_160_3⟩ := hq
              refine ax_reS (st2 := []) rfl ?_
              refine ax_aload_n dX12_oneTest_163 rfl rfl (pc' := 164) rfl ?_
              refine ax_invG [] [] dX12_oneTest_164 mlX12_267 sh_330 rfl rfl rfl (Nat.le_of_ble_eq_true rfl) (s_X12_sumUp E l _ (by omega) _ L4 ((funext fun i0 => frM_160 339 i0 (fun h => h.elim (fun h => absurd h.1 (by decide)) (fun h => h.elim (fun h => absurd h.1 (by decide)) (fun h => h.elim (fun h => absurd h.1 (by decide)) (fun h => absurd h.1 (by decide)))))).trans ((funext fun i0 => frM_93 339 i0 (fun h => h.elim (fun h => absurd h (by decide)) (fun h => h.elim (fun h => absurd h.1 (by decide)) (fun h => h.elim (fun h => absurd h.1 (by decide)) (fun h => h.elim (fun h => absurd h.1 (by decide)) (fun h => h.elim (fun h => absurd h.1 (by decide)) (fun h => h.elim (fun h => absurd h.1 (by decide)) (fun h => h.elim (fun h => absurd h.1 (by decide)) (fun h => absurd h.1 (by decide)))))))))).trans hta)) ((funext fun i0 => frM_160 336 i0 (fun h => h.elim (fun h => absurd h.1 (by decide)) (fun h => h.elim (fun h => absurd h.1 (by decide)) (fun h => h.elim (fun h => absurd h.1 (by decide)) (fun h => absurd h.1 (by decide)))))).trans rfl) msM_160_0 msM_160_1 msM_160_2 msM_160_3 ((frM_160 330 15 (fun h => h.elim (fun h => absurd h.2 (by decide)) (fun h => h.elim (fun h => absurd h.2 (by decide)) (fun h => h.elim (fun h => absurd h.2 (by decide)) (fun h => absurd h.2 (by decide)))))).trans rfl) ((frM_160 330 25 (fun h => h.elim (fun h => absurd h.2 (by decide)) (fun h => h.elim (fun h => absurd h.2 (by decide)) (fun h => h.elim (fun h => absurd h.2 (by decide)) (fun h => absurd h.2 (by decide)))))).trans ((frM_93 330 25 (fun h => h.elim (fun h => absurd h (by decide)) (fun h => h.elim (fun h => absurd h.2 (by decide)) (fun h => h.elim (fun h => absurd h.2 (by decide)) (fun h => h.elim (fun h => absurd h.2 (by decide)) (fun h => h.elim (fun h => absurd h.2 (by decide)) (fun h => h.elim (fun h => absurd h.2 (by decide)) (fun h => h.elim (fun h => absurd h.2 (by decide)) (fun h => absurd h.2 (by decide)))))))))).trans hdp)) ((frM_160 330 17 (fun h => h.elim (fun h => absurd h.2 (by decide)) (fun h => h.elim (fun h => absurd h.2 (by decide)) (fun h => h.elim (fun h => absurd h.2 (by decide)) (fun h => absurd h.2 (by decide)))))).trans ((frM_93 330 17 (fun h => h.elim (fun h => absurd h (by decide)) (fun h => h.elim (fun h => absurd h.2 (by decide)) (fun h => h.elim (fun h => absurd h.2 (by decide)) (fun h => h.elim (fun h => absurd h.2 (by decide)) (fun h => h.elim (fun h => absurd h.2 (by decide)) (fun h => h.elim (fun h => absurd h.2 (by decide)) (fun h => h.elim (fun h => absurd h.2 (by decide)) (fun h => absurd h.2 (by decide)))))))))).trans htn)) ((frM_160 330 13 (fun h => h.elim (fun h => absurd h.2 (by decide)) (fun h => h.elim (fun h => absurd h.2 (by decide)) (fun h => h.elim (fun h => absurd h.2 (by decide)) (fun h => absurd h.2 (by decide)))))).trans ((frM_93 330 13 (fun h => h.elim (fun h => absurd h (by decide)) (fun h => h.elim (fun h => absurd h.2 (by decide)) (fun h => h.elim (fun h => absurd h.2 (by decide)) (fun h => h.elim (fun h => absurd h.2 (by decide)) (fun h => h.elim (fun h => absurd h.2 (by decide)) (fun h => h.elim (fun h => absurd h.2 (by decide)) (fun h => h.elim (fun h => absurd h.2 (by decide)) (fun h => absurd h.2 (by decide)))))))))).trans hrd)) (by first | omega | assumption) (by first | omega | assumption) (by first | omega | assumption) (by first | omega | assumption)) (pc' := 167) rfl (fun vv M_164 hq co164 hcm164 => ?_)
              obtain ⟨rfl, frM_164, fa164_0, fa164_1⟩ := hq
              refine ax_reS (st2 := [.inl (f_rb (f_sumU L4))]) rfl ?_
              have cc164 : -2147483648 ≤ f_rb (f_sumU L4) ∧ f_rb (f_sumU L4) < 2147483648 := co164 _ rfl
              refine ax_if_ne (tgt := 172) dX12_oneTest_167 (by decide) (pc' := 170) rfl (fun h167 => ?_) (fun h167 => ?_)
              · obtain ⟨L8, o8, qr8⟩ := f_rb_ok h167
                rw [qr8] at fa164_0
                obtain ⟨qm8, qs8, qc8, qd8⟩ := fa164_0
                have qg8 := f_sumU_gd _ L8 o8 qr8
                have qR8 := f_cur_rg qc8
                have qh8 := f_cur_hd qc8
                have qw8 := f_wt_len o8
                have qz : f_one 0 L = .inr (L8, o2 ++ (o8 ++ [(f_cmpS L2, 0)])) := by
                  rw [qb]
                  unfold f_cmp
                  rw [qr2]
                  show f_pre o2 (f_cmp2 L2) = _
                  rw [qe2, f_aft_ok qr8]
                  rfl
                refine ax_aload_n dX12_oneTest_172 rfl rfl (pc' := 173) rfl ?_
                refine ax_iload_n dX12_oneTest_173 rfl rfl (pc' := 174) rfl ?_
                refine ax_iconst dX12_oneTest_174 (by decide) (pc' := 175) rfl ?_
                refine ax_invG [.inl 28, .inl 0] [] dX12_oneTest_175 mlX12_245 sh_330 rfl rfl rfl (Nat.le_of_ble_eq_true rfl) (s_X12_lay E l _ (by omega) _ 28 0 rfl rfl (by first | omega | assumption)) (pc' := 178) rfl (fun vv M_175 hq co175 hcm175 => ?_)
                obtain ⟨rfl, frM_175, mrM_175_0, msM_175_0⟩ := hq
                refine ax_reS (st2 := []) rfl ?_
                refine ax_iconst dX12_oneTest_178 (by decide) (pc' := 179) rfl ?_
                refine ax_zret dX12_oneTest_179 rfl (by decide) ?_
                refine ⟨rfl, ?_, ?_, ?_, ?_⟩
                · refine congrArg (fun z => some (Sum.inl z)) ?_
                  rw [qz]
                  rfl
                · intro x0 i0 hai
                  exact ((frM_175 x0 i0 (fun h => h.elim (fun h => hai (Or.inl h)) (fun h => hai (Or.inr (Or.inl h))))).trans ((frM_164 x0 i0 (fun h => h.elim (fun h => hai (Or.inl h)) (fun h => h.elim (fun h => hai (Or.inr (Or.inl h))) (fun h => h.elim (fun h => hai (Or.inr (Or.inr (Or.inl h)))) (fun h => h.elim (fun h => hai (Or.inr (Or.inr (Or.inr (Or.inl h))))) (fun h => h.elim (fun h => hai (Or.inr (Or.inr (Or.inr (Or.inr (Or.inl h)))))) (fun h => h.elim (fun h => hai (Or.inr (Or.inr (Or.inr (Or.inr (Or.inr (Or.inl h))))))) (fun h => h.elim (fun h => hai (Or.inr (Or.inr (Or.inr (Or.inr (Or.inr (Or.inr (Or.inl h)))))))) (fun h => hai (Or.inr (Or.inr (Or.inr (Or.inr (Or.inr (Or.inr (Or.inr (Or.inl h))))))))))))))))).trans ((frM_160 x0 i0 (fun h => h.elim (fun h => hai (Or.inr (Or.inr (Or.inl h)))) (fun h => h.elim (fun h => hai (Or.inr (Or.inr (Or.inr (Or.inl h))))) (fun h => h.elim (fun h => hai (Or.inr (Or.inr (Or.inr (Or.inr (Or.inl h)))))) (fun h => hai (Or.inr (Or.inr (Or.inr (Or.inr (Or.inr (Or.inl h))))))))))).trans ((frM_93 x0 i0 (fun h => h.elim (fun h => hai (Or.inl h)) (fun h => h.elim (fun h => hai (Or.inr (Or.inl h))) (fun h => h.elim (fun h => hai (Or.inr (Or.inr (Or.inl h)))) (fun h => h.elim (fun h => hai (Or.inr (Or.inr (Or.inr (Or.inl h))))) (fun h => h.elim (fun h => hai (Or.inr (Or.inr (Or.inr (Or.inr (Or.inl h)))))) (fun h => h.elim (fun h => hai (Or.inr (Or.inr (Or.inr (Or.inr (Or.inr (Or.inl h))))))) (fun h => h.elim (fun h => hai (Or.inr (Or.inr (Or.inr (Or.inr (Or.inr (Or.inr (Or.inl h)))))))) (fun h => hai (Or.inr (Or.inr (Or.inr (Or.inr (Or.inr (Or.inr (Or.inr (Or.inl h))))))))))))))))).trans rfl))))
                · refine f_pok_ok qz (Eq.trans mrM_175_0 ?_) (Eq.trans msM_175_0 ?_) qc8 ((frM_175 330 18 (fun h => h.elim (fun h => absurd h (by decide)) (fun h => absurd h.2 (by decide)))).trans rfl) ((frM_175 330 19 (fun h => h.elim (fun h => absurd h (by decide)) (fun h => absurd h.2 (by decide)))).trans rfl) ((frM_175 330 20 (fun h => h.elim (fun h => absurd h (by decide)) (fun h => absurd h.2 (by decide)))).trans rfl) ((frM_175 330 21 (fun h => h.elim (fun h => absurd h (by decide)) (fun h => absurd h.2 (by decide)))).trans rfl) ((frM_175 330 25 (fun h => h.elim (fun h => absurd h (by decide)) (fun h => absurd h.2 (by decide)))).trans ((frM_164 330 25 (fun h => h.elim (fun h => absurd h (by decide)) (fun h => h.elim (fun h => absurd h.2 (by decide)) (fun h => h.elim (fun h => absurd h.2 (by decide)) (fun h => h.elim (fun h => absurd h.2 (by decide)) (fun h => h.elim (fun h => absurd h.2 (by decide)) (fun h => h.elim (fun h => absurd h.2 (by decide)) (fun h => h.elim (fun h => absurd h.2 (by decide)) (fun h => absurd h.2 (by decide)))))))))).trans ((frM_160 330 25 (fun h => h.elim (fun h => absurd h.2 (by decide)) (fun h => h.elim (fun h => absurd h.2 (by decide)) (fun h => h.elim (fun h => absurd h.2 (by decide)) (fun h => absurd h.2 (by decide)))))).trans ((frM_93 330 25 (fun h => h.elim (fun h => absurd h (by decide)) (fun h => h.elim (fun h => absurd h.2 (by decide)) (fun h => h.elim (fun h => absurd h.2 (by decide)) (fun h => h.elim (fun h => absurd h.2 (by decide)) (fun h => h.elim (fun h => absurd h.2 (by decide)) (fun h => h.elim (fun h => absurd h.2 (by decide)) (fun h => h.elim (fun h => absurd h.2 (by decide)) (fun h => absurd h.2 (by decide)))))))))).trans hdp))))
                  · rw [qk, ← List.append_assoc, f_put_app, ← f_put_more qm2 qs2]
                    rw [← qm8, show sn + ((o2 ++ o8).length : Int) = M_164 330 15 by rw [List.length_append, qs8, qs2]; omega]
                    rfl
                  · rw [qs8, qs2]
                    simp only [List.length_append, List.length_cons, List.length_nil]
                    omega
                · have q9 : M_175 330 21 = M_164 330 21 := ((frM_175 330 21 (fun h => h.elim (fun h => absurd h (by decide)) (fun h => absurd h.2 (by decide)))).trans rfl)
                  have q9b : 0 ≤ M_164 330 21 ∧ M_164 330 21 ≤ 9999 := by omega
                  exact f_r9 q9 q9b
              · obtain ⟨kk8, ss8, qr8⟩ := f_rb_no h167
                rw [qr8] at fa164_0
                have qz : f_one 0 L = .inl (kk8, ss8) := by
                  rw [qb]
                  unfold f_cmp
                  rw [qr2]
                  show f_pre o2 (f_cmp2 L2) = _
                  rw [qe2, f_aft_no qr8]
                  rfl
                refine ax_iconst dX12_oneTest_170 (by decide) (pc' := 171) rfl ?_
                refine ax_zret dX12_oneTest_171 rfl (by decide) ?_
                refine ⟨rfl, ?_, ?_, ?_, ?_⟩
                · refine congrArg (fun z => some (Sum.inl z)) ?_
                  rw [qz]
                  rfl
                · intro x0 i0 hai
                  exact ((frM_164 x0 i0 (fun h => h.elim (fun h => hai (Or.inl h)) (fun h => h.elim (fun h => hai (Or.inr (Or.inl h))) (fun h => h.elim (fun h => hai (Or.inr (Or.inr (Or.inl h)))) (fun h => h.elim (fun h => hai (Or.inr (Or.inr (Or.inr (Or.inl h))))) (fun h => h.elim (fun h => hai (Or.inr (Or.inr (Or.inr (Or.inr (Or.inl h)))))) (fun h => h.elim (fun h => hai (Or.inr (Or.inr (Or.inr (Or.inr (Or.inr (Or.inl h))))))) (fun h => h.elim (fun h => hai (Or.inr (Or.inr (Or.inr (Or.inr (Or.inr (Or.inr (Or.inl h)))))))) (fun h => hai (Or.inr (Or.inr (Or.inr (Or.inr (Or.inr (Or.inr (Or.inr (Or.inl h))))))))))))))))).trans ((frM_160 x0 i0 (fun h => h.elim (fun h => hai (Or.inr (Or.inr (Or.inl h)))) (fun h => h.elim (fun h => hai (Or.inr (Or.inr (Or.inr (Or.inl h))))) (fun h => h.elim (fun h => hai (Or.inr (Or.inr (Or.inr (Or.inr (Or.inl h)))))) (fun h => hai (Or.inr (Or.inr (Or.inr (Or.inr (Or.inr (Or.inl h))))))))))).trans ((frM_93 x0 i0 (fun h => h.elim (fun h => hai (Or.inl h)) (fun h => h.elim (fun h => hai (Or.inr (Or.inl h))) (fun h => h.elim (fun h => hai (Or.inr (Or.inr (Or.inl h)))) (fun h => h.elim (fun h => hai (Or.inr (Or.inr (Or.inr (Or.inl h))))) (fun h => h.elim (fun h => hai (Or.inr (Or.inr (Or.inr (Or.inr (Or.inl h)))))) (fun h => h.elim (fun h => hai (Or.inr (Or.inr (Or.inr (Or.inr (Or.inr (Or.inl h))))))) (fun h => h.elim (fun h => hai (Or.inr (Or.inr (Or.inr (Or.inr (Or.inr (Or.inr (Or.inl h)))))))) (fun h => hai (Or.inr (Or.inr (Or.inr (Or.inr (Or.inr (Or.inr (Or.inr (Or.inl h))))))))))))))))).trans rfl)))
                · exact f_pok_no qz fa164_0.1 fa164_0.2
                · have q9 : M_164 330 21 = M_164 330 21 := rfl
                  have q9b : 0 ≤ M_164 330 21 ∧ M_164 330 21 ≤ 9999 := by omega
                  exact f_r9 q9 q9b
            · exfalso
              omega
        · have qk : f_cmpS L2 = 27 := by
            unfold f_cmpS
            rw [if_pos (by omega)]
          refine ax_bipush dX12_oneTest_111 (by decide) (pc' := 113) rfl ?_
          refine ax_goto dX12_oneTest_113 (pc' := 147) (by decide) ?_
          refine ax_istore_n dX12_oneTest_147 rfl (by decide) (ls' := [some (.inr 330), some (.inl 27)]) rfl (pc' := 148) rfl ?_
          refine ax_iload_n dX12_oneTest_148 rfl rfl (pc' := 149) rfl ?_
          refine ax_iconst dX12_oneTest_149 (by decide) (pc' := 150) rfl ?_
          refine ax_icmp_ne (tgt := 159) dX12_oneTest_150 (by decide) (pc' := 153) rfl (fun h150 => ?_) (fun h150 => ?_)
          · obtain ⟨L4, qt4, ql4, qc4⟩ := f_cur_next qc2 (by omega)
            have qR4 := f_cur_rg qc4
            have qh4 := f_cur_hd qc4
            have qe2 : f_cmp2 L2 = f_aft [(f_cmpS L2, 0)] (f_sumU L4) := by
              unfold f_cmp2
              rw [if_neg (by rw [qk]; decide), qt4]
            refine ax_aload_n dX12_oneTest_159 rfl rfl (pc' := 160) rfl ?_
            refine ax_invG [] [] dX12_oneTest_160 mlX12_232 sh_330 rfl rfl rfl (Nat.le_of_ble_eq_true rfl) (s_X12_next0 E l _ (by omega) _ ((funext fun i0 => frM_93 339 i0 (fun h => h.elim (fun h => absurd h (by decide)) (fun h => h.elim (fun h => absurd h.1 (by decide)) (fun h => h.elim (fun h => absurd h.1 (by decide)) (fun h => h.elim (fun h => absurd h.1 (by decide)) (fun h => h.elim (fun h => absurd h.1 (by decide)) (fun h => h.elim (fun h => absurd h.1 (by decide)) (fun h => h.elim (fun h => absurd h.1 (by decide)) (fun h => absurd h.1 (by decide)))))))))).trans hta) rfl ((frM_93 330 17 (fun h => h.elim (fun h => absurd h (by decide)) (fun h => h.elim (fun h => absurd h.2 (by decide)) (fun h => h.elim (fun h => absurd h.2 (by decide)) (fun h => h.elim (fun h => absurd h.2 (by decide)) (fun h => h.elim (fun h => absurd h.2 (by decide)) (fun h => h.elim (fun h => absurd h.2 (by decide)) (fun h => h.elim (fun h => absurd h.2 (by decide)) (fun h => absurd h.2 (by decide)))))))))).trans htn) ((frM_93 330 13 (fun h => h.elim (fun h => absurd h (by decide)) (fun h => h.elim (fun h => absurd h.2 (by decide)) (fun h => h.elim (fun h => absurd h.2 (by decide)) (fun h => h.elim (fun h => absurd h.2 (by decide)) (fun h => h.elim (fun h => absurd h.2 (by decide)) (fun h => h.elim (fun h => absurd h.2 (by decide)) (fun h => h.elim (fun h => absurd h.2 (by decide)) (fun h => absurd h.2 (by decide)))))))))).trans hrd) rfl (by first | omega | assumption) (by first | omega | assumption)) (pc' := 163) rfl (fun vv M_160 hq co160 hcm160 => ?_)
            obtain ⟨rfl, frM_160, msM_160_0, msM_160_1, msM_160_2, msM_160_3⟩ := hq
            refine ax_reS (st2 := []) rfl ?_
            refine ax_aload_n dX12_oneTest_163 rfl rfl (pc' := 164) rfl ?_
            refine ax_invG [] [] dX12_oneTest_164 mlX12_267 sh_330 rfl rfl rfl (Nat.le_of_ble_eq_true rfl) (s_X12_sumUp E l _ (by omega) _ L4 ((funext fun i0 => frM_160 339 i0 (fun h => h.elim (fun h => absurd h.1 (by decide)) (fun h => h.elim (fun h => absurd h.1 (by decide)) (fun h => h.elim (fun h => absurd h.1 (by decide)) (fun h => absurd h.1 (by decide)))))).trans ((funext fun i0 => frM_93 339 i0 (fun h => h.elim (fun h => absurd h (by decide)) (fun h => h.elim (fun h => absurd h.1 (by decide)) (fun h => h.elim (fun h => absurd h.1 (by decide)) (fun h => h.elim (fun h => absurd h.1 (by decide)) (fun h => h.elim (fun h => absurd h.1 (by decide)) (fun h => h.elim (fun h => absurd h.1 (by decide)) (fun h => h.elim (fun h => absurd h.1 (by decide)) (fun h => absurd h.1 (by decide)))))))))).trans hta)) ((funext fun i0 => frM_160 336 i0 (fun h => h.elim (fun h => absurd h.1 (by decide)) (fun h => h.elim (fun h => absurd h.1 (by decide)) (fun h => h.elim (fun h => absurd h.1 (by decide)) (fun h => absurd h.1 (by decide)))))).trans rfl) msM_160_0 msM_160_1 msM_160_2 msM_160_3 ((frM_160 330 15 (fun h => h.elim (fun h => absurd h.2 (by decide)) (fun h => h.elim (fun h => absurd h.2 (by decide)) (fun h => h.elim (fun h => absurd h.2 (by decide)) (fun h => absurd h.2 (by decide)))))).trans rfl) ((frM_160 330 25 (fun h => h.elim (fun h => absurd h.2 (by decide)) (fun h => h.elim (fun h => absurd h.2 (by decide)) (fun h => h.elim (fun h => absurd h.2 (by decide)) (fun h => absurd h.2 (by decide)))))).trans ((frM_93 330 25 (fun h => h.elim (fun h => absurd h (by decide)) (fun h => h.elim (fun h => absurd h.2 (by decide)) (fun h => h.elim (fun h => absurd h.2 (by decide)) (fun h => h.elim (fun h => absurd h.2 (by decide)) (fun h => h.elim (fun h => absurd h.2 (by decide)) (fun h => h.elim (fun h => absurd h.2 (by decide)) (fun h => h.elim (fun h => absurd h.2 (by decide)) (fun h => absurd h.2 (by decide)))))))))).trans hdp)) ((frM_160 330 17 (fun h => h.elim (fun h => absurd h.2 (by decide)) (fun h => h.elim (fun h => absurd h.2 (by decide)) (fun h => h.elim (fun h => absurd h.2 (by decide)) (fun h => absurd h.2 (by decide)))))).trans ((frM_93 330 17 (fun h => h.elim (fun h => absurd h (by decide)) (fun h => h.elim (fun h => absurd h.2 (by decide)) (fun h => h.elim (fun h => absurd h.2 (by decide)) (fun h => h.elim (fun h => absurd h.2 (by decide)) (fun h => h.elim (fun h => absurd h.2 (by decide)) (fun h => h.elim (fun h => absurd h.2 (by decide)) (fun h => h.elim (fun h => absurd h.2 (by decide)) (fun h => absurd h.2 (by decide)))))))))).trans htn)) ((frM_160 330 13 (fun h => h.elim (fun h => absurd h.2 (by decide)) (fun h => h.elim (fun h => absurd h.2 (by decide)) (fun h => h.elim (fun h => absurd h.2 (by decide)) (fun h => absurd h.2 (by decide)))))).trans ((frM_93 330 13 (fun h => h.elim (fun h => absurd h (by decide)) (fun h => h.elim (fun h => absurd h.2 (by decide)) (fun h => h.elim (fun h => absurd h.2 (by decide)) (fun h => h.elim (fun h => absurd h.2 (by decide)) (fun h => h.elim (fun h => absurd h.2 (by decide)) (fun h => h.elim (fun h => absurd h.2 (by decide)) (fun h => h.elim (fun h => absurd h.2 (by decide)) (fun h => absurd h.2 (by decide)))))))))).trans hrd)) (by first | omega | assumption) (by first | omega | assumption) (by first | omega | assumption) (by first | omega | assumption)) (pc' := 167) rfl (fun vv M_164 hq co164 hcm164 => ?_)
            obtain ⟨rfl, frM_164, fa164_0, fa164_1⟩ := hq
            refine ax_reS (st2 := [.inl (f_rb (f_sumU L4))]) rfl ?_
            have cc164 : -2147483648 ≤ f_rb (f_sumU L4) ∧ f_rb (f_sumU L4) < 2147483648 := co164 _ rfl
            refine ax_if_ne (tgt := 172) dX12_oneTest_167 (by decide) (pc' := 170) rfl (fun h167 => ?_) (fun h167 => ?_)
            · obtain ⟨L8, o8, qr8⟩ := f_rb_ok h167
              rw [qr8] at fa164_0
              obtain ⟨qm8, qs8, qc8, qd8⟩ := fa164_0
              have qg8 := f_sumU_gd _ L8 o8 qr8
              have qR8 := f_cur_rg qc8
              have qh8 := f_cur_hd qc8
              have qw8 := f_wt_len o8
              have qz : f_one 0 L = .inr (L8, o2 ++ (o8 ++ [(f_cmpS L2, 0)])) := by
                rw [qb]
                unfold f_cmp
                rw [qr2]
                show f_pre o2 (f_cmp2 L2) = _
                rw [qe2, f_aft_ok qr8]
                rfl
              refine ax_aload_n dX12_oneTest_172 rfl rfl (pc' := 173) rfl ?_
              refine ax_iload_n dX12_oneTest_173 rfl rfl (pc' := 174) rfl ?_
              refine ax_iconst dX12_oneTest_174 (by decide) (pc' := 175) rfl ?_
              refine ax_invG [.inl 27, .inl 0] [] dX12_oneTest_175 mlX12_245 sh_330 rfl rfl rfl (Nat.le_of_ble_eq_true rfl) (s_X12_lay E l _ (by omega) _ 27 0 rfl rfl (by first | omega | assumption)) (pc' := 178) rfl (fun vv M_175 hq co175 hcm175 => ?_)
              obtain ⟨rfl, frM_175, mrM_175_0, msM_175_0⟩ := hq
              refine ax_reS (st2 := []) rfl ?_
              refine ax_iconst dX12_oneTest_178 (by decide) (pc' := 179) rfl ?_
              refine ax_zret dX12_oneTest_179 rfl (by decide) ?_
              refine ⟨rfl, ?_, ?_, ?_, ?_⟩
              · refine congrArg (fun z => some (Sum.inl z)) ?_
                rw [qz]
                rfl
              · intro x0 i0 hai
                exact ((frM_175 x0 i0 (fun h => h.elim (fun h => hai (Or.inl h)) (fun h => hai (Or.inr (Or.inl h))))).trans ((frM_164 x0 i0 (fun h => h.elim (fun h => hai (Or.inl h)) (fun h => h.elim (fun h => hai (Or.inr (Or.inl h))) (fun h => h.elim (fun h => hai (Or.inr (Or.inr (Or.inl h)))) (fun h => h.elim (fun h => hai (Or.inr (Or.inr (Or.inr (Or.inl h))))) (fun h => h.elim (fun h => hai (Or.inr (Or.inr (Or.inr (Or.inr (Or.inl h)))))) (fun h => h.elim (fun h => hai (Or.inr (Or.inr (Or.inr (Or.inr (Or.inr (Or.inl h))))))) (fun h => h.elim (fun h => hai (Or.inr (Or.inr (Or.inr (Or.inr (Or.inr (Or.inr (Or.inl h)))))))) (fun h => hai (Or.inr (Or.inr (Or.inr (Or.inr (Or.inr (Or.inr (Or.inr (Or.inl h))))))))))))))))).trans ((frM_160 x0 i0 (fun h => h.elim (fun h => hai (Or.inr (Or.inr (Or.inl h)))) (fun h => h.elim (fun h => hai (Or.inr (Or.inr (Or.inr (Or.inl h))))) (fun h => h.elim (fun h => hai (Or.inr (Or.inr (Or.inr (Or.inr (Or.inl h)))))) (fun h => hai (Or.inr (Or.inr (Or.inr (Or.inr (Or.inr (Or.inl h))))))))))).trans ((frM_93 x0 i0 (fun h => h.elim (fun h => hai (Or.inl h)) (fun h => h.elim (fun h => hai (Or.inr (Or.inl h))) (fun h => h.elim (fun h => hai (Or.inr (Or.inr (Or.inl h)))) (fun h => h.elim (fun h => hai (Or.inr (Or.inr (Or.inr (Or.inl h))))) (fun h => h.elim (fun h => hai (Or.inr (Or.inr (Or.inr (Or.inr (Or.inl h)))))) (fun h => h.elim (fun h => hai (Or.inr (Or.inr (Or.inr (Or.inr (Or.inr (Or.inl h))))))) (fun h => h.elim (fun h => hai (Or.inr (Or.inr (Or.inr (Or.inr (Or.inr (Or.inr (Or.inl h)))))))) (fun h => hai (Or.inr (Or.inr (Or.inr (Or.inr (Or.inr (Or.inr (Or.inr (Or.inl h))))))))))))))))).trans rfl))))
              · refine f_pok_ok qz (Eq.trans mrM_175_0 ?_) (Eq.trans msM_175_0 ?_) qc8 ((frM_175 330 18 (fun h => h.elim (fun h => absurd h (by decide)) (fun h => absurd h.2 (by decide)))).trans rfl) ((frM_175 330 19 (fun h => h.elim (fun h => absurd h (by decide)) (fun h => absurd h.2 (by decide)))).trans rfl) ((frM_175 330 20 (fun h => h.elim (fun h => absurd h (by decide)) (fun h => absurd h.2 (by decide)))).trans rfl) ((frM_175 330 21 (fun h => h.elim (fun h => absurd h (by decide)) (fun h => absurd h.2 (by decide)))).trans rfl) ((frM_175 330 25 (fun h => h.elim (fun h => absurd h (by decide)) (fun h => absurd h.2 (by decide)))).trans ((frM_164 330 25 (fun h => h.elim (fun h => absurd h (by decide)) (fun h => h.elim (fun h => absurd h.2 (by decide)) (fun h => h.elim (fun h => absurd h.2 (by decide)) (fun h => h.elim (fun h => absurd h.2 (by decide)) (fun h => h.elim (fun h => absurd h.2 (by decide)) (fun h => h.elim (fun h => absurd h.2 (by decide)) (fun h => h.elim (fun h => absurd h.2 (by decide)) (fun h => absurd h.2 (by decide)))))))))).trans ((frM_160 330 25 (fun h => h.elim (fun h => absurd h.2 (by decide)) (fun h => h.elim (fun h => absurd h.2 (by decide)) (fun h => h.elim (fun h => absurd h.2 (by decide)) (fun h => absurd h.2 (by decide)))))).trans ((frM_93 330 25 (fun h => h.elim (fun h => absurd h (by decide)) (fun h => h.elim (fun h => absurd h.2 (by decide)) (fun h => h.elim (fun h => absurd h.2 (by decide)) (fun h => h.elim (fun h => absurd h.2 (by decide)) (fun h => h.elim (fun h => absurd h.2 (by decide)) (fun h => h.elim (fun h => absurd h.2 (by decide)) (fun h => h.elim (fun h => absurd h.2 (by decide)) (fun h => absurd h.2 (by decide)))))))))).trans hdp))))
                · rw [qk, ← List.append_assoc, f_put_app, ← f_put_more qm2 qs2]
                  rw [← qm8, show sn + ((o2 ++ o8).length : Int) = M_164 330 15 by rw [List.length_append, qs8, qs2]; omega]
                  rfl
                · rw [qs8, qs2]
                  simp only [List.length_append, List.length_cons, List.length_nil]
                  omega
              · have q9 : M_175 330 21 = M_164 330 21 := ((frM_175 330 21 (fun h => h.elim (fun h => absurd h (by decide)) (fun h => absurd h.2 (by decide)))).trans rfl)
                have q9b : 0 ≤ M_164 330 21 ∧ M_164 330 21 ≤ 9999 := by omega
                exact f_r9 q9 q9b
            · obtain ⟨kk8, ss8, qr8⟩ := f_rb_no h167
              rw [qr8] at fa164_0
              have qz : f_one 0 L = .inl (kk8, ss8) := by
                rw [qb]
                unfold f_cmp
                rw [qr2]
                show f_pre o2 (f_cmp2 L2) = _
                rw [qe2, f_aft_no qr8]
                rfl
              refine ax_iconst dX12_oneTest_170 (by decide) (pc' := 171) rfl ?_
              refine ax_zret dX12_oneTest_171 rfl (by decide) ?_
              refine ⟨rfl, ?_, ?_, ?_, ?_⟩
              · refine congrArg (fun z => some (Sum.inl z)) ?_
                rw [qz]
                rfl
              · intro x0 i0 hai
                exact ((frM_164 x0 i0 (fun h => h.elim (fun h => hai (Or.inl h)) (fun h => h.elim (fun h => hai (Or.inr (Or.inl h))) (fun h => h.elim (fun h => hai (Or.inr (Or.inr (Or.inl h)))) (fun h => h.elim (fun h => hai (Or.inr (Or.inr (Or.inr (Or.inl h))))) (fun h => h.elim (fun h => hai (Or.inr (Or.inr (Or.inr (Or.inr (Or.inl h)))))) (fun h => h.elim (fun h => hai (Or.inr (Or.inr (Or.inr (Or.inr (Or.inr (Or.inl h))))))) (fun h => h.elim (fun h => hai (Or.inr (Or.inr (Or.inr (Or.inr (Or.inr (Or.inr (Or.inl h)))))))) (fun h => hai (Or.inr (Or.inr (Or.inr (Or.inr (Or.inr (Or.inr (Or.inr (Or.inl h))))))))))))))))).trans ((frM_160 x0 i0 (fun h => h.elim (fun h => hai (Or.inr (Or.inr (Or.inl h)))) (fun h => h.elim (fun h => hai (Or.inr (Or.inr (Or.inr (Or.inl h))))) (fun h => h.elim (fun h => hai (Or.inr (Or.inr (Or.inr (Or.inr (Or.inl h)))))) (fun h => hai (Or.inr (Or.inr (Or.inr (Or.inr (Or.inr (Or.inl h))))))))))).trans ((frM_93 x0 i0 (fun h => h.elim (fun h => hai (Or.inl h)) (fun h => h.elim (fun h => hai (Or.inr (Or.inl h))) (fun h => h.elim (fun h => hai (Or.inr (Or.inr (Or.inl h)))) (fun h => h.elim (fun h => hai (Or.inr (Or.inr (Or.inr (Or.inl h))))) (fun h => h.elim (fun h => hai (Or.inr (Or.inr (Or.inr (Or.inr (Or.inl h)))))) (fun h => h.elim (fun h => hai (Or.inr (Or.inr (Or.inr (Or.inr (Or.inr (Or.inl h))))))) (fun h => h.elim (fun h => hai (Or.inr (Or.inr (Or.inr (Or.inr (Or.inr (Or.inr (Or.inl h)))))))) (fun h => hai (Or.inr (Or.inr (Or.inr (Or.inr (Or.inr (Or.inr (Or.inr (Or.inl h))))))))))))))))).trans rfl)))
              · exact f_pok_no qz fa164_0.1 fa164_0.2
              · have q9 : M_164 330 21 = M_164 330 21 := rfl
                have q9b : 0 ≤ M_164 330 21 ∧ M_164 330 21 ≤ 9999 := by omega
                exact f_r9 q9 q9b
          · exfalso
            omega
      · obtain ⟨kk2, ss2, qr2⟩ := f_rb_no h96
        rw [qr2] at fa93_0
        have qz : f_one 0 L = .inl (kk2, ss2) := by
          rw [qb]
          unfold f_cmp
          rw [qr2]
          rfl
        refine ax_iconst dX12_oneTest_99 (by decide) (pc' := 100) rfl ?_
        refine ax_zret dX12_oneTest_100 rfl (by decide) ?_
        refine ⟨rfl, ?_, ?_, ?_, ?_⟩
        · refine congrArg (fun z => some (Sum.inl z)) ?_
          rw [qz]
          rfl
        · intro x0 i0 hai
          exact ((frM_93 x0 i0 (fun h => h.elim (fun h => hai (Or.inl h)) (fun h => h.elim (fun h => hai (Or.inr (Or.inl h))) (fun h => h.elim (fun h => hai (Or.inr (Or.inr (Or.inl h)))) (fun h => h.elim (fun h => hai (Or.inr (Or.inr (Or.inr (Or.inl h))))) (fun h => h.elim (fun h => hai (Or.inr (Or.inr (Or.inr (Or.inr (Or.inl h)))))) (fun h => h.elim (fun h => hai (Or.inr (Or.inr (Or.inr (Or.inr (Or.inr (Or.inl h))))))) (fun h => h.elim (fun h => hai (Or.inr (Or.inr (Or.inr (Or.inr (Or.inr (Or.inr (Or.inl h)))))))) (fun h => hai (Or.inr (Or.inr (Or.inr (Or.inr (Or.inr (Or.inr (Or.inr (Or.inl h))))))))))))))))).trans rfl)
        · exact f_pok_no qz fa93_0.1 fa93_0.2
        · have q9 : M_93 330 21 = M_93 330 21 := rfl
          have q9b : 0 ≤ M_93 330 21 ∧ M_93 330 21 ≤ 9999 := by omega
          exact f_r9 q9 q9b
    · have qz : f_one 0 L = .inl (3, tk) := by
        rw [f_one_z]
        rw [if_pos (Or.inr (by omega)), qh.2.2]
      refine ax_aload_n dX12_oneTest_54 rfl rfl (pc' := 55) rfl ?_
      refine ax_invG [] [] dX12_oneTest_55 mlX12_258 sh_330 rfl rfl rfl (Nat.le_of_ble_eq_true rfl) (s_X12_opens_no E l _ (by omega) _ hdp htk (by first | omega | assumption)) (pc' := 58) rfl (fun vv M_55 hq co55 hcm55 => ?_)
      obtain ⟨rfl, frM_55, msM_55_0, msM_55_1⟩ := hq
      refine ax_reS (st2 := [.inl 0]) rfl ?_
      refine ax_if_eq (tgt := 78) dX12_oneTest_58 (by decide) (pc' := 61) rfl (fun h58 => ?_) (fun h58 => ?_)
      · refine ax_iconst dX12_oneTest_78 (by decide) (pc' := 79) rfl ?_
        refine ax_zret dX12_oneTest_79 rfl (by decide) ?_
        refine ⟨rfl, ?_, ?_, ?_, ?_⟩
        · refine congrArg (fun z => some (Sum.inl z)) ?_
          rw [qz]
          rfl
        · intro x0 i0 hai
          exact ((frM_55 x0 i0 (fun h => h.elim (fun h => hai (Or.inr (Or.inr (Or.inr (Or.inr (Or.inr (Or.inr (Or.inl h)))))))) (fun h => hai (Or.inr (Or.inr (Or.inr (Or.inr (Or.inr (Or.inr (Or.inr (Or.inl h))))))))))).trans rfl)
        · exact f_pok_no qz msM_55_0 msM_55_1
        · have q9 : M_55 330 21 = v0 := ((frM_55 330 21 (fun h => h.elim (fun h => absurd h.2 (by decide)) (fun h => absurd h.2 (by decide)))).trans hv0)
          have q9b : 0 ≤ v0 ∧ v0 ≤ 9999 := by omega
          exact f_r9 q9 q9b
      · exfalso
        omega
  · have qz : f_one 0 L = .inl (3, tk) := by
      rw [f_one_z]
      rw [if_pos (Or.inl (by omega)), qh.2.2]
    refine ax_aload_n dX12_oneTest_9 rfl rfl (pc' := 10) rfl ?_
    refine ax_invG [] [] dX12_oneTest_10 mlX12_258 sh_330 rfl rfl rfl (Nat.le_of_ble_eq_true rfl) (s_X12_opens_no E l _ (by omega) _ hdp htk (by first | omega | assumption)) (pc' := 13) rfl (fun vv M_10 hq co10 hcm10 => ?_)
    obtain ⟨rfl, frM_10, msM_10_0, msM_10_1⟩ := hq
    refine ax_reS (st2 := [.inl 0]) rfl ?_
    refine ax_if_eq (tgt := 23) dX12_oneTest_13 (by decide) (pc' := 16) rfl (fun h13 => ?_) (fun h13 => ?_)
    · refine ax_iconst dX12_oneTest_23 (by decide) (pc' := 24) rfl ?_
      refine ax_zret dX12_oneTest_24 rfl (by decide) ?_
      refine ⟨rfl, ?_, ?_, ?_, ?_⟩
      · refine congrArg (fun z => some (Sum.inl z)) ?_
        rw [qz]
        rfl
      · intro x0 i0 hai
        exact ((frM_10 x0 i0 (fun h => h.elim (fun h => hai (Or.inr (Or.inr (Or.inr (Or.inr (Or.inr (Or.inr (Or.inl h)))))))) (fun h => hai (Or.inr (Or.inr (Or.inr (Or.inr (Or.inr (Or.inr (Or.inr (Or.inl h))))))))))).trans rfl)
      · exact f_pok_no qz msM_10_0 msM_10_1
      · have q9 : M_10 330 21 = v0 := ((frM_10 330 21 (fun h => h.elim (fun h => absurd h.2 (by decide)) (fun h => absurd h.2 (by decide)))).trans hv0)
        have q9b : 0 ≤ v0 ∧ v0 ≤ 9999 := by omega
        exact f_r9 q9 q9b
    · exfalso
      omega
set_option maxRecDepth 20000 in
theorem s_one_s (nd : Nat) (H1 : f_C1 nd) (E : ax_Env) (l : Launch) (d : Nat) (hd : 13 + 3 * (nd + 1) ≤ d) (M : ax_Mem) (L : List f_Tk) {ta : Int → Int} (hta : M 339 = ta) {fs : Int → Int} (hfs : M 336 = fs) {p0 : Int} (hp0 : M 330 18 = p0) {to : Int} (hto : M 330 19 = to) {tk : Int} (htk : M 330 20 = tk) {v0 : Int} (hv0 : M 330 21 = v0) {sn : Int} (hsn : M 330 15 = sn) {dp : Int} (hdp : M 330 25 = dp) {tn : Int} (htn : M 330 17 = tn) {rd : Int} (hrd : M 330 13 = rd) (hg0 : 0 ≤ tn ∧ tn ≤ 400) (hg1 : f_tp ta tn) (hg2 : f_cur ta tn rd L p0 to tk v0) (hg3 : 0 ≤ sn ∧ sn + (L.length : Int) ≤ 405) (hg4 : 0 ≤ dp ∧ dp + ((nd + 1 : Nat) : Int) = 8) : ax_G E l d iX12_oneTest [.inr 330] M (fun z0 M2 => z0 = some (.inl (f_rb (f_one (nd + 1) L))) ∧ (∀ x0 i0 : Int, ¬ (x0 = 336 ∨ (x0 = 330 ∧ i0 = 15) ∨ (x0 = 330 ∧ i0 = 18) ∨ (x0 = 330 ∧ i0 = 19) ∨ (x0 = 330 ∧ i0 = 20) ∨ (x0 = 330 ∧ i0 = 21) ∨ (x0 = 330 ∧ i0 = 22) ∨ (x0 = 330 ∧ i0 = 23) ∨ (x0 = 330 ∧ i0 = 25)) → M2 x0 i0 = M x0 i0) ∧ (f_pok ta tn rd fs sn dp (f_one (nd + 1) L) M2) ∧ (0 ≤ M2 330 21 ∧ M2 330 21 ≤ 9999)) := by
  obtain ⟨d, rfl⟩ : ∃ d0, d = d0 + 1 := ⟨d - 1, by omega⟩
  refine ax_start rfl (Nat.le_of_ble_eq_true rfl) (ls := [some (.inr 330), none]) rfl (fun hav hcm => ?_)
  clear hav
  have qR := f_cur_rg hg2
  have qh := f_cur_hd hg2
  refine ax_aload_n dX12_oneTest_0 rfl rfl (pc' := 1) rfl ?_
  refine ax_geti (v := to) dX12_oneTest_1 flX12_208 rfl sh_330 hto rfl (pc' := 4) rfl ?_
  refine ax_bipush dX12_oneTest_4 (by decide) (pc' := 6) rfl ?_
  refine ax_icmp_ne (tgt := 44) dX12_oneTest_6 (by decide) (pc' := 9) rfl (fun h6 => ?_) (fun h6 => ?_)
  · refine ax_aload_n dX12_oneTest_44 rfl rfl (pc' := 45) rfl ?_
    refine ax_geti (v := to) dX12_oneTest_45 flX12_208 rfl sh_330 hto rfl (pc' := 48) rfl ?_
    refine ax_sipush dX12_oneTest_48 (by decide) (pc' := 51) rfl ?_
    refine ax_icmp_ne (tgt := 92) dX12_oneTest_51 (by decide) (pc' := 54) rfl (fun h51 => ?_) (fun h51 => ?_)
    · have qb : f_one (nd + 1) L = f_cmp L := by
        rw [f_one_s]
        rw [if_neg (by omega), if_neg (by omega)]
      refine ax_aload_n dX12_oneTest_92 rfl rfl (pc' := 93) rfl ?_
      refine ax_invG [] [] dX12_oneTest_93 mlX12_267 sh_330 rfl rfl rfl (Nat.le_of_ble_eq_true rfl) (s_X12_sumUp E l _ (by omega) _ L hta hfs hp0 hto htk hv0 hsn hdp htn hrd (by first | omega | assumption) (by first | omega | assumption) (by first | omega | assumption) (by first | omega | assumption)) (pc' := 96) rfl (fun vv M_93 hq co93 hcm93 => ?_)
      obtain ⟨rfl, frM_93, fa93_0, fa93_1⟩ := hq
      refine ax_reS (st2 := [.inl (f_rb (f_sumU L))]) rfl ?_
      have cc93 : -2147483648 ≤ f_rb (f_sumU L) ∧ f_rb (f_sumU L) < 2147483648 := co93 _ rfl
      refine ax_if_ne (tgt := 101) dX12_oneTest_96 (by decide) (pc' := 99) rfl (fun h96 => ?_) (fun h96 => ?_)
      · obtain ⟨L2, o2, qr2⟩ := f_rb_ok h96
        rw [qr2] at fa93_0
        obtain ⟨qm2, qs2, qc2, qd2⟩ := fa93_0
        have qg2 := f_sumU_gd _ L2 o2 qr2
        have qR2 := f_cur_rg qc2
        have qh2 := f_cur_hd qc2
        have qw2 := f_wt_len o2
        refine ax_aload_n dX12_oneTest_101 rfl rfl (pc' := 102) rfl ?_
        refine ax_geti (v := M_93 330 19) dX12_oneTest_102 flX12_208 rfl sh_330 rfl rfl (pc' := 105) rfl ?_
        refine ax_sipush dX12_oneTest_105 (by decide) (pc' := 108) rfl ?_
        refine ax_icmp_ne (tgt := 116) dX12_oneTest_108 (by decide) (pc' := 111) rfl (fun h108 => ?_) (fun h108 => ?_)
        · refine ax_aload_n dX12_oneTest_116 rfl rfl (pc' := 117) rfl ?_
          refine ax_geti (v := M_93 330 19) dX12_oneTest_117 flX12_208 rfl sh_330 rfl rfl (pc' := 120) rfl ?_
          refine ax_sipush dX12_oneTest_120 (by decide) (pc' := 123) rfl ?_
          refine ax_icmp_ne (tgt := 131) dX12_oneTest_123 (by decide) (pc' := 126) rfl (fun h123 => ?_) (fun h123 => ?_)
          · refine ax_aload_n dX12_oneTest_131 rfl rfl (pc' := 132) rfl ?_
            refine ax_geti (v := M_93 330 19) dX12_oneTest_132 flX12_208 rfl sh_330 rfl rfl (pc' := 135) rfl ?_
            refine ax_sipush dX12_oneTest_135 (by decide) (pc' := 138) rfl ?_
            refine ax_icmp_ne (tgt := 146) dX12_oneTest_138 (by decide) (pc' := 141) rfl (fun h138 => ?_) (fun h138 => ?_)
            · have qz : f_one (nd + 1) L = .inl (1, M_93 330 20) := by
                rw [qb]
                unfold f_cmp
                rw [qr2]
                show f_pre o2 (f_cmp2 L2) = _
                unfold f_cmp2
                rw [if_pos (by unfold f_cmpS; rw [if_neg (by omega), if_neg (by omega), if_neg (by omega)]), qh2.2.2]
                rfl
              refine ax_iconst dX12_oneTest_146 (by decide) (pc' := 147) rfl ?_
              refine ax_istore_n dX12_oneTest_147 rfl (by decide) (ls' := [some (.inr 330), some (.inl (-1))]) rfl (pc' := 148) rfl ?_
              refine ax_iload_n dX12_oneTest_148 rfl rfl (pc' := 149) rfl ?_
              refine ax_iconst dX12_oneTest_149 (by decide) (pc' := 150) rfl ?_
              refine ax_icmp_ne (tgt := 159) dX12_oneTest_150 (by decide) (pc' := 153) rfl (fun h150 => ?_) (fun h150 => ?_)
              · exfalso
                omega
              · refine ax_aload_n dX12_oneTest_153 rfl rfl (pc' := 154) rfl ?_
                refine ax_iconst dX12_oneTest_154 (by decide) (pc' := 155) rfl ?_
                refine ax_invG [.inl 1] [] dX12_oneTest_155 mlX12_229 sh_330 rfl rfl rfl (Nat.le_of_ble_eq_true rfl) (s_X12_bad E l _ (by omega) _ 1 rfl) (pc' := 158) rfl (fun vv M_155 hq co155 hcm155 => ?_)
                obtain ⟨rfl, frM_155, msM_155_0, msM_155_1⟩ := hq
                refine ax_reS (st2 := [.inl 0]) rfl ?_
                refine ax_zret dX12_oneTest_158 rfl (by decide) ?_
                refine ⟨rfl, ?_, ?_, ?_, ?_⟩
                · refine congrArg (fun z => some (Sum.inl z)) ?_
                  rw [qz]
                  rfl
                · intro x0 i0 hai
                  exact ((frM_155 x0 i0 (fun h => h.elim (fun h => hai (Or.inr (Or.inr (Or.inr (Or.inr (Or.inr (Or.inr (Or.inl h)))))))) (fun h => hai (Or.inr (Or.inr (Or.inr (Or.inr (Or.inr (Or.inr (Or.inr (Or.inl h))))))))))).trans ((frM_93 x0 i0 (fun h => h.elim (fun h => hai (Or.inl h)) (fun h => h.elim (fun h => hai (Or.inr (Or.inl h))) (fun h => h.elim (fun h => hai (Or.inr (Or.inr (Or.inl h)))) (fun h => h.elim (fun h => hai (Or.inr (Or.inr (Or.inr (Or.inl h))))) (fun h => h.elim (fun h => hai (Or.inr (Or.inr (Or.inr (Or.inr (Or.inl h)))))) (fun h => h.elim (fun h => hai (Or.inr (Or.inr (Or.inr (Or.inr (Or.inr (Or.inl h))))))) (fun h => h.elim (fun h => hai (Or.inr (Or.inr (Or.inr (Or.inr (Or.inr (Or.inr (Or.inl h)))))))) (fun h => hai (Or.inr (Or.inr (Or.inr (Or.inr (Or.inr (Or.inr (Or.inr (Or.inl h))))))))))))))))).trans rfl))
                · exact f_pok_no qz msM_155_0 msM_155_1
                · have q9 : M_155 330 21 = M_93 330 21 := ((frM_155 330 21 (fun h => h.elim (fun h => absurd h.2 (by decide)) (fun h => absurd h.2 (by decide)))).trans rfl)
                  have q9b : 0 ≤ M_93 330 21 ∧ M_93 330 21 ≤ 9999 := by omega
                  exact f_r9 q9 q9b
            · have qk : f_cmpS L2 = 29 := by
                unfold f_cmpS
                rw [if_neg (by omega), if_neg (by omega), if_pos (by omega)]
              refine ax_bipush dX12_oneTest_141 (by decide) (pc' := 143) rfl ?_
              refine ax_goto dX12_oneTest_143 (pc' := 147) (by decide) ?_
              refine ax_istore_n dX12_oneTest_147 rfl (by decide) (ls' := [some (.inr 330), some (.inl 29)]) rfl (pc' := 148) rfl ?_
              refine ax_iload_n dX12_oneTest_148 rfl rfl (pc' := 149) rfl ?_
              refine ax_iconst dX12_oneTest_149 (by decide) (pc' := 150) rfl ?_
              refine ax_icmp_ne (tgt := 159) dX12_oneTest_150 (by decide) (pc' := 153) rfl (fun h150 => ?_) (fun h150 => ?_)
              · obtain ⟨L4, qt4, ql4, qc4⟩ := f_cur_next qc2 (by omega)
                have qR4 := f_cur_rg qc4
                have qh4 := f_cur_hd qc4
                have qe2 : f_cmp2 L2 = f_aft [(f_cmpS L2, 0)] (f_sumU L4) := by
                  unfold f_cmp2
                  rw [if_neg (by rw [qk]; decide), qt4]
                refine ax_aload_n dX12_oneTest_159 rfl rfl (pc' := 160) rfl ?_
                refine ax_invG [] [] dX12_oneTest_160 mlX12_232 sh_330 rfl rfl rfl (Nat.le_of_ble_eq_true rfl) (s_X12_next0 E l _ (by omega) _ ((funext fun i0 => frM_93 339 i0 (fun h => h.elim (fun h => absurd h (by decide)) (fun h => h.elim (fun h => absurd h.1 (by decide)) (fun h => h.elim (fun h => absurd h.1 (by decide)) (fun h => h.elim (fun h => absurd h.1 (by decide)) (fun h => h.elim (fun h => absurd h.1 (by decide)) (fun h => h.elim (fun h => absurd h.1 (by decide)) (fun h => h.elim (fun h => absurd h.1 (by decide)) (fun h => absurd h.1 (by decide)))))))))).trans hta) rfl ((frM_93 330 17 (fun h => h.elim (fun h => absurd h (by decide)) (fun h => h.elim (fun h => absurd h.2 (by decide)) (fun h => h.elim (fun h => absurd h.2 (by decide)) (fun h => h.elim (fun h => absurd h.2 (by decide)) (fun h => h.elim (fun h => absurd h.2 (by decide)) (fun h => h.elim (fun h => absurd h.2 (by decide)) (fun h => h.elim (fun h => absurd h.2 (by decide)) (fun h => absurd h.2 (by decide)))))))))).trans htn) ((frM_93 330 13 (fun h => h.elim (fun h => absurd h (by decide)) (fun h => h.elim (fun h => absurd h.2 (by decide)) (fun h => h.elim (fun h => absurd h.2 (by decide)) (fun h => h.elim (fun h => absurd h.2 (by decide)) (fun h => h.elim (fun h => absurd h.2 (by decide)) (fun h => h.elim (fun h => absurd h.2 (by decide)) (fun h => h.elim (fun h => absurd h.2 (by decide)) (fun h => absurd h.2 (by decide)))))))))).trans hrd) rfl (by first | omega | assumption) (by first | omega | assumption)) (pc' := 163) rfl (fun vv M_160 hq co160 hcm160 => ?_)
                obtain ⟨rfl, frM_160, msM_160_0, msM_160_1, msM_160_2, msM_160_3⟩ := hq
                refine ax_reS (st2 := []) rfl ?_
                refine ax_aload_n dX12_oneTest_163 rfl rfl (pc' := 164) rfl ?_
                refine ax_invG [] [] dX12_oneTest_164 mlX12_267 sh_330 rfl rfl rfl (Nat.le_of_ble_eq_true rfl) (s_X12_sumUp E l _ (by omega) _ L4 ((funext fun i0 => frM_160 339 i0 (fun h => h.elim (fun h => absurd h.1 (by decide)) (fun h => h.elim (fun h => absurd h.1 (by decide)) (fun h => h.elim (fun h => absurd h.1 (by decide)) (fun h => absurd h.1 (by decide)))))).trans ((funext fun i0 => frM_93 339 i0 (fun h => h.elim (fun h => absurd h (by decide)) (fun h => h.elim (fun h => absurd h.1 (by decide)) (fun h => h.elim (fun h => absurd h.1 (by decide)) (fun h => h.elim (fun h => absurd h.1 (by decide)) (fun h => h.elim (fun h => absurd h.1 (by decide)) (fun h => h.elim (fun h => absurd h.1 (by decide)) (fun h => h.elim (fun h => absurd h.1 (by decide)) (fun h => absurd h.1 (by decide)))))))))).trans hta)) ((funext fun i0 => frM_160 336 i0 (fun h => h.elim (fun h => absurd h.1 (by decide)) (fun h => h.elim (fun h => absurd h.1 (by decide)) (fun h => h.elim (fun h => absurd h.1 (by decide)) (fun h => absurd h.1 (by decide)))))).trans rfl) msM_160_0 msM_160_1 msM_160_2 msM_160_3 ((frM_160 330 15 (fun h => h.elim (fun h => absurd h.2 (by decide)) (fun h => h.elim (fun h => absurd h.2 (by decide)) (fun h => h.elim (fun h => absurd h.2 (by decide)) (fun h => absurd h.2 (by decide)))))).trans rfl) ((frM_160 330 25 (fun h => h.elim (fun h => absurd h.2 (by decide)) (fun h => h.elim (fun h => absurd h.2 (by decide)) (fun h => h.elim (fun h => absurd h.2 (by decide)) (fun h => absurd h.2 (by decide)))))).trans ((frM_93 330 25 (fun h => h.elim (fun h => absurd h (by decide)) (fun h => h.elim (fun h => absurd h.2 (by decide)) (fun h => h.elim (fun h => absurd h.2 (by decide)) (fun h => h.elim (fun h => absurd h.2 (by decide)) (fun h => h.elim (fun h => absurd h.2 (by decide)) (fun h => h.elim (fun h => absurd h.2 (by decide)) (fun h => h.elim (fun h => absurd h.2 (by decide)) (fun h => absurd h.2 (by decide)))))))))).trans hdp)) ((frM_160 330 17 (fun h => h.elim (fun h => absurd h.2 (by decide)) (fun h => h.elim (fun h => absurd h.2 (by decide)) (fun h => h.elim (fun h => absurd h.2 (by decide)) (fun h => absurd h.2 (by decide)))))).trans ((frM_93 330 17 (fun h => h.elim (fun h => absurd h (by decide)) (fun h => h.elim (fun h => absurd h.2 (by decide)) (fun h => h.elim (fun h => absurd h.2 (by decide)) (fun h => h.elim (fun h => absurd h.2 (by decide)) (fun h => h.elim (fun h => absurd h.2 (by decide)) (fun h => h.elim (fun h => absurd h.2 (by decide)) (fun h => h.elim (fun h => absurd h.2 (by decide)) (fun h => absurd h.2 (by decide)))))))))).trans htn)) ((frM_160 330 13 (fun h => h.elim (fun h => absurd h.2 (by decide)) (fun h => h.elim (fun h => absurd h.2 (by decide)) (fun h => h.elim (fun h => absurd h.2 (by decide)) (fun h => absurd h.2 (by decide)))))).trans ((frM_93 330 13 (fun h => h.elim (fun h => absurd h (by decide)) (fun h => h.elim (fun h => absurd h.2 (by decide)) (fun h => h.elim (fun h => absurd h.2 (by decide)) (fun h => h.elim (fun h => absurd h.2 (by decide)) (fun h => h.elim (fun h => absurd h.2 (by decide)) (fun h => h.elim (fun h => absurd h.2 (by decide)) (fun h => h.elim (fun h => absurd h.2 (by decide)) (fun h => absurd h.2 (by decide)))))))))).trans hrd)) (by first | omega | assumption) (by first | omega | assumption) (by first | omega | assumption) (by first | omega | assumption)) (pc' := 167) rfl (fun vv M_164 hq co164 hcm164 => ?_)
                obtain ⟨rfl, frM_164, fa164_0, fa164_1⟩ := hq
                refine ax_reS (st2 := [.inl (f_rb (f_sumU L4))]) rfl ?_
                have cc164 : -2147483648 ≤ f_rb (f_sumU L4) ∧ f_rb (f_sumU L4) < 2147483648 := co164 _ rfl
                refine ax_if_ne (tgt := 172) dX12_oneTest_167 (by decide) (pc' := 170) rfl (fun h167 => ?_) (fun h167 => ?_)
                · obtain ⟨L8, o8, qr8⟩ := f_rb_ok h167
                  rw [qr8] at fa164_0
                  obtain ⟨qm8, qs8, qc8, qd8⟩ := fa164_0
                  have qg8 := f_sumU_gd _ L8 o8 qr8
                  have qR8 := f_cur_rg qc8
                  have qh8 := f_cur_hd qc8
                  have qw8 := f_wt_len o8
                  have qz : f_one (nd + 1) L = .inr (L8, o2 ++ (o8 ++ [(f_cmpS L2, 0)])) := by
                    rw [qb]
                    unfold f_cmp
                    rw [qr2]
                    show f_pre o2 (f_cmp2 L2) = _
                    rw [qe2, f_aft_ok qr8]
                    rfl
                  refine ax_aload_n dX12_oneTest_172 rfl rfl (pc' := 173) rfl ?_
                  refine ax_iload_n dX12_oneTest_173 rfl rfl (pc' := 174) rfl ?_
                  refine ax_iconst dX12_oneTest_174 (by decide) (pc' := 175) rfl ?_
                  refine ax_invG [.inl 29, .inl 0] [] dX12_oneTest_175 mlX12_245 sh_330 rfl rfl rfl (Nat.le_of_ble_eq_true rfl) (s_X12_lay E l _ (by omega) _ 29 0 rfl rfl (by first | omega | assumption)) (pc' := 178) rfl (fun vv M_175 hq co175 hcm175 => ?_)
                  obtain ⟨rfl, frM_175, mrM_175_0, msM_175_0⟩ := hq
                  refine ax_reS (st2 := []) rfl ?_
                  refine ax_iconst dX12_oneTest_178 (by decide) (pc' := 179) rfl ?_
                  refine ax_zret dX12_oneTest_179 rfl (by decide) ?_
                  refine ⟨rfl, ?_, ?_, ?_, ?_⟩
                  · refine congrArg (fun z => some (Sum.inl z)) ?_
                    rw [qz]
                    rfl
                  · intro x0 i0 hai
                    exact ((frM_175 x0 i0 (fun h => h.elim (fun h => hai (Or.inl h)) (fun h => hai (Or.inr (Or.inl h))))).trans ((frM_164 x0 i0 (fun h => h.elim (fun h => hai (Or.inl h)) (fun h => h.elim (fun h => hai (Or.inr (Or.inl h))) (fun h => h.elim (fun h => hai (Or.inr (Or.inr (Or.inl h)))) (fun h => h.elim (fun h => hai (Or.inr (Or.inr (Or.inr (Or.inl h))))) (fun h => h.elim (fun h => hai (Or.inr (Or.inr (Or.inr (Or.inr (Or.inl h)))))) (fun h => h.elim (fun h => hai (Or.inr (Or.inr (Or.inr (Or.inr (Or.inr (Or.inl h))))))) (fun h => h.elim (fun h => hai (Or.inr (Or.inr (Or.inr (Or.inr (Or.inr (Or.inr (Or.inl h)))))))) (fun h => hai (Or.inr (Or.inr (Or.inr (Or.inr (Or.inr (Or.inr (Or.inr (Or.inl h))))))))))))))))).trans ((frM_160 x0 i0 (fun h => h.elim (fun h => hai (Or.inr (Or.inr (Or.inl h)))) (fun h => h.elim (fun h => hai (Or.inr (Or.inr (Or.inr (Or.inl h))))) (fun h => h.elim (fun h => hai (Or.inr (Or.inr (Or.inr (Or.inr (Or.inl h)))))) (fun h => hai (Or.inr (Or.inr (Or.inr (Or.inr (Or.inr (Or.inl h))))))))))).trans ((frM_93 x0 i0 (fun h => h.elim (fun h => hai (Or.inl h)) (fun h => h.elim (fun h => hai (Or.inr (Or.inl h))) (fun h => h.elim (fun h => hai (Or.inr (Or.inr (Or.inl h)))) (fun h => h.elim (fun h => hai (Or.inr (Or.inr (Or.inr (Or.inl h))))) (fun h => h.elim (fun h => hai (Or.inr (Or.inr (Or.inr (Or.inr (Or.inl h)))))) (fun h => h.elim (fun h => hai (Or.inr (Or.inr (Or.inr (Or.inr (Or.inr (Or.inl h))))))) (fun h => h.elim (fun h => hai (Or.inr (Or.inr (Or.inr (Or.inr (Or.inr (Or.inr (Or.inl h)))))))) (fun h => hai (Or.inr (Or.inr (Or.inr (Or.inr (Or.inr (Or.inr (Or.inr (Or.inl h))))))))))))))))).trans rfl))))
                  · refine f_pok_ok qz (Eq.trans mrM_175_0 ?_) (Eq.trans msM_175_0 ?_) qc8 ((frM_175 330 18 (fun h => h.elim (fun h => absurd h (by decide)) (fun h => absurd h.2 (by decide)))).trans rfl) ((frM_175 330 19 (fun h => h.elim (fun h => absurd h (by decide)) (fun h => absurd h.2 (by decide)))).trans rfl) ((frM_175 330 20 (fun h => h.elim (fun h => absurd h (by decide)) (fun h => absurd h.2 (by decide)))).trans rfl) ((frM_175 330 21 (fun h => h.elim (fun h => absurd h (by decide)) (fun h => absurd h.2 (by decide)))).trans rfl) ((frM_175 330 25 (fun h => h.elim (fun h => absurd h (by decide)) (fun h => absurd h.2 (by decide)))).trans ((frM_164 330 25 (fun h => h.elim (fun h => absurd h (by decide)) (fun h => h.elim (fun h => absurd h.2 (by decide)) (fun h => h.elim (fun h => absurd h.2 (by decide)) (fun h => h.elim (fun h => absurd h.2 (by decide)) (fun h => h.elim (fun h => absurd h.2 (by decide)) (fun h => h.elim (fun h => absurd h.2 (by decide)) (fun h => h.elim (fun h => absurd h.2 (by decide)) (fun h => absurd h.2 (by decide)))))))))).trans ((frM_160 330 25 (fun h => h.elim (fun h => absurd h.2 (by decide)) (fun h => h.elim (fun h => absurd h.2 (by decide)) (fun h => h.elim (fun h => absurd h.2 (by decide)) (fun h => absurd h.2 (by decide)))))).trans ((frM_93 330 25 (fun h => h.elim (fun h => absurd h (by decide)) (fun h => h.elim (fun h => absurd h.2 (by decide)) (fun h => h.elim (fun h => absurd h.2 (by decide)) (fun h => h.elim (fun h => absurd h.2 (by decide)) (fun h => h.elim (fun h => absurd h.2 (by decide)) (fun h => h.elim (fun h => absurd h.2 (by decide)) (fun h => h.elim (fun h => absurd h.2 (by decide)) (fun h => absurd h.2 (by decide)))))))))).trans hdp))))
                    · rw [qk, ← List.append_assoc, f_put_app, ← f_put_more qm2 qs2]
                      rw [← qm8, show sn + ((o2 ++ o8).length : Int) = M_164 330 15 by rw [List.length_append, qs8, qs2]; omega]
                      rfl
                    · rw [qs8, qs2]
                      simp only [List.length_append, List.length_cons, List.length_nil]
                      omega
                  · have q9 : M_175 330 21 = M_164 330 21 := ((frM_175 330 21 (fun h => h.elim (fun h => absurd h (by decide)) (fun h => absurd h.2 (by decide)))).trans rfl)
                    have q9b : 0 ≤ M_164 330 21 ∧ M_164 330 21 ≤ 9999 := by omega
                    exact f_r9 q9 q9b
                · obtain ⟨kk8, ss8, qr8⟩ := f_rb_no h167
                  rw [qr8] at fa164_0
                  have qz : f_one (nd + 1) L = .inl (kk8, ss8) := by
                    rw [qb]
                    unfold f_cmp
                    rw [qr2]
                    show f_pre o2 (f_cmp2 L2) = _
                    rw [qe2, f_aft_no qr8]
                    rfl
                  refine ax_iconst dX12_oneTest_170 (by decide) (pc' := 171) rfl ?_
                  refine ax_zret dX12_oneTest_171 rfl (by decide) ?_
                  refine ⟨rfl, ?_, ?_, ?_, ?_⟩
                  · refine congrArg (fun z => some (Sum.inl z)) ?_
                    rw [qz]
                    rfl
                  · intro x0 i0 hai
                    exact ((frM_164 x0 i0 (fun h => h.elim (fun h => hai (Or.inl h)) (fun h => h.elim (fun h => hai (Or.inr (Or.inl h))) (fun h => h.elim (fun h => hai (Or.inr (Or.inr (Or.inl h)))) (fun h => h.elim (fun h => hai (Or.inr (Or.inr (Or.inr (Or.inl h))))) (fun h => h.elim (fun h => hai (Or.inr (Or.inr (Or.inr (Or.inr (Or.inl h)))))) (fun h => h.elim (fun h => hai (Or.inr (Or.inr (Or.inr (Or.inr (Or.inr (Or.inl h))))))) (fun h => h.elim (fun h => hai (Or.inr (Or.inr (Or.inr (Or.inr (Or.inr (Or.inr (Or.inl h)))))))) (fun h => hai (Or.inr (Or.inr (Or.inr (Or.inr (Or.inr (Or.inr (Or.inr (Or.inl h))))))))))))))))).trans ((frM_160 x0 i0 (fun h => h.elim (fun h => hai (Or.inr (Or.inr (Or.inl h)))) (fun h => h.elim (fun h => hai (Or.inr (Or.inr (Or.inr (Or.inl h))))) (fun h => h.elim (fun h => hai (Or.inr (Or.inr (Or.inr (Or.inr (Or.inl h)))))) (fun h => hai (Or.inr (Or.inr (Or.inr (Or.inr (Or.inr (Or.inl h))))))))))).trans ((frM_93 x0 i0 (fun h => h.elim (fun h => hai (Or.inl h)) (fun h => h.elim (fun h => hai (Or.inr (Or.inl h))) (fun h => h.elim (fun h => hai (Or.inr (Or.inr (Or.inl h)))) (fun h => h.elim (fun h => hai (Or.inr (Or.inr (Or.inr (Or.inl h))))) (fun h => h.elim (fun h => hai (Or.inr (Or.inr (Or.inr (Or.inr (Or.inl h)))))) (fun h => h.elim (fun h => hai (Or.inr (Or.inr (Or.inr (Or.inr (Or.inr (Or.inl h))))))) (fun h => h.elim (fun h => hai (Or.inr (Or.inr (Or.inr (Or.inr (Or.inr (Or.inr (Or.inl h)))))))) (fun h => hai (Or.inr (Or.inr (Or.inr (Or.inr (Or.inr (Or.inr (Or.inr (Or.inl h))))))))))))))))).trans rfl)))
                  · exact f_pok_no qz fa164_0.1 fa164_0.2
                  · have q9 : M_164 330 21 = M_164 330 21 := rfl
                    have q9b : 0 ≤ M_164 330 21 ∧ M_164 330 21 ≤ 9999 := by omega
                    exact f_r9 q9 q9b
              · exfalso
                omega
          · have qk : f_cmpS L2 = 28 := by
              unfold f_cmpS
              rw [if_neg (by omega), if_pos (by omega)]
            refine ax_bipush dX12_oneTest_126 (by decide) (pc' := 128) rfl ?_
            refine ax_goto dX12_oneTest_128 (pc' := 147) (by decide) ?_
            refine ax_istore_n dX12_oneTest_147 rfl (by decide) (ls' := [some (.inr 330), some (.inl 28)]) rfl (pc' := 148) rfl ?_
            refine ax_iload_n dX12_oneTest_148 rfl rfl (pc' := 149) rfl ?_
            refine ax_iconst dX12_oneTest_149 (by decide) (pc' := 150) rfl ?_
            refine ax_icmp_ne (tgt := 159) dX12_oneTest_150 (by decide) (pc' := 153) rfl (fun h150 => ?_) (fun h150 => ?_)
            · obtain ⟨L4, qt4, ql4, qc4⟩ := f_cur_next qc2 (by omega)
              have qR4 := f_cur_rg qc4
              have qh4 := f_cur_hd qc4
              have qe2 : f_cmp2 L2 = f_aft [(f_cmpS L2, 0)] (f_sumU L4) := by
                unfold f_cmp2
                rw [if_neg (by rw [qk]; decide), qt4]
              refine ax_aload_n dX12_oneTest_159 rfl rfl (pc' := 160) rfl ?_
              refine ax_invG [] [] dX12_oneTest_160 mlX12_232 sh_330 rfl rfl rfl (Nat.le_of_ble_eq_true rfl) (s_X12_next0 E l _ (by omega) _ ((funext fun i0 => frM_93 339 i0 (fun h => h.elim (fun h => absurd h (by decide)) (fun h => h.elim (fun h => absurd h.1 (by decide)) (fun h => h.elim (fun h => absurd h.1 (by decide)) (fun h => h.elim (fun h => absurd h.1 (by decide)) (fun h => h.elim (fun h => absurd h.1 (by decide)) (fun h => h.elim (fun h => absurd h.1 (by decide)) (fun h => h.elim (fun h => absurd h.1 (by decide)) (fun h => absurd h.1 (by decide)))))))))).trans hta) rfl ((frM_93 330 17 (fun h => h.elim (fun h => absurd h (by decide)) (fun h => h.elim (fun h => absurd h.2 (by decide)) (fun h => h.elim (fun h => absurd h.2 (by decide)) (fun h => h.elim (fun h => absurd h.2 (by decide)) (fun h => h.elim (fun h => absurd h.2 (by decide)) (fun h => h.elim (fun h => absurd h.2 (by decide)) (fun h => h.elim (fun h => absurd h.2 (by decide)) (fun h => absurd h.2 (by decide)))))))))).trans htn) ((frM_93 330 13 (fun h => h.elim (fun h => absurd h (by decide)) (fun h => h.elim (fun h => absurd h.2 (by decide)) (fun h => h.elim (fun h => absurd h.2 (by decide)) (fun h => h.elim (fun h => absurd h.2 (by decide)) (fun h => h.elim (fun h => absurd h.2 (by decide)) (fun h => h.elim (fun h => absurd h.2 (by decide)) (fun h => h.elim (fun h => absurd h.2 (by decide)) (fun h => absurd h.2 (by decide)))))))))).trans hrd) rfl (by first | omega | assumption) (by first | omega | assumption)) (pc' := 163) rfl (fun vv M_160 hq co160 hcm160 => ?_)
              obtain ⟨rfl, frM_160, msM_160_0, msM_160_1, msM_160_2, msM_160_3⟩ := hq
              refine ax_reS (st2 := []) rfl ?_
              refine ax_aload_n dX12_oneTest_163 rfl rfl (pc' := 164) rfl ?_
              refine ax_invG [] [] dX12_oneTest_164 mlX12_267 sh_330 rfl rfl rfl (Nat.le_of_ble_eq_true rfl) (s_X12_sumUp E l _ (by omega) _ L4 ((funext fun i0 => frM_160 339 i0 (fun h => h.elim (fun h => absurd h.1 (by decide)) (fun h => h.elim (fun h => absurd h.1 (by decide)) (fun h => h.elim (fun h => absurd h.1 (by decide)) (fun h => absurd h.1 (by decide)))))).trans ((funext fun i0 => frM_93 339 i0 (fun h => h.elim (fun h => absurd h (by decide)) (fun h => h.elim (fun h => absurd h.1 (by decide)) (fun h => h.elim (fun h => absurd h.1 (by decide)) (fun h => h.elim (fun h => absurd h.1 (by decide)) (fun h => h.elim (fun h => absurd h.1 (by decide)) (fun h => h.elim (fun h => absurd h.1 (by decide)) (fun h => h.elim (fun h => absurd h.1 (by decide)) (fun h => absurd h.1 (by decide)))))))))).trans hta)) ((funext fun i0 => frM_160 336 i0 (fun h => h.elim (fun h => absurd h.1 (by decide)) (fun h => h.elim (fun h => absurd h.1 (by decide)) (fun h => h.elim (fun h => absurd h.1 (by decide)) (fun h => absurd h.1 (by decide)))))).trans rfl) msM_160_0 msM_160_1 msM_160_2 msM_160_3 ((frM_160 330 15 (fun h => h.elim (fun h => absurd h.2 (by decide)) (fun h => h.elim (fun h => absurd h.2 (by decide)) (fun h => h.elim (fun h => absurd h.2 (by decide)) (fun h => absurd h.2 (by decide)))))).trans rfl) ((frM_160 330 25 (fun h => h.elim (fun h => absurd h.2 (by decide)) (fun h => h.elim (fun h => absurd h.2 (by decide)) (fun h => h.elim (fun h => absurd h.2 (by decide)) (fun h => absurd h.2 (by decide)))))).trans ((frM_93 330 25 (fun h => h.elim (fun h => absurd h (by decide)) (fun h => h.elim (fun h => absurd h.2 (by decide)) (fun h => h.elim (fun h => absurd h.2 (by decide)) (fun h => h.elim (fun h => absurd h.2 (by decide)) (fun h => h.elim (fun h => absurd h.2 (by decide)) (fun h => h.elim (fun h => absurd h.2 (by decide)) (fun h => h.elim (fun h => absurd h.2 (by decide)) (fun h => absurd h.2 (by decide)))))))))).trans hdp)) ((frM_160 330 17 (fun h => h.elim (fun h => absurd h.2 (by decide)) (fun h => h.elim (fun h => absurd h.2 (by decide)) (fun h => h.elim (fun h => absurd h.2 (by decide)) (fun h => absurd h.2 (by decide)))))).trans ((frM_93 330 17 (fun h => h.elim (fun h => absurd h (by decide)) (fun h => h.elim (fun h => absurd h.2 (by decide)) (fun h => h.elim (fun h => absurd h.2 (by decide)) (fun h => h.elim (fun h => absurd h.2 (by decide)) (fun h => h.elim (fun h => absurd h.2 (by decide)) (fun h => h.elim (fun h => absurd h.2 (by decide)) (fun h => h.elim (fun h => absurd h.2 (by decide)) (fun h => absurd h.2 (by decide)))))))))).trans htn)) ((frM_160 330 13 (fun h => h.elim (fun h => absurd h.2 (by decide)) (fun h => h.elim (fun h => absurd h.2 (by decide)) (fun h => h.elim (fun h => absurd h.2 (by decide)) (fun h => absurd h.2 (by decide)))))).trans ((frM_93 330 13 (fun h => h.elim (fun h => absurd h (by decide)) (fun h => h.elim (fun h => absurd h.2 (by decide)) (fun h => h.elim (fun h => absurd h.2 (by decide)) (fun h => h.elim (fun h => absurd h.2 (by decide)) (fun h => h.elim (fun h => absurd h.2 (by decide)) (fun h => h.elim (fun h => absurd h.2 (by decide)) (fun h => h.elim (fun h => absurd h.2 (by decide)) (fun h => absurd h.2 (by decide)))))))))).trans hrd)) (by first | omega | assumption) (by first | omega | assumption) (by first | omega | assumption) (by first | omega | assumption)) (pc' := 167) rfl (fun vv M_164 hq co164 hcm164 => ?_)
              obtain ⟨rfl, frM_164, fa164_0, fa164_1⟩ := hq
              refine ax_reS (st2 := [.inl (f_rb (f_sumU L4))]) rfl ?_
              have cc164 : -2147483648 ≤ f_rb (f_sumU L4) ∧ f_rb (f_sumU L4) < 2147483648 := co164 _ rfl
              refine ax_if_ne (tgt := 172) dX12_oneTest_167 (by decide) (pc' := 170) rfl (fun h167 => ?_) (fun h167 => ?_)
              · obtain ⟨L8, o8, qr8⟩ := f_rb_ok h167
                rw [qr8] at fa164_0
                obtain ⟨qm8, qs8, qc8, qd8⟩ := fa164_0
                have qg8 := f_sumU_gd _ L8 o8 qr8
                have qR8 := f_cur_rg qc8
                have qh8 := f_cur_hd qc8
                have qw8 := f_wt_len o8
                have qz : f_one (nd + 1) L = .inr (L8, o2 ++ (o8 ++ [(f_cmpS L2, 0)])) := by
                  rw [qb]
                  unfold f_cmp
                  rw [qr2]
                  show f_pre o2 (f_cmp2 L2) = _
                  rw [qe2, f_aft_ok qr8]
                  rfl
                refine ax_aload_n dX12_oneTest_172 rfl rfl (pc' := 173) rfl ?_
                refine ax_iload_n dX12_oneTest_173 rfl rfl (pc' := 174) rfl ?_
                refine ax_iconst dX12_oneTest_174 (by decide) (pc' := 175) rfl ?_
                refine ax_invG [.inl 28, .inl 0] [] dX12_oneTest_175 mlX12_245 sh_330 rfl rfl rfl (Nat.le_of_ble_eq_true rfl) (s_X12_lay E l _ (by omega) _ 28 0 rfl rfl (by first | omega | assumption)) (pc' := 178) rfl (fun vv M_175 hq co175 hcm175 => ?_)
                obtain ⟨rfl, frM_175, mrM_175_0, msM_175_0⟩ := hq
                refine ax_reS (st2 := []) rfl ?_
                refine ax_iconst dX12_oneTest_178 (by decide) (pc' := 179) rfl ?_
                refine ax_zret dX12_oneTest_179 rfl (by decide) ?_
                refine ⟨rfl, ?_, ?_, ?_, ?_⟩
                · refine congrArg (fun z => some (Sum.inl z)) ?_
                  rw [qz]
                  rfl
                · intro x0 i0 hai
                  exact ((frM_175 x0 i0 (fun h => h.elim (fun h => hai (Or.inl h)) (fun h => hai (Or.inr (Or.inl h))))).trans ((frM_164 x0 i0 (fun h => h.elim (fun h => hai (Or.inl h)) (fun h => h.elim (fun h => hai (Or.inr (Or.inl h))) (fun h => h.elim (fun h => hai (Or.inr (Or.inr (Or.inl h)))) (fun h => h.elim (fun h => hai (Or.inr (Or.inr (Or.inr (Or.inl h))))) (fun h => h.elim (fun h => hai (Or.inr (Or.inr (Or.inr (Or.inr (Or.inl h)))))) (fun h => h.elim (fun h => hai (Or.inr (Or.inr (Or.inr (Or.inr (Or.inr (Or.inl h))))))) (fun h => h.elim (fun h => hai (Or.inr (Or.inr (Or.inr (Or.inr (Or.inr (Or.inr (Or.inl h)))))))) (fun h => hai (Or.inr (Or.inr (Or.inr (Or.inr (Or.inr (Or.inr (Or.inr (Or.inl h))))))))))))))))).trans ((frM_160 x0 i0 (fun h => h.elim (fun h => hai (Or.inr (Or.inr (Or.inl h)))) (fun h => h.elim (fun h => hai (Or.inr (Or.inr (Or.inr (Or.inl h))))) (fun h => h.elim (fun h => hai (Or.inr (Or.inr (Or.inr (Or.inr (Or.inl h)))))) (fun h => hai (Or.inr (Or.inr (Or.inr (Or.inr (Or.inr (Or.inl h))))))))))).trans ((frM_93 x0 i0 (fun h => h.elim (fun h => hai (Or.inl h)) (fun h => h.elim (fun h => hai (Or.inr (Or.inl h))) (fun h => h.elim (fun h => hai (Or.inr (Or.inr (Or.inl h)))) (fun h => h.elim (fun h => hai (Or.inr (Or.inr (Or.inr (Or.inl h))))) (fun h => h.elim (fun h => hai (Or.inr (Or.inr (Or.inr (Or.inr (Or.inl h)))))) (fun h => h.elim (fun h => hai (Or.inr (Or.inr (Or.inr (Or.inr (Or.inr (Or.inl h))))))) (fun h => h.elim (fun h => hai (Or.inr (Or.inr (Or.inr (Or.inr (Or.inr (Or.inr (Or.inl h)))))))) (fun h => hai (Or.inr (Or.inr (Or.inr (Or.inr (Or.inr (Or.inr (Or.inr (Or.inl h))))))))))))))))).trans rfl))))
                · refine f_pok_ok qz (Eq.trans mrM_175_0 ?_) (Eq.trans msM_175_0 ?_) qc8 ((frM_175 330 18 (fun h => h.elim (fun h => absurd h (by decide)) (fun h => absurd h.2 (by decide)))).trans rfl) ((frM_175 330 19 (fun h => h.elim (fun h => absurd h (by decide)) (fun h => absurd h.2 (by decide)))).trans rfl) ((frM_175 330 20 (fun h => h.elim (fun h => absurd h (by decide)) (fun h => absurd h.2 (by decide)))).trans rfl) ((frM_175 330 21 (fun h => h.elim (fun h => absurd h (by decide)) (fun h => absurd h.2 (by decide)))).trans rfl) ((frM_175 330 25 (fun h => h.elim (fun h => absurd h (by decide)) (fun h => absurd h.2 (by decide)))).trans ((frM_164 330 25 (fun h => h.elim (fun h => absurd h (by decide)) (fun h => h.elim (fun h => absurd h.2 (by decide)) (fun h => h.elim (fun h => absurd h.2 (by decide)) (fun h => h.elim (fun h => absurd h.2 (by decide)) (fun h => h.elim (fun h => absurd h.2 (by decide)) (fun h => h.elim (fun h => absurd h.2 (by decide)) (fun h => h.elim (fun h => absurd h.2 (by decide)) (fun h => absurd h.2 (by decide)))))))))).trans ((frM_160 330 25 (fun h => h.elim (fun h => absurd h.2 (by decide)) (fun h => h.elim (fun h => absurd h.2 (by decide)) (fun h => h.elim (fun h => absurd h.2 (by decide)) (fun h => absurd h.2 (by decide)))))).trans ((frM_93 330 25 (fun h => h.elim (fun h => absurd h (by decide)) (fun h => h.elim (fun h => absurd h.2 (by decide)) (fun h => h.elim (fun h => absurd h.2 (by decide)) (fun h => h.elim (fun h => absurd h.2 (by decide)) (fun h => h.elim (fun h => absurd h.2 (by decide)) (fun h => h.elim (fun h => absurd h.2 (by decide)) (fun h => h.elim (fun h => absurd h.2 (by decide)) (fun h => absurd h.2 (by decide)))))))))).trans hdp))))
                  · rw [qk, ← List.append_assoc, f_put_app, ← f_put_more qm2 qs2]
                    rw [← qm8, show sn + ((o2 ++ o8).length : Int) = M_164 330 15 by rw [List.length_append, qs8, qs2]; omega]
                    rfl
                  · rw [qs8, qs2]
                    simp only [List.length_append, List.length_cons, List.length_nil]
                    omega
                · have q9 : M_175 330 21 = M_164 330 21 := ((frM_175 330 21 (fun h => h.elim (fun h => absurd h (by decide)) (fun h => absurd h.2 (by decide)))).trans rfl)
                  have q9b : 0 ≤ M_164 330 21 ∧ M_164 330 21 ≤ 9999 := by omega
                  exact f_r9 q9 q9b
              · obtain ⟨kk8, ss8, qr8⟩ := f_rb_no h167
                rw [qr8] at fa164_0
                have qz : f_one (nd + 1) L = .inl (kk8, ss8) := by
                  rw [qb]
                  unfold f_cmp
                  rw [qr2]
                  show f_pre o2 (f_cmp2 L2) = _
                  rw [qe2, f_aft_no qr8]
                  rfl
                refine ax_iconst dX12_oneTest_170 (by decide) (pc' := 171) rfl ?_
                refine ax_zret dX12_oneTest_171 rfl (by decide) ?_
                refine ⟨rfl, ?_, ?_, ?_, ?_⟩
                · refine congrArg (fun z => some (Sum.inl z)) ?_
                  rw [qz]
                  rfl
                · intro x0 i0 hai
                  exact ((frM_164 x0 i0 (fun h => h.elim (fun h => hai (Or.inl h)) (fun h => h.elim (fun h => hai (Or.inr (Or.inl h))) (fun h => h.elim (fun h => hai (Or.inr (Or.inr (Or.inl h)))) (fun h => h.elim (fun h => hai (Or.inr (Or.inr (Or.inr (Or.inl h))))) (fun h => h.elim (fun h => hai (Or.inr (Or.inr (Or.inr (Or.inr (Or.inl h)))))) (fun h => h.elim (fun h => hai (Or.inr (Or.inr (Or.inr (Or.inr (Or.inr (Or.inl h))))))) (fun h => h.elim (fun h => hai (Or.inr (Or.inr (Or.inr (Or.inr (Or.inr (Or.inr (Or.inl h)))))))) (fun h => hai (Or.inr (Or.inr (Or.inr (Or.inr (Or.inr (Or.inr (Or.inr (Or.inl h))))))))))))))))).trans ((frM_160 x0 i0 (fun h => h.elim (fun h => hai (Or.inr (Or.inr (Or.inl h)))) (fun h => h.elim (fun h => hai (Or.inr (Or.inr (Or.inr (Or.inl h))))) (fun h => h.elim (fun h => hai (Or.inr (Or.inr (Or.inr (Or.inr (Or.inl h)))))) (fun h => hai (Or.inr (Or.inr (Or.inr (Or.inr (Or.inr (Or.inl h))))))))))).trans ((frM_93 x0 i0 (fun h => h.elim (fun h => hai (Or.inl h)) (fun h => h.elim (fun h => hai (Or.inr (Or.inl h))) (fun h => h.elim (fun h => hai (Or.inr (Or.inr (Or.inl h)))) (fun h => h.elim (fun h => hai (Or.inr (Or.inr (Or.inr (Or.inl h))))) (fun h => h.elim (fun h => hai (Or.inr (Or.inr (Or.inr (Or.inr (Or.inl h)))))) (fun h => h.elim (fun h => hai (Or.inr (Or.inr (Or.inr (Or.inr (Or.inr (Or.inl h))))))) (fun h => h.elim (fun h => hai (Or.inr (Or.inr (Or.inr (Or.inr (Or.inr (Or.inr (Or.inl h)))))))) (fun h => hai (Or.inr (Or.inr (Or.inr (Or.inr (Or.inr (Or.inr (Or.inr (Or.inl h))))))))))))))))).trans rfl)))
                · exact f_pok_no qz fa164_0.1 fa164_0.2
                · have q9 : M_164 330 21 = M_164 330 21 := rfl
                  have q9b : 0 ≤ M_164 330 21 ∧ M_164 330 21 ≤ 9999 := by omega
                  exact f_r9 q9 q9b
            · exfalso
              omega
        · have qk : f_cmpS L2 = 27 := by
            unfold f_cmpS
            rw [if_pos (by omega)]
          refine ax_bipush dX12_oneTest_111 (by decide) (pc' := 113) rfl ?_
          refine ax_goto dX12_oneTest_113 (pc' := 147) (by decide) ?_
          refine ax_istore_n dX12_oneTest_147 rfl (by decide) (ls' := [some (.inr 330), some (.inl 27)]) rfl (pc' := 148) rfl ?_
          refine ax_iload_n dX12_oneTest_148 rfl rfl (pc' := 149) rfl ?_
          refine ax_iconst dX12_oneTest_149 (by decide) (pc' := 150) rfl ?_
          refine ax_icmp_ne (tgt := 159) dX12_oneTest_150 (by decide) (pc' := 153) rfl (fun h150 => ?_) (fun h150 => ?_)
          · obtain ⟨L4, qt4, ql4, qc4⟩ := f_cur_next qc2 (by omega)
            have qR4 := f_cur_rg qc4
            have qh4 := f_cur_hd qc4
            have qe2 : f_cmp2 L2 = f_aft [(f_cmpS L2, 0)] (f_sumU L4) := by
              unfold f_cmp2
              rw [if_neg (by rw [qk]; decide), qt4]
            refine ax_aload_n dX12_oneTest_159 rfl rfl (pc' := 160) rfl ?_
            refine ax_invG [] [] dX12_oneTest_160 mlX12_232 sh_330 rfl rfl rfl (Nat.le_of_ble_eq_true rfl) (s_X12_next0 E l _ (by omega) _ ((funext fun i0 => frM_93 339 i0 (fun h => h.elim (fun h => absurd h (by decide)) (fun h => h.elim (fun h => absurd h.1 (by decide)) (fun h => h.elim (fun h => absurd h.1 (by decide)) (fun h => h.elim (fun h => absurd h.1 (by decide)) (fun h => h.elim (fun h => absurd h.1 (by decide)) (fun h => h.elim (fun h => absurd h.1 (by decide)) (fun h => h.elim (fun h => absurd h.1 (by decide)) (fun h => absurd h.1 (by decide)))))))))).trans hta) rfl ((frM_93 330 17 (fun h => h.elim (fun h => absurd h (by decide)) (fun h => h.elim (fun h => absurd h.2 (by decide)) (fun h => h.elim (fun h => absurd h.2 (by decide)) (fun h => h.elim (fun h => absurd h.2 (by decide)) (fun h => h.elim (fun h => absurd h.2 (by decide)) (fun h => h.elim (fun h => absurd h.2 (by decide)) (fun h => h.elim (fun h => absurd h.2 (by decide)) (fun h => absurd h.2 (by decide)))))))))).trans htn) ((frM_93 330 13 (fun h => h.elim (fun h => absurd h (by decide)) (fun h => h.elim (fun h => absurd h.2 (by decide)) (fun h => h.elim (fun h => absurd h.2 (by decide)) (fun h => h.elim (fun h => absurd h.2 (by decide)) (fun h => h.elim (fun h => absurd h.2 (by decide)) (fun h => h.elim (fun h => absurd h.2 (by decide)) (fun h => h.elim (fun h => absurd h.2 (by decide)) (fun h => absurd h.2 (by decide)))))))))).trans hrd) rfl (by first | omega | assumption) (by first | omega | assumption)) (pc' := 163) rfl (fun vv M_160 hq co160 hcm160 => ?_)
            obtain ⟨rfl, frM_160, msM_160_0, msM_160_1, msM_160_2, msM_160_3⟩ := hq
            refine ax_reS (st2 := []) rfl ?_
            refine ax_aload_n dX12_oneTest_163 rfl rfl (pc' := 164) rfl ?_
            refine ax_invG [] [] dX12_oneTest_164 mlX12_267 sh_330 rfl rfl rfl (Nat.le_of_ble_eq_true rfl) (s_X12_sumUp E l _ (by omega) _ L4 ((funext fun i0 => frM_160 339 i0 (fun h => h.elim (fun h => absurd h.1 (by decide)) (fun h => h.elim (fun h => absurd h.1 (by decide)) (fun h => h.elim (fun h => absurd h.1 (by decide)) (fun h => absurd h.1 (by decide)))))).trans ((funext fun i0 => frM_93 339 i0 (fun h => h.elim (fun h => absurd h (by decide)) (fun h => h.elim (fun h => absurd h.1 (by decide)) (fun h => h.elim (fun h => absurd h.1 (by decide)) (fun h => h.elim (fun h => absurd h.1 (by decide)) (fun h => h.elim (fun h => absurd h.1 (by decide)) (fun h => h.elim (fun h => absurd h.1 (by decide)) (fun h => h.elim (fun h => absurd h.1 (by decide)) (fun h => absurd h.1 (by decide)))))))))).trans hta)) ((funext fun i0 => frM_160 336 i0 (fun h => h.elim (fun h => absurd h.1 (by decide)) (fun h => h.elim (fun h => absurd h.1 (by decide)) (fun h => h.elim (fun h => absurd h.1 (by decide)) (fun h => absurd h.1 (by decide)))))).trans rfl) msM_160_0 msM_160_1 msM_160_2 msM_160_3 ((frM_160 330 15 (fun h => h.elim (fun h => absurd h.2 (by decide)) (fun h => h.elim (fun h => absurd h.2 (by decide)) (fun h => h.elim (fun h => absurd h.2 (by decide)) (fun h => absurd h.2 (by decide)))))).trans rfl) ((frM_160 330 25 (fun h => h.elim (fun h => absurd h.2 (by decide)) (fun h => h.elim (fun h => absurd h.2 (by decide)) (fun h => h.elim (fun h => absurd h.2 (by decide)) (fun h => absurd h.2 (by decide)))))).trans ((frM_93 330 25 (fun h => h.elim (fun h => absurd h (by decide)) (fun h => h.elim (fun h => absurd h.2 (by decide)) (fun h => h.elim (fun h => absurd h.2 (by decide)) (fun h => h.elim (fun h => absurd h.2 (by decide)) (fun h => h.elim (fun h => absurd h.2 (by decide)) (fun h => h.elim (fun h => absurd h.2 (by decide)) (fun h => h.elim (fun h => absurd h.2 (by decide)) (fun h => absurd h.2 (by decide)))))))))).trans hdp)) ((frM_160 330 17 (fun h => h.elim (fun h => absurd h.2 (by decide)) (fun h => h.elim (fun h => absurd h.2 (by decide)) (fun h => h.elim (fun h => absurd h.2 (by decide)) (fun h => absurd h.2 (by decide)))))).trans ((frM_93 330 17 (fun h => h.elim (fun h => absurd h (by decide)) (fun h => h.elim (fun h => absurd h.2 (by decide)) (fun h => h.elim (fun h => absurd h.2 (by decide)) (fun h => h.elim (fun h => absurd h.2 (by decide)) (fun h => h.elim (fun h => absurd h.2 (by decide)) (fun h => h.elim (fun h => absurd h.2 (by decide)) (fun h => h.elim (fun h => absurd h.2 (by decide)) (fun h => absurd h.2 (by decide)))))))))).trans htn)) ((frM_160 330 13 (fun h => h.elim (fun h => absurd h.2 (by decide)) (fun h => h.elim (fun h => absurd h.2 (by decide)) (fun h => h.elim (fun h => absurd h.2 (by decide)) (fun h => absurd h.2 (by decide)))))).trans ((frM_93 330 13 (fun h => h.elim (fun h => absurd h (by decide)) (fun h => h.elim (fun h => absurd h.2 (by decide)) (fun h => h.elim (fun h => absurd h.2 (by decide)) (fun h => h.elim (fun h => absurd h.2 (by decide)) (fun h => h.elim (fun h => absurd h.2 (by decide)) (fun h => h.elim (fun h => absurd h.2 (by decide)) (fun h => h.elim (fun h => absurd h.2 (by decide)) (fun h => absurd h.2 (by decide)))))))))).trans hrd)) (by first | omega | assumption) (by first | omega | assumption) (by first | omega | assumption) (by first | omega | assumption)) (pc' := 167) rfl (fun vv M_164 hq co164 hcm164 => ?_)
            obtain ⟨rfl, frM_164, fa164_0, fa164_1⟩ := hq
            refine ax_reS (st2 := [.inl (f_rb (f_sumU L4))]) rfl ?_
            have cc164 : -2147483648 ≤ f_rb (f_sumU L4) ∧ f_rb (f_sumU L4) < 2147483648 := co164 _ rfl
            refine ax_if_ne (tgt := 172) dX12_oneTest_167 (by decide) (pc' := 170) rfl (fun h167 => ?_) (fun h167 => ?_)
            · obtain ⟨L8, o8, qr8⟩ := f_rb_ok h167
              rw [qr8] at fa164_0
              obtain ⟨qm8, qs8, qc8, qd8⟩ := fa164_0
              have qg8 := f_sumU_gd _ L8 o8 qr8
              have qR8 := f_cur_rg qc8
              have qh8 := f_cur_hd qc8
              have qw8 := f_wt_len o8
              have qz : f_one (nd + 1) L = .inr (L8, o2 ++ (o8 ++ [(f_cmpS L2, 0)])) := by
                rw [qb]
                unfold f_cmp
                rw [qr2]
                show f_pre o2 (f_cmp2 L2) = _
                rw [qe2, f_aft_ok qr8]
                rfl
              refine ax_aload_n dX12_oneTest_172 rfl rfl (pc' := 173) rfl ?_
              refine ax_iload_n dX12_oneTest_173 rfl rfl (pc' := 174) rfl ?_
              refine ax_iconst dX12_oneTest_174 (by decide) (pc' := 175) rfl ?_
              refine ax_invG [.inl 27, .inl 0] [] dX12_oneTest_175 mlX12_245 sh_330 rfl rfl rfl (Nat.le_of_ble_eq_true rfl) (s_X12_lay E l _ (by omega) _ 27 0 rfl rfl (by first | omega | assumption)) (pc' := 178) rfl (fun vv M_175 hq co175 hcm175 => ?_)
              obtain ⟨rfl, frM_175, mrM_175_0, msM_175_0⟩ := hq
              refine ax_reS (st2 := []) rfl ?_
              refine ax_iconst dX12_oneTest_178 (by decide) (pc' := 179) rfl ?_
              refine ax_zret dX12_oneTest_179 rfl (by decide) ?_
              refine ⟨rfl, ?_, ?_, ?_, ?_⟩
              · refine congrArg (fun z => some (Sum.inl z)) ?_
                rw [qz]
                rfl
              · intro x0 i0 hai
                exact ((frM_175 x0 i0 (fun h => h.elim (fun h => hai (Or.inl h)) (fun h => hai (Or.inr (Or.inl h))))).trans ((frM_164 x0 i0 (fun h => h.elim (fun h => hai (Or.inl h)) (fun h => h.elim (fun h => hai (Or.inr (Or.inl h))) (fun h => h.elim (fun h => hai (Or.inr (Or.inr (Or.inl h)))) (fun h => h.elim (fun h => hai (Or.inr (Or.inr (Or.inr (Or.inl h))))) (fun h => h.elim (fun h => hai (Or.inr (Or.inr (Or.inr (Or.inr (Or.inl h)))))) (fun h => h.elim (fun h => hai (Or.inr (Or.inr (Or.inr (Or.inr (Or.inr (Or.inl h))))))) (fun h => h.elim (fun h => hai (Or.inr (Or.inr (Or.inr (Or.inr (Or.inr (Or.inr (Or.inl h)))))))) (fun h => hai (Or.inr (Or.inr (Or.inr (Or.inr (Or.inr (Or.inr (Or.inr (Or.inl h))))))))))))))))).trans ((frM_160 x0 i0 (fun h => h.elim (fun h => hai (Or.inr (Or.inr (Or.inl h)))) (fun h => h.elim (fun h => hai (Or.inr (Or.inr (Or.inr (Or.inl h))))) (fun h => h.elim (fun h => hai (Or.inr (Or.inr (Or.inr (Or.inr (Or.inl h)))))) (fun h => hai (Or.inr (Or.inr (Or.inr (Or.inr (Or.inr (Or.inl h))))))))))).trans ((frM_93 x0 i0 (fun h => h.elim (fun h => hai (Or.inl h)) (fun h => h.elim (fun h => hai (Or.inr (Or.inl h))) (fun h => h.elim (fun h => hai (Or.inr (Or.inr (Or.inl h)))) (fun h => h.elim (fun h => hai (Or.inr (Or.inr (Or.inr (Or.inl h))))) (fun h => h.elim (fun h => hai (Or.inr (Or.inr (Or.inr (Or.inr (Or.inl h)))))) (fun h => h.elim (fun h => hai (Or.inr (Or.inr (Or.inr (Or.inr (Or.inr (Or.inl h))))))) (fun h => h.elim (fun h => hai (Or.inr (Or.inr (Or.inr (Or.inr (Or.inr (Or.inr (Or.inl h)))))))) (fun h => hai (Or.inr (Or.inr (Or.inr (Or.inr (Or.inr (Or.inr (Or.inr (Or.inl h))))))))))))))))).trans rfl))))
              · refine f_pok_ok qz (Eq.trans mrM_175_0 ?_) (Eq.trans msM_175_0 ?_) qc8 ((frM_175 330 18 (fun h => h.elim (fun h => absurd h (by decide)) (fun h => absurd h.2 (by decide)))).trans rfl) ((frM_175 330 19 (fun h => h.elim (fun h => absurd h (by decide)) (fun h => absurd h.2 (by decide)))).trans rfl) ((frM_175 330 20 (fun h => h.elim (fun h => absurd h (by decide)) (fun h => absurd h.2 (by decide)))).trans rfl) ((frM_175 330 21 (fun h => h.elim (fun h => absurd h (by decide)) (fun h => absurd h.2 (by decide)))).trans rfl) ((frM_175 330 25 (fun h => h.elim (fun h => absurd h (by decide)) (fun h => absurd h.2 (by decide)))).trans ((frM_164 330 25 (fun h => h.elim (fun h => absurd h (by decide)) (fun h => h.elim (fun h => absurd h.2 (by decide)) (fun h => h.elim (fun h => absurd h.2 (by decide)) (fun h => h.elim (fun h => absurd h.2 (by decide)) (fun h => h.elim (fun h => absurd h.2 (by decide)) (fun h => h.elim (fun h => absurd h.2 (by decide)) (fun h => h.elim (fun h => absurd h.2 (by decide)) (fun h => absurd h.2 (by decide)))))))))).trans ((frM_160 330 25 (fun h => h.elim (fun h => absurd h.2 (by decide)) (fun h => h.elim (fun h => absurd h.2 (by decide)) (fun h => h.elim (fun h => absurd h.2 (by decide)) (fun h => absurd h.2 (by decide)))))).trans ((frM_93 330 25 (fun h => h.elim (fun h => absurd h (by decide)) (fun h => h.elim (fun h => absurd h.2 (by decide)) (fun h => h.elim (fun h => absurd h.2 (by decide)) (fun h => h.elim (fun h => absurd h.2 (by decide)) (fun h => h.elim (fun h => absurd h.2 (by decide)) (fun h => h.elim (fun h => absurd h.2 (by decide)) (fun h => h.elim (fun h => absurd h.2 (by decide)) (fun h => absurd h.2 (by decide)))))))))).trans hdp))))
                · rw [qk, ← List.append_assoc, f_put_app, ← f_put_more qm2 qs2]
                  rw [← qm8, show sn + ((o2 ++ o8).length : Int) = M_164 330 15 by rw [List.length_append, qs8, qs2]; omega]
                  rfl
                · rw [qs8, qs2]
                  simp only [List.length_append, List.length_cons, List.length_nil]
                  omega
              · have q9 : M_175 330 21 = M_164 330 21 := ((frM_175 330 21 (fun h => h.elim (fun h => absurd h (by decide)) (fun h => absurd h.2 (by decide)))).trans rfl)
                have q9b : 0 ≤ M_164 330 21 ∧ M_164 330 21 ≤ 9999 := by omega
                exact f_r9 q9 q9b
            · obtain ⟨kk8, ss8, qr8⟩ := f_rb_no h167
              rw [qr8] at fa164_0
              have qz : f_one (nd + 1) L = .inl (kk8, ss8) := by
                rw [qb]
                unfold f_cmp
                rw [qr2]
                show f_pre o2 (f_cmp2 L2) = _
                rw [qe2, f_aft_no qr8]
                rfl
              refine ax_iconst dX12_oneTest_170 (by decide) (pc' := 171) rfl ?_
              refine ax_zret dX12_oneTest_171 rfl (by decide) ?_
              refine ⟨rfl, ?_, ?_, ?_, ?_⟩
              · refine congrArg (fun z => some (Sum.inl z)) ?_
                rw [qz]
                rfl
              · intro x0 i0 hai
                exact ((frM_164 x0 i0 (fun h => h.elim (fun h => hai (Or.inl h)) (fun h => h.elim (fun h => hai (Or.inr (Or.inl h))) (fun h => h.elim (fun h => hai (Or.inr (Or.inr (Or.inl h)))) (fun h => h.elim (fun h => hai (Or.inr (Or.inr (Or.inr (Or.inl h))))) (fun h => h.elim (fun h => hai (Or.inr (Or.inr (Or.inr (Or.inr (Or.inl h)))))) (fun h => h.elim (fun h => hai (Or.inr (Or.inr (Or.inr (Or.inr (Or.inr (Or.inl h))))))) (fun h => h.elim (fun h => hai (Or.inr (Or.inr (Or.inr (Or.inr (Or.inr (Or.inr (Or.inl h)))))))) (fun h => hai (Or.inr (Or.inr (Or.inr (Or.inr (Or.inr (Or.inr (Or.inr (Or.inl h))))))))))))))))).trans ((frM_160 x0 i0 (fun h => h.elim (fun h => hai (Or.inr (Or.inr (Or.inl h)))) (fun h => h.elim (fun h => hai (Or.inr (Or.inr (Or.inr (Or.inl h))))) (fun h => h.elim (fun h => hai (Or.inr (Or.inr (Or.inr (Or.inr (Or.inl h)))))) (fun h => hai (Or.inr (Or.inr (Or.inr (Or.inr (Or.inr (Or.inl h))))))))))).trans ((frM_93 x0 i0 (fun h => h.elim (fun h => hai (Or.inl h)) (fun h => h.elim (fun h => hai (Or.inr (Or.inl h))) (fun h => h.elim (fun h => hai (Or.inr (Or.inr (Or.inl h)))) (fun h => h.elim (fun h => hai (Or.inr (Or.inr (Or.inr (Or.inl h))))) (fun h => h.elim (fun h => hai (Or.inr (Or.inr (Or.inr (Or.inr (Or.inl h)))))) (fun h => h.elim (fun h => hai (Or.inr (Or.inr (Or.inr (Or.inr (Or.inr (Or.inl h))))))) (fun h => h.elim (fun h => hai (Or.inr (Or.inr (Or.inr (Or.inr (Or.inr (Or.inr (Or.inl h)))))))) (fun h => hai (Or.inr (Or.inr (Or.inr (Or.inr (Or.inr (Or.inr (Or.inr (Or.inl h))))))))))))))))).trans rfl)))
              · exact f_pok_no qz fa164_0.1 fa164_0.2
              · have q9 : M_164 330 21 = M_164 330 21 := rfl
                have q9b : 0 ≤ M_164 330 21 ∧ M_164 330 21 ≤ 9999 := by omega
                exact f_r9 q9 q9b
          · exfalso
            omega
      · obtain ⟨kk2, ss2, qr2⟩ := f_rb_no h96
        rw [qr2] at fa93_0
        have qz : f_one (nd + 1) L = .inl (kk2, ss2) := by
          rw [qb]
          unfold f_cmp
          rw [qr2]
          rfl
        refine ax_iconst dX12_oneTest_99 (by decide) (pc' := 100) rfl ?_
        refine ax_zret dX12_oneTest_100 rfl (by decide) ?_
        refine ⟨rfl, ?_, ?_, ?_, ?_⟩
        · refine congrArg (fun z => some (Sum.inl z)) ?_
          rw [qz]
          rfl
        · intro x0 i0 hai
          exact ((frM_93 x0 i0 (fun h => h.elim (fun h => hai (Or.inl h)) (fun h => h.elim (fun h => hai (Or.inr (Or.inl h))) (fun h => h.elim (fun h => hai (Or.inr (Or.inr (Or.inl h)))) (fun h => h.elim (fun h => hai (Or.inr (Or.inr (Or.inr (Or.inl h))))) (fun h => h.elim (fun h => hai (Or.inr (Or.inr (Or.inr (Or.inr (Or.inl h)))))) (fun h => h.elim (fun h => hai (Or.inr (Or.inr (Or.inr (Or.inr (Or.inr (Or.inl h))))))) (fun h => h.elim (fun h => hai (Or.inr (Or.inr (Or.inr (Or.inr (Or.inr (Or.inr (Or.inl h)))))))) (fun h => hai (Or.inr (Or.inr (Or.inr (Or.inr (Or.inr (Or.inr (Or.inr (Or.inl h))))))))))))))))).trans rfl)
        · exact f_pok_no qz fa93_0.1 fa93_0.2
        · have q9 : M_93 330 21 = M_93 330 21 := rfl
          have q9b : 0 ≤ M_93 330 21 ∧ M_93 330 21 ≤ 9999 := by omega
          exact f_r9 q9 q9b
    · obtain ⟨L9, qt9, ql9, qc9⟩ := f_cur_next hg2 (by omega)
      have qR9 := f_cur_rg qc9
      have qh9 := f_cur_hd qc9
      have qb : f_one (nd + 1) L = f_seq (f_any (f_one nd) L9) (f_ned 141) := by
        rw [f_one_s]
        rw [if_neg (by omega), if_pos (by omega), qt9]
      refine ax_aload_n dX12_oneTest_54 rfl rfl (pc' := 55) rfl ?_
      refine ax_invG [] [] dX12_oneTest_55 mlX12_258 sh_330 rfl rfl rfl (Nat.le_of_ble_eq_true rfl) (s_X12_opens_ok E l _ (by omega) _ hta hp0 htn hrd hv0 hto hdp (by first | omega | assumption) (by first | omega | assumption) (by first | omega | assumption)) (pc' := 58) rfl (fun vv M_55 hq co55 hcm55 => ?_)
      obtain ⟨rfl, frM_55, msM_55_0, msM_55_1, msM_55_2, msM_55_3, msM_55_4⟩ := hq
      refine ax_reS (st2 := [.inl 1]) rfl ?_
      refine ax_if_eq (tgt := 78) dX12_oneTest_58 (by decide) (pc' := 61) rfl (fun h58 => ?_) (fun h58 => ?_)
      · exfalso
        omega
      · refine ax_aload_n dX12_oneTest_61 rfl rfl (pc' := 62) rfl ?_
        refine ax_invG [] [] dX12_oneTest_62 mlX12_261 sh_330 rfl rfl rfl (Nat.le_of_ble_eq_true rfl) (s_X12_any nd H1 E l _ (by omega) _ L9 ((funext fun i0 => frM_55 339 i0 (fun h => h.elim (fun h => absurd h.1 (by decide)) (fun h => h.elim (fun h => absurd h.1 (by decide)) (fun h => h.elim (fun h => absurd h.1 (by decide)) (fun h => h.elim (fun h => absurd h.1 (by decide)) (fun h => absurd h.1 (by decide))))))).trans hta) ((funext fun i0 => frM_55 336 i0 (fun h => h.elim (fun h => absurd h.1 (by decide)) (fun h => h.elim (fun h => absurd h.1 (by decide)) (fun h => h.elim (fun h => absurd h.1 (by decide)) (fun h => h.elim (fun h => absurd h.1 (by decide)) (fun h => absurd h.1 (by decide))))))).trans hfs) msM_55_0 msM_55_1 msM_55_2 msM_55_3 ((frM_55 330 15 (fun h => h.elim (fun h => absurd h.2 (by decide)) (fun h => h.elim (fun h => absurd h.2 (by decide)) (fun h => h.elim (fun h => absurd h.2 (by decide)) (fun h => h.elim (fun h => absurd h.2 (by decide)) (fun h => absurd h.2 (by decide))))))).trans hsn) msM_55_4 ((frM_55 330 17 (fun h => h.elim (fun h => absurd h.2 (by decide)) (fun h => h.elim (fun h => absurd h.2 (by decide)) (fun h => h.elim (fun h => absurd h.2 (by decide)) (fun h => h.elim (fun h => absurd h.2 (by decide)) (fun h => absurd h.2 (by decide))))))).trans htn) ((frM_55 330 13 (fun h => h.elim (fun h => absurd h.2 (by decide)) (fun h => h.elim (fun h => absurd h.2 (by decide)) (fun h => h.elim (fun h => absurd h.2 (by decide)) (fun h => h.elim (fun h => absurd h.2 (by decide)) (fun h => absurd h.2 (by decide))))))).trans hrd) (by first | omega | assumption) (by first | omega | assumption) (by first | omega | assumption) (by first | omega | assumption) (by first | omega | assumption)) (pc' := 65) rfl (fun vv M_62 hq co62 hcm62 => ?_)
        obtain ⟨rfl, frM_62, fa62_0, fa62_1⟩ := hq
        refine ax_reS (st2 := [.inl (f_rb (f_any (f_one nd) L9))]) rfl ?_
        have cc62 : -2147483648 ≤ f_rb (f_any (f_one nd) L9) ∧ f_rb (f_any (f_one nd) L9) < 2147483648 := co62 _ rfl
        refine ax_if_eq (tgt := 78) dX12_oneTest_65 (by decide) (pc' := 68) rfl (fun h65 => ?_) (fun h65 => ?_)
        · obtain ⟨kk8, ss8, qr8⟩ := f_rb_no h65
          rw [qr8] at fa62_0
          have qz : f_one (nd + 1) L = .inl (kk8, ss8) := by
            rw [qb, qr8]
            rfl
          have qfa := fa62_0
          refine ax_iconst dX12_oneTest_78 (by decide) (pc' := 79) rfl ?_
          refine ax_zret dX12_oneTest_79 rfl (by decide) ?_
          refine ⟨rfl, ?_, ?_, ?_, ?_⟩
          · refine congrArg (fun z => some (Sum.inl z)) ?_
            rw [qz]
            rfl
          · intro x0 i0 hai
            exact ((frM_62 x0 i0 (fun h => h.elim (fun h => hai (Or.inl h)) (fun h => h.elim (fun h => hai (Or.inr (Or.inl h))) (fun h => h.elim (fun h => hai (Or.inr (Or.inr (Or.inl h)))) (fun h => h.elim (fun h => hai (Or.inr (Or.inr (Or.inr (Or.inl h))))) (fun h => h.elim (fun h => hai (Or.inr (Or.inr (Or.inr (Or.inr (Or.inl h)))))) (fun h => h.elim (fun h => hai (Or.inr (Or.inr (Or.inr (Or.inr (Or.inr (Or.inl h))))))) (fun h => h.elim (fun h => hai (Or.inr (Or.inr (Or.inr (Or.inr (Or.inr (Or.inr (Or.inl h)))))))) (fun h => h.elim (fun h => hai (Or.inr (Or.inr (Or.inr (Or.inr (Or.inr (Or.inr (Or.inr (Or.inl h))))))))) (fun h => hai (Or.inr (Or.inr (Or.inr (Or.inr (Or.inr (Or.inr (Or.inr (Or.inr h)))))))))))))))))).trans ((frM_55 x0 i0 (fun h => h.elim (fun h => hai (Or.inr (Or.inr (Or.inl h)))) (fun h => h.elim (fun h => hai (Or.inr (Or.inr (Or.inr (Or.inl h))))) (fun h => h.elim (fun h => hai (Or.inr (Or.inr (Or.inr (Or.inr (Or.inl h)))))) (fun h => h.elim (fun h => hai (Or.inr (Or.inr (Or.inr (Or.inr (Or.inr (Or.inl h))))))) (fun h => hai (Or.inr (Or.inr (Or.inr (Or.inr (Or.inr (Or.inr (Or.inr (Or.inr h)))))))))))))).trans rfl))
          · exact f_pok_no qz qfa.1 qfa.2
          · have q9 : M_62 330 21 = M_62 330 21 := rfl
            have q9b : 0 ≤ M_62 330 21 ∧ M_62 330 21 ≤ 9999 := by omega
            exact f_r9 q9 q9b
        · obtain ⟨L6, o6, qr6⟩ := f_rb_ok h65
          rw [qr6] at fa62_0
          obtain ⟨qm6, qs6, qc6, qd6⟩ := fa62_0
          have qg6 := f_any_gd (f_one_gd nd) _ L6 o6 qr6
          have qR6 := f_cur_rg qc6
          have qh6 := f_cur_hd qc6
          have qw6 := f_wt_len o6
          refine ax_aload_n dX12_oneTest_68 rfl rfl (pc' := 69) rfl ?_
          refine ax_sipush dX12_oneTest_69 (by decide) (pc' := 72) rfl ?_
          refine ax_invG [.inl 141] [] dX12_oneTest_72 mlX12_264 sh_330 rfl rfl rfl (Nat.le_of_ble_eq_true rfl) (s_X12_needL E l _ (by omega) _ 141 L6 ((funext fun i0 => frM_62 339 i0 (fun h => h.elim (fun h => absurd h (by decide)) (fun h => h.elim (fun h => absurd h.1 (by decide)) (fun h => h.elim (fun h => absurd h.1 (by decide)) (fun h => h.elim (fun h => absurd h.1 (by decide)) (fun h => h.elim (fun h => absurd h.1 (by decide)) (fun h => h.elim (fun h => absurd h.1 (by decide)) (fun h => h.elim (fun h => absurd h.1 (by decide)) (fun h => h.elim (fun h => absurd h.1 (by decide)) (fun h => absurd h.1 (by decide))))))))))).trans ((funext fun i0 => frM_55 339 i0 (fun h => h.elim (fun h => absurd h.1 (by decide)) (fun h => h.elim (fun h => absurd h.1 (by decide)) (fun h => h.elim (fun h => absurd h.1 (by decide)) (fun h => h.elim (fun h => absurd h.1 (by decide)) (fun h => absurd h.1 (by decide))))))).trans hta)) rfl rfl rfl rfl rfl rfl rfl ((frM_62 330 17 (fun h => h.elim (fun h => absurd h (by decide)) (fun h => h.elim (fun h => absurd h.2 (by decide)) (fun h => h.elim (fun h => absurd h.2 (by decide)) (fun h => h.elim (fun h => absurd h.2 (by decide)) (fun h => h.elim (fun h => absurd h.2 (by decide)) (fun h => h.elim (fun h => absurd h.2 (by decide)) (fun h => h.elim (fun h => absurd h.2 (by decide)) (fun h => h.elim (fun h => absurd h.2 (by decide)) (fun h => absurd h.2 (by decide))))))))))).trans ((frM_55 330 17 (fun h => h.elim (fun h => absurd h.2 (by decide)) (fun h => h.elim (fun h => absurd h.2 (by decide)) (fun h => h.elim (fun h => absurd h.2 (by decide)) (fun h => h.elim (fun h => absurd h.2 (by decide)) (fun h => absurd h.2 (by decide))))))).trans htn)) ((frM_62 330 13 (fun h => h.elim (fun h => absurd h (by decide)) (fun h => h.elim (fun h => absurd h.2 (by decide)) (fun h => h.elim (fun h => absurd h.2 (by decide)) (fun h => h.elim (fun h => absurd h.2 (by decide)) (fun h => h.elim (fun h => absurd h.2 (by decide)) (fun h => h.elim (fun h => absurd h.2 (by decide)) (fun h => h.elim (fun h => absurd h.2 (by decide)) (fun h => h.elim (fun h => absurd h.2 (by decide)) (fun h => absurd h.2 (by decide))))))))))).trans ((frM_55 330 13 (fun h => h.elim (fun h => absurd h.2 (by decide)) (fun h => h.elim (fun h => absurd h.2 (by decide)) (fun h => h.elim (fun h => absurd h.2 (by decide)) (fun h => h.elim (fun h => absurd h.2 (by decide)) (fun h => absurd h.2 (by decide))))))).trans hrd)) (by first | omega | assumption) (by first | omega | assumption) (by first | omega | assumption) (by first | omega | assumption) (by first | omega | assumption)) (pc' := 75) rfl (fun vv M_72 hq co72 hcm72 => ?_)
          obtain ⟨rfl, frM_72, fa72_0, fa72_1⟩ := hq
          refine ax_reS (st2 := [.inl (f_rb (f_ned 141 L6))]) rfl ?_
          have cc72 : -2147483648 ≤ f_rb (f_ned 141 L6) ∧ f_rb (f_ned 141 L6) < 2147483648 := co72 _ rfl
          refine ax_if_ne (tgt := 80) dX12_oneTest_75 (by decide) (pc' := 78) rfl (fun h75 => ?_) (fun h75 => ?_)
          · obtain ⟨L8, o8, qr8⟩ := f_rb_ok h75
            rw [qr8] at fa72_0
            obtain ⟨qm8, qs8, qc8, qd8⟩ := fa72_0
            have qz : f_one (nd + 1) L = .inr (L8, o6 ++ o8) := by
              rw [qb, qr6]
              show f_pre o6 (f_ned 141 L6) = _
              rw [qr8]
              rfl
            refine ax_aload_n dX12_oneTest_80 rfl rfl (pc' := 81) rfl ?_
            refine ax_dup dX12_oneTest_81 (pc' := 82) rfl ?_
            refine ax_geti (v := M_62 330 25) dX12_oneTest_82 flX12_238 rfl sh_330 ((frM_72 330 25 (fun h => h.elim (fun h => absurd h (by decide)) (fun h => h.elim (fun h => absurd h.2 (by decide)) (fun h => h.elim (fun h => absurd h.2 (by decide)) (fun h => h.elim (fun h => absurd h.2 (by decide)) (fun h => h.elim (fun h => absurd h.2 (by decide)) (fun h => h.elim (fun h => absurd h.2 (by decide)) (fun h => h.elim (fun h => absurd h.2 (by decide)) (fun h => absurd h.2 (by decide)))))))))).trans rfl) rfl (pc' := 85) rfl ?_
            refine ax_iconst dX12_oneTest_85 (by decide) (pc' := 86) rfl ?_
            refine ax_isub dX12_oneTest_86 (by omega) (pc' := 87) rfl ?_
            refine ax_puti dX12_oneTest_87 flX12_238 (Or.inl rfl) sh_330 rfl (pc' := 90) rfl ?_
            refine ax_iconst dX12_oneTest_90 (by decide) (pc' := 91) rfl ?_
            refine ax_zret dX12_oneTest_91 rfl (by decide) ?_
            refine ⟨rfl, ?_, ?_, ?_, ?_⟩
            · refine congrArg (fun z => some (Sum.inl z)) ?_
              rw [qz]
              rfl
            · intro x0 i0 hai
              exact (ax_up_miss (fun h => hai (Or.inr (Or.inr (Or.inr (Or.inr (Or.inr (Or.inr (Or.inr (Or.inr h))))))))) ((frM_72 x0 i0 (fun h => h.elim (fun h => hai (Or.inl h)) (fun h => h.elim (fun h => hai (Or.inr (Or.inl h))) (fun h => h.elim (fun h => hai (Or.inr (Or.inr (Or.inl h)))) (fun h => h.elim (fun h => hai (Or.inr (Or.inr (Or.inr (Or.inl h))))) (fun h => h.elim (fun h => hai (Or.inr (Or.inr (Or.inr (Or.inr (Or.inl h)))))) (fun h => h.elim (fun h => hai (Or.inr (Or.inr (Or.inr (Or.inr (Or.inr (Or.inl h))))))) (fun h => h.elim (fun h => hai (Or.inr (Or.inr (Or.inr (Or.inr (Or.inr (Or.inr (Or.inl h)))))))) (fun h => hai (Or.inr (Or.inr (Or.inr (Or.inr (Or.inr (Or.inr (Or.inr (Or.inl h))))))))))))))))).trans ((frM_62 x0 i0 (fun h => h.elim (fun h => hai (Or.inl h)) (fun h => h.elim (fun h => hai (Or.inr (Or.inl h))) (fun h => h.elim (fun h => hai (Or.inr (Or.inr (Or.inl h)))) (fun h => h.elim (fun h => hai (Or.inr (Or.inr (Or.inr (Or.inl h))))) (fun h => h.elim (fun h => hai (Or.inr (Or.inr (Or.inr (Or.inr (Or.inl h)))))) (fun h => h.elim (fun h => hai (Or.inr (Or.inr (Or.inr (Or.inr (Or.inr (Or.inl h))))))) (fun h => h.elim (fun h => hai (Or.inr (Or.inr (Or.inr (Or.inr (Or.inr (Or.inr (Or.inl h)))))))) (fun h => h.elim (fun h => hai (Or.inr (Or.inr (Or.inr (Or.inr (Or.inr (Or.inr (Or.inr (Or.inl h))))))))) (fun h => hai (Or.inr (Or.inr (Or.inr (Or.inr (Or.inr (Or.inr (Or.inr (Or.inr h)))))))))))))))))).trans ((frM_55 x0 i0 (fun h => h.elim (fun h => hai (Or.inr (Or.inr (Or.inl h)))) (fun h => h.elim (fun h => hai (Or.inr (Or.inr (Or.inr (Or.inl h))))) (fun h => h.elim (fun h => hai (Or.inr (Or.inr (Or.inr (Or.inr (Or.inl h)))))) (fun h => h.elim (fun h => hai (Or.inr (Or.inr (Or.inr (Or.inr (Or.inr (Or.inl h))))))) (fun h => hai (Or.inr (Or.inr (Or.inr (Or.inr (Or.inr (Or.inr (Or.inr (Or.inr h)))))))))))))).trans rfl))))
            · refine f_pok_ok qz (Eq.trans (ax_up_rowmiss (by decide) rfl) ?_) (Eq.trans (ax_up_miss (by decide) rfl) ?_) qc8 (ax_up_miss (by decide) rfl) (ax_up_miss (by decide) rfl) (ax_up_miss (by decide) rfl) (ax_up_miss (by decide) rfl) (Eq.trans (ax_up_hit _ _ _ _) ?_)
              · rw [qm8]
                exact f_put_more qm6 qs6
              · rw [qs8, qs6, List.length_append]
                omega
              · omega
            · have q9 : (ax_up M_72 330 25 (M_62 330 25 - 1)) 330 21 = M_72 330 21 := (ax_up_miss (by decide) rfl)
              have q9b : 0 ≤ M_72 330 21 ∧ M_72 330 21 ≤ 9999 := by omega
              exact f_r9 q9 q9b
          · obtain ⟨kk8, ss8, qr8⟩ := f_rb_no h75
            rw [qr8] at fa72_0
            have qz : f_one (nd + 1) L = .inl (kk8, ss8) := by
              rw [qb, qr6]
              show f_pre o6 (f_ned 141 L6) = _
              rw [qr8]
              rfl
            have qfa := fa72_0
            refine ax_iconst dX12_oneTest_78 (by decide) (pc' := 79) rfl ?_
            refine ax_zret dX12_oneTest_79 rfl (by decide) ?_
            refine ⟨rfl, ?_, ?_, ?_, ?_⟩
            · refine congrArg (fun z => some (Sum.inl z)) ?_
              rw [qz]
              rfl
            · intro x0 i0 hai
              exact ((frM_72 x0 i0 (fun h => h.elim (fun h => hai (Or.inl h)) (fun h => h.elim (fun h => hai (Or.inr (Or.inl h))) (fun h => h.elim (fun h => hai (Or.inr (Or.inr (Or.inl h)))) (fun h => h.elim (fun h => hai (Or.inr (Or.inr (Or.inr (Or.inl h))))) (fun h => h.elim (fun h => hai (Or.inr (Or.inr (Or.inr (Or.inr (Or.inl h)))))) (fun h => h.elim (fun h => hai (Or.inr (Or.inr (Or.inr (Or.inr (Or.inr (Or.inl h))))))) (fun h => h.elim (fun h => hai (Or.inr (Or.inr (Or.inr (Or.inr (Or.inr (Or.inr (Or.inl h)))))))) (fun h => hai (Or.inr (Or.inr (Or.inr (Or.inr (Or.inr (Or.inr (Or.inr (Or.inl h))))))))))))))))).trans ((frM_62 x0 i0 (fun h => h.elim (fun h => hai (Or.inl h)) (fun h => h.elim (fun h => hai (Or.inr (Or.inl h))) (fun h => h.elim (fun h => hai (Or.inr (Or.inr (Or.inl h)))) (fun h => h.elim (fun h => hai (Or.inr (Or.inr (Or.inr (Or.inl h))))) (fun h => h.elim (fun h => hai (Or.inr (Or.inr (Or.inr (Or.inr (Or.inl h)))))) (fun h => h.elim (fun h => hai (Or.inr (Or.inr (Or.inr (Or.inr (Or.inr (Or.inl h))))))) (fun h => h.elim (fun h => hai (Or.inr (Or.inr (Or.inr (Or.inr (Or.inr (Or.inr (Or.inl h)))))))) (fun h => h.elim (fun h => hai (Or.inr (Or.inr (Or.inr (Or.inr (Or.inr (Or.inr (Or.inr (Or.inl h))))))))) (fun h => hai (Or.inr (Or.inr (Or.inr (Or.inr (Or.inr (Or.inr (Or.inr (Or.inr h)))))))))))))))))).trans ((frM_55 x0 i0 (fun h => h.elim (fun h => hai (Or.inr (Or.inr (Or.inl h)))) (fun h => h.elim (fun h => hai (Or.inr (Or.inr (Or.inr (Or.inl h))))) (fun h => h.elim (fun h => hai (Or.inr (Or.inr (Or.inr (Or.inr (Or.inl h)))))) (fun h => h.elim (fun h => hai (Or.inr (Or.inr (Or.inr (Or.inr (Or.inr (Or.inl h))))))) (fun h => hai (Or.inr (Or.inr (Or.inr (Or.inr (Or.inr (Or.inr (Or.inr (Or.inr h)))))))))))))).trans rfl)))
            · exact f_pok_no qz qfa.1 qfa.2
            · have q9 : M_72 330 21 = M_72 330 21 := rfl
              have q9b : 0 ≤ M_72 330 21 ∧ M_72 330 21 ≤ 9999 := by omega
              exact f_r9 q9 q9b
  · obtain ⟨L9, qt9, ql9, qc9⟩ := f_cur_next hg2 (by omega)
    have qR9 := f_cur_rg qc9
    have qh9 := f_cur_hd qc9
    have qb : f_one (nd + 1) L = f_aft [(30, 0)] (f_one nd L9) := by
      rw [f_one_s]
      rw [if_pos (by omega), qt9]
    refine ax_aload_n dX12_oneTest_9 rfl rfl (pc' := 10) rfl ?_
    refine ax_invG [] [] dX12_oneTest_10 mlX12_258 sh_330 rfl rfl rfl (Nat.le_of_ble_eq_true rfl) (s_X12_opens_ok E l _ (by omega) _ hta hp0 htn hrd hv0 hto hdp (by first | omega | assumption) (by first | omega | assumption) (by first | omega | assumption)) (pc' := 13) rfl (fun vv M_10 hq co10 hcm10 => ?_)
    obtain ⟨rfl, frM_10, msM_10_0, msM_10_1, msM_10_2, msM_10_3, msM_10_4⟩ := hq
    refine ax_reS (st2 := [.inl 1]) rfl ?_
    refine ax_if_eq (tgt := 23) dX12_oneTest_13 (by decide) (pc' := 16) rfl (fun h13 => ?_) (fun h13 => ?_)
    · exfalso
      omega
    · refine ax_aload_n dX12_oneTest_16 rfl rfl (pc' := 17) rfl ?_
      refine ax_invG [] [] dX12_oneTest_17 mlX12_255 sh_330 rfl rfl rfl (Nat.le_of_ble_eq_true rfl) (H1 E l _ (by omega) _ L9 ((funext fun i0 => frM_10 339 i0 (fun h => h.elim (fun h => absurd h.1 (by decide)) (fun h => h.elim (fun h => absurd h.1 (by decide)) (fun h => h.elim (fun h => absurd h.1 (by decide)) (fun h => h.elim (fun h => absurd h.1 (by decide)) (fun h => absurd h.1 (by decide))))))).trans hta) ((funext fun i0 => frM_10 336 i0 (fun h => h.elim (fun h => absurd h.1 (by decide)) (fun h => h.elim (fun h => absurd h.1 (by decide)) (fun h => h.elim (fun h => absurd h.1 (by decide)) (fun h => h.elim (fun h => absurd h.1 (by decide)) (fun h => absurd h.1 (by decide))))))).trans hfs) msM_10_0 msM_10_1 msM_10_2 msM_10_3 ((frM_10 330 15 (fun h => h.elim (fun h => absurd h.2 (by decide)) (fun h => h.elim (fun h => absurd h.2 (by decide)) (fun h => h.elim (fun h => absurd h.2 (by decide)) (fun h => h.elim (fun h => absurd h.2 (by decide)) (fun h => absurd h.2 (by decide))))))).trans hsn) msM_10_4 ((frM_10 330 17 (fun h => h.elim (fun h => absurd h.2 (by decide)) (fun h => h.elim (fun h => absurd h.2 (by decide)) (fun h => h.elim (fun h => absurd h.2 (by decide)) (fun h => h.elim (fun h => absurd h.2 (by decide)) (fun h => absurd h.2 (by decide))))))).trans htn) ((frM_10 330 13 (fun h => h.elim (fun h => absurd h.2 (by decide)) (fun h => h.elim (fun h => absurd h.2 (by decide)) (fun h => h.elim (fun h => absurd h.2 (by decide)) (fun h => h.elim (fun h => absurd h.2 (by decide)) (fun h => absurd h.2 (by decide))))))).trans hrd) (by first | omega | assumption) (by first | omega | assumption) (by first | omega | assumption) (by first | omega | assumption) (by first | omega | assumption)) (pc' := 20) rfl (fun vv M_17 hq co17 hcm17 => ?_)
      obtain ⟨rfl, frM_17, fa17_0, fa17_1⟩ := hq
      refine ax_reS (st2 := [.inl (f_rb (f_one nd L9))]) rfl ?_
      have cc17 : -2147483648 ≤ f_rb (f_one nd L9) ∧ f_rb (f_one nd L9) < 2147483648 := co17 _ rfl
      refine ax_if_ne (tgt := 25) dX12_oneTest_20 (by decide) (pc' := 23) rfl (fun h20 => ?_) (fun h20 => ?_)
      · obtain ⟨L8, o8, qr8⟩ := f_rb_ok h20
        rw [qr8] at fa17_0
        obtain ⟨qm8, qs8, qc8, qd8⟩ := fa17_0
        have qg8 := f_one_gd nd _ L8 o8 qr8
        have qR8 := f_cur_rg qc8
        have qh8 := f_cur_hd qc8
        have qw8 := f_wt_len o8
        have qz : f_one (nd + 1) L = .inr (L8, o8 ++ [(30, 0)]) := by
          rw [qb, f_aft_ok qr8]
        refine ax_aload_n dX12_oneTest_25 rfl rfl (pc' := 26) rfl ?_
        refine ax_dup dX12_oneTest_26 (pc' := 27) rfl ?_
        refine ax_geti (v := M_17 330 25) dX12_oneTest_27 flX12_238 rfl sh_330 rfl rfl (pc' := 30) rfl ?_
        refine ax_iconst dX12_oneTest_30 (by decide) (pc' := 31) rfl ?_
        refine ax_isub dX12_oneTest_31 (by omega) (pc' := 32) rfl ?_
        refine ax_puti dX12_oneTest_32 flX12_238 (Or.inl rfl) sh_330 rfl (pc' := 35) rfl ?_
        refine ax_aload_n dX12_oneTest_35 rfl rfl (pc' := 36) rfl ?_
        refine ax_bipush dX12_oneTest_36 (by decide) (pc' := 38) rfl ?_
        refine ax_iconst dX12_oneTest_38 (by decide) (pc' := 39) rfl ?_
        refine ax_invG [.inl 30, .inl 0] [] dX12_oneTest_39 mlX12_245 sh_330 rfl rfl rfl (Nat.le_of_ble_eq_true rfl) (s_X12_lay E l _ (by omega) _ 30 0 (ax_up_rowmiss (by decide) rfl) (ax_up_miss (by decide) rfl) (by first | omega | assumption)) (pc' := 42) rfl (fun vv M_39 hq co39 hcm39 => ?_)
        obtain ⟨rfl, frM_39, mrM_39_0, msM_39_0⟩ := hq
        refine ax_reS (st2 := []) rfl ?_
        refine ax_iconst dX12_oneTest_42 (by decide) (pc' := 43) rfl ?_
        refine ax_zret dX12_oneTest_43 rfl (by decide) ?_
        refine ⟨rfl, ?_, ?_, ?_, ?_⟩
        · refine congrArg (fun z => some (Sum.inl z)) ?_
          rw [qz]
          rfl
        · intro x0 i0 hai
          exact ((frM_39 x0 i0 (fun h => h.elim (fun h => hai (Or.inl h)) (fun h => hai (Or.inr (Or.inl h))))).trans (ax_up_miss (fun h => hai (Or.inr (Or.inr (Or.inr (Or.inr (Or.inr (Or.inr (Or.inr (Or.inr h))))))))) ((frM_17 x0 i0 (fun h => h.elim (fun h => hai (Or.inl h)) (fun h => h.elim (fun h => hai (Or.inr (Or.inl h))) (fun h => h.elim (fun h => hai (Or.inr (Or.inr (Or.inl h)))) (fun h => h.elim (fun h => hai (Or.inr (Or.inr (Or.inr (Or.inl h))))) (fun h => h.elim (fun h => hai (Or.inr (Or.inr (Or.inr (Or.inr (Or.inl h)))))) (fun h => h.elim (fun h => hai (Or.inr (Or.inr (Or.inr (Or.inr (Or.inr (Or.inl h))))))) (fun h => h.elim (fun h => hai (Or.inr (Or.inr (Or.inr (Or.inr (Or.inr (Or.inr (Or.inl h)))))))) (fun h => h.elim (fun h => hai (Or.inr (Or.inr (Or.inr (Or.inr (Or.inr (Or.inr (Or.inr (Or.inl h))))))))) (fun h => hai (Or.inr (Or.inr (Or.inr (Or.inr (Or.inr (Or.inr (Or.inr (Or.inr h)))))))))))))))))).trans ((frM_10 x0 i0 (fun h => h.elim (fun h => hai (Or.inr (Or.inr (Or.inl h)))) (fun h => h.elim (fun h => hai (Or.inr (Or.inr (Or.inr (Or.inl h))))) (fun h => h.elim (fun h => hai (Or.inr (Or.inr (Or.inr (Or.inr (Or.inl h)))))) (fun h => h.elim (fun h => hai (Or.inr (Or.inr (Or.inr (Or.inr (Or.inr (Or.inl h))))))) (fun h => hai (Or.inr (Or.inr (Or.inr (Or.inr (Or.inr (Or.inr (Or.inr (Or.inr h)))))))))))))).trans rfl))))
        · refine f_pok_ok qz (Eq.trans mrM_39_0 ?_) (Eq.trans msM_39_0 ?_) qc8 ((frM_39 330 18 (fun h => h.elim (fun h => absurd h (by decide)) (fun h => absurd h.2 (by decide)))).trans (ax_up_miss (by decide) rfl)) ((frM_39 330 19 (fun h => h.elim (fun h => absurd h (by decide)) (fun h => absurd h.2 (by decide)))).trans (ax_up_miss (by decide) rfl)) ((frM_39 330 20 (fun h => h.elim (fun h => absurd h (by decide)) (fun h => absurd h.2 (by decide)))).trans (ax_up_miss (by decide) rfl)) ((frM_39 330 21 (fun h => h.elim (fun h => absurd h (by decide)) (fun h => absurd h.2 (by decide)))).trans (ax_up_miss (by decide) rfl)) (Eq.trans ((frM_39 330 25 (fun h => h.elim (fun h => absurd h (by decide)) (fun h => absurd h.2 (by decide)))).trans (ax_up_hit _ _ _ _)) ?_)
          · exact f_put_snoc qm8 qs8
          · rw [qs8, List.length_append]
            simp only [List.length_cons, List.length_nil]
            omega
          · omega
        · have q9 : M_39 330 21 = M_17 330 21 := ((frM_39 330 21 (fun h => h.elim (fun h => absurd h (by decide)) (fun h => absurd h.2 (by decide)))).trans (ax_up_miss (by decide) rfl))
          have q9b : 0 ≤ M_17 330 21 ∧ M_17 330 21 ≤ 9999 := by omega
          exact f_r9 q9 q9b
      · obtain ⟨kk8, ss8, qr8⟩ := f_rb_no h20
        rw [qr8] at fa17_0
        have qz : f_one (nd + 1) L = .inl (kk8, ss8) := by
          rw [qb, f_aft_no qr8]
        refine ax_iconst dX12_oneTest_23 (by decide) (pc' := 24) rfl ?_
        refine ax_zret dX12_oneTest_24 rfl (by decide) ?_
        refine ⟨rfl, ?_, ?_, ?_, ?_⟩
        · refine congrArg (fun z => some (Sum.inl z)) ?_
          rw [qz]
          rfl
        · intro x0 i0 hai
          exact ((frM_17 x0 i0 (fun h => h.elim (fun h => hai (Or.inl h)) (fun h => h.elim (fun h => hai (Or.inr (Or.inl h))) (fun h => h.elim (fun h => hai (Or.inr (Or.inr (Or.inl h)))) (fun h => h.elim (fun h => hai (Or.inr (Or.inr (Or.inr (Or.inl h))))) (fun h => h.elim (fun h => hai (Or.inr (Or.inr (Or.inr (Or.inr (Or.inl h)))))) (fun h => h.elim (fun h => hai (Or.inr (Or.inr (Or.inr (Or.inr (Or.inr (Or.inl h))))))) (fun h => h.elim (fun h => hai (Or.inr (Or.inr (Or.inr (Or.inr (Or.inr (Or.inr (Or.inl h)))))))) (fun h => h.elim (fun h => hai (Or.inr (Or.inr (Or.inr (Or.inr (Or.inr (Or.inr (Or.inr (Or.inl h))))))))) (fun h => hai (Or.inr (Or.inr (Or.inr (Or.inr (Or.inr (Or.inr (Or.inr (Or.inr h)))))))))))))))))).trans ((frM_10 x0 i0 (fun h => h.elim (fun h => hai (Or.inr (Or.inr (Or.inl h)))) (fun h => h.elim (fun h => hai (Or.inr (Or.inr (Or.inr (Or.inl h))))) (fun h => h.elim (fun h => hai (Or.inr (Or.inr (Or.inr (Or.inr (Or.inl h)))))) (fun h => h.elim (fun h => hai (Or.inr (Or.inr (Or.inr (Or.inr (Or.inr (Or.inl h))))))) (fun h => hai (Or.inr (Or.inr (Or.inr (Or.inr (Or.inr (Or.inr (Or.inr (Or.inr h)))))))))))))).trans rfl))
        · exact f_pok_no qz fa17_0.1 fa17_0.2
        · have q9 : M_17 330 21 = M_17 330 21 := rfl
          have q9b : 0 ≤ M_17 330 21 ∧ M_17 330 21 ≤ 9999 := by omega
          exact f_r9 q9 q9b
theorem f_C1_all : ∀ nd : Nat, f_C1 nd
  | 0 => s_one_0
  | nd + 1 => s_one_s nd (f_C1_all nd)
