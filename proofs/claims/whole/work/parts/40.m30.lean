/-! drills: C is told of level nd -/
def f_C2 (nd : Nat) : Prop := ∀ (E : ax_Env) (l : Launch) (d : Nat) (hd : 13 + 2 * nd ≤ d) (M : ax_Mem) (op : Int) (L : List f_Tk) {ta : Int → Int} (hta : M 339 = ta) {fd : Int → Int} (hfd : M 337 = fd) {p0 : Int} (hp0 : M 330 18 = p0) {to : Int} (hto : M 330 19 = to) {tk : Int} (htk : M 330 20 = tk) {v0 : Int} (hv0 : M 330 21 = v0) {tn : Int} (htn : M 330 17 = tn) {rd : Int} (hrd : M 330 13 = rd) {dn : Int} (hdn : M 330 16 = dn) (hg0 : 0 ≤ tn ∧ tn ≤ 400) (hg1 : f_tp ta tn) (hg2 : f_cur ta tn rd L p0 to tk v0) (hg3 : 0 ≤ op ∧ op + ((nd : Nat) : Int) = 4) (hg4 : 0 ≤ dn ∧ dn + ((f_cap (nd) * L.length : Nat) : Int) ≤ 3000000), ax_G E l d iX12_someSteps [.inr 330, .inl op] M (fun z0 M2 => z0 = some (.inl (f_rdb (f_sts nd L))) ∧ (∀ x0 i0 : Int, ¬ ((x0 = 330 ∧ i0 = 18) ∨ (x0 = 330 ∧ i0 = 19) ∨ (x0 = 330 ∧ i0 = 20) ∨ (x0 = 330 ∧ i0 = 21) ∨ (x0 = 330 ∧ i0 = 22) ∨ (x0 = 330 ∧ i0 = 23) ∨ x0 = 337 ∨ (x0 = 330 ∧ i0 = 16) ∨ (x0 = 330 ∧ i0 = 27)) → M2 x0 i0 = M x0 i0) ∧ (f_dok ta tn rd fd dn (f_sts nd L) M2) ∧ (0 ≤ M2 330 21 ∧ M2 330 21 ≤ 9999))
def f_C3 (nd : Nat) : Prop := ∀ (E : ax_Env) (l : Launch) (d : Nat) (hd : 12 + 2 * nd ≤ d) (M : ax_Mem) (op : Int) (L : List f_Tk) {ta : Int → Int} (hta : M 339 = ta) {fd : Int → Int} (hfd : M 337 = fd) {p0 : Int} (hp0 : M 330 18 = p0) {to : Int} (hto : M 330 19 = to) {tk : Int} (htk : M 330 20 = tk) {v0 : Int} (hv0 : M 330 21 = v0) {tn : Int} (htn : M 330 17 = tn) {rd : Int} (hrd : M 330 13 = rd) {dn : Int} (hdn : M 330 16 = dn) (hg0 : 0 ≤ tn ∧ tn ≤ 400) (hg1 : f_tp ta tn) (hg2 : f_cur ta tn rd L p0 to tk v0) (hg3 : to = 15) (hg4 : 0 ≤ op ∧ op + ((nd : Nat) : Int) = 4) (hg5 : 0 ≤ dn ∧ dn + ((f_cap (nd) * L.length : Nat) : Int) ≤ 3000000), ax_G E l d iX12_someAgain [.inr 330, .inl op] M (fun z0 M2 => z0 = some (.inl (f_rdb (f_agd nd L))) ∧ (∀ x0 i0 : Int, ¬ ((x0 = 330 ∧ i0 = 18) ∨ (x0 = 330 ∧ i0 = 19) ∨ (x0 = 330 ∧ i0 = 20) ∨ (x0 = 330 ∧ i0 = 21) ∨ (x0 = 330 ∧ i0 = 22) ∨ (x0 = 330 ∧ i0 = 23) ∨ x0 = 337 ∨ (x0 = 330 ∧ i0 = 16) ∨ (x0 = 330 ∧ i0 = 27)) → M2 x0 i0 = M x0 i0) ∧ (f_dok ta tn rd fd dn (f_agd nd L) M2) ∧ (0 ≤ M2 330 21 ∧ M2 330 21 ≤ 9999))
theorem f_agd_s (d : Nat) (L : List f_Tk) : f_agd (d + 1) L = f_bd (f_nbr 1 9 L.tail) (fun L2 => f_bd (f_ned 140 L2) (fun L3 => f_agE (f_V L.tail).toNat (f_sts d L3))) := rfl
set_option maxRecDepth 20000 in
theorem s_X12_aStep (E : ax_Env) (l : Launch) (d : Nat) (hd : 11 ≤ d) (M : ax_Mem) (L : List f_Tk) {ta : Int → Int} (hta : M 339 = ta) {fd : Int → Int} (hfd : M 337 = fd) {p0 : Int} (hp0 : M 330 18 = p0) {to : Int} (hto : M 330 19 = to) {tk : Int} (htk : M 330 20 = tk) {v0 : Int} (hv0 : M 330 21 = v0) {tn : Int} (htn : M 330 17 = tn) {rd : Int} (hrd : M 330 13 = rd) {dn : Int} (hdn : M 330 16 = dn) (hg0 : 0 ≤ tn ∧ tn ≤ 400) (hg1 : f_tp ta tn) (hg2 : f_cur ta tn rd L p0 to tk v0) (hg3 : 10 ≤ to ∧ to ≤ 14) (hg4 : 0 ≤ dn ∧ dn ≤ 100000000) : ax_G E l d iX12_aStep [.inr 330] M (fun z0 M2 => z0 = some (.inl (f_rdb (f_stp L))) ∧ (∀ x0 i0 : Int, ¬ ((x0 = 330 ∧ i0 = 18) ∨ (x0 = 330 ∧ i0 = 19) ∨ (x0 = 330 ∧ i0 = 20) ∨ (x0 = 330 ∧ i0 = 21) ∨ (x0 = 330 ∧ i0 = 22) ∨ (x0 = 330 ∧ i0 = 23) ∨ x0 = 337 ∨ (x0 = 330 ∧ i0 = 16) ∨ (x0 = 330 ∧ i0 = 27)) → M2 x0 i0 = M x0 i0) ∧ (f_dok ta tn rd fd dn (f_stp L) M2) ∧ (0 ≤ M2 330 21 ∧ M2 330 21 ≤ 9999)) := by
  obtain ⟨d, rfl⟩ : ∃ d0, d = d0 + 1 := ⟨d - 1, by omega⟩
  refine ax_start rfl (Nat.le_of_ble_eq_true rfl) (ls := [some (.inr 330), none, none, none]) rfl (fun hav hcm => ?_)
  clear hav
  have qR := f_cur_rg hg2
  have qh := f_cur_hd hg2
  refine ax_aload_n dX12_aStep_0 rfl rfl (pc' := 1) rfl ?_
  refine ax_geti (v := to) dX12_aStep_1 flX12_208 rfl sh_330 hto rfl (pc' := 4) rfl ?_
  refine ax_istore_n dX12_aStep_4 rfl (by decide) (ls' := [some (.inr 330), some (.inl to), none, none]) rfl (pc' := 5) rfl ?_
  obtain ⟨L9, qt9, ql9, qc9⟩ := f_cur_next hg2 (by omega)
  have qR9 := f_cur_rg qc9
  have qh9 := f_cur_hd qc9
  refine ax_aload_n dX12_aStep_5 rfl rfl (pc' := 6) rfl ?_
  refine ax_invG [] [] dX12_aStep_6 mlX12_232 sh_330 rfl rfl rfl (Nat.le_of_ble_eq_true rfl) (s_X12_next0 E l _ (by omega) _ hta hp0 htn hrd hv0 (by first | omega | assumption) (by first | omega | assumption)) (pc' := 9) rfl (fun vv M_6 hq co6 hcm6 => ?_)
  obtain ⟨rfl, frM_6, msM_6_0, msM_6_1, msM_6_2, msM_6_3⟩ := hq
  refine ax_reS (st2 := []) rfl ?_
  refine ax_aload_n dX12_aStep_9 rfl rfl (pc' := 10) rfl ?_
  refine ax_iload_n dX12_aStep_10 rfl rfl (pc' := 11) rfl ?_
  refine ax_bipush dX12_aStep_11 (by decide) (pc' := 13) rfl ?_
  refine ax_icmp_ne (tgt := 20) dX12_aStep_13 (by decide) (pc' := 16) rfl (fun h13 => ?_) (fun h13 => ?_)
  · have qlo : (if f_T L = 14 then (1 : Int) else 0) = 0 := if_neg (by omega)
    refine ax_iconst dX12_aStep_20 (by decide) (pc' := 21) rfl ?_
    refine ax_iload_n dX12_aStep_21 rfl rfl (pc' := 22) rfl ?_
    refine ax_insG [.inl to] [.inl 0, .inr 330] dX12_aStep_22 mlX12_282 rfl rfl (Nat.le_of_ble_eq_true rfl) (s_X12_greatestOf E l _ (by omega) _ to) (pc' := 25) rfl (fun vv M_22 hq co22 hcm22 => ?_)
    obtain ⟨rfl, rfl⟩ := hq
    refine ax_reS (st2 := [.inl (f_gst to), .inl 0, .inr 330]) rfl ?_
    have cc22 : -2147483648 ≤ f_gst to ∧ f_gst to < 2147483648 := co22 _ rfl
    have qb : f_stp L = f_bd (f_nbr 0 (f_gst to) L9) (fun L2 => if to = 10 then f_stT (f_V L9) L2 else f_stE (to, f_V L9, 0) L2) := by
      unfold f_stp
      rw [qlo, qh.1, qt9]
    refine ax_invG [.inl 0, .inl (f_gst to)] [] dX12_aStep_25 mlX12_285 sh_330 rfl rfl rfl (Nat.le_of_ble_eq_true rfl) (s_X12_number E l _ (by omega) _ 0 (f_gst to) L9 ((funext fun i0 => frM_6 339 i0 (fun h => h.elim (fun h => absurd h.1 (by decide)) (fun h => h.elim (fun h => absurd h.1 (by decide)) (fun h => h.elim (fun h => absurd h.1 (by decide)) (fun h => absurd h.1 (by decide)))))).trans hta) msM_6_0 msM_6_1 msM_6_2 msM_6_3 ((frM_6 330 17 (fun h => h.elim (fun h => absurd h.2 (by decide)) (fun h => h.elim (fun h => absurd h.2 (by decide)) (fun h => h.elim (fun h => absurd h.2 (by decide)) (fun h => absurd h.2 (by decide)))))).trans htn) ((frM_6 330 13 (fun h => h.elim (fun h => absurd h.2 (by decide)) (fun h => h.elim (fun h => absurd h.2 (by decide)) (fun h => h.elim (fun h => absurd h.2 (by decide)) (fun h => absurd h.2 (by decide)))))).trans hrd) (by first | omega | assumption) (by first | omega | assumption) (by first | omega | assumption)) (pc' := 28) rfl (fun vv M_25 hq co25 hcm25 => ?_)
    obtain ⟨rfl, frM_25, fa25_0, fa25_1, fa25_2⟩ := hq
    refine ax_reS (st2 := [.inl (f_rb (f_nbr 0 (f_gst to) L9))]) rfl ?_
    have cc25 : -2147483648 ≤ f_rb (f_nbr 0 (f_gst to) L9) ∧ f_rb (f_nbr 0 (f_gst to) L9) < 2147483648 := co25 _ rfl
    refine ax_if_ne (tgt := 33) dX12_aStep_28 (by decide) (pc' := 31) rfl (fun h28 => ?_) (fun h28 => ?_)
    · have qn2 := fa25_1 h28
      obtain ⟨L2, o2, qr2⟩ := f_rb_ok h28
      rw [qr2] at fa25_0
      have qc2 := fa25_0
      have qg2 := f_nbr_inr qr2
      have qR2 := f_cur_rg qc2
      have qh2 := f_cur_hd qc2
      have qb2 : f_stp L = if to = 10 then f_stT (f_V L9) L2 else f_stE (to, f_V L9, 0) L2 := by
        rw [qb, qr2]
        rfl
      refine ax_aload_n dX12_aStep_33 rfl rfl (pc' := 34) rfl ?_
      refine ax_geti (v := M_25 330 27) dX12_aStep_34 flX12_276 rfl sh_330 rfl rfl (pc' := 37) rfl ?_
      refine ax_istore_n dX12_aStep_37 rfl (by decide) (ls' := [some (.inr 330), some (.inl to), some (.inl (M_25 330 27)), none]) rfl (pc' := 38) rfl ?_
      refine ax_aload_n dX12_aStep_38 rfl rfl (pc' := 39) rfl ?_
      refine ax_iconst dX12_aStep_39 (by decide) (pc' := 40) rfl ?_
      refine ax_puti dX12_aStep_40 flX12_276 (Or.inl rfl) sh_330 rfl (pc' := 43) rfl ?_
      refine ax_iload_n dX12_aStep_43 rfl rfl (pc' := 44) rfl ?_
      refine ax_bipush dX12_aStep_44 (by decide) (pc' := 46) rfl ?_
      refine ax_icmp_ne (tgt := 70) dX12_aStep_46 (by decide) (pc' := 49) rfl (fun h46 => ?_) (fun h46 => ?_)
      · obtain ⟨LE, qLE⟩ : ∃ z, z = L2 := ⟨_, rfl⟩
        have qcE := qc2
        rw [← qLE] at qcE
        have qbE : f_stp L = f_stE (to, M_25 330 27, 0) LE := by
          rw [qb2, if_neg (by omega), qn2, qLE]
        refine ax_aload_n dX12_aStep_70 rfl rfl (pc' := 71) rfl ?_
        refine ax_geti (v := 0) dX12_aStep_71 flX12_276 rfl sh_330 (show (ax_up M_25 330 27 0) 330 27 = 0 from (ax_up_hit _ _ _ _)) rfl (pc' := 74) rfl ?_
        refine ax_istore_n dX12_aStep_74 rfl (by decide) (ls' := [some (.inr 330), some (.inl to), some (.inl (M_25 330 27)), some (.inl 0)]) rfl (pc' := 75) rfl ?_
        refine ax_aload_n dX12_aStep_75 rfl rfl (pc' := 76) rfl ?_
        refine ax_sipush dX12_aStep_76 (by decide) (pc' := 79) rfl ?_
        refine ax_invG [.inl 159] [] dX12_aStep_79 mlX12_264 sh_330 rfl rfl rfl (Nat.le_of_ble_eq_true rfl) (s_X12_needD E l _ (by omega) _ 159 LE (ax_up_rowmiss (by decide) ((funext fun i0 => frM_25 339 i0 (fun h => h.elim (fun h => absurd h.1 (by decide)) (fun h => h.elim (fun h => absurd h.1 (by decide)) (fun h => h.elim (fun h => absurd h.1 (by decide)) (fun h => h.elim (fun h => absurd h.1 (by decide)) (fun h => h.elim (fun h => absurd h.1 (by decide)) (fun h => h.elim (fun h => absurd h.1 (by decide)) (fun h => absurd h.1 (by decide))))))))).trans ((funext fun i0 => frM_6 339 i0 (fun h => h.elim (fun h => absurd h.1 (by decide)) (fun h => h.elim (fun h => absurd h.1 (by decide)) (fun h => h.elim (fun h => absurd h.1 (by decide)) (fun h => absurd h.1 (by decide)))))).trans hta))) (ax_up_miss (by decide) rfl) (ax_up_miss (by decide) rfl) (ax_up_miss (by decide) rfl) (ax_up_miss (by decide) rfl) (ax_up_miss (by decide) ((frM_25 330 17 (fun h => h.elim (fun h => absurd h.2 (by decide)) (fun h => h.elim (fun h => absurd h.2 (by decide)) (fun h => h.elim (fun h => absurd h.2 (by decide)) (fun h => h.elim (fun h => absurd h.2 (by decide)) (fun h => h.elim (fun h => absurd h.2 (by decide)) (fun h => h.elim (fun h => absurd h.2 (by decide)) (fun h => absurd h.2 (by decide))))))))).trans ((frM_6 330 17 (fun h => h.elim (fun h => absurd h.2 (by decide)) (fun h => h.elim (fun h => absurd h.2 (by decide)) (fun h => h.elim (fun h => absurd h.2 (by decide)) (fun h => absurd h.2 (by decide)))))).trans htn))) (ax_up_miss (by decide) ((frM_25 330 13 (fun h => h.elim (fun h => absurd h.2 (by decide)) (fun h => h.elim (fun h => absurd h.2 (by decide)) (fun h => h.elim (fun h => absurd h.2 (by decide)) (fun h => h.elim (fun h => absurd h.2 (by decide)) (fun h => h.elim (fun h => absurd h.2 (by decide)) (fun h => h.elim (fun h => absurd h.2 (by decide)) (fun h => absurd h.2 (by decide))))))))).trans ((frM_6 330 13 (fun h => h.elim (fun h => absurd h.2 (by decide)) (fun h => h.elim (fun h => absurd h.2 (by decide)) (fun h => h.elim (fun h => absurd h.2 (by decide)) (fun h => absurd h.2 (by decide)))))).trans hrd))) (by first | omega | assumption) (by first | omega | assumption) (by first | omega | assumption) (by first | omega | assumption)) (pc' := 82) rfl (fun vv M_79 hq co79 hcm79 => ?_)
        obtain ⟨rfl, frM_79, fa79_0, fa79_1⟩ := hq
        refine ax_reS (st2 := [.inl (f_rb (f_ned 159 LE))]) rfl ?_
        have cc79 : -2147483648 ≤ f_rb (f_ned 159 LE) ∧ f_rb (f_ned 159 LE) < 2147483648 := co79 _ rfl
        refine ax_if_ne (tgt := 87) dX12_aStep_82 (by decide) (pc' := 85) rfl (fun h82 => ?_) (fun h82 => ?_)
        · obtain ⟨L8, o8, qr8⟩ := f_rb_ok h82
          rw [qr8] at fa79_0
          have qc8 := fa79_0
          have qg8 := f_ned_inr qr8
          have qR8 := f_cur_rg qc8
          have qh8 := f_cur_hd qc8
          have qz : f_stp L = .inr (L8, [(to, M_25 330 27, 0)]) := by
            rw [qbE]
            unfold f_stE
            rw [qr8]
            rfl
          refine ax_aload_n dX12_aStep_87 rfl rfl (pc' := 88) rfl ?_
          refine ax_iload_n dX12_aStep_88 rfl rfl (pc' := 89) rfl ?_
          refine ax_iload_n dX12_aStep_89 rfl rfl (pc' := 90) rfl ?_
          refine ax_iload_n dX12_aStep_90 rfl rfl (pc' := 91) rfl ?_
          refine ax_invG [.inl to, .inl (M_25 330 27), .inl 0] [] dX12_aStep_91 mlX12_289 sh_330 rfl rfl rfl (Nat.le_of_ble_eq_true rfl) (s_X12_tells E l _ (by omega) _ to (M_25 330 27) 0 ((funext fun i0 => frM_79 337 i0 (fun h => h.elim (fun h => absurd h.1 (by decide)) (fun h => h.elim (fun h => absurd h.1 (by decide)) (fun h => h.elim (fun h => absurd h.1 (by decide)) (fun h => h.elim (fun h => absurd h.1 (by decide)) (fun h => h.elim (fun h => absurd h.1 (by decide)) (fun h => absurd h.1 (by decide)))))))).trans (ax_up_rowmiss (by decide) ((funext fun i0 => frM_25 337 i0 (fun h => h.elim (fun h => absurd h.1 (by decide)) (fun h => h.elim (fun h => absurd h.1 (by decide)) (fun h => h.elim (fun h => absurd h.1 (by decide)) (fun h => h.elim (fun h => absurd h.1 (by decide)) (fun h => h.elim (fun h => absurd h.1 (by decide)) (fun h => h.elim (fun h => absurd h.1 (by decide)) (fun h => absurd h.1 (by decide))))))))).trans ((funext fun i0 => frM_6 337 i0 (fun h => h.elim (fun h => absurd h.1 (by decide)) (fun h => h.elim (fun h => absurd h.1 (by decide)) (fun h => h.elim (fun h => absurd h.1 (by decide)) (fun h => absurd h.1 (by decide)))))).trans hfd)))) ((frM_79 330 16 (fun h => h.elim (fun h => absurd h.2 (by decide)) (fun h => h.elim (fun h => absurd h.2 (by decide)) (fun h => h.elim (fun h => absurd h.2 (by decide)) (fun h => h.elim (fun h => absurd h.2 (by decide)) (fun h => h.elim (fun h => absurd h.2 (by decide)) (fun h => absurd h.2 (by decide)))))))).trans (ax_up_miss (by decide) ((frM_25 330 16 (fun h => h.elim (fun h => absurd h.2 (by decide)) (fun h => h.elim (fun h => absurd h.2 (by decide)) (fun h => h.elim (fun h => absurd h.2 (by decide)) (fun h => h.elim (fun h => absurd h.2 (by decide)) (fun h => h.elim (fun h => absurd h.2 (by decide)) (fun h => h.elim (fun h => absurd h.2 (by decide)) (fun h => absurd h.2 (by decide))))))))).trans ((frM_6 330 16 (fun h => h.elim (fun h => absurd h.2 (by decide)) (fun h => h.elim (fun h => absurd h.2 (by decide)) (fun h => h.elim (fun h => absurd h.2 (by decide)) (fun h => absurd h.2 (by decide)))))).trans hdn)))) (by first | omega | assumption)) (pc' := 94) rfl (fun vv M_91 hq co91 hcm91 => ?_)
          obtain ⟨rfl, frM_91, mrM_91_0, msM_91_0⟩ := hq
          refine ax_reS (st2 := []) rfl ?_
          refine ax_iconst dX12_aStep_94 (by decide) (pc' := 95) rfl ?_
          refine ax_zret dX12_aStep_95 rfl (by decide) ?_
          refine ⟨rfl, ?_, ?_, ?_, ?_⟩
          · refine congrArg (fun z => some (Sum.inl z)) ?_
            rw [qz]
            rfl
          · intro x0 i0 hai
            exact ((frM_91 x0 i0 (fun h => h.elim (fun h => hai (Or.inr (Or.inr (Or.inr (Or.inr (Or.inr (Or.inr (Or.inl h)))))))) (fun h => hai (Or.inr (Or.inr (Or.inr (Or.inr (Or.inr (Or.inr (Or.inr (Or.inl h))))))))))).trans ((frM_79 x0 i0 (fun h => h.elim (fun h => hai (Or.inl h)) (fun h => h.elim (fun h => hai (Or.inr (Or.inl h))) (fun h => h.elim (fun h => hai (Or.inr (Or.inr (Or.inl h)))) (fun h => h.elim (fun h => hai (Or.inr (Or.inr (Or.inr (Or.inl h))))) (fun h => h.elim (fun h => hai (Or.inr (Or.inr (Or.inr (Or.inr (Or.inl h)))))) (fun h => hai (Or.inr (Or.inr (Or.inr (Or.inr (Or.inr (Or.inl h))))))))))))).trans (ax_up_miss (fun h => hai (Or.inr (Or.inr (Or.inr (Or.inr (Or.inr (Or.inr (Or.inr (Or.inr h))))))))) ((frM_25 x0 i0 (fun h => h.elim (fun h => hai (Or.inl h)) (fun h => h.elim (fun h => hai (Or.inr (Or.inl h))) (fun h => h.elim (fun h => hai (Or.inr (Or.inr (Or.inl h)))) (fun h => h.elim (fun h => hai (Or.inr (Or.inr (Or.inr (Or.inl h))))) (fun h => h.elim (fun h => hai (Or.inr (Or.inr (Or.inr (Or.inr (Or.inl h)))))) (fun h => h.elim (fun h => hai (Or.inr (Or.inr (Or.inr (Or.inr (Or.inr (Or.inl h))))))) (fun h => hai (Or.inr (Or.inr (Or.inr (Or.inr (Or.inr (Or.inr (Or.inr (Or.inr h)))))))))))))))).trans ((frM_6 x0 i0 (fun h => h.elim (fun h => hai (Or.inl h)) (fun h => h.elim (fun h => hai (Or.inr (Or.inl h))) (fun h => h.elim (fun h => hai (Or.inr (Or.inr (Or.inl h)))) (fun h => hai (Or.inr (Or.inr (Or.inr (Or.inl h))))))))).trans rfl)))))
          · refine f_dok_ok qz (Eq.trans mrM_91_0 ?_) (Eq.trans msM_91_0 ?_) qc8 ((frM_91 330 18 (fun h => h.elim (fun h => absurd h (by decide)) (fun h => absurd h.2 (by decide)))).trans rfl) ((frM_91 330 19 (fun h => h.elim (fun h => absurd h (by decide)) (fun h => absurd h.2 (by decide)))).trans rfl) ((frM_91 330 20 (fun h => h.elim (fun h => absurd h (by decide)) (fun h => absurd h.2 (by decide)))).trans rfl) ((frM_91 330 21 (fun h => h.elim (fun h => absurd h (by decide)) (fun h => absurd h.2 (by decide)))).trans rfl)
            · rfl
            · rfl
          · have q9 : M_91 330 21 = M_79 330 21 := ((frM_91 330 21 (fun h => h.elim (fun h => absurd h (by decide)) (fun h => absurd h.2 (by decide)))).trans rfl)
            have q9b : 0 ≤ M_79 330 21 ∧ M_79 330 21 ≤ 9999 := by omega
            exact f_r9 q9 q9b
        · obtain ⟨kk8, ss8, qr8⟩ := f_rb_no h82
          rw [qr8] at fa79_0
          have qz : f_stp L = .inl (kk8, ss8) := by
            rw [qbE]
            unfold f_stE
            rw [qr8]
            rfl
          refine ax_iconst dX12_aStep_85 (by decide) (pc' := 86) rfl ?_
          refine ax_zret dX12_aStep_86 rfl (by decide) ?_
          refine ⟨rfl, ?_, ?_, ?_, ?_⟩
          · refine congrArg (fun z => some (Sum.inl z)) ?_
            rw [qz]
            rfl
          · intro x0 i0 hai
            exact ((frM_79 x0 i0 (fun h => h.elim (fun h => hai (Or.inl h)) (fun h => h.elim (fun h => hai (Or.inr (Or.inl h))) (fun h => h.elim (fun h => hai (Or.inr (Or.inr (Or.inl h)))) (fun h => h.elim (fun h => hai (Or.inr (Or.inr (Or.inr (Or.inl h))))) (fun h => h.elim (fun h => hai (Or.inr (Or.inr (Or.inr (Or.inr (Or.inl h)))))) (fun h => hai (Or.inr (Or.inr (Or.inr (Or.inr (Or.inr (Or.inl h))))))))))))).trans (ax_up_miss (fun h => hai (Or.inr (Or.inr (Or.inr (Or.inr (Or.inr (Or.inr (Or.inr (Or.inr h))))))))) ((frM_25 x0 i0 (fun h => h.elim (fun h => hai (Or.inl h)) (fun h => h.elim (fun h => hai (Or.inr (Or.inl h))) (fun h => h.elim (fun h => hai (Or.inr (Or.inr (Or.inl h)))) (fun h => h.elim (fun h => hai (Or.inr (Or.inr (Or.inr (Or.inl h))))) (fun h => h.elim (fun h => hai (Or.inr (Or.inr (Or.inr (Or.inr (Or.inl h)))))) (fun h => h.elim (fun h => hai (Or.inr (Or.inr (Or.inr (Or.inr (Or.inr (Or.inl h))))))) (fun h => hai (Or.inr (Or.inr (Or.inr (Or.inr (Or.inr (Or.inr (Or.inr (Or.inr h)))))))))))))))).trans ((frM_6 x0 i0 (fun h => h.elim (fun h => hai (Or.inl h)) (fun h => h.elim (fun h => hai (Or.inr (Or.inl h))) (fun h => h.elim (fun h => hai (Or.inr (Or.inr (Or.inl h)))) (fun h => hai (Or.inr (Or.inr (Or.inr (Or.inl h))))))))).trans rfl))))
          · exact f_dok_no qz fa79_0.1 fa79_0.2
          · have q9 : M_79 330 21 = M_79 330 21 := rfl
            have q9b : 0 ≤ M_79 330 21 ∧ M_79 330 21 ≤ 9999 := by omega
            exact f_r9 q9 q9b
      · have qb3 : f_stp L = f_stT (f_V L9) L2 := by
          rw [qb2, if_pos (by omega)]
        refine ax_aload_n dX12_aStep_49 rfl rfl (pc' := 50) rfl ?_
        refine ax_bipush dX12_aStep_50 (by decide) (pc' := 52) rfl ?_
        refine ax_invG [.inl 16] [] dX12_aStep_52 mlX12_264 sh_330 rfl rfl rfl (Nat.le_of_ble_eq_true rfl) (s_X12_needD E l _ (by omega) _ 16 L2 (ax_up_rowmiss (by decide) ((funext fun i0 => frM_25 339 i0 (fun h => h.elim (fun h => absurd h.1 (by decide)) (fun h => h.elim (fun h => absurd h.1 (by decide)) (fun h => h.elim (fun h => absurd h.1 (by decide)) (fun h => h.elim (fun h => absurd h.1 (by decide)) (fun h => h.elim (fun h => absurd h.1 (by decide)) (fun h => h.elim (fun h => absurd h.1 (by decide)) (fun h => absurd h.1 (by decide))))))))).trans ((funext fun i0 => frM_6 339 i0 (fun h => h.elim (fun h => absurd h.1 (by decide)) (fun h => h.elim (fun h => absurd h.1 (by decide)) (fun h => h.elim (fun h => absurd h.1 (by decide)) (fun h => absurd h.1 (by decide)))))).trans hta))) (ax_up_miss (by decide) rfl) (ax_up_miss (by decide) rfl) (ax_up_miss (by decide) rfl) (ax_up_miss (by decide) rfl) (ax_up_miss (by decide) ((frM_25 330 17 (fun h => h.elim (fun h => absurd h.2 (by decide)) (fun h => h.elim (fun h => absurd h.2 (by decide)) (fun h => h.elim (fun h => absurd h.2 (by decide)) (fun h => h.elim (fun h => absurd h.2 (by decide)) (fun h => h.elim (fun h => absurd h.2 (by decide)) (fun h => h.elim (fun h => absurd h.2 (by decide)) (fun h => absurd h.2 (by decide))))))))).trans ((frM_6 330 17 (fun h => h.elim (fun h => absurd h.2 (by decide)) (fun h => h.elim (fun h => absurd h.2 (by decide)) (fun h => h.elim (fun h => absurd h.2 (by decide)) (fun h => absurd h.2 (by decide)))))).trans htn))) (ax_up_miss (by decide) ((frM_25 330 13 (fun h => h.elim (fun h => absurd h.2 (by decide)) (fun h => h.elim (fun h => absurd h.2 (by decide)) (fun h => h.elim (fun h => absurd h.2 (by decide)) (fun h => h.elim (fun h => absurd h.2 (by decide)) (fun h => h.elim (fun h => absurd h.2 (by decide)) (fun h => h.elim (fun h => absurd h.2 (by decide)) (fun h => absurd h.2 (by decide))))))))).trans ((frM_6 330 13 (fun h => h.elim (fun h => absurd h.2 (by decide)) (fun h => h.elim (fun h => absurd h.2 (by decide)) (fun h => h.elim (fun h => absurd h.2 (by decide)) (fun h => absurd h.2 (by decide)))))).trans hrd))) (by first | omega | assumption) (by first | omega | assumption) (by first | omega | assumption) (by first | omega | assumption)) (pc' := 55) rfl (fun vv M_52 hq co52 hcm52 => ?_)
        obtain ⟨rfl, frM_52, fa52_0, fa52_1⟩ := hq
        refine ax_reS (st2 := [.inl (f_rb (f_ned 16 L2))]) rfl ?_
        have cc52 : -2147483648 ≤ f_rb (f_ned 16 L2) ∧ f_rb (f_ned 16 L2) < 2147483648 := co52 _ rfl
        refine ax_if_eq (tgt := 68) dX12_aStep_55 (by decide) (pc' := 58) rfl (fun h55 => ?_) (fun h55 => ?_)
        · obtain ⟨kk3, ss3, qr3⟩ := f_rb_no h55
          rw [qr3] at fa52_0
          have qz : f_stp L = .inl (kk3, ss3) := by
            rw [qb3]
            unfold f_stT
            rw [qr3]
            rfl
          have qfa := fa52_0
          refine ax_iconst dX12_aStep_68 (by decide) (pc' := 69) rfl ?_
          refine ax_zret dX12_aStep_69 rfl (by decide) ?_
          refine ⟨rfl, ?_, ?_, ?_, ?_⟩
          · refine congrArg (fun z => some (Sum.inl z)) ?_
            rw [qz]
            rfl
          · intro x0 i0 hai
            exact ((frM_52 x0 i0 (fun h => h.elim (fun h => hai (Or.inl h)) (fun h => h.elim (fun h => hai (Or.inr (Or.inl h))) (fun h => h.elim (fun h => hai (Or.inr (Or.inr (Or.inl h)))) (fun h => h.elim (fun h => hai (Or.inr (Or.inr (Or.inr (Or.inl h))))) (fun h => h.elim (fun h => hai (Or.inr (Or.inr (Or.inr (Or.inr (Or.inl h)))))) (fun h => hai (Or.inr (Or.inr (Or.inr (Or.inr (Or.inr (Or.inl h))))))))))))).trans (ax_up_miss (fun h => hai (Or.inr (Or.inr (Or.inr (Or.inr (Or.inr (Or.inr (Or.inr (Or.inr h))))))))) ((frM_25 x0 i0 (fun h => h.elim (fun h => hai (Or.inl h)) (fun h => h.elim (fun h => hai (Or.inr (Or.inl h))) (fun h => h.elim (fun h => hai (Or.inr (Or.inr (Or.inl h)))) (fun h => h.elim (fun h => hai (Or.inr (Or.inr (Or.inr (Or.inl h))))) (fun h => h.elim (fun h => hai (Or.inr (Or.inr (Or.inr (Or.inr (Or.inl h)))))) (fun h => h.elim (fun h => hai (Or.inr (Or.inr (Or.inr (Or.inr (Or.inr (Or.inl h))))))) (fun h => hai (Or.inr (Or.inr (Or.inr (Or.inr (Or.inr (Or.inr (Or.inr (Or.inr h)))))))))))))))).trans ((frM_6 x0 i0 (fun h => h.elim (fun h => hai (Or.inl h)) (fun h => h.elim (fun h => hai (Or.inr (Or.inl h))) (fun h => h.elim (fun h => hai (Or.inr (Or.inr (Or.inl h)))) (fun h => hai (Or.inr (Or.inr (Or.inr (Or.inl h))))))))).trans rfl))))
          · exact f_dok_no qz qfa.1 qfa.2
          · have q9 : M_52 330 21 = M_52 330 21 := rfl
            have q9b : 0 ≤ M_52 330 21 ∧ M_52 330 21 ≤ 9999 := by omega
            exact f_r9 q9 q9b
        · obtain ⟨L3, o3, qr3⟩ := f_rb_ok h55
          rw [qr3] at fa52_0
          have qc3 := fa52_0
          have qg3 := f_ned_inr qr3
          have qR3 := f_cur_rg qc3
          have qh3 := f_cur_hd qc3
          have qb4 : f_stp L = f_bd (f_nbr 0 23 L3) (f_stE (10, f_V L9, f_V L3)) := by
            rw [qb3]
            unfold f_stT
            rw [qr3]
            rfl
          refine ax_aload_n dX12_aStep_58 rfl rfl (pc' := 59) rfl ?_
          refine ax_iconst dX12_aStep_59 (by decide) (pc' := 60) rfl ?_
          refine ax_bipush dX12_aStep_60 (by decide) (pc' := 62) rfl ?_
          refine ax_invG [.inl 0, .inl 23] [] dX12_aStep_62 mlX12_285 sh_330 rfl rfl rfl (Nat.le_of_ble_eq_true rfl) (s_X12_number E l _ (by omega) _ 0 23 L3 ((funext fun i0 => frM_52 339 i0 (fun h => h.elim (fun h => absurd h.1 (by decide)) (fun h => h.elim (fun h => absurd h.1 (by decide)) (fun h => h.elim (fun h => absurd h.1 (by decide)) (fun h => h.elim (fun h => absurd h.1 (by decide)) (fun h => h.elim (fun h => absurd h.1 (by decide)) (fun h => absurd h.1 (by decide)))))))).trans (ax_up_rowmiss (by decide) ((funext fun i0 => frM_25 339 i0 (fun h => h.elim (fun h => absurd h.1 (by decide)) (fun h => h.elim (fun h => absurd h.1 (by decide)) (fun h => h.elim (fun h => absurd h.1 (by decide)) (fun h => h.elim (fun h => absurd h.1 (by decide)) (fun h => h.elim (fun h => absurd h.1 (by decide)) (fun h => h.elim (fun h => absurd h.1 (by decide)) (fun h => absurd h.1 (by decide))))))))).trans ((funext fun i0 => frM_6 339 i0 (fun h => h.elim (fun h => absurd h.1 (by decide)) (fun h => h.elim (fun h => absurd h.1 (by decide)) (fun h => h.elim (fun h => absurd h.1 (by decide)) (fun h => absurd h.1 (by decide)))))).trans hta)))) rfl rfl rfl rfl ((frM_52 330 17 (fun h => h.elim (fun h => absurd h.2 (by decide)) (fun h => h.elim (fun h => absurd h.2 (by decide)) (fun h => h.elim (fun h => absurd h.2 (by decide)) (fun h => h.elim (fun h => absurd h.2 (by decide)) (fun h => h.elim (fun h => absurd h.2 (by decide)) (fun h => absurd h.2 (by decide)))))))).trans (ax_up_miss (by decide) ((frM_25 330 17 (fun h => h.elim (fun h => absurd h.2 (by decide)) (fun h => h.elim (fun h => absurd h.2 (by decide)) (fun h => h.elim (fun h => absurd h.2 (by decide)) (fun h => h.elim (fun h => absurd h.2 (by decide)) (fun h => h.elim (fun h => absurd h.2 (by decide)) (fun h => h.elim (fun h => absurd h.2 (by decide)) (fun h => absurd h.2 (by decide))))))))).trans ((frM_6 330 17 (fun h => h.elim (fun h => absurd h.2 (by decide)) (fun h => h.elim (fun h => absurd h.2 (by decide)) (fun h => h.elim (fun h => absurd h.2 (by decide)) (fun h => absurd h.2 (by decide)))))).trans htn)))) ((frM_52 330 13 (fun h => h.elim (fun h => absurd h.2 (by decide)) (fun h => h.elim (fun h => absurd h.2 (by decide)) (fun h => h.elim (fun h => absurd h.2 (by decide)) (fun h => h.elim (fun h => absurd h.2 (by decide)) (fun h => h.elim (fun h => absurd h.2 (by decide)) (fun h => absurd h.2 (by decide)))))))).trans (ax_up_miss (by decide) ((frM_25 330 13 (fun h => h.elim (fun h => absurd h.2 (by decide)) (fun h => h.elim (fun h => absurd h.2 (by decide)) (fun h => h.elim (fun h => absurd h.2 (by decide)) (fun h => h.elim (fun h => absurd h.2 (by decide)) (fun h => h.elim (fun h => absurd h.2 (by decide)) (fun h => h.elim (fun h => absurd h.2 (by decide)) (fun h => absurd h.2 (by decide))))))))).trans ((frM_6 330 13 (fun h => h.elim (fun h => absurd h.2 (by decide)) (fun h => h.elim (fun h => absurd h.2 (by decide)) (fun h => h.elim (fun h => absurd h.2 (by decide)) (fun h => absurd h.2 (by decide)))))).trans hrd)))) (by first | omega | assumption) (by first | omega | assumption) (by first | omega | assumption)) (pc' := 65) rfl (fun vv M_62 hq co62 hcm62 => ?_)
          obtain ⟨rfl, frM_62, fa62_0, fa62_1, fa62_2⟩ := hq
          refine ax_reS (st2 := [.inl (f_rb (f_nbr 0 23 L3))]) rfl ?_
          have cc62 : -2147483648 ≤ f_rb (f_nbr 0 23 L3) ∧ f_rb (f_nbr 0 23 L3) < 2147483648 := co62 _ rfl
          refine ax_if_ne (tgt := 70) dX12_aStep_65 (by decide) (pc' := 68) rfl (fun h65 => ?_) (fun h65 => ?_)
          · have qn4 := fa62_1 h65
            obtain ⟨L4, o4, qr4⟩ := f_rb_ok h65
            rw [qr4] at fa62_0
            have qc4 := fa62_0
            have qg4 := f_nbr_inr qr4
            have qR4 := f_cur_rg qc4
            have qh4 := f_cur_hd qc4
            obtain ⟨LE, qLE⟩ : ∃ z, z = L4 := ⟨_, rfl⟩
            have qcE := qc4
            rw [← qLE] at qcE
            have qbE : f_stp L = f_stE (to, M_25 330 27, M_62 330 27) LE := by
              rw [qb4, qr4, qn2, qn4, qLE, show to = 10 by omega]
              rfl
            refine ax_aload_n dX12_aStep_70 rfl rfl (pc' := 71) rfl ?_
            refine ax_geti (v := M_62 330 27) dX12_aStep_71 flX12_276 rfl sh_330 rfl rfl (pc' := 74) rfl ?_
            refine ax_istore_n dX12_aStep_74 rfl (by decide) (ls' := [some (.inr 330), some (.inl to), some (.inl (M_25 330 27)), some (.inl (M_62 330 27))]) rfl (pc' := 75) rfl ?_
            refine ax_aload_n dX12_aStep_75 rfl rfl (pc' := 76) rfl ?_
            refine ax_sipush dX12_aStep_76 (by decide) (pc' := 79) rfl ?_
            refine ax_invG [.inl 159] [] dX12_aStep_79 mlX12_264 sh_330 rfl rfl rfl (Nat.le_of_ble_eq_true rfl) (s_X12_needD E l _ (by omega) _ 159 LE ((funext fun i0 => frM_62 339 i0 (fun h => h.elim (fun h => absurd h.1 (by decide)) (fun h => h.elim (fun h => absurd h.1 (by decide)) (fun h => h.elim (fun h => absurd h.1 (by decide)) (fun h => h.elim (fun h => absurd h.1 (by decide)) (fun h => h.elim (fun h => absurd h.1 (by decide)) (fun h => h.elim (fun h => absurd h.1 (by decide)) (fun h => absurd h.1 (by decide))))))))).trans ((funext fun i0 => frM_52 339 i0 (fun h => h.elim (fun h => absurd h.1 (by decide)) (fun h => h.elim (fun h => absurd h.1 (by decide)) (fun h => h.elim (fun h => absurd h.1 (by decide)) (fun h => h.elim (fun h => absurd h.1 (by decide)) (fun h => h.elim (fun h => absurd h.1 (by decide)) (fun h => absurd h.1 (by decide)))))))).trans (ax_up_rowmiss (by decide) ((funext fun i0 => frM_25 339 i0 (fun h => h.elim (fun h => absurd h.1 (by decide)) (fun h => h.elim (fun h => absurd h.1 (by decide)) (fun h => h.elim (fun h => absurd h.1 (by decide)) (fun h => h.elim (fun h => absurd h.1 (by decide)) (fun h => h.elim (fun h => absurd h.1 (by decide)) (fun h => h.elim (fun h => absurd h.1 (by decide)) (fun h => absurd h.1 (by decide))))))))).trans ((funext fun i0 => frM_6 339 i0 (fun h => h.elim (fun h => absurd h.1 (by decide)) (fun h => h.elim (fun h => absurd h.1 (by decide)) (fun h => h.elim (fun h => absurd h.1 (by decide)) (fun h => absurd h.1 (by decide)))))).trans hta))))) rfl rfl rfl rfl ((frM_62 330 17 (fun h => h.elim (fun h => absurd h.2 (by decide)) (fun h => h.elim (fun h => absurd h.2 (by decide)) (fun h => h.elim (fun h => absurd h.2 (by decide)) (fun h => h.elim (fun h => absurd h.2 (by decide)) (fun h => h.elim (fun h => absurd h.2 (by decide)) (fun h => h.elim (fun h => absurd h.2 (by decide)) (fun h => absurd h.2 (by decide))))))))).trans ((frM_52 330 17 (fun h => h.elim (fun h => absurd h.2 (by decide)) (fun h => h.elim (fun h => absurd h.2 (by decide)) (fun h => h.elim (fun h => absurd h.2 (by decide)) (fun h => h.elim (fun h => absurd h.2 (by decide)) (fun h => h.elim (fun h => absurd h.2 (by decide)) (fun h => absurd h.2 (by decide)))))))).trans (ax_up_miss (by decide) ((frM_25 330 17 (fun h => h.elim (fun h => absurd h.2 (by decide)) (fun h => h.elim (fun h => absurd h.2 (by decide)) (fun h => h.elim (fun h => absurd h.2 (by decide)) (fun h => h.elim (fun h => absurd h.2 (by decide)) (fun h => h.elim (fun h => absurd h.2 (by decide)) (fun h => h.elim (fun h => absurd h.2 (by decide)) (fun h => absurd h.2 (by decide))))))))).trans ((frM_6 330 17 (fun h => h.elim (fun h => absurd h.2 (by decide)) (fun h => h.elim (fun h => absurd h.2 (by decide)) (fun h => h.elim (fun h => absurd h.2 (by decide)) (fun h => absurd h.2 (by decide)))))).trans htn))))) ((frM_62 330 13 (fun h => h.elim (fun h => absurd h.2 (by decide)) (fun h => h.elim (fun h => absurd h.2 (by decide)) (fun h => h.elim (fun h => absurd h.2 (by decide)) (fun h => h.elim (fun h => absurd h.2 (by decide)) (fun h => h.elim (fun h => absurd h.2 (by decide)) (fun h => h.elim (fun h => absurd h.2 (by decide)) (fun h => absurd h.2 (by decide))))))))).trans ((frM_52 330 13 (fun h => h.elim (fun h => absurd h.2 (by decide)) (fun h => h.elim (fun h => absurd h.2 (by decide)) (fun h => h.elim (fun h => absurd h.2 (by decide)) (fun h => h.elim (fun h => absurd h.2 (by decide)) (fun h => h.elim (fun h => absurd h.2 (by decide)) (fun h => absurd h.2 (by decide)))))))).trans (ax_up_miss (by decide) ((frM_25 330 13 (fun h => h.elim (fun h => absurd h.2 (by decide)) (fun h => h.elim (fun h => absurd h.2 (by decide)) (fun h => h.elim (fun h => absurd h.2 (by decide)) (fun h => h.elim (fun h => absurd h.2 (by decide)) (fun h => h.elim (fun h => absurd h.2 (by decide)) (fun h => h.elim (fun h => absurd h.2 (by decide)) (fun h => absurd h.2 (by decide))))))))).trans ((frM_6 330 13 (fun h => h.elim (fun h => absurd h.2 (by decide)) (fun h => h.elim (fun h => absurd h.2 (by decide)) (fun h => h.elim (fun h => absurd h.2 (by decide)) (fun h => absurd h.2 (by decide)))))).trans hrd))))) (by first | omega | assumption) (by first | omega | assumption) (by first | omega | assumption) (by first | omega | assumption)) (pc' := 82) rfl (fun vv M_79 hq co79 hcm79 => ?_)
            obtain ⟨rfl, frM_79, fa79_0, fa79_1⟩ := hq
            refine ax_reS (st2 := [.inl (f_rb (f_ned 159 LE))]) rfl ?_
            have cc79 : -2147483648 ≤ f_rb (f_ned 159 LE) ∧ f_rb (f_ned 159 LE) < 2147483648 := co79 _ rfl
            refine ax_if_ne (tgt := 87) dX12_aStep_82 (by decide) (pc' := 85) rfl (fun h82 => ?_) (fun h82 => ?_)
            · obtain ⟨L8, o8, qr8⟩ := f_rb_ok h82
              rw [qr8] at fa79_0
              have qc8 := fa79_0
              have qg8 := f_ned_inr qr8
              have qR8 := f_cur_rg qc8
              have qh8 := f_cur_hd qc8
              have qz : f_stp L = .inr (L8, [(to, M_25 330 27, M_62 330 27)]) := by
                rw [qbE]
                unfold f_stE
                rw [qr8]
                rfl
              refine ax_aload_n dX12_aStep_87 rfl rfl (pc' := 88) rfl ?_
              refine ax_iload_n dX12_aStep_88 rfl rfl (pc' := 89) rfl ?_
              refine ax_iload_n dX12_aStep_89 rfl rfl (pc' := 90) rfl ?_
              refine ax_iload_n dX12_aStep_90 rfl rfl (pc' := 91) rfl ?_
              refine ax_invG [.inl to, .inl (M_25 330 27), .inl (M_62 330 27)] [] dX12_aStep_91 mlX12_289 sh_330 rfl rfl rfl (Nat.le_of_ble_eq_true rfl) (s_X12_tells E l _ (by omega) _ to (M_25 330 27) (M_62 330 27) ((funext fun i0 => frM_79 337 i0 (fun h => h.elim (fun h => absurd h.1 (by decide)) (fun h => h.elim (fun h => absurd h.1 (by decide)) (fun h => h.elim (fun h => absurd h.1 (by decide)) (fun h => h.elim (fun h => absurd h.1 (by decide)) (fun h => h.elim (fun h => absurd h.1 (by decide)) (fun h => absurd h.1 (by decide)))))))).trans ((funext fun i0 => frM_62 337 i0 (fun h => h.elim (fun h => absurd h.1 (by decide)) (fun h => h.elim (fun h => absurd h.1 (by decide)) (fun h => h.elim (fun h => absurd h.1 (by decide)) (fun h => h.elim (fun h => absurd h.1 (by decide)) (fun h => h.elim (fun h => absurd h.1 (by decide)) (fun h => h.elim (fun h => absurd h.1 (by decide)) (fun h => absurd h.1 (by decide))))))))).trans ((funext fun i0 => frM_52 337 i0 (fun h => h.elim (fun h => absurd h.1 (by decide)) (fun h => h.elim (fun h => absurd h.1 (by decide)) (fun h => h.elim (fun h => absurd h.1 (by decide)) (fun h => h.elim (fun h => absurd h.1 (by decide)) (fun h => h.elim (fun h => absurd h.1 (by decide)) (fun h => absurd h.1 (by decide)))))))).trans (ax_up_rowmiss (by decide) ((funext fun i0 => frM_25 337 i0 (fun h => h.elim (fun h => absurd h.1 (by decide)) (fun h => h.elim (fun h => absurd h.1 (by decide)) (fun h => h.elim (fun h => absurd h.1 (by decide)) (fun h => h.elim (fun h => absurd h.1 (by decide)) (fun h => h.elim (fun h => absurd h.1 (by decide)) (fun h => h.elim (fun h => absurd h.1 (by decide)) (fun h => absurd h.1 (by decide))))))))).trans ((funext fun i0 => frM_6 337 i0 (fun h => h.elim (fun h => absurd h.1 (by decide)) (fun h => h.elim (fun h => absurd h.1 (by decide)) (fun h => h.elim (fun h => absurd h.1 (by decide)) (fun h => absurd h.1 (by decide)))))).trans hfd)))))) ((frM_79 330 16 (fun h => h.elim (fun h => absurd h.2 (by decide)) (fun h => h.elim (fun h => absurd h.2 (by decide)) (fun h => h.elim (fun h => absurd h.2 (by decide)) (fun h => h.elim (fun h => absurd h.2 (by decide)) (fun h => h.elim (fun h => absurd h.2 (by decide)) (fun h => absurd h.2 (by decide)))))))).trans ((frM_62 330 16 (fun h => h.elim (fun h => absurd h.2 (by decide)) (fun h => h.elim (fun h => absurd h.2 (by decide)) (fun h => h.elim (fun h => absurd h.2 (by decide)) (fun h => h.elim (fun h => absurd h.2 (by decide)) (fun h => h.elim (fun h => absurd h.2 (by decide)) (fun h => h.elim (fun h => absurd h.2 (by decide)) (fun h => absurd h.2 (by decide))))))))).trans ((frM_52 330 16 (fun h => h.elim (fun h => absurd h.2 (by decide)) (fun h => h.elim (fun h => absurd h.2 (by decide)) (fun h => h.elim (fun h => absurd h.2 (by decide)) (fun h => h.elim (fun h => absurd h.2 (by decide)) (fun h => h.elim (fun h => absurd h.2 (by decide)) (fun h => absurd h.2 (by decide)))))))).trans (ax_up_miss (by decide) ((frM_25 330 16 (fun h => h.elim (fun h => absurd h.2 (by decide)) (fun h => h.elim (fun h => absurd h.2 (by decide)) (fun h => h.elim (fun h => absurd h.2 (by decide)) (fun h => h.elim (fun h => absurd h.2 (by decide)) (fun h => h.elim (fun h => absurd h.2 (by decide)) (fun h => h.elim (fun h => absurd h.2 (by decide)) (fun h => absurd h.2 (by decide))))))))).trans ((frM_6 330 16 (fun h => h.elim (fun h => absurd h.2 (by decide)) (fun h => h.elim (fun h => absurd h.2 (by decide)) (fun h => h.elim (fun h => absurd h.2 (by decide)) (fun h => absurd h.2 (by decide)))))).trans hdn)))))) (by first | omega | assumption)) (pc' := 94) rfl (fun vv M_91 hq co91 hcm91 => ?_)
              obtain ⟨rfl, frM_91, mrM_91_0, msM_91_0⟩ := hq
              refine ax_reS (st2 := []) rfl ?_
              refine ax_iconst dX12_aStep_94 (by decide) (pc' := 95) rfl ?_
              refine ax_zret dX12_aStep_95 rfl (by decide) ?_
              refine ⟨rfl, ?_, ?_, ?_, ?_⟩
              · refine congrArg (fun z => some (Sum.inl z)) ?_
                rw [qz]
                rfl
              · intro x0 i0 hai
                exact ((frM_91 x0 i0 (fun h => h.elim (fun h => hai (Or.inr (Or.inr (Or.inr (Or.inr (Or.inr (Or.inr (Or.inl h)))))))) (fun h => hai (Or.inr (Or.inr (Or.inr (Or.inr (Or.inr (Or.inr (Or.inr (Or.inl h))))))))))).trans ((frM_79 x0 i0 (fun h => h.elim (fun h => hai (Or.inl h)) (fun h => h.elim (fun h => hai (Or.inr (Or.inl h))) (fun h => h.elim (fun h => hai (Or.inr (Or.inr (Or.inl h)))) (fun h => h.elim (fun h => hai (Or.inr (Or.inr (Or.inr (Or.inl h))))) (fun h => h.elim (fun h => hai (Or.inr (Or.inr (Or.inr (Or.inr (Or.inl h)))))) (fun h => hai (Or.inr (Or.inr (Or.inr (Or.inr (Or.inr (Or.inl h))))))))))))).trans ((frM_62 x0 i0 (fun h => h.elim (fun h => hai (Or.inl h)) (fun h => h.elim (fun h => hai (Or.inr (Or.inl h))) (fun h => h.elim (fun h => hai (Or.inr (Or.inr (Or.inl h)))) (fun h => h.elim (fun h => hai (Or.inr (Or.inr (Or.inr (Or.inl h))))) (fun h => h.elim (fun h => hai (Or.inr (Or.inr (Or.inr (Or.inr (Or.inl h)))))) (fun h => h.elim (fun h => hai (Or.inr (Or.inr (Or.inr (Or.inr (Or.inr (Or.inl h))))))) (fun h => hai (Or.inr (Or.inr (Or.inr (Or.inr (Or.inr (Or.inr (Or.inr (Or.inr h)))))))))))))))).trans ((frM_52 x0 i0 (fun h => h.elim (fun h => hai (Or.inl h)) (fun h => h.elim (fun h => hai (Or.inr (Or.inl h))) (fun h => h.elim (fun h => hai (Or.inr (Or.inr (Or.inl h)))) (fun h => h.elim (fun h => hai (Or.inr (Or.inr (Or.inr (Or.inl h))))) (fun h => h.elim (fun h => hai (Or.inr (Or.inr (Or.inr (Or.inr (Or.inl h)))))) (fun h => hai (Or.inr (Or.inr (Or.inr (Or.inr (Or.inr (Or.inl h))))))))))))).trans (ax_up_miss (fun h => hai (Or.inr (Or.inr (Or.inr (Or.inr (Or.inr (Or.inr (Or.inr (Or.inr h))))))))) ((frM_25 x0 i0 (fun h => h.elim (fun h => hai (Or.inl h)) (fun h => h.elim (fun h => hai (Or.inr (Or.inl h))) (fun h => h.elim (fun h => hai (Or.inr (Or.inr (Or.inl h)))) (fun h => h.elim (fun h => hai (Or.inr (Or.inr (Or.inr (Or.inl h))))) (fun h => h.elim (fun h => hai (Or.inr (Or.inr (Or.inr (Or.inr (Or.inl h)))))) (fun h => h.elim (fun h => hai (Or.inr (Or.inr (Or.inr (Or.inr (Or.inr (Or.inl h))))))) (fun h => hai (Or.inr (Or.inr (Or.inr (Or.inr (Or.inr (Or.inr (Or.inr (Or.inr h)))))))))))))))).trans ((frM_6 x0 i0 (fun h => h.elim (fun h => hai (Or.inl h)) (fun h => h.elim (fun h => hai (Or.inr (Or.inl h))) (fun h => h.elim (fun h => hai (Or.inr (Or.inr (Or.inl h)))) (fun h => hai (Or.inr (Or.inr (Or.inr (Or.inl h))))))))).trans rfl)))))))
              · refine f_dok_ok qz (Eq.trans mrM_91_0 ?_) (Eq.trans msM_91_0 ?_) qc8 ((frM_91 330 18 (fun h => h.elim (fun h => absurd h (by decide)) (fun h => absurd h.2 (by decide)))).trans rfl) ((frM_91 330 19 (fun h => h.elim (fun h => absurd h (by decide)) (fun h => absurd h.2 (by decide)))).trans rfl) ((frM_91 330 20 (fun h => h.elim (fun h => absurd h (by decide)) (fun h => absurd h.2 (by decide)))).trans rfl) ((frM_91 330 21 (fun h => h.elim (fun h => absurd h (by decide)) (fun h => absurd h.2 (by decide)))).trans rfl)
                · rfl
                · rfl
              · have q9 : M_91 330 21 = M_79 330 21 := ((frM_91 330 21 (fun h => h.elim (fun h => absurd h (by decide)) (fun h => absurd h.2 (by decide)))).trans rfl)
                have q9b : 0 ≤ M_79 330 21 ∧ M_79 330 21 ≤ 9999 := by omega
                exact f_r9 q9 q9b
            · obtain ⟨kk8, ss8, qr8⟩ := f_rb_no h82
              rw [qr8] at fa79_0
              have qz : f_stp L = .inl (kk8, ss8) := by
                rw [qbE]
                unfold f_stE
                rw [qr8]
                rfl
              refine ax_iconst dX12_aStep_85 (by decide) (pc' := 86) rfl ?_
              refine ax_zret dX12_aStep_86 rfl (by decide) ?_
              refine ⟨rfl, ?_, ?_, ?_, ?_⟩
              · refine congrArg (fun z => some (Sum.inl z)) ?_
                rw [qz]
                rfl
              · intro x0 i0 hai
                exact ((frM_79 x0 i0 (fun h => h.elim (fun h => hai (Or.inl h)) (fun h => h.elim (fun h => hai (Or.inr (Or.inl h))) (fun h => h.elim (fun h => hai (Or.inr (Or.inr (Or.inl h)))) (fun h => h.elim (fun h => hai (Or.inr (Or.inr (Or.inr (Or.inl h))))) (fun h => h.elim (fun h => hai (Or.inr (Or.inr (Or.inr (Or.inr (Or.inl h)))))) (fun h => hai (Or.inr (Or.inr (Or.inr (Or.inr (Or.inr (Or.inl h))))))))))))).trans ((frM_62 x0 i0 (fun h => h.elim (fun h => hai (Or.inl h)) (fun h => h.elim (fun h => hai (Or.inr (Or.inl h))) (fun h => h.elim (fun h => hai (Or.inr (Or.inr (Or.inl h)))) (fun h => h.elim (fun h => hai (Or.inr (Or.inr (Or.inr (Or.inl h))))) (fun h => h.elim (fun h => hai (Or.inr (Or.inr (Or.inr (Or.inr (Or.inl h)))))) (fun h => h.elim (fun h => hai (Or.inr (Or.inr (Or.inr (Or.inr (Or.inr (Or.inl h))))))) (fun h => hai (Or.inr (Or.inr (Or.inr (Or.inr (Or.inr (Or.inr (Or.inr (Or.inr h)))))))))))))))).trans ((frM_52 x0 i0 (fun h => h.elim (fun h => hai (Or.inl h)) (fun h => h.elim (fun h => hai (Or.inr (Or.inl h))) (fun h => h.elim (fun h => hai (Or.inr (Or.inr (Or.inl h)))) (fun h => h.elim (fun h => hai (Or.inr (Or.inr (Or.inr (Or.inl h))))) (fun h => h.elim (fun h => hai (Or.inr (Or.inr (Or.inr (Or.inr (Or.inl h)))))) (fun h => hai (Or.inr (Or.inr (Or.inr (Or.inr (Or.inr (Or.inl h))))))))))))).trans (ax_up_miss (fun h => hai (Or.inr (Or.inr (Or.inr (Or.inr (Or.inr (Or.inr (Or.inr (Or.inr h))))))))) ((frM_25 x0 i0 (fun h => h.elim (fun h => hai (Or.inl h)) (fun h => h.elim (fun h => hai (Or.inr (Or.inl h))) (fun h => h.elim (fun h => hai (Or.inr (Or.inr (Or.inl h)))) (fun h => h.elim (fun h => hai (Or.inr (Or.inr (Or.inr (Or.inl h))))) (fun h => h.elim (fun h => hai (Or.inr (Or.inr (Or.inr (Or.inr (Or.inl h)))))) (fun h => h.elim (fun h => hai (Or.inr (Or.inr (Or.inr (Or.inr (Or.inr (Or.inl h))))))) (fun h => hai (Or.inr (Or.inr (Or.inr (Or.inr (Or.inr (Or.inr (Or.inr (Or.inr h)))))))))))))))).trans ((frM_6 x0 i0 (fun h => h.elim (fun h => hai (Or.inl h)) (fun h => h.elim (fun h => hai (Or.inr (Or.inl h))) (fun h => h.elim (fun h => hai (Or.inr (Or.inr (Or.inl h)))) (fun h => hai (Or.inr (Or.inr (Or.inr (Or.inl h))))))))).trans rfl))))))
              · exact f_dok_no qz fa79_0.1 fa79_0.2
              · have q9 : M_79 330 21 = M_79 330 21 := rfl
                have q9b : 0 ≤ M_79 330 21 ∧ M_79 330 21 ≤ 9999 := by omega
                exact f_r9 q9 q9b
          · obtain ⟨kk4, ss4, qr4⟩ := f_rb_no h65
            rw [qr4] at fa62_0
            have qz : f_stp L = .inl (kk4, ss4) := by
              rw [qb4, qr4]
              rfl
            have qfa := fa62_0
            refine ax_iconst dX12_aStep_68 (by decide) (pc' := 69) rfl ?_
            refine ax_zret dX12_aStep_69 rfl (by decide) ?_
            refine ⟨rfl, ?_, ?_, ?_, ?_⟩
            · refine congrArg (fun z => some (Sum.inl z)) ?_
              rw [qz]
              rfl
            · intro x0 i0 hai
              exact ((frM_62 x0 i0 (fun h => h.elim (fun h => hai (Or.inl h)) (fun h => h.elim (fun h => hai (Or.inr (Or.inl h))) (fun h => h.elim (fun h => hai (Or.inr (Or.inr (Or.inl h)))) (fun h => h.elim (fun h => hai (Or.inr (Or.inr (Or.inr (Or.inl h))))) (fun h => h.elim (fun h => hai (Or.inr (Or.inr (Or.inr (Or.inr (Or.inl h)))))) (fun h => h.elim (fun h => hai (Or.inr (Or.inr (Or.inr (Or.inr (Or.inr (Or.inl h))))))) (fun h => hai (Or.inr (Or.inr (Or.inr (Or.inr (Or.inr (Or.inr (Or.inr (Or.inr h)))))))))))))))).trans ((frM_52 x0 i0 (fun h => h.elim (fun h => hai (Or.inl h)) (fun h => h.elim (fun h => hai (Or.inr (Or.inl h))) (fun h => h.elim (fun h => hai (Or.inr (Or.inr (Or.inl h)))) (fun h => h.elim (fun h => hai (Or.inr (Or.inr (Or.inr (Or.inl h))))) (fun h => h.elim (fun h => hai (Or.inr (Or.inr (Or.inr (Or.inr (Or.inl h)))))) (fun h => hai (Or.inr (Or.inr (Or.inr (Or.inr (Or.inr (Or.inl h))))))))))))).trans (ax_up_miss (fun h => hai (Or.inr (Or.inr (Or.inr (Or.inr (Or.inr (Or.inr (Or.inr (Or.inr h))))))))) ((frM_25 x0 i0 (fun h => h.elim (fun h => hai (Or.inl h)) (fun h => h.elim (fun h => hai (Or.inr (Or.inl h))) (fun h => h.elim (fun h => hai (Or.inr (Or.inr (Or.inl h)))) (fun h => h.elim (fun h => hai (Or.inr (Or.inr (Or.inr (Or.inl h))))) (fun h => h.elim (fun h => hai (Or.inr (Or.inr (Or.inr (Or.inr (Or.inl h)))))) (fun h => h.elim (fun h => hai (Or.inr (Or.inr (Or.inr (Or.inr (Or.inr (Or.inl h))))))) (fun h => hai (Or.inr (Or.inr (Or.inr (Or.inr (Or.inr (Or.inr (Or.inr (Or.inr h)))))))))))))))).trans ((frM_6 x0 i0 (fun h => h.elim (fun h => hai (Or.inl h)) (fun h => h.elim (fun h => hai (Or.inr (Or.inl h))) (fun h => h.elim (fun h => hai (Or.inr (Or.inr (Or.inl h)))) (fun h => hai (Or.inr (Or.inr (Or.inr (Or.inl h))))))))).trans rfl)))))
            · exact f_dok_no qz qfa.1 qfa.2
            · have q9 : M_62 330 21 = M_62 330 21 := rfl
              have q9b : 0 ≤ M_62 330 21 ∧ M_62 330 21 ≤ 9999 := by omega
              exact f_r9 q9 q9b
    · obtain ⟨kk2, ss2, qr2⟩ := f_rb_no h28
      rw [qr2] at fa25_0
      have qz : f_stp L = .inl (kk2, ss2) := by
        rw [qb, qr2]
        rfl
      refine ax_iconst dX12_aStep_31 (by decide) (pc' := 32) rfl ?_
      refine ax_zret dX12_aStep_32 rfl (by decide) ?_
      refine ⟨rfl, ?_, ?_, ?_, ?_⟩
      · refine congrArg (fun z => some (Sum.inl z)) ?_
        rw [qz]
        rfl
      · intro x0 i0 hai
        exact ((frM_25 x0 i0 (fun h => h.elim (fun h => hai (Or.inl h)) (fun h => h.elim (fun h => hai (Or.inr (Or.inl h))) (fun h => h.elim (fun h => hai (Or.inr (Or.inr (Or.inl h)))) (fun h => h.elim (fun h => hai (Or.inr (Or.inr (Or.inr (Or.inl h))))) (fun h => h.elim (fun h => hai (Or.inr (Or.inr (Or.inr (Or.inr (Or.inl h)))))) (fun h => h.elim (fun h => hai (Or.inr (Or.inr (Or.inr (Or.inr (Or.inr (Or.inl h))))))) (fun h => hai (Or.inr (Or.inr (Or.inr (Or.inr (Or.inr (Or.inr (Or.inr (Or.inr h)))))))))))))))).trans ((frM_6 x0 i0 (fun h => h.elim (fun h => hai (Or.inl h)) (fun h => h.elim (fun h => hai (Or.inr (Or.inl h))) (fun h => h.elim (fun h => hai (Or.inr (Or.inr (Or.inl h)))) (fun h => hai (Or.inr (Or.inr (Or.inr (Or.inl h))))))))).trans rfl))
      · exact f_dok_no qz fa25_0.1 fa25_0.2
      · have q9 : M_25 330 21 = M_25 330 21 := rfl
        have q9b : 0 ≤ M_25 330 21 ∧ M_25 330 21 ≤ 9999 := by omega
        exact f_r9 q9 q9b
  · have qlo : (if f_T L = 14 then (1 : Int) else 0) = 1 := if_pos (by omega)
    refine ax_iconst dX12_aStep_16 (by decide) (pc' := 17) rfl ?_
    refine ax_goto dX12_aStep_17 (pc' := 21) (by decide) ?_
    refine ax_iload_n dX12_aStep_21 rfl rfl (pc' := 22) rfl ?_
    refine ax_insG [.inl to] [.inl 1, .inr 330] dX12_aStep_22 mlX12_282 rfl rfl (Nat.le_of_ble_eq_true rfl) (s_X12_greatestOf E l _ (by omega) _ to) (pc' := 25) rfl (fun vv M_22 hq co22 hcm22 => ?_)
    obtain ⟨rfl, rfl⟩ := hq
    refine ax_reS (st2 := [.inl (f_gst to), .inl 1, .inr 330]) rfl ?_
    have cc22 : -2147483648 ≤ f_gst to ∧ f_gst to < 2147483648 := co22 _ rfl
    have qb : f_stp L = f_bd (f_nbr 1 (f_gst to) L9) (fun L2 => if to = 10 then f_stT (f_V L9) L2 else f_stE (to, f_V L9, 0) L2) := by
      unfold f_stp
      rw [qlo, qh.1, qt9]
    refine ax_invG [.inl 1, .inl (f_gst to)] [] dX12_aStep_25 mlX12_285 sh_330 rfl rfl rfl (Nat.le_of_ble_eq_true rfl) (s_X12_number E l _ (by omega) _ 1 (f_gst to) L9 ((funext fun i0 => frM_6 339 i0 (fun h => h.elim (fun h => absurd h.1 (by decide)) (fun h => h.elim (fun h => absurd h.1 (by decide)) (fun h => h.elim (fun h => absurd h.1 (by decide)) (fun h => absurd h.1 (by decide)))))).trans hta) msM_6_0 msM_6_1 msM_6_2 msM_6_3 ((frM_6 330 17 (fun h => h.elim (fun h => absurd h.2 (by decide)) (fun h => h.elim (fun h => absurd h.2 (by decide)) (fun h => h.elim (fun h => absurd h.2 (by decide)) (fun h => absurd h.2 (by decide)))))).trans htn) ((frM_6 330 13 (fun h => h.elim (fun h => absurd h.2 (by decide)) (fun h => h.elim (fun h => absurd h.2 (by decide)) (fun h => h.elim (fun h => absurd h.2 (by decide)) (fun h => absurd h.2 (by decide)))))).trans hrd) (by first | omega | assumption) (by first | omega | assumption) (by first | omega | assumption)) (pc' := 28) rfl (fun vv M_25 hq co25 hcm25 => ?_)
    obtain ⟨rfl, frM_25, fa25_0, fa25_1, fa25_2⟩ := hq
    refine ax_reS (st2 := [.inl (f_rb (f_nbr 1 (f_gst to) L9))]) rfl ?_
    have cc25 : -2147483648 ≤ f_rb (f_nbr 1 (f_gst to) L9) ∧ f_rb (f_nbr 1 (f_gst to) L9) < 2147483648 := co25 _ rfl
    refine ax_if_ne (tgt := 33) dX12_aStep_28 (by decide) (pc' := 31) rfl (fun h28 => ?_) (fun h28 => ?_)
    · have qn2 := fa25_1 h28
      obtain ⟨L2, o2, qr2⟩ := f_rb_ok h28
      rw [qr2] at fa25_0
      have qc2 := fa25_0
      have qg2 := f_nbr_inr qr2
      have qR2 := f_cur_rg qc2
      have qh2 := f_cur_hd qc2
      have qb2 : f_stp L = if to = 10 then f_stT (f_V L9) L2 else f_stE (to, f_V L9, 0) L2 := by
        rw [qb, qr2]
        rfl
      refine ax_aload_n dX12_aStep_33 rfl rfl (pc' := 34) rfl ?_
      refine ax_geti (v := M_25 330 27) dX12_aStep_34 flX12_276 rfl sh_330 rfl rfl (pc' := 37) rfl ?_
      refine ax_istore_n dX12_aStep_37 rfl (by decide) (ls' := [some (.inr 330), some (.inl to), some (.inl (M_25 330 27)), none]) rfl (pc' := 38) rfl ?_
      refine ax_aload_n dX12_aStep_38 rfl rfl (pc' := 39) rfl ?_
      refine ax_iconst dX12_aStep_39 (by decide) (pc' := 40) rfl ?_
      refine ax_puti dX12_aStep_40 flX12_276 (Or.inl rfl) sh_330 rfl (pc' := 43) rfl ?_
      refine ax_iload_n dX12_aStep_43 rfl rfl (pc' := 44) rfl ?_
      refine ax_bipush dX12_aStep_44 (by decide) (pc' := 46) rfl ?_
      refine ax_icmp_ne (tgt := 70) dX12_aStep_46 (by decide) (pc' := 49) rfl (fun h46 => ?_) (fun h46 => ?_)
      · obtain ⟨LE, qLE⟩ : ∃ z, z = L2 := ⟨_, rfl⟩
        have qcE := qc2
        rw [← qLE] at qcE
        have qbE : f_stp L = f_stE (to, M_25 330 27, 0) LE := by
          rw [qb2, if_neg (by omega), qn2, qLE]
        refine ax_aload_n dX12_aStep_70 rfl rfl (pc' := 71) rfl ?_
        refine ax_geti (v := 0) dX12_aStep_71 flX12_276 rfl sh_330 (show (ax_up M_25 330 27 0) 330 27 = 0 from (ax_up_hit _ _ _ _)) rfl (pc' := 74) rfl ?_
        refine ax_istore_n dX12_aStep_74 rfl (by decide) (ls' := [some (.inr 330), some (.inl to), some (.inl (M_25 330 27)), some (.inl 0)]) rfl (pc' := 75) rfl ?_
        refine ax_aload_n dX12_aStep_75 rfl rfl (pc' := 76) rfl ?_
        refine ax_sipush dX12_aStep_76 (by decide) (pc' := 79) rfl ?_
        refine ax_invG [.inl 159] [] dX12_aStep_79 mlX12_264 sh_330 rfl rfl rfl (Nat.le_of_ble_eq_true rfl) (s_X12_needD E l _ (by omega) _ 159 LE (ax_up_rowmiss (by decide) ((funext fun i0 => frM_25 339 i0 (fun h => h.elim (fun h => absurd h.1 (by decide)) (fun h => h.elim (fun h => absurd h.1 (by decide)) (fun h => h.elim (fun h => absurd h.1 (by decide)) (fun h => h.elim (fun h => absurd h.1 (by decide)) (fun h => h.elim (fun h => absurd h.1 (by decide)) (fun h => h.elim (fun h => absurd h.1 (by decide)) (fun h => absurd h.1 (by decide))))))))).trans ((funext fun i0 => frM_6 339 i0 (fun h => h.elim (fun h => absurd h.1 (by decide)) (fun h => h.elim (fun h => absurd h.1 (by decide)) (fun h => h.elim (fun h => absurd h.1 (by decide)) (fun h => absurd h.1 (by decide)))))).trans hta))) (ax_up_miss (by decide) rfl) (ax_up_miss (by decide) rfl) (ax_up_miss (by decide) rfl) (ax_up_miss (by decide) rfl) (ax_up_miss (by decide) ((frM_25 330 17 (fun h => h.elim (fun h => absurd h.2 (by decide)) (fun h => h.elim (fun h => absurd h.2 (by decide)) (fun h => h.elim (fun h => absurd h.2 (by decide)) (fun h => h.elim (fun h => absurd h.2 (by decide)) (fun h => h.elim (fun h => absurd h.2 (by decide)) (fun h => h.elim (fun h => absurd h.2 (by decide)) (fun h => absurd h.2 (by decide))))))))).trans ((frM_6 330 17 (fun h => h.elim (fun h => absurd h.2 (by decide)) (fun h => h.elim (fun h => absurd h.2 (by decide)) (fun h => h.elim (fun h => absurd h.2 (by decide)) (fun h => absurd h.2 (by decide)))))).trans htn))) (ax_up_miss (by decide) ((frM_25 330 13 (fun h => h.elim (fun h => absurd h.2 (by decide)) (fun h => h.elim (fun h => absurd h.2 (by decide)) (fun h => h.elim (fun h => absurd h.2 (by decide)) (fun h => h.elim (fun h => absurd h.2 (by decide)) (fun h => h.elim (fun h => absurd h.2 (by decide)) (fun h => h.elim (fun h => absurd h.2 (by decide)) (fun h => absurd h.2 (by decide))))))))).trans ((frM_6 330 13 (fun h => h.elim (fun h => absurd h.2 (by decide)) (fun h => h.elim (fun h => absurd h.2 (by decide)) (fun h => h.elim (fun h => absurd h.2 (by decide)) (fun h => absurd h.2 (by decide)))))).trans hrd))) (by first | omega | assumption) (by first | omega | assumption) (by first | omega | assumption) (by first | omega | assumption)) (pc' := 82) rfl (fun vv M_79 hq co79 hcm79 => ?_)
        obtain ⟨rfl, frM_79, fa79_0, fa79_1⟩ := hq
        refine ax_reS (st2 := [.inl (f_rb (f_ned 159 LE))]) rfl ?_
        have cc79 : -2147483648 ≤ f_rb (f_ned 159 LE) ∧ f_rb (f_ned 159 LE) < 2147483648 := co79 _ rfl
        refine ax_if_ne (tgt := 87) dX12_aStep_82 (by decide) (pc' := 85) rfl (fun h82 => ?_) (fun h82 => ?_)
        · obtain ⟨L8, o8, qr8⟩ := f_rb_ok h82
          rw [qr8] at fa79_0
          have qc8 := fa79_0
          have qg8 := f_ned_inr qr8
          have qR8 := f_cur_rg qc8
          have qh8 := f_cur_hd qc8
          have qz : f_stp L = .inr (L8, [(to, M_25 330 27, 0)]) := by
            rw [qbE]
            unfold f_stE
            rw [qr8]
            rfl
          refine ax_aload_n dX12_aStep_87 rfl rfl (pc' := 88) rfl ?_
          refine ax_iload_n dX12_aStep_88 rfl rfl (pc' := 89) rfl ?_
          refine ax_iload_n dX12_aStep_89 rfl rfl (pc' := 90) rfl ?_
          refine ax_iload_n dX12_aStep_90 rfl rfl (pc' := 91) rfl ?_
          refine ax_invG [.inl to, .inl (M_25 330 27), .inl 0] [] dX12_aStep_91 mlX12_289 sh_330 rfl rfl rfl (Nat.le_of_ble_eq_true rfl) (s_X12_tells E l _ (by omega) _ to (M_25 330 27) 0 ((funext fun i0 => frM_79 337 i0 (fun h => h.elim (fun h => absurd h.1 (by decide)) (fun h => h.elim (fun h => absurd h.1 (by decide)) (fun h => h.elim (fun h => absurd h.1 (by decide)) (fun h => h.elim (fun h => absurd h.1 (by decide)) (fun h => h.elim (fun h => absurd h.1 (by decide)) (fun h => absurd h.1 (by decide)))))))).trans (ax_up_rowmiss (by decide) ((funext fun i0 => frM_25 337 i0 (fun h => h.elim (fun h => absurd h.1 (by decide)) (fun h => h.elim (fun h => absurd h.1 (by decide)) (fun h => h.elim (fun h => absurd h.1 (by decide)) (fun h => h.elim (fun h => absurd h.1 (by decide)) (fun h => h.elim (fun h => absurd h.1 (by decide)) (fun h => h.elim (fun h => absurd h.1 (by decide)) (fun h => absurd h.1 (by decide))))))))).trans ((funext fun i0 => frM_6 337 i0 (fun h => h.elim (fun h => absurd h.1 (by decide)) (fun h => h.elim (fun h => absurd h.1 (by decide)) (fun h => h.elim (fun h => absurd h.1 (by decide)) (fun h => absurd h.1 (by decide)))))).trans hfd)))) ((frM_79 330 16 (fun h => h.elim (fun h => absurd h.2 (by decide)) (fun h => h.elim (fun h => absurd h.2 (by decide)) (fun h => h.elim (fun h => absurd h.2 (by decide)) (fun h => h.elim (fun h => absurd h.2 (by decide)) (fun h => h.elim (fun h => absurd h.2 (by decide)) (fun h => absurd h.2 (by decide)))))))).trans (ax_up_miss (by decide) ((frM_25 330 16 (fun h => h.elim (fun h => absurd h.2 (by decide)) (fun h => h.elim (fun h => absurd h.2 (by decide)) (fun h => h.elim (fun h => absurd h.2 (by decide)) (fun h => h.elim (fun h => absurd h.2 (by decide)) (fun h => h.elim (fun h => absurd h.2 (by decide)) (fun h => h.elim (fun h => absurd h.2 (by decide)) (fun h => absurd h.2 (by decide))))))))).trans ((frM_6 330 16 (fun h => h.elim (fun h => absurd h.2 (by decide)) (fun h => h.elim (fun h => absurd h.2 (by decide)) (fun h => h.elim (fun h => absurd h.2 (by decide)) (fun h => absurd h.2 (by decide)))))).trans hdn)))) (by first | omega | assumption)) (pc' := 94) rfl (fun vv M_91 hq co91 hcm91 => ?_)
          obtain ⟨rfl, frM_91, mrM_91_0, msM_91_0⟩ := hq
          refine ax_reS (st2 := []) rfl ?_
          refine ax_iconst dX12_aStep_94 (by decide) (pc' := 95) rfl ?_
          refine ax_zret dX12_aStep_95 rfl (by decide) ?_
          refine ⟨rfl, ?_, ?_, ?_, ?_⟩
          · refine congrArg (fun z => some (Sum.inl z)) ?_
            rw [qz]
            rfl
          · intro x0 i0 hai
            exact ((frM_91 x0 i0 (fun h => h.elim (fun h => hai (Or.inr (Or.inr (Or.inr (Or.inr (Or.inr (Or.inr (Or.inl h)))))))) (fun h => hai (Or.inr (Or.inr (Or.inr (Or.inr (Or.inr (Or.inr (Or.inr (Or.inl h))))))))))).trans ((frM_79 x0 i0 (fun h => h.elim (fun h => hai (Or.inl h)) (fun h => h.elim (fun h => hai (Or.inr (Or.inl h))) (fun h => h.elim (fun h => hai (Or.inr (Or.inr (Or.inl h)))) (fun h => h.elim (fun h => hai (Or.inr (Or.inr (Or.inr (Or.inl h))))) (fun h => h.elim (fun h => hai (Or.inr (Or.inr (Or.inr (Or.inr (Or.inl h)))))) (fun h => hai (Or.inr (Or.inr (Or.inr (Or.inr (Or.inr (Or.inl h))))))))))))).trans (ax_up_miss (fun h => hai (Or.inr (Or.inr (Or.inr (Or.inr (Or.inr (Or.inr (Or.inr (Or.inr h))))))))) ((frM_25 x0 i0 (fun h => h.elim (fun h => hai (Or.inl h)) (fun h => h.elim (fun h => hai (Or.inr (Or.inl h))) (fun h => h.elim (fun h => hai (Or.inr (Or.inr (Or.inl h)))) (fun h => h.elim (fun h => hai (Or.inr (Or.inr (Or.inr (Or.inl h))))) (fun h => h.elim (fun h => hai (Or.inr (Or.inr (Or.inr (Or.inr (Or.inl h)))))) (fun h => h.elim (fun h => hai (Or.inr (Or.inr (Or.inr (Or.inr (Or.inr (Or.inl h))))))) (fun h => hai (Or.inr (Or.inr (Or.inr (Or.inr (Or.inr (Or.inr (Or.inr (Or.inr h)))))))))))))))).trans ((frM_6 x0 i0 (fun h => h.elim (fun h => hai (Or.inl h)) (fun h => h.elim (fun h => hai (Or.inr (Or.inl h))) (fun h => h.elim (fun h => hai (Or.inr (Or.inr (Or.inl h)))) (fun h => hai (Or.inr (Or.inr (Or.inr (Or.inl h))))))))).trans rfl)))))
          · refine f_dok_ok qz (Eq.trans mrM_91_0 ?_) (Eq.trans msM_91_0 ?_) qc8 ((frM_91 330 18 (fun h => h.elim (fun h => absurd h (by decide)) (fun h => absurd h.2 (by decide)))).trans rfl) ((frM_91 330 19 (fun h => h.elim (fun h => absurd h (by decide)) (fun h => absurd h.2 (by decide)))).trans rfl) ((frM_91 330 20 (fun h => h.elim (fun h => absurd h (by decide)) (fun h => absurd h.2 (by decide)))).trans rfl) ((frM_91 330 21 (fun h => h.elim (fun h => absurd h (by decide)) (fun h => absurd h.2 (by decide)))).trans rfl)
            · rfl
            · rfl
          · have q9 : M_91 330 21 = M_79 330 21 := ((frM_91 330 21 (fun h => h.elim (fun h => absurd h (by decide)) (fun h => absurd h.2 (by decide)))).trans rfl)
            have q9b : 0 ≤ M_79 330 21 ∧ M_79 330 21 ≤ 9999 := by omega
            exact f_r9 q9 q9b
        · obtain ⟨kk8, ss8, qr8⟩ := f_rb_no h82
          rw [qr8] at fa79_0
          have qz : f_stp L = .inl (kk8, ss8) := by
            rw [qbE]
            unfold f_stE
            rw [qr8]
            rfl
          refine ax_iconst dX12_aStep_85 (by decide) (pc' := 86) rfl ?_
          refine ax_zret dX12_aStep_86 rfl (by decide) ?_
          refine ⟨rfl, ?_, ?_, ?_, ?_⟩
          · refine congrArg (fun z => some (Sum.inl z)) ?_
            rw [qz]
            rfl
          · intro x0 i0 hai
            exact ((frM_79 x0 i0 (fun h => h.elim (fun h => hai (Or.inl h)) (fun h => h.elim (fun h => hai (Or.inr (Or.inl h))) (fun h => h.elim (fun h => hai (Or.inr (Or.inr (Or.inl h)))) (fun h => h.elim (fun h => hai (Or.inr (Or.inr (Or.inr (Or.inl h))))) (fun h => h.elim (fun h => hai (Or.inr (Or.inr (Or.inr (Or.inr (Or.inl h)))))) (fun h => hai (Or.inr (Or.inr (Or.inr (Or.inr (Or.inr (Or.inl h))))))))))))).trans (ax_up_miss (fun h => hai (Or.inr (Or.inr (Or.inr (Or.inr (Or.inr (Or.inr (Or.inr (Or.inr h))))))))) ((frM_25 x0 i0 (fun h => h.elim (fun h => hai (Or.inl h)) (fun h => h.elim (fun h => hai (Or.inr (Or.inl h))) (fun h => h.elim (fun h => hai (Or.inr (Or.inr (Or.inl h)))) (fun h => h.elim (fun h => hai (Or.inr (Or.inr (Or.inr (Or.inl h))))) (fun h => h.elim (fun h => hai (Or.inr (Or.inr (Or.inr (Or.inr (Or.inl h)))))) (fun h => h.elim (fun h => hai (Or.inr (Or.inr (Or.inr (Or.inr (Or.inr (Or.inl h))))))) (fun h => hai (Or.inr (Or.inr (Or.inr (Or.inr (Or.inr (Or.inr (Or.inr (Or.inr h)))))))))))))))).trans ((frM_6 x0 i0 (fun h => h.elim (fun h => hai (Or.inl h)) (fun h => h.elim (fun h => hai (Or.inr (Or.inl h))) (fun h => h.elim (fun h => hai (Or.inr (Or.inr (Or.inl h)))) (fun h => hai (Or.inr (Or.inr (Or.inr (Or.inl h))))))))).trans rfl))))
          · exact f_dok_no qz fa79_0.1 fa79_0.2
          · have q9 : M_79 330 21 = M_79 330 21 := rfl
            have q9b : 0 ≤ M_79 330 21 ∧ M_79 330 21 ≤ 9999 := by omega
            exact f_r9 q9 q9b
      · have qb3 : f_stp L = f_stT (f_V L9) L2 := by
          rw [qb2, if_pos (by omega)]
        refine ax_aload_n dX12_aStep_49 rfl rfl (pc' := 50) rfl ?_
        refine ax_bipush dX12_aStep_50 (by decide) (pc' := 52) rfl ?_
        refine ax_invG [.inl 16] [] dX12_aStep_52 mlX12_264 sh_330 rfl rfl rfl (Nat.le_of_ble_eq_true rfl) (s_X12_needD E l _ (by omega) _ 16 L2 (ax_up_rowmiss (by decide) ((funext fun i0 => frM_25 339 i0 (fun h => h.elim (fun h => absurd h.1 (by decide)) (fun h => h.elim (fun h => absurd h.1 (by decide)) (fun h => h.elim (fun h => absurd h.1 (by decide)) (fun h => h.elim (fun h => absurd h.1 (by decide)) (fun h => h.elim (fun h => absurd h.1 (by decide)) (fun h => h.elim (fun h => absurd h.1 (by decide)) (fun h => absurd h.1 (by decide))))))))).trans ((funext fun i0 => frM_6 339 i0 (fun h => h.elim (fun h => absurd h.1 (by decide)) (fun h => h.elim (fun h => absurd h.1 (by decide)) (fun h => h.elim (fun h => absurd h.1 (by decide)) (fun h => absurd h.1 (by decide)))))).trans hta))) (ax_up_miss (by decide) rfl) (ax_up_miss (by decide) rfl) (ax_up_miss (by decide) rfl) (ax_up_miss (by decide) rfl) (ax_up_miss (by decide) ((frM_25 330 17 (fun h => h.elim (fun h => absurd h.2 (by decide)) (fun h => h.elim (fun h => absurd h.2 (by decide)) (fun h => h.elim (fun h => absurd h.2 (by decide)) (fun h => h.elim (fun h => absurd h.2 (by decide)) (fun h => h.elim (fun h => absurd h.2 (by decide)) (fun h => h.elim (fun h => absurd h.2 (by decide)) (fun h => absurd h.2 (by decide))))))))).trans ((frM_6 330 17 (fun h => h.elim (fun h => absurd h.2 (by decide)) (fun h => h.elim (fun h => absurd h.2 (by decide)) (fun h => h.elim (fun h => absurd h.2 (by decide)) (fun h => absurd h.2 (by decide)))))).trans htn))) (ax_up_miss (by decide) ((frM_25 330 13 (fun h => h.elim (fun h => absurd h.2 (by decide)) (fun h => h.elim (fun h => absurd h.2 (by decide)) (fun h => h.elim (fun h => absurd h.2 (by decide)) (fun h => h.elim (fun h => absurd h.2 (by decide)) (fun h => h.elim (fun h => absurd h.2 (by decide)) (fun h => h.elim (fun h => absurd h.2 (by decide)) (fun h => absurd h.2 (by decide))))))))).trans ((frM_6 330 13 (fun h => h.elim (fun h => absurd h.2 (by decide)) (fun h => h.elim (fun h => absurd h.2 (by decide)) (fun h => h.elim (fun h => absurd h.2 (by decide)) (fun h => absurd h.2 (by decide)))))).trans hrd))) (by first | omega | assumption) (by first | omega | assumption) (by first | omega | assumption) (by first | omega | assumption)) (pc' := 55) rfl (fun vv M_52 hq co52 hcm52 => ?_)
        obtain ⟨rfl, frM_52, fa52_0, fa52_1⟩ := hq
        refine ax_reS (st2 := [.inl (f_rb (f_ned 16 L2))]) rfl ?_
        have cc52 : -2147483648 ≤ f_rb (f_ned 16 L2) ∧ f_rb (f_ned 16 L2) < 2147483648 := co52 _ rfl
        refine ax_if_eq (tgt := 68) dX12_aStep_55 (by decide) (pc' := 58) rfl (fun h55 => ?_) (fun h55 => ?_)
        · obtain ⟨kk3, ss3, qr3⟩ := f_rb_no h55
          rw [qr3] at fa52_0
          have qz : f_stp L = .inl (kk3, ss3) := by
            rw [qb3]
            unfold f_stT
            rw [qr3]
            rfl
          have qfa := fa52_0
          refine ax_iconst dX12_aStep_68 (by decide) (pc' := 69) rfl ?_
          refine ax_zret dX12_aStep_69 rfl (by decide) ?_
          refine ⟨rfl, ?_, ?_, ?_, ?_⟩
          · refine congrArg (fun z => some (Sum.inl z)) ?_
            rw [qz]
            rfl
          · intro x0 i0 hai
            exact ((frM_52 x0 i0 (fun h => h.elim (fun h => hai (Or.inl h)) (fun h => h.elim (fun h => hai (Or.inr (Or.inl h))) (fun h => h.elim (fun h => hai (Or.inr (Or.inr (Or.inl h)))) (fun h => h.elim (fun h => hai (Or.inr (Or.inr (Or.inr (Or.inl h))))) (fun h => h.elim (fun h => hai (Or.inr (Or.inr (Or.inr (Or.inr (Or.inl h)))))) (fun h => hai (Or.inr (Or.inr (Or.inr (Or.inr (Or.inr (Or.inl h))))))))))))).trans (ax_up_miss (fun h => hai (Or.inr (Or.inr (Or.inr (Or.inr (Or.inr (Or.inr (Or.inr (Or.inr h))))))))) ((frM_25 x0 i0 (fun h => h.elim (fun h => hai (Or.inl h)) (fun h => h.elim (fun h => hai (Or.inr (Or.inl h))) (fun h => h.elim (fun h => hai (Or.inr (Or.inr (Or.inl h)))) (fun h => h.elim (fun h => hai (Or.inr (Or.inr (Or.inr (Or.inl h))))) (fun h => h.elim (fun h => hai (Or.inr (Or.inr (Or.inr (Or.inr (Or.inl h)))))) (fun h => h.elim (fun h => hai (Or.inr (Or.inr (Or.inr (Or.inr (Or.inr (Or.inl h))))))) (fun h => hai (Or.inr (Or.inr (Or.inr (Or.inr (Or.inr (Or.inr (Or.inr (Or.inr h)))))))))))))))).trans ((frM_6 x0 i0 (fun h => h.elim (fun h => hai (Or.inl h)) (fun h => h.elim (fun h => hai (Or.inr (Or.inl h))) (fun h => h.elim (fun h => hai (Or.inr (Or.inr (Or.inl h)))) (fun h => hai (Or.inr (Or.inr (Or.inr (Or.inl h))))))))).trans rfl))))
          · exact f_dok_no qz qfa.1 qfa.2
          · have q9 : M_52 330 21 = M_52 330 21 := rfl
            have q9b : 0 ≤ M_52 330 21 ∧ M_52 330 21 ≤ 9999 := by omega
            exact f_r9 q9 q9b
        · obtain ⟨L3, o3, qr3⟩ := f_rb_ok h55
          rw [qr3] at fa52_0
          have qc3 := fa52_0
          have qg3 := f_ned_inr qr3
          have qR3 := f_cur_rg qc3
          have qh3 := f_cur_hd qc3
          have qb4 : f_stp L = f_bd (f_nbr 0 23 L3) (f_stE (10, f_V L9, f_V L3)) := by
            rw [qb3]
            unfold f_stT
            rw [qr3]
            rfl
          refine ax_aload_n dX12_aStep_58 rfl rfl (pc' := 59) rfl ?_
          refine ax_iconst dX12_aStep_59 (by decide) (pc' := 60) rfl ?_
          refine ax_bipush dX12_aStep_60 (by decide) (pc' := 62) rfl ?_
          refine ax_invG [.inl 0, .inl 23] [] dX12_aStep_62 mlX12_285 sh_330 rfl rfl rfl (Nat.le_of_ble_eq_true rfl) (s_X12_number E l _ (by omega) _ 0 23 L3 ((funext fun i0 => frM_52 339 i0 (fun h => h.elim (fun h => absurd h.1 (by decide)) (fun h => h.elim (fun h => absurd h.1 (by decide)) (fun h => h.elim (fun h => absurd h.1 (by decide)) (fun h => h.elim (fun h => absurd h.1 (by decide)) (fun h => h.elim (fun h => absurd h.1 (by decide)) (fun h => absurd h.1 (by decide)))))))).trans (ax_up_rowmiss (by decide) ((funext fun i0 => frM_25 339 i0 (fun h => h.elim (fun h => absurd h.1 (by decide)) (fun h => h.elim (fun h => absurd h.1 (by decide)) (fun h => h.elim (fun h => absurd h.1 (by decide)) (fun h => h.elim (fun h => absurd h.1 (by decide)) (fun h => h.elim (fun h => absurd h.1 (by decide)) (fun h => h.elim (fun h => absurd h.1 (by decide)) (fun h => absurd h.1 (by decide))))))))).trans ((funext fun i0 => frM_6 339 i0 (fun h => h.elim (fun h => absurd h.1 (by decide)) (fun h => h.elim (fun h => absurd h.1 (by decide)) (fun h => h.elim (fun h => absurd h.1 (by decide)) (fun h => absurd h.1 (by decide)))))).trans hta)))) rfl rfl rfl rfl ((frM_52 330 17 (fun h => h.elim (fun h => absurd h.2 (by decide)) (fun h => h.elim (fun h => absurd h.2 (by decide)) (fun h => h.elim (fun h => absurd h.2 (by decide)) (fun h => h.elim (fun h => absurd h.2 (by decide)) (fun h => h.elim (fun h => absurd h.2 (by decide)) (fun h => absurd h.2 (by decide)))))))).trans (ax_up_miss (by decide) ((frM_25 330 17 (fun h => h.elim (fun h => absurd h.2 (by decide)) (fun h => h.elim (fun h => absurd h.2 (by decide)) (fun h => h.elim (fun h => absurd h.2 (by decide)) (fun h => h.elim (fun h => absurd h.2 (by decide)) (fun h => h.elim (fun h => absurd h.2 (by decide)) (fun h => h.elim (fun h => absurd h.2 (by decide)) (fun h => absurd h.2 (by decide))))))))).trans ((frM_6 330 17 (fun h => h.elim (fun h => absurd h.2 (by decide)) (fun h => h.elim (fun h => absurd h.2 (by decide)) (fun h => h.elim (fun h => absurd h.2 (by decide)) (fun h => absurd h.2 (by decide)))))).trans htn)))) ((frM_52 330 13 (fun h => h.elim (fun h => absurd h.2 (by decide)) (fun h => h.elim (fun h => absurd h.2 (by decide)) (fun h => h.elim (fun h => absurd h.2 (by decide)) (fun h => h.elim (fun h => absurd h.2 (by decide)) (fun h => h.elim (fun h => absurd h.2 (by decide)) (fun h => absurd h.2 (by decide)))))))).trans (ax_up_miss (by decide) ((frM_25 330 13 (fun h => h.elim (fun h => absurd h.2 (by decide)) (fun h => h.elim (fun h => absurd h.2 (by decide)) (fun h => h.elim (fun h => absurd h.2 (by decide)) (fun h => h.elim (fun h => absurd h.2 (by decide)) (fun h => h.elim (fun h => absurd h.2 (by decide)) (fun h => h.elim (fun h => absurd h.2 (by decide)) (fun h => absurd h.2 (by decide))))))))).trans ((frM_6 330 13 (fun h => h.elim (fun h => absurd h.2 (by decide)) (fun h => h.elim (fun h => absurd h.2 (by decide)) (fun h => h.elim (fun h => absurd h.2 (by decide)) (fun h => absurd h.2 (by decide)))))).trans hrd)))) (by first | omega | assumption) (by first | omega | assumption) (by first | omega | assumption)) (pc' := 65) rfl (fun vv M_62 hq co62 hcm62 => ?_)
          obtain ⟨rfl, frM_62, fa62_0, fa62_1, fa62_2⟩ := hq
          refine ax_reS (st2 := [.inl (f_rb (f_nbr 0 23 L3))]) rfl ?_
          have cc62 : -2147483648 ≤ f_rb (f_nbr 0 23 L3) ∧ f_rb (f_nbr 0 23 L3) < 2147483648 := co62 _ rfl
          refine ax_if_ne (tgt := 70) dX12_aStep_65 (by decide) (pc' := 68) rfl (fun h65 => ?_) (fun h65 => ?_)
          · have qn4 := fa62_1 h65
            obtain ⟨L4, o4, qr4⟩ := f_rb_ok h65
            rw [qr4] at fa62_0
            have qc4 := fa62_0
            have qg4 := f_nbr_inr qr4
            have qR4 := f_cur_rg qc4
            have qh4 := f_cur_hd qc4
            obtain ⟨LE, qLE⟩ : ∃ z, z = L4 := ⟨_, rfl⟩
            have qcE := qc4
            rw [← qLE] at qcE
            have qbE : f_stp L = f_stE (to, M_25 330 27, M_62 330 27) LE := by
              rw [qb4, qr4, qn2, qn4, qLE, show to = 10 by omega]
              rfl
            refine ax_aload_n dX12_aStep_70 rfl rfl (pc' := 71) rfl ?_
            refine ax_geti (v := M_62 330 27) dX12_aStep_71 flX12_276 rfl sh_330 rfl rfl (pc' := 74) rfl ?_
            refine ax_istore_n dX12_aStep_74 rfl (by decide) (ls' := [some (.inr 330), some (.inl to), some (.inl (M_25 330 27)), some (.inl (M_62 330 27))]) rfl (pc' := 75) rfl ?_
            refine ax_aload_n dX12_aStep_75 rfl rfl (pc' := 76) rfl ?_
            refine ax_sipush dX12_aStep_76 (by decide) (pc' := 79) rfl ?_
            refine ax_invG [.inl 159] [] dX12_aStep_79 mlX12_264 sh_330 rfl rfl rfl (Nat.le_of_ble_eq_true rfl) (s_X12_needD E l _ (by omega) _ 159 LE ((funext fun i0 => frM_62 339 i0 (fun h => h.elim (fun h => absurd h.1 (by decide)) (fun h => h.elim (fun h => absurd h.1 (by decide)) (fun h => h.elim (fun h => absurd h.1 (by decide)) (fun h => h.elim (fun h => absurd h.1 (by decide)) (fun h => h.elim (fun h => absurd h.1 (by decide)) (fun h => h.elim (fun h => absurd h.1 (by decide)) (fun h => absurd h.1 (by decide))))))))).trans ((funext fun i0 => frM_52 339 i0 (fun h => h.elim (fun h => absurd h.1 (by decide)) (fun h => h.elim (fun h => absurd h.1 (by decide)) (fun h => h.elim (fun h => absurd h.1 (by decide)) (fun h => h.elim (fun h => absurd h.1 (by decide)) (fun h => h.elim (fun h => absurd h.1 (by decide)) (fun h => absurd h.1 (by decide)))))))).trans (ax_up_rowmiss (by decide) ((funext fun i0 => frM_25 339 i0 (fun h => h.elim (fun h => absurd h.1 (by decide)) (fun h => h.elim (fun h => absurd h.1 (by decide)) (fun h => h.elim (fun h => absurd h.1 (by decide)) (fun h => h.elim (fun h => absurd h.1 (by decide)) (fun h => h.elim (fun h => absurd h.1 (by decide)) (fun h => h.elim (fun h => absurd h.1 (by decide)) (fun h => absurd h.1 (by decide))))))))).trans ((funext fun i0 => frM_6 339 i0 (fun h => h.elim (fun h => absurd h.1 (by decide)) (fun h => h.elim (fun h => absurd h.1 (by decide)) (fun h => h.elim (fun h => absurd h.1 (by decide)) (fun h => absurd h.1 (by decide)))))).trans hta))))) rfl rfl rfl rfl ((frM_62 330 17 (fun h => h.elim (fun h => absurd h.2 (by decide)) (fun h => h.elim (fun h => absurd h.2 (by decide)) (fun h => h.elim (fun h => absurd h.2 (by decide)) (fun h => h.elim (fun h => absurd h.2 (by decide)) (fun h => h.elim (fun h => absurd h.2 (by decide)) (fun h => h.elim (fun h => absurd h.2 (by decide)) (fun h => absurd h.2 (by decide))))))))).trans ((frM_52 330 17 (fun h => h.elim (fun h => absurd h.2 (by decide)) (fun h => h.elim (fun h => absurd h.2 (by decide)) (fun h => h.elim (fun h => absurd h.2 (by decide)) (fun h => h.elim (fun h => absurd h.2 (by decide)) (fun h => h.elim (fun h => absurd h.2 (by decide)) (fun h => absurd h.2 (by decide)))))))).trans (ax_up_miss (by decide) ((frM_25 330 17 (fun h => h.elim (fun h => absurd h.2 (by decide)) (fun h => h.elim (fun h => absurd h.2 (by decide)) (fun h => h.elim (fun h => absurd h.2 (by decide)) (fun h => h.elim (fun h => absurd h.2 (by decide)) (fun h => h.elim (fun h => absurd h.2 (by decide)) (fun h => h.elim (fun h => absurd h.2 (by decide)) (fun h => absurd h.2 (by decide))))))))).trans ((frM_6 330 17 (fun h => h.elim (fun h => absurd h.2 (by decide)) (fun h => h.elim (fun h => absurd h.2 (by decide)) (fun h => h.elim (fun h => absurd h.2 (by decide)) (fun h => absurd h.2 (by decide)))))).trans htn))))) ((frM_62 330 13 (fun h => h.elim (fun h => absurd h.2 (by decide)) (fun h => h.elim (fun h => absurd h.2 (by decide)) (fun h => h.elim (fun h => absurd h.2 (by decide)) (fun h => h.elim (fun h => absurd h.2 (by decide)) (fun h => h.elim (fun h => absurd h.2 (by decide)) (fun h => h.elim (fun h => absurd h.2 (by decide)) (fun h => absurd h.2 (by decide))))))))).trans ((frM_52 330 13 (fun h => h.elim (fun h => absurd h.2 (by decide)) (fun h => h.elim (fun h => absurd h.2 (by decide)) (fun h => h.elim (fun h => absurd h.2 (by decide)) (fun h => h.elim (fun h => absurd h.2 (by decide)) (fun h => h.elim (fun h => absurd h.2 (by decide)) (fun h => absurd h.2 (by decide)))))))).trans (ax_up_miss (by decide) ((frM_25 330 13 (fun h => h.elim (fun h => absurd h.2 (by decide)) (fun h => h.elim (fun h => absurd h.2 (by decide)) (fun h => h.elim (fun h => absurd h.2 (by decide)) (fun h => h.elim (fun h => absurd h.2 (by decide)) (fun h => h.elim (fun h => absurd h.2 (by decide)) (fun h => h.elim (fun h => absurd h.2 (by decide)) (fun h => absurd h.2 (by decide))))))))).trans ((frM_6 330 13 (fun h => h.elim (fun h => absurd h.2 (by decide)) (fun h => h.elim (fun h => absurd h.2 (by decide)) (fun h => h.elim (fun h => absurd h.2 (by decide)) (fun h => absurd h.2 (by decide)))))).trans hrd))))) (by first | omega | assumption) (by first | omega | assumption) (by first | omega | assumption) (by first | omega | assumption)) (pc' := 82) rfl (fun vv M_79 hq co79 hcm79 => ?_)
            obtain ⟨rfl, frM_79, fa79_0, fa79_1⟩ := hq
            refine ax_reS (st2 := [.inl (f_rb (f_ned 159 LE))]) rfl ?_
            have cc79 : -2147483648 ≤ f_rb (f_ned 159 LE) ∧ f_rb (f_ned 159 LE) < 2147483648 := co79 _ rfl
            refine ax_if_ne (tgt := 87) dX12_aStep_82 (by decide) (pc' := 85) rfl (fun h82 => ?_) (fun h82 => ?_)
            · obtain ⟨L8, o8, qr8⟩ := f_rb_ok h82
              rw [qr8] at fa79_0
              have qc8 := fa79_0
              have qg8 := f_ned_inr qr8
              have qR8 := f_cur_rg qc8
              have qh8 := f_cur_hd qc8
              have qz : f_stp L = .inr (L8, [(to, M_25 330 27, M_62 330 27)]) := by
                rw [qbE]
                unfold f_stE
                rw [qr8]
                rfl
              refine ax_aload_n dX12_aStep_87 rfl rfl (pc' := 88) rfl ?_
              refine ax_iload_n dX12_aStep_88 rfl rfl (pc' := 89) rfl ?_
              refine ax_iload_n dX12_aStep_89 rfl rfl (pc' := 90) rfl ?_
              refine ax_iload_n dX12_aStep_90 rfl rfl (pc' := 91) rfl ?_
              refine ax_invG [.inl to, .inl (M_25 330 27), .inl (M_62 330 27)] [] dX12_aStep_91 mlX12_289 sh_330 rfl rfl rfl (Nat.le_of_ble_eq_true rfl) (s_X12_tells E l _ (by omega) _ to (M_25 330 27) (M_62 330 27) ((funext fun i0 => frM_79 337 i0 (fun h => h.elim (fun h => absurd h.1 (by decide)) (fun h => h.elim (fun h => absurd h.1 (by decide)) (fun h => h.elim (fun h => absurd h.1 (by decide)) (fun h => h.elim (fun h => absurd h.1 (by decide)) (fun h => h.elim (fun h => absurd h.1 (by decide)) (fun h => absurd h.1 (by decide)))))))).trans ((funext fun i0 => frM_62 337 i0 (fun h => h.elim (fun h => absurd h.1 (by decide)) (fun h => h.elim (fun h => absurd h.1 (by decide)) (fun h => h.elim (fun h => absurd h.1 (by decide)) (fun h => h.elim (fun h => absurd h.1 (by decide)) (fun h => h.elim (fun h => absurd h.1 (by decide)) (fun h => h.elim (fun h => absurd h.1 (by decide)) (fun h => absurd h.1 (by decide))))))))).trans ((funext fun i0 => frM_52 337 i0 (fun h => h.elim (fun h => absurd h.1 (by decide)) (fun h => h.elim (fun h => absurd h.1 (by decide)) (fun h => h.elim (fun h => absurd h.1 (by decide)) (fun h => h.elim (fun h => absurd h.1 (by decide)) (fun h => h.elim (fun h => absurd h.1 (by decide)) (fun h => absurd h.1 (by decide)))))))).trans (ax_up_rowmiss (by decide) ((funext fun i0 => frM_25 337 i0 (fun h => h.elim (fun h => absurd h.1 (by decide)) (fun h => h.elim (fun h => absurd h.1 (by decide)) (fun h => h.elim (fun h => absurd h.1 (by decide)) (fun h => h.elim (fun h => absurd h.1 (by decide)) (fun h => h.elim (fun h => absurd h.1 (by decide)) (fun h => h.elim (fun h => absurd h.1 (by decide)) (fun h => absurd h.1 (by decide))))))))).trans ((funext fun i0 => frM_6 337 i0 (fun h => h.elim (fun h => absurd h.1 (by decide)) (fun h => h.elim (fun h => absurd h.1 (by decide)) (fun h => h.elim (fun h => absurd h.1 (by decide)) (fun h => absurd h.1 (by decide)))))).trans hfd)))))) ((frM_79 330 16 (fun h => h.elim (fun h => absurd h.2 (by decide)) (fun h => h.elim (fun h => absurd h.2 (by decide)) (fun h => h.elim (fun h => absurd h.2 (by decide)) (fun h => h.elim (fun h => absurd h.2 (by decide)) (fun h => h.elim (fun h => absurd h.2 (by decide)) (fun h => absurd h.2 (by decide)))))))).trans ((frM_62 330 16 (fun h => h.elim (fun h => absurd h.2 (by decide)) (fun h => h.elim (fun h => absurd h.2 (by decide)) (fun h => h.elim (fun h => absurd h.2 (by decide)) (fun h => h.elim (fun h => absurd h.2 (by decide)) (fun h => h.elim (fun h => absurd h.2 (by decide)) (fun h => h.elim (fun h => absurd h.2 (by decide)) (fun h => absurd h.2 (by decide))))))))).trans ((frM_52 330 16 (fun h => h.elim (fun h => absurd h.2 (by decide)) (fun h => h.elim (fun h => absurd h.2 (by decide)) (fun h => h.elim (fun h => absurd h.2 (by decide)) (fun h => h.elim (fun h => absurd h.2 (by decide)) (fun h => h.elim (fun h => absurd h.2 (by decide)) (fun h => absurd h.2 (by decide)))))))).trans (ax_up_miss (by decide) ((frM_25 330 16 (fun h => h.elim (fun h => absurd h.2 (by decide)) (fun h => h.elim (fun h => absurd h.2 (by decide)) (fun h => h.elim (fun h => absurd h.2 (by decide)) (fun h => h.elim (fun h => absurd h.2 (by decide)) (fun h => h.elim (fun h => absurd h.2 (by decide)) (fun h => h.elim (fun h => absurd h.2 (by decide)) (fun h => absurd h.2 (by decide))))))))).trans ((frM_6 330 16 (fun h => h.elim (fun h => absurd h.2 (by decide)) (fun h => h.elim (fun h => absurd h.2 (by decide)) (fun h => h.elim (fun h => absurd h.2 (by decide)) (fun h => absurd h.2 (by decide)))))).trans hdn)))))) (by first | omega | assumption)) (pc' := 94) rfl (fun vv M_91 hq co91 hcm91 => ?_)
              obtain ⟨rfl, frM_91, mrM_91_0, msM_91_0⟩ := hq
              refine ax_reS (st2 := []) rfl ?_
              refine ax_iconst dX12_aStep_94 (by decide) (pc' := 95) rfl ?_
              refine ax_zret dX12_aStep_95 rfl (by decide) ?_
              refine ⟨rfl, ?_, ?_, ?_, ?_⟩
              · refine congrArg (fun z => some (Sum.inl z)) ?_
                rw [qz]
                rfl
              · intro x0 i0 hai
                exact ((frM_91 x0 i0 (fun h => h.elim (fun h => hai (Or.inr (Or.inr (Or.inr (Or.inr (Or.inr (Or.inr (Or.inl h)))))))) (fun h => hai (Or.inr (Or.inr (Or.inr (Or.inr (Or.inr (Or.inr (Or.inr (Or.inl h))))))))))).trans ((frM_79 x0 i0 (fun h => h.elim (fun h => hai (Or.inl h)) (fun h => h.elim (fun h => hai (Or.inr (Or.inl h))) (fun h => h.elim (fun h => hai (Or.inr (Or.inr (Or.inl h)))) (fun h => h.elim (fun h => hai (Or.inr (Or.inr (Or.inr (Or.inl h))))) (fun h => h.elim (fun h => hai (Or.inr (Or.inr (Or.inr (Or.inr (Or.inl h)))))) (fun h => hai (Or.inr (Or.inr (Or.inr (Or.inr (Or.inr (Or.inl h))))))))))))).trans ((frM_62 x0 i0 (fun h => h.elim (fun h => hai (Or.inl h)) (fun h => h.elim (fun h => hai (Or.inr (Or.inl h))) (fun h => h.elim (fun h => hai (Or.inr (Or.inr (Or.inl h)))) (fun h => h.elim (fun h => hai (Or.inr (Or.inr (Or.inr (Or.inl h))))) (fun h => h.elim (fun h => hai (Or.inr (Or.inr (Or.inr (Or.inr (Or.inl h)))))) (fun h => h.elim (fun h => hai (Or.inr (Or.inr (Or.inr (Or.inr (Or.inr (Or.inl h))))))) (fun h => hai (Or.inr (Or.inr (Or.inr (Or.inr (Or.inr (Or.inr (Or.inr (Or.inr h)))))))))))))))).trans ((frM_52 x0 i0 (fun h => h.elim (fun h => hai (Or.inl h)) (fun h => h.elim (fun h => hai (Or.inr (Or.inl h))) (fun h => h.elim (fun h => hai (Or.inr (Or.inr (Or.inl h)))) (fun h => h.elim (fun h => hai (Or.inr (Or.inr (Or.inr (Or.inl h))))) (fun h => h.elim (fun h => hai (Or.inr (Or.inr (Or.inr (Or.inr (Or.inl h)))))) (fun h => hai (Or.inr (Or.inr (Or.inr (Or.inr (Or.inr (Or.inl h))))))))))))).trans (ax_up_miss (fun h => hai (Or.inr (Or.inr (Or.inr (Or.inr (Or.inr (Or.inr (Or.inr (Or.inr h))))))))) ((frM_25 x0 i0 (fun h => h.elim (fun h => hai (Or.inl h)) (fun h => h.elim (fun h => hai (Or.inr (Or.inl h))) (fun h => h.elim (fun h => hai (Or.inr (Or.inr (Or.inl h)))) (fun h => h.elim (fun h => hai (Or.inr (Or.inr (Or.inr (Or.inl h))))) (fun h => h.elim (fun h => hai (Or.inr (Or.inr (Or.inr (Or.inr (Or.inl h)))))) (fun h => h.elim (fun h => hai (Or.inr (Or.inr (Or.inr (Or.inr (Or.inr (Or.inl h))))))) (fun h => hai (Or.inr (Or.inr (Or.inr (Or.inr (Or.inr (Or.inr (Or.inr (Or.inr h)))))))))))))))).trans ((frM_6 x0 i0 (fun h => h.elim (fun h => hai (Or.inl h)) (fun h => h.elim (fun h => hai (Or.inr (Or.inl h))) (fun h => h.elim (fun h => hai (Or.inr (Or.inr (Or.inl h)))) (fun h => hai (Or.inr (Or.inr (Or.inr (Or.inl h))))))))).trans rfl)))))))
              · refine f_dok_ok qz (Eq.trans mrM_91_0 ?_) (Eq.trans msM_91_0 ?_) qc8 ((frM_91 330 18 (fun h => h.elim (fun h => absurd h (by decide)) (fun h => absurd h.2 (by decide)))).trans rfl) ((frM_91 330 19 (fun h => h.elim (fun h => absurd h (by decide)) (fun h => absurd h.2 (by decide)))).trans rfl) ((frM_91 330 20 (fun h => h.elim (fun h => absurd h (by decide)) (fun h => absurd h.2 (by decide)))).trans rfl) ((frM_91 330 21 (fun h => h.elim (fun h => absurd h (by decide)) (fun h => absurd h.2 (by decide)))).trans rfl)
                · rfl
                · rfl
              · have q9 : M_91 330 21 = M_79 330 21 := ((frM_91 330 21 (fun h => h.elim (fun h => absurd h (by decide)) (fun h => absurd h.2 (by decide)))).trans rfl)
                have q9b : 0 ≤ M_79 330 21 ∧ M_79 330 21 ≤ 9999 := by omega
                exact f_r9 q9 q9b
            · obtain ⟨kk8, ss8, qr8⟩ := f_rb_no h82
              rw [qr8] at fa79_0
              have qz : f_stp L = .inl (kk8, ss8) := by
                rw [qbE]
                unfold f_stE
                rw [qr8]
                rfl
              refine ax_iconst dX12_aStep_85 (by decide) (pc' := 86) rfl ?_
              refine ax_zret dX12_aStep_86 rfl (by decide) ?_
              refine ⟨rfl, ?_, ?_, ?_, ?_⟩
              · refine congrArg (fun z => some (Sum.inl z)) ?_
                rw [qz]
                rfl
              · intro x0 i0 hai
                exact ((frM_79 x0 i0 (fun h => h.elim (fun h => hai (Or.inl h)) (fun h => h.elim (fun h => hai (Or.inr (Or.inl h))) (fun h => h.elim (fun h => hai (Or.inr (Or.inr (Or.inl h)))) (fun h => h.elim (fun h => hai (Or.inr (Or.inr (Or.inr (Or.inl h))))) (fun h => h.elim (fun h => hai (Or.inr (Or.inr (Or.inr (Or.inr (Or.inl h)))))) (fun h => hai (Or.inr (Or.inr (Or.inr (Or.inr (Or.inr (Or.inl h))))))))))))).trans ((frM_62 x0 i0 (fun h => h.elim (fun h => hai (Or.inl h)) (fun h => h.elim (fun h => hai (Or.inr (Or.inl h))) (fun h => h.elim (fun h => hai (Or.inr (Or.inr (Or.inl h)))) (fun h => h.elim (fun h => hai (Or.inr (Or.inr (Or.inr (Or.inl h))))) (fun h => h.elim (fun h => hai (Or.inr (Or.inr (Or.inr (Or.inr (Or.inl h)))))) (fun h => h.elim (fun h => hai (Or.inr (Or.inr (Or.inr (Or.inr (Or.inr (Or.inl h))))))) (fun h => hai (Or.inr (Or.inr (Or.inr (Or.inr (Or.inr (Or.inr (Or.inr (Or.inr h)))))))))))))))).trans ((frM_52 x0 i0 (fun h => h.elim (fun h => hai (Or.inl h)) (fun h => h.elim (fun h => hai (Or.inr (Or.inl h))) (fun h => h.elim (fun h => hai (Or.inr (Or.inr (Or.inl h)))) (fun h => h.elim (fun h => hai (Or.inr (Or.inr (Or.inr (Or.inl h))))) (fun h => h.elim (fun h => hai (Or.inr (Or.inr (Or.inr (Or.inr (Or.inl h)))))) (fun h => hai (Or.inr (Or.inr (Or.inr (Or.inr (Or.inr (Or.inl h))))))))))))).trans (ax_up_miss (fun h => hai (Or.inr (Or.inr (Or.inr (Or.inr (Or.inr (Or.inr (Or.inr (Or.inr h))))))))) ((frM_25 x0 i0 (fun h => h.elim (fun h => hai (Or.inl h)) (fun h => h.elim (fun h => hai (Or.inr (Or.inl h))) (fun h => h.elim (fun h => hai (Or.inr (Or.inr (Or.inl h)))) (fun h => h.elim (fun h => hai (Or.inr (Or.inr (Or.inr (Or.inl h))))) (fun h => h.elim (fun h => hai (Or.inr (Or.inr (Or.inr (Or.inr (Or.inl h)))))) (fun h => h.elim (fun h => hai (Or.inr (Or.inr (Or.inr (Or.inr (Or.inr (Or.inl h))))))) (fun h => hai (Or.inr (Or.inr (Or.inr (Or.inr (Or.inr (Or.inr (Or.inr (Or.inr h)))))))))))))))).trans ((frM_6 x0 i0 (fun h => h.elim (fun h => hai (Or.inl h)) (fun h => h.elim (fun h => hai (Or.inr (Or.inl h))) (fun h => h.elim (fun h => hai (Or.inr (Or.inr (Or.inl h)))) (fun h => hai (Or.inr (Or.inr (Or.inr (Or.inl h))))))))).trans rfl))))))
              · exact f_dok_no qz fa79_0.1 fa79_0.2
              · have q9 : M_79 330 21 = M_79 330 21 := rfl
                have q9b : 0 ≤ M_79 330 21 ∧ M_79 330 21 ≤ 9999 := by omega
                exact f_r9 q9 q9b
          · obtain ⟨kk4, ss4, qr4⟩ := f_rb_no h65
            rw [qr4] at fa62_0
            have qz : f_stp L = .inl (kk4, ss4) := by
              rw [qb4, qr4]
              rfl
            have qfa := fa62_0
            refine ax_iconst dX12_aStep_68 (by decide) (pc' := 69) rfl ?_
            refine ax_zret dX12_aStep_69 rfl (by decide) ?_
            refine ⟨rfl, ?_, ?_, ?_, ?_⟩
            · refine congrArg (fun z => some (Sum.inl z)) ?_
              rw [qz]
              rfl
            · intro x0 i0 hai
              exact ((frM_62 x0 i0 (fun h => h.elim (fun h => hai (Or.inl h)) (fun h => h.elim (fun h => hai (Or.inr (Or.inl h))) (fun h => h.elim (fun h => hai (Or.inr (Or.inr (Or.inl h)))) (fun h => h.elim (fun h => hai (Or.inr (Or.inr (Or.inr (Or.inl h))))) (fun h => h.elim (fun h => hai (Or.inr (Or.inr (Or.inr (Or.inr (Or.inl h)))))) (fun h => h.elim (fun h => hai (Or.inr (Or.inr (Or.inr (Or.inr (Or.inr (Or.inl h))))))) (fun h => hai (Or.inr (Or.inr (Or.inr (Or.inr (Or.inr (Or.inr (Or.inr (Or.inr h)))))))))))))))).trans ((frM_52 x0 i0 (fun h => h.elim (fun h => hai (Or.inl h)) (fun h => h.elim (fun h => hai (Or.inr (Or.inl h))) (fun h => h.elim (fun h => hai (Or.inr (Or.inr (Or.inl h)))) (fun h => h.elim (fun h => hai (Or.inr (Or.inr (Or.inr (Or.inl h))))) (fun h => h.elim (fun h => hai (Or.inr (Or.inr (Or.inr (Or.inr (Or.inl h)))))) (fun h => hai (Or.inr (Or.inr (Or.inr (Or.inr (Or.inr (Or.inl h))))))))))))).trans (ax_up_miss (fun h => hai (Or.inr (Or.inr (Or.inr (Or.inr (Or.inr (Or.inr (Or.inr (Or.inr h))))))))) ((frM_25 x0 i0 (fun h => h.elim (fun h => hai (Or.inl h)) (fun h => h.elim (fun h => hai (Or.inr (Or.inl h))) (fun h => h.elim (fun h => hai (Or.inr (Or.inr (Or.inl h)))) (fun h => h.elim (fun h => hai (Or.inr (Or.inr (Or.inr (Or.inl h))))) (fun h => h.elim (fun h => hai (Or.inr (Or.inr (Or.inr (Or.inr (Or.inl h)))))) (fun h => h.elim (fun h => hai (Or.inr (Or.inr (Or.inr (Or.inr (Or.inr (Or.inl h))))))) (fun h => hai (Or.inr (Or.inr (Or.inr (Or.inr (Or.inr (Or.inr (Or.inr (Or.inr h)))))))))))))))).trans ((frM_6 x0 i0 (fun h => h.elim (fun h => hai (Or.inl h)) (fun h => h.elim (fun h => hai (Or.inr (Or.inl h))) (fun h => h.elim (fun h => hai (Or.inr (Or.inr (Or.inl h)))) (fun h => hai (Or.inr (Or.inr (Or.inr (Or.inl h))))))))).trans rfl)))))
            · exact f_dok_no qz qfa.1 qfa.2
            · have q9 : M_62 330 21 = M_62 330 21 := rfl
              have q9b : 0 ≤ M_62 330 21 ∧ M_62 330 21 ≤ 9999 := by omega
              exact f_r9 q9 q9b
    · obtain ⟨kk2, ss2, qr2⟩ := f_rb_no h28
      rw [qr2] at fa25_0
      have qz : f_stp L = .inl (kk2, ss2) := by
        rw [qb, qr2]
        rfl
      refine ax_iconst dX12_aStep_31 (by decide) (pc' := 32) rfl ?_
      refine ax_zret dX12_aStep_32 rfl (by decide) ?_
      refine ⟨rfl, ?_, ?_, ?_, ?_⟩
      · refine congrArg (fun z => some (Sum.inl z)) ?_
        rw [qz]
        rfl
      · intro x0 i0 hai
        exact ((frM_25 x0 i0 (fun h => h.elim (fun h => hai (Or.inl h)) (fun h => h.elim (fun h => hai (Or.inr (Or.inl h))) (fun h => h.elim (fun h => hai (Or.inr (Or.inr (Or.inl h)))) (fun h => h.elim (fun h => hai (Or.inr (Or.inr (Or.inr (Or.inl h))))) (fun h => h.elim (fun h => hai (Or.inr (Or.inr (Or.inr (Or.inr (Or.inl h)))))) (fun h => h.elim (fun h => hai (Or.inr (Or.inr (Or.inr (Or.inr (Or.inr (Or.inl h))))))) (fun h => hai (Or.inr (Or.inr (Or.inr (Or.inr (Or.inr (Or.inr (Or.inr (Or.inr h)))))))))))))))).trans ((frM_6 x0 i0 (fun h => h.elim (fun h => hai (Or.inl h)) (fun h => h.elim (fun h => hai (Or.inr (Or.inl h))) (fun h => h.elim (fun h => hai (Or.inr (Or.inr (Or.inl h)))) (fun h => hai (Or.inr (Or.inr (Or.inr (Or.inl h))))))))).trans rfl))
      · exact f_dok_no qz fa25_0.1 fa25_0.2
      · have q9 : M_25 330 21 = M_25 330 21 := rfl
        have q9b : 0 ≤ M_25 330 21 ∧ M_25 330 21 ≤ 9999 := by omega
        exact f_r9 q9 q9b
set_option maxRecDepth 20000 in
theorem s_agn_0 (E : ax_Env) (l : Launch) (d : Nat) (hd : 12 ≤ d) (M : ax_Mem) (op : Int) (L : List f_Tk) {ta : Int → Int} (hta : M 339 = ta) {fd : Int → Int} (hfd : M 337 = fd) {p0 : Int} (hp0 : M 330 18 = p0) {to : Int} (hto : M 330 19 = to) {tk : Int} (htk : M 330 20 = tk) {v0 : Int} (hv0 : M 330 21 = v0) {tn : Int} (htn : M 330 17 = tn) {rd : Int} (hrd : M 330 13 = rd) {dn : Int} (hdn : M 330 16 = dn) (hg0 : 0 ≤ tn ∧ tn ≤ 400) (hg1 : f_tp ta tn) (hg2 : f_cur ta tn rd L p0 to tk v0) (hg3 : to = 15) (hg4 : 0 ≤ op ∧ op + ((0 : Nat) : Int) = 4) (hg5 : 0 ≤ dn ∧ dn + ((f_cap (0) * L.length : Nat) : Int) ≤ 3000000) : ax_G E l d iX12_someAgain [.inr 330, .inl op] M (fun z0 M2 => z0 = some (.inl (f_rdb (f_agd 0 L))) ∧ (∀ x0 i0 : Int, ¬ ((x0 = 330 ∧ i0 = 18) ∨ (x0 = 330 ∧ i0 = 19) ∨ (x0 = 330 ∧ i0 = 20) ∨ (x0 = 330 ∧ i0 = 21) ∨ (x0 = 330 ∧ i0 = 22) ∨ (x0 = 330 ∧ i0 = 23) ∨ x0 = 337 ∨ (x0 = 330 ∧ i0 = 16) ∨ (x0 = 330 ∧ i0 = 27)) → M2 x0 i0 = M x0 i0) ∧ (f_dok ta tn rd fd dn (f_agd 0 L) M2) ∧ (0 ≤ M2 330 21 ∧ M2 330 21 ≤ 9999)) := by
  obtain ⟨d, rfl⟩ : ∃ d0, d = d0 + 1 := ⟨d - 1, by omega⟩
  refine ax_start rfl (Nat.le_of_ble_eq_true rfl) (ls := [some (.inr 330), some (.inl op), none, none, none, none, none]) rfl (fun hav hcm => ?_)
  have hc1 : -2147483648 ≤ op ∧ op < 2147483648 := hav (.inl op) (by simp)
  clear hav
  have qR := f_cur_rg hg2
  have qh := f_cur_hd hg2
  refine ax_iload_n dX12_someAgain_0 rfl rfl (pc' := 1) rfl ?_
  refine ax_iconst dX12_someAgain_1 (by decide) (pc' := 2) rfl ?_
  refine ax_icmp_ne (tgt := 11) dX12_someAgain_2 (by decide) (pc' := 5) rfl (fun h2 => ?_) (fun h2 => ?_)
  · exfalso
    omega
  · have qz : f_agd 0 L = .inl (3, tk) := by
      show (.inl (3, f_S L) : f_Rd) = _
      rw [qh.2.2]
    refine ax_aload_n dX12_someAgain_5 rfl rfl (pc' := 6) rfl ?_
    refine ax_iconst dX12_someAgain_6 (by decide) (pc' := 7) rfl ?_
    refine ax_invG [.inl 3] [] dX12_someAgain_7 mlX12_229 sh_330 rfl rfl rfl (Nat.le_of_ble_eq_true rfl) (s_X12_bad E l _ (by omega) _ 3 htk) (pc' := 10) rfl (fun vv M_7 hq co7 hcm7 => ?_)
    obtain ⟨rfl, frM_7, msM_7_0, msM_7_1⟩ := hq
    refine ax_reS (st2 := [.inl 0]) rfl ?_
    refine ax_zret dX12_someAgain_10 rfl (by decide) ?_
    refine ⟨rfl, ?_, ?_, ?_, ?_⟩
    · refine congrArg (fun z => some (Sum.inl z)) ?_
      rw [qz]
      rfl
    · intro x0 i0 hai
      exact ((frM_7 x0 i0 (fun h => h.elim (fun h => hai (Or.inr (Or.inr (Or.inr (Or.inr (Or.inl h)))))) (fun h => hai (Or.inr (Or.inr (Or.inr (Or.inr (Or.inr (Or.inl h))))))))).trans rfl)
    · exact f_dok_no qz msM_7_0 msM_7_1
    · have q9 : M_7 330 21 = v0 := ((frM_7 330 21 (fun h => h.elim (fun h => absurd h.2 (by decide)) (fun h => absurd h.2 (by decide)))).trans hv0)
      have q9b : 0 ≤ v0 ∧ v0 ≤ 9999 := by omega
      exact f_r9 q9 q9b
set_option maxRecDepth 20000 in
theorem s_agn_s (nd : Nat) (H2 : f_C2 nd) (E : ax_Env) (l : Launch) (d : Nat) (hd : 12 + 2 * (nd + 1) ≤ d) (M : ax_Mem) (op : Int) (L : List f_Tk) {ta : Int → Int} (hta : M 339 = ta) {fd : Int → Int} (hfd : M 337 = fd) {p0 : Int} (hp0 : M 330 18 = p0) {to : Int} (hto : M 330 19 = to) {tk : Int} (htk : M 330 20 = tk) {v0 : Int} (hv0 : M 330 21 = v0) {tn : Int} (htn : M 330 17 = tn) {rd : Int} (hrd : M 330 13 = rd) {dn : Int} (hdn : M 330 16 = dn) (hg0 : 0 ≤ tn ∧ tn ≤ 400) (hg1 : f_tp ta tn) (hg2 : f_cur ta tn rd L p0 to tk v0) (hg3 : to = 15) (hg4 : 0 ≤ op ∧ op + ((nd + 1 : Nat) : Int) = 4) (hg5 : 0 ≤ dn ∧ dn + ((f_cap (nd + 1) * L.length : Nat) : Int) ≤ 3000000) : ax_G E l d iX12_someAgain [.inr 330, .inl op] M (fun z0 M2 => z0 = some (.inl (f_rdb (f_agd (nd + 1) L))) ∧ (∀ x0 i0 : Int, ¬ ((x0 = 330 ∧ i0 = 18) ∨ (x0 = 330 ∧ i0 = 19) ∨ (x0 = 330 ∧ i0 = 20) ∨ (x0 = 330 ∧ i0 = 21) ∨ (x0 = 330 ∧ i0 = 22) ∨ (x0 = 330 ∧ i0 = 23) ∨ x0 = 337 ∨ (x0 = 330 ∧ i0 = 16) ∨ (x0 = 330 ∧ i0 = 27)) → M2 x0 i0 = M x0 i0) ∧ (f_dok ta tn rd fd dn (f_agd (nd + 1) L) M2) ∧ (0 ≤ M2 330 21 ∧ M2 330 21 ≤ 9999)) := by
  obtain ⟨d, rfl⟩ : ∃ d0, d = d0 + 1 := ⟨d - 1, by omega⟩
  refine ax_start rfl (Nat.le_of_ble_eq_true rfl) (ls := [some (.inr 330), some (.inl op), none, none, none, none, none]) rfl (fun hav hcm => ?_)
  have hc1 : -2147483648 ≤ op ∧ op < 2147483648 := hav (.inl op) (by simp)
  clear hav
  have qR := f_cur_rg hg2
  have qh := f_cur_hd hg2
  refine ax_iload_n dX12_someAgain_0 rfl rfl (pc' := 1) rfl ?_
  refine ax_iconst dX12_someAgain_1 (by decide) (pc' := 2) rfl ?_
  refine ax_icmp_ne (tgt := 11) dX12_someAgain_2 (by decide) (pc' := 5) rfl (fun h2 => ?_) (fun h2 => ?_)
  · obtain ⟨L9, qt9, ql9, qc9⟩ := f_cur_next hg2 (by omega)
    have qR9 := f_cur_rg qc9
    have qh9 := f_cur_hd qc9
    have qb : f_agd (nd + 1) L = f_bd (f_nbr 1 9 L9) (fun L2 => f_bd (f_ned 140 L2) (fun L3 => f_agE (f_V L9).toNat (f_sts nd L3))) := by
      rw [f_agd_s, qt9]
    refine ax_aload_n dX12_someAgain_11 rfl rfl (pc' := 12) rfl ?_
    refine ax_invG [] [] dX12_someAgain_12 mlX12_232 sh_330 rfl rfl rfl (Nat.le_of_ble_eq_true rfl) (s_X12_next0 E l _ (by omega) _ hta hp0 htn hrd hv0 (by first | omega | assumption) (by first | omega | assumption)) (pc' := 15) rfl (fun vv M_12 hq co12 hcm12 => ?_)
    obtain ⟨rfl, frM_12, msM_12_0, msM_12_1, msM_12_2, msM_12_3⟩ := hq
    refine ax_reS (st2 := []) rfl ?_
    refine ax_aload_n dX12_someAgain_15 rfl rfl (pc' := 16) rfl ?_
    refine ax_iconst dX12_someAgain_16 (by decide) (pc' := 17) rfl ?_
    refine ax_bipush dX12_someAgain_17 (by decide) (pc' := 19) rfl ?_
    refine ax_invG [.inl 1, .inl 9] [] dX12_someAgain_19 mlX12_285 sh_330 rfl rfl rfl (Nat.le_of_ble_eq_true rfl) (s_X12_number E l _ (by omega) _ 1 9 L9 ((funext fun i0 => frM_12 339 i0 (fun h => h.elim (fun h => absurd h.1 (by decide)) (fun h => h.elim (fun h => absurd h.1 (by decide)) (fun h => h.elim (fun h => absurd h.1 (by decide)) (fun h => absurd h.1 (by decide)))))).trans hta) msM_12_0 msM_12_1 msM_12_2 msM_12_3 ((frM_12 330 17 (fun h => h.elim (fun h => absurd h.2 (by decide)) (fun h => h.elim (fun h => absurd h.2 (by decide)) (fun h => h.elim (fun h => absurd h.2 (by decide)) (fun h => absurd h.2 (by decide)))))).trans htn) ((frM_12 330 13 (fun h => h.elim (fun h => absurd h.2 (by decide)) (fun h => h.elim (fun h => absurd h.2 (by decide)) (fun h => h.elim (fun h => absurd h.2 (by decide)) (fun h => absurd h.2 (by decide)))))).trans hrd) (by first | omega | assumption) (by first | omega | assumption) (by first | omega | assumption)) (pc' := 22) rfl (fun vv M_19 hq co19 hcm19 => ?_)
    obtain ⟨rfl, frM_19, fa19_0, fa19_1, fa19_2⟩ := hq
    refine ax_reS (st2 := [.inl (f_rb (f_nbr 1 9 L9))]) rfl ?_
    have cc19 : -2147483648 ≤ f_rb (f_nbr 1 9 L9) ∧ f_rb (f_nbr 1 9 L9) < 2147483648 := co19 _ rfl
    refine ax_if_ne (tgt := 27) dX12_someAgain_22 (by decide) (pc' := 25) rfl (fun h22 => ?_) (fun h22 => ?_)
    · have qn2 := fa19_1 h22
      obtain ⟨L2, o2, qr2⟩ := f_rb_ok h22
      rw [qr2] at fa19_0
      have qc2 := fa19_0
      have qg2 := f_nbr_inr qr2
      have qR2 := f_cur_rg qc2
      have qh2 := f_cur_hd qc2
      have qb2 : f_agd (nd + 1) L = f_bd (f_ned 140 L2) (fun L3 => f_agE (f_V L9).toNat (f_sts nd L3)) := by
        rw [qb, qr2]
        rfl
      refine ax_aload_n dX12_someAgain_27 rfl rfl (pc' := 28) rfl ?_
      refine ax_geti (v := M_19 330 27) dX12_someAgain_28 flX12_276 rfl sh_330 rfl rfl (pc' := 31) rfl ?_
      refine ax_istore_n dX12_someAgain_31 rfl (by decide) (ls' := [some (.inr 330), some (.inl op), some (.inl (M_19 330 27)), none, none, none, none]) rfl (pc' := 32) rfl ?_
      refine ax_aload_n dX12_someAgain_32 rfl rfl (pc' := 33) rfl ?_
      refine ax_sipush dX12_someAgain_33 (by decide) (pc' := 36) rfl ?_
      refine ax_invG [.inl 140] [] dX12_someAgain_36 mlX12_264 sh_330 rfl rfl rfl (Nat.le_of_ble_eq_true rfl) (s_X12_needD E l _ (by omega) _ 140 L2 ((funext fun i0 => frM_19 339 i0 (fun h => h.elim (fun h => absurd h.1 (by decide)) (fun h => h.elim (fun h => absurd h.1 (by decide)) (fun h => h.elim (fun h => absurd h.1 (by decide)) (fun h => h.elim (fun h => absurd h.1 (by decide)) (fun h => h.elim (fun h => absurd h.1 (by decide)) (fun h => h.elim (fun h => absurd h.1 (by decide)) (fun h => absurd h.1 (by decide))))))))).trans ((funext fun i0 => frM_12 339 i0 (fun h => h.elim (fun h => absurd h.1 (by decide)) (fun h => h.elim (fun h => absurd h.1 (by decide)) (fun h => h.elim (fun h => absurd h.1 (by decide)) (fun h => absurd h.1 (by decide)))))).trans hta)) rfl rfl rfl rfl ((frM_19 330 17 (fun h => h.elim (fun h => absurd h.2 (by decide)) (fun h => h.elim (fun h => absurd h.2 (by decide)) (fun h => h.elim (fun h => absurd h.2 (by decide)) (fun h => h.elim (fun h => absurd h.2 (by decide)) (fun h => h.elim (fun h => absurd h.2 (by decide)) (fun h => h.elim (fun h => absurd h.2 (by decide)) (fun h => absurd h.2 (by decide))))))))).trans ((frM_12 330 17 (fun h => h.elim (fun h => absurd h.2 (by decide)) (fun h => h.elim (fun h => absurd h.2 (by decide)) (fun h => h.elim (fun h => absurd h.2 (by decide)) (fun h => absurd h.2 (by decide)))))).trans htn)) ((frM_19 330 13 (fun h => h.elim (fun h => absurd h.2 (by decide)) (fun h => h.elim (fun h => absurd h.2 (by decide)) (fun h => h.elim (fun h => absurd h.2 (by decide)) (fun h => h.elim (fun h => absurd h.2 (by decide)) (fun h => h.elim (fun h => absurd h.2 (by decide)) (fun h => h.elim (fun h => absurd h.2 (by decide)) (fun h => absurd h.2 (by decide))))))))).trans ((frM_12 330 13 (fun h => h.elim (fun h => absurd h.2 (by decide)) (fun h => h.elim (fun h => absurd h.2 (by decide)) (fun h => h.elim (fun h => absurd h.2 (by decide)) (fun h => absurd h.2 (by decide)))))).trans hrd)) (by first | omega | assumption) (by first | omega | assumption) (by first | omega | assumption) (by first | omega | assumption)) (pc' := 39) rfl (fun vv M_36 hq co36 hcm36 => ?_)
      obtain ⟨rfl, frM_36, fa36_0, fa36_1⟩ := hq
      refine ax_reS (st2 := [.inl (f_rb (f_ned 140 L2))]) rfl ?_
      have cc36 : -2147483648 ≤ f_rb (f_ned 140 L2) ∧ f_rb (f_ned 140 L2) < 2147483648 := co36 _ rfl
      refine ax_if_ne (tgt := 44) dX12_someAgain_39 (by decide) (pc' := 42) rfl (fun h39 => ?_) (fun h39 => ?_)
      · obtain ⟨L3, o3, qr3⟩ := f_rb_ok h39
        rw [qr3] at fa36_0
        have qc3 := fa36_0
        have qg3 := f_ned_inr qr3
        have qR3 := f_cur_rg qc3
        have qh3 := f_cur_hd qc3
        have qb3 : f_agd (nd + 1) L = f_agE (f_V L9).toNat (f_sts nd L3) := by
          rw [qb2, qr3]
          rfl
        have qln : L3.length ≤ L.length := by
          rw [qg3.2.1, qg2.2.1, List.length_tail, List.length_tail]
          omega
        have qcap : 9 * (f_cap nd * L3.length) ≤ f_cap (nd + 1) * L.length := by
          show 9 * (f_cap nd * L3.length) ≤ 9 * f_cap nd * L.length
          rw [Nat.mul_assoc]
          exact Nat.mul_le_mul_left 9 (Nat.mul_le_mul_left _ qln)
        refine ax_aload_n dX12_someAgain_44 rfl rfl (pc' := 45) rfl ?_
        refine ax_geti (v := dn) dX12_someAgain_45 flX12_279 rfl sh_330 ((frM_36 330 16 (fun h => h.elim (fun h => absurd h.2 (by decide)) (fun h => h.elim (fun h => absurd h.2 (by decide)) (fun h => h.elim (fun h => absurd h.2 (by decide)) (fun h => h.elim (fun h => absurd h.2 (by decide)) (fun h => h.elim (fun h => absurd h.2 (by decide)) (fun h => absurd h.2 (by decide)))))))).trans ((frM_19 330 16 (fun h => h.elim (fun h => absurd h.2 (by decide)) (fun h => h.elim (fun h => absurd h.2 (by decide)) (fun h => h.elim (fun h => absurd h.2 (by decide)) (fun h => h.elim (fun h => absurd h.2 (by decide)) (fun h => h.elim (fun h => absurd h.2 (by decide)) (fun h => h.elim (fun h => absurd h.2 (by decide)) (fun h => absurd h.2 (by decide))))))))).trans ((frM_12 330 16 (fun h => h.elim (fun h => absurd h.2 (by decide)) (fun h => h.elim (fun h => absurd h.2 (by decide)) (fun h => h.elim (fun h => absurd h.2 (by decide)) (fun h => absurd h.2 (by decide)))))).trans hdn))) rfl (pc' := 48) rfl ?_
        refine ax_istore_n dX12_someAgain_48 rfl (by decide) (ls' := [some (.inr 330), some (.inl op), some (.inl (M_19 330 27)), some (.inl dn), none, none, none]) rfl (pc' := 49) rfl ?_
        refine ax_aload_n dX12_someAgain_49 rfl rfl (pc' := 50) rfl ?_
        refine ax_iload_n dX12_someAgain_50 rfl rfl (pc' := 51) rfl ?_
        refine ax_iconst dX12_someAgain_51 (by decide) (pc' := 52) rfl ?_
        refine ax_iadd dX12_someAgain_52 (by omega) (pc' := 53) rfl ?_
        refine ax_invG [.inl (op + 1)] [] dX12_someAgain_53 mlX12_292 sh_330 rfl rfl rfl (Nat.le_of_ble_eq_true rfl) (H2 E l _ (by omega) _ (op + 1) L3 ((funext fun i0 => frM_36 339 i0 (fun h => h.elim (fun h => absurd h.1 (by decide)) (fun h => h.elim (fun h => absurd h.1 (by decide)) (fun h => h.elim (fun h => absurd h.1 (by decide)) (fun h => h.elim (fun h => absurd h.1 (by decide)) (fun h => h.elim (fun h => absurd h.1 (by decide)) (fun h => absurd h.1 (by decide)))))))).trans ((funext fun i0 => frM_19 339 i0 (fun h => h.elim (fun h => absurd h.1 (by decide)) (fun h => h.elim (fun h => absurd h.1 (by decide)) (fun h => h.elim (fun h => absurd h.1 (by decide)) (fun h => h.elim (fun h => absurd h.1 (by decide)) (fun h => h.elim (fun h => absurd h.1 (by decide)) (fun h => h.elim (fun h => absurd h.1 (by decide)) (fun h => absurd h.1 (by decide))))))))).trans ((funext fun i0 => frM_12 339 i0 (fun h => h.elim (fun h => absurd h.1 (by decide)) (fun h => h.elim (fun h => absurd h.1 (by decide)) (fun h => h.elim (fun h => absurd h.1 (by decide)) (fun h => absurd h.1 (by decide)))))).trans hta))) ((funext fun i0 => frM_36 337 i0 (fun h => h.elim (fun h => absurd h.1 (by decide)) (fun h => h.elim (fun h => absurd h.1 (by decide)) (fun h => h.elim (fun h => absurd h.1 (by decide)) (fun h => h.elim (fun h => absurd h.1 (by decide)) (fun h => h.elim (fun h => absurd h.1 (by decide)) (fun h => absurd h.1 (by decide)))))))).trans ((funext fun i0 => frM_19 337 i0 (fun h => h.elim (fun h => absurd h.1 (by decide)) (fun h => h.elim (fun h => absurd h.1 (by decide)) (fun h => h.elim (fun h => absurd h.1 (by decide)) (fun h => h.elim (fun h => absurd h.1 (by decide)) (fun h => h.elim (fun h => absurd h.1 (by decide)) (fun h => h.elim (fun h => absurd h.1 (by decide)) (fun h => absurd h.1 (by decide))))))))).trans ((funext fun i0 => frM_12 337 i0 (fun h => h.elim (fun h => absurd h.1 (by decide)) (fun h => h.elim (fun h => absurd h.1 (by decide)) (fun h => h.elim (fun h => absurd h.1 (by decide)) (fun h => absurd h.1 (by decide)))))).trans hfd))) rfl rfl rfl rfl ((frM_36 330 17 (fun h => h.elim (fun h => absurd h.2 (by decide)) (fun h => h.elim (fun h => absurd h.2 (by decide)) (fun h => h.elim (fun h => absurd h.2 (by decide)) (fun h => h.elim (fun h => absurd h.2 (by decide)) (fun h => h.elim (fun h => absurd h.2 (by decide)) (fun h => absurd h.2 (by decide)))))))).trans ((frM_19 330 17 (fun h => h.elim (fun h => absurd h.2 (by decide)) (fun h => h.elim (fun h => absurd h.2 (by decide)) (fun h => h.elim (fun h => absurd h.2 (by decide)) (fun h => h.elim (fun h => absurd h.2 (by decide)) (fun h => h.elim (fun h => absurd h.2 (by decide)) (fun h => h.elim (fun h => absurd h.2 (by decide)) (fun h => absurd h.2 (by decide))))))))).trans ((frM_12 330 17 (fun h => h.elim (fun h => absurd h.2 (by decide)) (fun h => h.elim (fun h => absurd h.2 (by decide)) (fun h => h.elim (fun h => absurd h.2 (by decide)) (fun h => absurd h.2 (by decide)))))).trans htn))) ((frM_36 330 13 (fun h => h.elim (fun h => absurd h.2 (by decide)) (fun h => h.elim (fun h => absurd h.2 (by decide)) (fun h => h.elim (fun h => absurd h.2 (by decide)) (fun h => h.elim (fun h => absurd h.2 (by decide)) (fun h => h.elim (fun h => absurd h.2 (by decide)) (fun h => absurd h.2 (by decide)))))))).trans ((frM_19 330 13 (fun h => h.elim (fun h => absurd h.2 (by decide)) (fun h => h.elim (fun h => absurd h.2 (by decide)) (fun h => h.elim (fun h => absurd h.2 (by decide)) (fun h => h.elim (fun h => absurd h.2 (by decide)) (fun h => h.elim (fun h => absurd h.2 (by decide)) (fun h => h.elim (fun h => absurd h.2 (by decide)) (fun h => absurd h.2 (by decide))))))))).trans ((frM_12 330 13 (fun h => h.elim (fun h => absurd h.2 (by decide)) (fun h => h.elim (fun h => absurd h.2 (by decide)) (fun h => h.elim (fun h => absurd h.2 (by decide)) (fun h => absurd h.2 (by decide)))))).trans hrd))) ((frM_36 330 16 (fun h => h.elim (fun h => absurd h.2 (by decide)) (fun h => h.elim (fun h => absurd h.2 (by decide)) (fun h => h.elim (fun h => absurd h.2 (by decide)) (fun h => h.elim (fun h => absurd h.2 (by decide)) (fun h => h.elim (fun h => absurd h.2 (by decide)) (fun h => absurd h.2 (by decide)))))))).trans ((frM_19 330 16 (fun h => h.elim (fun h => absurd h.2 (by decide)) (fun h => h.elim (fun h => absurd h.2 (by decide)) (fun h => h.elim (fun h => absurd h.2 (by decide)) (fun h => h.elim (fun h => absurd h.2 (by decide)) (fun h => h.elim (fun h => absurd h.2 (by decide)) (fun h => h.elim (fun h => absurd h.2 (by decide)) (fun h => absurd h.2 (by decide))))))))).trans ((frM_12 330 16 (fun h => h.elim (fun h => absurd h.2 (by decide)) (fun h => h.elim (fun h => absurd h.2 (by decide)) (fun h => h.elim (fun h => absurd h.2 (by decide)) (fun h => absurd h.2 (by decide)))))).trans hdn))) (by first | omega | assumption) (by first | omega | assumption) (by first | omega | assumption) (by first | omega | assumption) (by first | omega | assumption)) (pc' := 56) rfl (fun vv M_53 hq co53 hcm53 => ?_)
        obtain ⟨rfl, frM_53, fa53_0, fa53_1⟩ := hq
        refine ax_reS (st2 := [.inl (f_rdb (f_sts nd L3))]) rfl ?_
        have cc53 : -2147483648 ≤ f_rdb (f_sts nd L3) ∧ f_rdb (f_sts nd L3) < 2147483648 := co53 _ rfl
        refine ax_if_eq (tgt := 69) dX12_someAgain_56 (by decide) (pc' := 59) rfl (fun h56 => ?_) (fun h56 => ?_)
        · obtain ⟨kk4, ss4, qr4⟩ := f_rdb_no h56
          rw [qr4] at fa53_0
          have qz : f_agd (nd + 1) L = .inl (kk4, ss4) := by
            rw [qb3, qr4]
            rfl
          have qfa := fa53_0
          refine ax_iconst dX12_someAgain_69 (by decide) (pc' := 70) rfl ?_
          refine ax_zret dX12_someAgain_70 rfl (by decide) ?_
          refine ⟨rfl, ?_, ?_, ?_, ?_⟩
          · refine congrArg (fun z => some (Sum.inl z)) ?_
            rw [qz]
            rfl
          · intro x0 i0 hai
            exact ((frM_53 x0 i0 (fun h => h.elim (fun h => hai (Or.inl h)) (fun h => h.elim (fun h => hai (Or.inr (Or.inl h))) (fun h => h.elim (fun h => hai (Or.inr (Or.inr (Or.inl h)))) (fun h => h.elim (fun h => hai (Or.inr (Or.inr (Or.inr (Or.inl h))))) (fun h => h.elim (fun h => hai (Or.inr (Or.inr (Or.inr (Or.inr (Or.inl h)))))) (fun h => h.elim (fun h => hai (Or.inr (Or.inr (Or.inr (Or.inr (Or.inr (Or.inl h))))))) (fun h => h.elim (fun h => hai (Or.inr (Or.inr (Or.inr (Or.inr (Or.inr (Or.inr (Or.inl h)))))))) (fun h => h.elim (fun h => hai (Or.inr (Or.inr (Or.inr (Or.inr (Or.inr (Or.inr (Or.inr (Or.inl h))))))))) (fun h => hai (Or.inr (Or.inr (Or.inr (Or.inr (Or.inr (Or.inr (Or.inr (Or.inr h)))))))))))))))))).trans ((frM_36 x0 i0 (fun h => h.elim (fun h => hai (Or.inl h)) (fun h => h.elim (fun h => hai (Or.inr (Or.inl h))) (fun h => h.elim (fun h => hai (Or.inr (Or.inr (Or.inl h)))) (fun h => h.elim (fun h => hai (Or.inr (Or.inr (Or.inr (Or.inl h))))) (fun h => h.elim (fun h => hai (Or.inr (Or.inr (Or.inr (Or.inr (Or.inl h)))))) (fun h => hai (Or.inr (Or.inr (Or.inr (Or.inr (Or.inr (Or.inl h))))))))))))).trans ((frM_19 x0 i0 (fun h => h.elim (fun h => hai (Or.inl h)) (fun h => h.elim (fun h => hai (Or.inr (Or.inl h))) (fun h => h.elim (fun h => hai (Or.inr (Or.inr (Or.inl h)))) (fun h => h.elim (fun h => hai (Or.inr (Or.inr (Or.inr (Or.inl h))))) (fun h => h.elim (fun h => hai (Or.inr (Or.inr (Or.inr (Or.inr (Or.inl h)))))) (fun h => h.elim (fun h => hai (Or.inr (Or.inr (Or.inr (Or.inr (Or.inr (Or.inl h))))))) (fun h => hai (Or.inr (Or.inr (Or.inr (Or.inr (Or.inr (Or.inr (Or.inr (Or.inr h)))))))))))))))).trans ((frM_12 x0 i0 (fun h => h.elim (fun h => hai (Or.inl h)) (fun h => h.elim (fun h => hai (Or.inr (Or.inl h))) (fun h => h.elim (fun h => hai (Or.inr (Or.inr (Or.inl h)))) (fun h => hai (Or.inr (Or.inr (Or.inr (Or.inl h))))))))).trans rfl))))
          · exact f_dok_no qz qfa.1 qfa.2
          · have q9 : M_53 330 21 = M_53 330 21 := rfl
            have q9b : 0 ≤ M_53 330 21 ∧ M_53 330 21 ≤ 9999 := by omega
            exact f_r9 q9 q9b
        · obtain ⟨L4, sb, qr4⟩ := f_rdb_ok h56
          rw [qr4] at fa53_0
          obtain ⟨qmB, qsB, qc4⟩ := fa53_0
          have qR4 := f_cur_rg qc4
          have qh4 := f_cur_hd qc4
          have qg4 := f_sts_g0 nd L3 L4 sb qr4
          have qb4 : f_agd (nd + 1) L = f_bd (f_ned 141 L4) (fun L5 => .inr (L5, f_tms (f_V L9).toNat sb)) := by
            rw [qb3, qr4]
            rfl
          refine ax_aload_n dX12_someAgain_59 rfl rfl (pc' := 60) rfl ?_
          refine ax_sipush dX12_someAgain_60 (by decide) (pc' := 63) rfl ?_
          refine ax_invG [.inl 141] [] dX12_someAgain_63 mlX12_264 sh_330 rfl rfl rfl (Nat.le_of_ble_eq_true rfl) (s_X12_needD E l _ (by omega) _ 141 L4 ((funext fun i0 => frM_53 339 i0 (fun h => h.elim (fun h => absurd h.1 (by decide)) (fun h => h.elim (fun h => absurd h.1 (by decide)) (fun h => h.elim (fun h => absurd h.1 (by decide)) (fun h => h.elim (fun h => absurd h.1 (by decide)) (fun h => h.elim (fun h => absurd h.1 (by decide)) (fun h => h.elim (fun h => absurd h.1 (by decide)) (fun h => h.elim (fun h => absurd h (by decide)) (fun h => h.elim (fun h => absurd h.1 (by decide)) (fun h => absurd h.1 (by decide))))))))))).trans ((funext fun i0 => frM_36 339 i0 (fun h => h.elim (fun h => absurd h.1 (by decide)) (fun h => h.elim (fun h => absurd h.1 (by decide)) (fun h => h.elim (fun h => absurd h.1 (by decide)) (fun h => h.elim (fun h => absurd h.1 (by decide)) (fun h => h.elim (fun h => absurd h.1 (by decide)) (fun h => absurd h.1 (by decide)))))))).trans ((funext fun i0 => frM_19 339 i0 (fun h => h.elim (fun h => absurd h.1 (by decide)) (fun h => h.elim (fun h => absurd h.1 (by decide)) (fun h => h.elim (fun h => absurd h.1 (by decide)) (fun h => h.elim (fun h => absurd h.1 (by decide)) (fun h => h.elim (fun h => absurd h.1 (by decide)) (fun h => h.elim (fun h => absurd h.1 (by decide)) (fun h => absurd h.1 (by decide))))))))).trans ((funext fun i0 => frM_12 339 i0 (fun h => h.elim (fun h => absurd h.1 (by decide)) (fun h => h.elim (fun h => absurd h.1 (by decide)) (fun h => h.elim (fun h => absurd h.1 (by decide)) (fun h => absurd h.1 (by decide)))))).trans hta)))) rfl rfl rfl rfl ((frM_53 330 17 (fun h => h.elim (fun h => absurd h.2 (by decide)) (fun h => h.elim (fun h => absurd h.2 (by decide)) (fun h => h.elim (fun h => absurd h.2 (by decide)) (fun h => h.elim (fun h => absurd h.2 (by decide)) (fun h => h.elim (fun h => absurd h.2 (by decide)) (fun h => h.elim (fun h => absurd h.2 (by decide)) (fun h => h.elim (fun h => absurd h (by decide)) (fun h => h.elim (fun h => absurd h.2 (by decide)) (fun h => absurd h.2 (by decide))))))))))).trans ((frM_36 330 17 (fun h => h.elim (fun h => absurd h.2 (by decide)) (fun h => h.elim (fun h => absurd h.2 (by decide)) (fun h => h.elim (fun h => absurd h.2 (by decide)) (fun h => h.elim (fun h => absurd h.2 (by decide)) (fun h => h.elim (fun h => absurd h.2 (by decide)) (fun h => absurd h.2 (by decide)))))))).trans ((frM_19 330 17 (fun h => h.elim (fun h => absurd h.2 (by decide)) (fun h => h.elim (fun h => absurd h.2 (by decide)) (fun h => h.elim (fun h => absurd h.2 (by decide)) (fun h => h.elim (fun h => absurd h.2 (by decide)) (fun h => h.elim (fun h => absurd h.2 (by decide)) (fun h => h.elim (fun h => absurd h.2 (by decide)) (fun h => absurd h.2 (by decide))))))))).trans ((frM_12 330 17 (fun h => h.elim (fun h => absurd h.2 (by decide)) (fun h => h.elim (fun h => absurd h.2 (by decide)) (fun h => h.elim (fun h => absurd h.2 (by decide)) (fun h => absurd h.2 (by decide)))))).trans htn)))) ((frM_53 330 13 (fun h => h.elim (fun h => absurd h.2 (by decide)) (fun h => h.elim (fun h => absurd h.2 (by decide)) (fun h => h.elim (fun h => absurd h.2 (by decide)) (fun h => h.elim (fun h => absurd h.2 (by decide)) (fun h => h.elim (fun h => absurd h.2 (by decide)) (fun h => h.elim (fun h => absurd h.2 (by decide)) (fun h => h.elim (fun h => absurd h (by decide)) (fun h => h.elim (fun h => absurd h.2 (by decide)) (fun h => absurd h.2 (by decide))))))))))).trans ((frM_36 330 13 (fun h => h.elim (fun h => absurd h.2 (by decide)) (fun h => h.elim (fun h => absurd h.2 (by decide)) (fun h => h.elim (fun h => absurd h.2 (by decide)) (fun h => h.elim (fun h => absurd h.2 (by decide)) (fun h => h.elim (fun h => absurd h.2 (by decide)) (fun h => absurd h.2 (by decide)))))))).trans ((frM_19 330 13 (fun h => h.elim (fun h => absurd h.2 (by decide)) (fun h => h.elim (fun h => absurd h.2 (by decide)) (fun h => h.elim (fun h => absurd h.2 (by decide)) (fun h => h.elim (fun h => absurd h.2 (by decide)) (fun h => h.elim (fun h => absurd h.2 (by decide)) (fun h => h.elim (fun h => absurd h.2 (by decide)) (fun h => absurd h.2 (by decide))))))))).trans ((frM_12 330 13 (fun h => h.elim (fun h => absurd h.2 (by decide)) (fun h => h.elim (fun h => absurd h.2 (by decide)) (fun h => h.elim (fun h => absurd h.2 (by decide)) (fun h => absurd h.2 (by decide)))))).trans hrd)))) (by first | omega | assumption) (by first | omega | assumption) (by first | omega | assumption) (by first | omega | assumption)) (pc' := 66) rfl (fun vv M_63 hq co63 hcm63 => ?_)
          obtain ⟨rfl, frM_63, fa63_0, fa63_1⟩ := hq
          refine ax_reS (st2 := [.inl (f_rb (f_ned 141 L4))]) rfl ?_
          have cc63 : -2147483648 ≤ f_rb (f_ned 141 L4) ∧ f_rb (f_ned 141 L4) < 2147483648 := co63 _ rfl
          refine ax_if_ne (tgt := 71) dX12_someAgain_66 (by decide) (pc' := 69) rfl (fun h66 => ?_) (fun h66 => ?_)
          · obtain ⟨L8, o8, qr8⟩ := f_rb_ok h66
            rw [qr8] at fa63_0
            have qc8 := fa63_0
            have qg8 := f_ned_inr qr8
            have qR8 := f_cur_rg qc8
            have qh8 := f_cur_hd qc8
            have qb8 : f_agd (nd + 1) L = .inr (L8, f_tms (f_V L9).toNat sb) := by
              rw [qb4, qr8]
              rfl
            have qrr : 1 ≤ M_19 330 27 ∧ M_19 330 27 ≤ 9 := by
              rw [qn2]
              exact qg2.1.2
            obtain ⟨kk, qkk⟩ : ∃ k : Nat, (k : Int) = M_19 330 27 - 1 := ⟨(M_19 330 27 - 1).toNat, by omega⟩
            have qkr : (f_V L9).toNat = kk + 1 := by
              rw [← qn2]
              omega
            have qtl : ((f_tms kk sb).length : Int) = (sb.length : Int) * (M_19 330 27 - 1) := by
              rw [f_tms_len, ← qkk, Int.natCast_mul, Int.mul_comm]
            have qm8 := f_mul8 (a := (sb.length : Int)) (b := M_19 330 27 - 1) (by omega) (by omega) (by omega)
            refine ax_aload_n dX12_someAgain_71 rfl rfl (pc' := 72) rfl ?_
            refine ax_geti (v := M_53 330 16) dX12_someAgain_72 flX12_279 rfl sh_330 ((frM_63 330 16 (fun h => h.elim (fun h => absurd h.2 (by decide)) (fun h => h.elim (fun h => absurd h.2 (by decide)) (fun h => h.elim (fun h => absurd h.2 (by decide)) (fun h => h.elim (fun h => absurd h.2 (by decide)) (fun h => h.elim (fun h => absurd h.2 (by decide)) (fun h => absurd h.2 (by decide)))))))).trans rfl) rfl (pc' := 75) rfl ?_
            refine ax_iload_n dX12_someAgain_75 rfl rfl (pc' := 76) rfl ?_
            refine ax_isub dX12_someAgain_76 (by omega) (pc' := 77) rfl ?_
            refine ax_reS (st2 := [.inl (sb.length : Int)]) (congrArg (fun z => Sum.inl z :: _) (by omega)) ?_
            refine ax_iload_n dX12_someAgain_77 rfl rfl (pc' := 78) rfl ?_
            refine ax_iconst dX12_someAgain_78 (by decide) (pc' := 79) rfl ?_
            refine ax_isub dX12_someAgain_79 (by omega) (pc' := 80) rfl ?_
            refine ax_imul dX12_someAgain_80 (by omega) (pc' := 81) rfl ?_
            refine ax_istore dX12_someAgain_81 (by decide) (ls' := [some (.inr 330), some (.inl op), some (.inl (M_19 330 27)), some (.inl dn), some (.inl ((sb.length : Int) * (M_19 330 27 - 1))), none, none]) rfl (pc' := 83) rfl ?_
            refine ax_iconst dX12_someAgain_83 (by decide) (pc' := 84) rfl ?_
            refine ax_istore dX12_someAgain_84 (by decide) (ls' := [some (.inr 330), some (.inl op), some (.inl (M_19 330 27)), some (.inl dn), some (.inl ((sb.length : Int) * (M_19 330 27 - 1))), some (.inl 0), none]) rfl (pc' := 86) rfl ?_
            have LP1 : ∀ (kq2 : Nat) (j : Int) (f1 : Int → Int) (s1 : Int) (cc : List f_Sp) (rem : List f_Sp) (M1 : ax_Mem) (hm1 : (rem.length : Int) < (kq2 : Nat)) (fr1 : ∀ x0 i0 : Int, ¬ (x0 = 337 ∨ (x0 = 330 ∧ i0 = 16)) → M1 x0 i0 = M_63 x0 i0) (mr1_337 : M1 337 = f1) (ms1_330_16 : M1 330 16 = s1) (iv1_0 : 0 ≤ j ∧ j = (cc.length : Int)) (iv1_1 : f_tms kk sb = cc ++ rem) (iv1_2 : f1 = f_putD fd dn (sb ++ cc)) (iv1_3 : s1 = dn + (sb.length : Int) + j), ax_W E l (d + 1) 0 0 iX12_someAgain 86 [some (.inr 330), some (.inl op), some (.inl (M_19 330 27)), some (.inl dn), some (.inl ((sb.length : Int) * (M_19 330 27 - 1))), some (.inl j), none] [] SH M1 (ax_P (fun z0 M2 => z0 = some (.inl (f_rdb (f_agd (nd + 1) L))) ∧ (∀ x0 i0 : Int, ¬ ((x0 = 330 ∧ i0 = 18) ∨ (x0 = 330 ∧ i0 = 19) ∨ (x0 = 330 ∧ i0 = 20) ∨ (x0 = 330 ∧ i0 = 21) ∨ (x0 = 330 ∧ i0 = 22) ∨ (x0 = 330 ∧ i0 = 23) ∨ x0 = 337 ∨ (x0 = 330 ∧ i0 = 16) ∨ (x0 = 330 ∧ i0 = 27)) → M2 x0 i0 = M x0 i0) ∧ (f_dok ta tn rd fd dn (f_agd (nd + 1) L) M2) ∧ (0 ≤ M2 330 21 ∧ M2 330 21 ≤ 9999))) := by
              intro kq2
              induction kq2 with
              | zero =>
                intro j f1 s1 cc rem M1 hm1 fr1 mr1_337 ms1_330_16 iv1_0 iv1_1 iv1_2 iv1_3
                exfalso
                omega
              | succ kq2 ih3 =>
                intro j f1 s1 cc rem M1 hm1 fr1 mr1_337 ms1_330_16 iv1_0 iv1_1 iv1_2 iv1_3
                have qcl : (f_tms kk sb).length = cc.length + rem.length := by rw [iv1_1, List.length_append]
                refine ax_iload dX12_someAgain_86 rfl (pc' := 88) rfl ?_
                refine ax_iload dX12_someAgain_88 rfl (pc' := 90) rfl ?_
                refine ax_icmp_ge (tgt := 159) dX12_someAgain_90 (by decide) (pc' := 93) rfl (fun h90 => ?_) (fun h90 => ?_)
                · have qe : rem = [] := by
                    cases rem with
                    | nil => rfl
                    | cons x y => simp only [List.length_cons] at *; omega
                  have qz : f_agd (nd + 1) L = .inr (L8, sb ++ cc) := by
                    rw [qb8, qkr]
                    show (.inr (L8, sb ++ f_tms kk sb) : f_Rd) = _
                    rw [iv1_1, qe, List.append_nil]
                  refine ax_iconst dX12_someAgain_159 (by decide) (pc' := 160) rfl ?_
                  refine ax_zret dX12_someAgain_160 rfl (by decide) ?_
                  refine ⟨rfl, ?_, ?_, ?_, ?_⟩
                  · refine congrArg (fun z => some (Sum.inl z)) ?_
                    rw [qz]
                    rfl
                  · intro x0 i0 hai
                    exact ((fr1 x0 i0 (fun h => h.elim (fun h => hai (Or.inr (Or.inr (Or.inr (Or.inr (Or.inr (Or.inr (Or.inl h)))))))) (fun h => hai (Or.inr (Or.inr (Or.inr (Or.inr (Or.inr (Or.inr (Or.inr (Or.inl h))))))))))).trans ((frM_63 x0 i0 (fun h => h.elim (fun h => hai (Or.inl h)) (fun h => h.elim (fun h => hai (Or.inr (Or.inl h))) (fun h => h.elim (fun h => hai (Or.inr (Or.inr (Or.inl h)))) (fun h => h.elim (fun h => hai (Or.inr (Or.inr (Or.inr (Or.inl h))))) (fun h => h.elim (fun h => hai (Or.inr (Or.inr (Or.inr (Or.inr (Or.inl h)))))) (fun h => hai (Or.inr (Or.inr (Or.inr (Or.inr (Or.inr (Or.inl h))))))))))))).trans ((frM_53 x0 i0 (fun h => h.elim (fun h => hai (Or.inl h)) (fun h => h.elim (fun h => hai (Or.inr (Or.inl h))) (fun h => h.elim (fun h => hai (Or.inr (Or.inr (Or.inl h)))) (fun h => h.elim (fun h => hai (Or.inr (Or.inr (Or.inr (Or.inl h))))) (fun h => h.elim (fun h => hai (Or.inr (Or.inr (Or.inr (Or.inr (Or.inl h)))))) (fun h => h.elim (fun h => hai (Or.inr (Or.inr (Or.inr (Or.inr (Or.inr (Or.inl h))))))) (fun h => h.elim (fun h => hai (Or.inr (Or.inr (Or.inr (Or.inr (Or.inr (Or.inr (Or.inl h)))))))) (fun h => h.elim (fun h => hai (Or.inr (Or.inr (Or.inr (Or.inr (Or.inr (Or.inr (Or.inr (Or.inl h))))))))) (fun h => hai (Or.inr (Or.inr (Or.inr (Or.inr (Or.inr (Or.inr (Or.inr (Or.inr h)))))))))))))))))).trans ((frM_36 x0 i0 (fun h => h.elim (fun h => hai (Or.inl h)) (fun h => h.elim (fun h => hai (Or.inr (Or.inl h))) (fun h => h.elim (fun h => hai (Or.inr (Or.inr (Or.inl h)))) (fun h => h.elim (fun h => hai (Or.inr (Or.inr (Or.inr (Or.inl h))))) (fun h => h.elim (fun h => hai (Or.inr (Or.inr (Or.inr (Or.inr (Or.inl h)))))) (fun h => hai (Or.inr (Or.inr (Or.inr (Or.inr (Or.inr (Or.inl h))))))))))))).trans ((frM_19 x0 i0 (fun h => h.elim (fun h => hai (Or.inl h)) (fun h => h.elim (fun h => hai (Or.inr (Or.inl h))) (fun h => h.elim (fun h => hai (Or.inr (Or.inr (Or.inl h)))) (fun h => h.elim (fun h => hai (Or.inr (Or.inr (Or.inr (Or.inl h))))) (fun h => h.elim (fun h => hai (Or.inr (Or.inr (Or.inr (Or.inr (Or.inl h)))))) (fun h => h.elim (fun h => hai (Or.inr (Or.inr (Or.inr (Or.inr (Or.inr (Or.inl h))))))) (fun h => hai (Or.inr (Or.inr (Or.inr (Or.inr (Or.inr (Or.inr (Or.inr (Or.inr h)))))))))))))))).trans ((frM_12 x0 i0 (fun h => h.elim (fun h => hai (Or.inl h)) (fun h => h.elim (fun h => hai (Or.inr (Or.inl h))) (fun h => h.elim (fun h => hai (Or.inr (Or.inr (Or.inl h)))) (fun h => hai (Or.inr (Or.inr (Or.inr (Or.inl h))))))))).trans rfl))))))
                  · refine f_dok_ok qz (Eq.trans mr1_337 ?_) (Eq.trans ms1_330_16 ?_) qc8 ((fr1 330 18 (fun h => h.elim (fun h => absurd h (by decide)) (fun h => absurd h.2 (by decide)))).trans rfl) ((fr1 330 19 (fun h => h.elim (fun h => absurd h (by decide)) (fun h => absurd h.2 (by decide)))).trans rfl) ((fr1 330 20 (fun h => h.elim (fun h => absurd h (by decide)) (fun h => absurd h.2 (by decide)))).trans rfl) ((fr1 330 21 (fun h => h.elim (fun h => absurd h (by decide)) (fun h => absurd h.2 (by decide)))).trans rfl)
                    · exact iv1_2
                    · rw [iv1_3, List.length_append]
                      omega
                  · have q9 : M1 330 21 = M_63 330 21 := ((fr1 330 21 (fun h => h.elim (fun h => absurd h (by decide)) (fun h => absurd h.2 (by decide)))).trans rfl)
                    have q9b : 0 ≤ M_63 330 21 ∧ M_63 330 21 ≤ 9999 := by omega
                    exact f_r9 q9 q9b
                · obtain ⟨s2, rem2, qd⟩ : ∃ x y, rem = x :: y := by
                    cases rem with
                    | nil => simp only [List.length_nil] at *; omega
                    | cons x y => exact ⟨x, y, rfl⟩
                  have qdl : rem.length = rem2.length + 1 := by rw [qd]; rfl
                  have qpr : f_putD fd dn (sb ++ (cc ++ [s2])) = f_tel f1 s1 s2 := by
                    rw [← List.append_assoc, f_putD_app (sb ++ cc) [s2], ← iv1_2, List.length_append]
                    show f_tel f1 _ s2 = _
                    rw [show dn + ((sb.length + cc.length : Nat) : Int) = s1 by omega]
                  refine ax_iconst dX12_someAgain_93 (by decide) (pc' := 94) rfl ?_
                  refine ax_iload_n dX12_someAgain_94 rfl rfl (pc' := 95) rfl ?_
                  refine ax_iload dX12_someAgain_95 rfl (pc' := 97) rfl ?_
                  refine ax_iadd dX12_someAgain_97 (by omega) (pc' := 98) rfl ?_
                  refine ax_imul dX12_someAgain_98 (by omega) (pc' := 99) rfl ?_
                  refine ax_istore dX12_someAgain_99 (by decide) (ls' := [some (.inr 330), some (.inl op), some (.inl (M_19 330 27)), some (.inl dn), some (.inl ((sb.length : Int) * (M_19 330 27 - 1))), some (.inl j), some (.inl (3 * (dn + j)))]) rfl (pc' := 101) rfl ?_
                  refine ax_aload_n dX12_someAgain_101 rfl rfl (pc' := 102) rfl ?_
                  refine ax_geti (v := s1) dX12_someAgain_102 flX12_279 rfl sh_330 ms1_330_16 rfl (pc' := 105) rfl ?_
                  refine ax_sipush dX12_someAgain_105 (by decide) (pc' := 108) rfl ?_
                  refine ax_icmp_ge (tgt := 143) dX12_someAgain_108 (by decide) (pc' := 111) rfl (fun h108 => ?_) (fun h108 => ?_)
                  · refine ax_aload_n dX12_someAgain_143 rfl rfl (pc' := 144) rfl ?_
                    refine ax_dup dX12_someAgain_144 (pc' := 145) rfl ?_
                    refine ax_geti (v := s1) dX12_someAgain_145 flX12_279 rfl sh_330 ms1_330_16 rfl (pc' := 148) rfl ?_
                    refine ax_iconst dX12_someAgain_148 (by decide) (pc' := 149) rfl ?_
                    refine ax_iadd dX12_someAgain_149 (by omega) (pc' := 150) rfl ?_
                    refine ax_puti dX12_someAgain_150 flX12_279 (Or.inl rfl) sh_330 rfl (pc' := 153) rfl ?_
                    have qp3 : f1 = f_putD fd dn (sb ++ (cc ++ [s2])) := by
                      first
                        | exact qpr.symm
                        | (rw [qpr]; unfold f_tel; rw [if_neg (by omega)])
                    refine ax_iinc dX12_someAgain_153 rfl (by decide) (by omega) (ls' := [some (.inr 330), some (.inl op), some (.inl (M_19 330 27)), some (.inl dn), some (.inl ((sb.length : Int) * (M_19 330 27 - 1))), some (.inl (j + 1)), some (.inl (3 * (dn + j)))]) rfl (pc' := 156) rfl ?_
                    refine ax_goto dX12_someAgain_156 (pc' := 86) (by decide) ?_
                    refine ax_less (ls2 := [some (.inr 330), some (.inl op), some (.inl (M_19 330 27)), some (.inl dn), some (.inl ((sb.length : Int) * (M_19 330 27 - 1))), some (.inl (j + 1)), none]) [true, true, true, true, true, true, false] rfl ?_
                    refine ih3 (j + 1) f1 (s1 + 1) (cc ++ [s2]) rem2 (ax_up M1 330 16 (s1 + 1)) ?_ ?_ ?_ ?_ ?_ ?_ ?_ ?_
                    · omega
                    · intro x0 i0 hai
                      exact (ax_up_miss (fun h => hai (Or.inr h)) ((fr1 x0 i0 (fun h => h.elim (fun h => hai (Or.inl h)) (fun h => hai (Or.inr h)))).trans rfl))
                    · exact (ax_up_rowmiss (by decide) mr1_337)
                    · exact (ax_up_hit _ _ _ _)
                    · rw [List.length_append]
                      simp only [List.length_cons, List.length_nil]
                      omega
                    · rw [iv1_1, qd, List.append_assoc]
                      rfl
                    · exact qp3
                    · omega
                  · have qx : f1 (3 * (dn + j)) = s2.1 ∧ f1 (3 * (dn + j) + 1) = s2.2.1 ∧ f1 (3 * (dn + j) + 2) = s2.2.2 := by
                      have q := f_putD_get (sb ++ cc) fd dn cc.length s2 (f_prd (qd ▸ iv1_1)) (by omega)
                      rw [← iv1_2, ← iv1_0.2] at q
                      exact q
                    refine ax_aload_n dX12_someAgain_111 rfl rfl (pc' := 112) rfl ?_
                    refine ax_aload_n dX12_someAgain_112 rfl rfl (pc' := 113) rfl ?_
                    refine ax_getr (v := 337) dX12_someAgain_113 flX12_28 rfl sh_330 rfl (pc' := 116) rfl ?_
                    refine ax_iload dX12_someAgain_116 rfl (pc' := 118) rfl ?_
                    refine ax_iald (v := f1 (3 * (dn + j))) dX12_someAgain_118 sh_337 rfl (by omega) (by omega) ((congrFun mr1_337 (3 * (dn + j))).trans rfl) (pc' := 119) rfl ?_
                    refine ax_reS (st2 := [.inl s2.1, .inr 330]) (congrArg (fun z => Sum.inl z :: _) (by exact qx.1)) ?_
                    refine ax_aload_n dX12_someAgain_119 rfl rfl (pc' := 120) rfl ?_
                    refine ax_getr (v := 337) dX12_someAgain_120 flX12_28 rfl sh_330 rfl (pc' := 123) rfl ?_
                    refine ax_iload dX12_someAgain_123 rfl (pc' := 125) rfl ?_
                    refine ax_iconst dX12_someAgain_125 (by decide) (pc' := 126) rfl ?_
                    refine ax_iadd dX12_someAgain_126 (by omega) (pc' := 127) rfl ?_
                    refine ax_iald (v := f1 (3 * (dn + j) + 1)) dX12_someAgain_127 sh_337 rfl (by omega) (by omega) ((congrFun mr1_337 (3 * (dn + j) + 1)).trans rfl) (pc' := 128) rfl ?_
                    refine ax_reS (st2 := [.inl s2.2.1, .inl s2.1, .inr 330]) (congrArg (fun z => Sum.inl z :: _) (by exact qx.2.1)) ?_
                    refine ax_aload_n dX12_someAgain_128 rfl rfl (pc' := 129) rfl ?_
                    refine ax_getr (v := 337) dX12_someAgain_129 flX12_28 rfl sh_330 rfl (pc' := 132) rfl ?_
                    refine ax_iload dX12_someAgain_132 rfl (pc' := 134) rfl ?_
                    refine ax_iconst dX12_someAgain_134 (by decide) (pc' := 135) rfl ?_
                    refine ax_iadd dX12_someAgain_135 (by omega) (pc' := 136) rfl ?_
                    refine ax_iald (v := f1 (3 * (dn + j) + 2)) dX12_someAgain_136 sh_337 rfl (by omega) (by omega) ((congrFun mr1_337 (3 * (dn + j) + 2)).trans rfl) (pc' := 137) rfl ?_
                    refine ax_reS (st2 := [.inl s2.2.2, .inl s2.2.1, .inl s2.1, .inr 330]) (congrArg (fun z => Sum.inl z :: _) (by exact qx.2.2)) ?_
                    refine ax_invG [.inl s2.1, .inl s2.2.1, .inl s2.2.2] [] dX12_someAgain_137 mlX12_289 sh_330 rfl rfl rfl (Nat.le_of_ble_eq_true rfl) (s_X12_tells E l _ (by omega) _ s2.1 s2.2.1 s2.2.2 mr1_337 ms1_330_16 (by first | omega | assumption)) (pc' := 140) rfl (fun vv M_137 hq co137 hcm137 => ?_)
                    obtain ⟨rfl, frM_137, mrM_137_0, msM_137_0⟩ := hq
                    refine ax_reS (st2 := []) rfl ?_
                    refine ax_goto dX12_someAgain_140 (pc' := 153) (by decide) ?_
                    have qp3 : f_tel f1 s1 (s2.1, s2.2.1, s2.2.2) = f_putD fd dn (sb ++ (cc ++ [s2])) := by
                      first
                        | exact qpr.symm
                        | (rw [qpr]; unfold f_tel; rw [if_neg (by omega)])
                    refine ax_iinc dX12_someAgain_153 rfl (by decide) (by omega) (ls' := [some (.inr 330), some (.inl op), some (.inl (M_19 330 27)), some (.inl dn), some (.inl ((sb.length : Int) * (M_19 330 27 - 1))), some (.inl (j + 1)), some (.inl (3 * (dn + j)))]) rfl (pc' := 156) rfl ?_
                    refine ax_goto dX12_someAgain_156 (pc' := 86) (by decide) ?_
                    refine ax_less (ls2 := [some (.inr 330), some (.inl op), some (.inl (M_19 330 27)), some (.inl dn), some (.inl ((sb.length : Int) * (M_19 330 27 - 1))), some (.inl (j + 1)), none]) [true, true, true, true, true, true, false] rfl ?_
                    refine ih3 (j + 1) (f_tel f1 s1 (s2.1, s2.2.1, s2.2.2)) (s1 + 1) (cc ++ [s2]) rem2 M_137 ?_ ?_ ?_ ?_ ?_ ?_ ?_ ?_
                    · omega
                    · intro x0 i0 hai
                      exact ((frM_137 x0 i0 (fun h => h.elim (fun h => hai (Or.inl h)) (fun h => hai (Or.inr h)))).trans ((fr1 x0 i0 (fun h => h.elim (fun h => hai (Or.inl h)) (fun h => hai (Or.inr h)))).trans rfl))
                    · exact mrM_137_0
                    · exact msM_137_0
                    · rw [List.length_append]
                      simp only [List.length_cons, List.length_nil]
                      omega
                    · rw [iv1_1, qd, List.append_assoc]
                      rfl
                    · exact qp3
                    · omega
            refine LP1 (((f_tms kk sb).length : Int) : Int).toNat.succ 0 (M_53 337) (M_53 330 16) ([]) (f_tms kk sb) M_63 ?_ ?_ ?_ ?_ ?_ ?_ ?_ ?_
            · omega
            · exact fun a i _ => rfl
            · exact ((funext fun i0 => frM_63 337 i0 (fun h => h.elim (fun h => absurd h.1 (by decide)) (fun h => h.elim (fun h => absurd h.1 (by decide)) (fun h => h.elim (fun h => absurd h.1 (by decide)) (fun h => h.elim (fun h => absurd h.1 (by decide)) (fun h => h.elim (fun h => absurd h.1 (by decide)) (fun h => absurd h.1 (by decide)))))))).trans rfl)
            · exact ((frM_63 330 16 (fun h => h.elim (fun h => absurd h.2 (by decide)) (fun h => h.elim (fun h => absurd h.2 (by decide)) (fun h => h.elim (fun h => absurd h.2 (by decide)) (fun h => h.elim (fun h => absurd h.2 (by decide)) (fun h => h.elim (fun h => absurd h.2 (by decide)) (fun h => absurd h.2 (by decide)))))))).trans rfl)
            · exact ⟨Int.le_refl 0, rfl⟩
            · rfl
            · rw [List.append_nil]
              exact qmB
            · rw [qsB]
              omega
          · obtain ⟨kk8, ss8, qr8⟩ := f_rb_no h66
            rw [qr8] at fa63_0
            have qz : f_agd (nd + 1) L = .inl (kk8, ss8) := by
              rw [qb4, qr8]
              rfl
            have qfa := fa63_0
            refine ax_iconst dX12_someAgain_69 (by decide) (pc' := 70) rfl ?_
            refine ax_zret dX12_someAgain_70 rfl (by decide) ?_
            refine ⟨rfl, ?_, ?_, ?_, ?_⟩
            · refine congrArg (fun z => some (Sum.inl z)) ?_
              rw [qz]
              rfl
            · intro x0 i0 hai
              exact ((frM_63 x0 i0 (fun h => h.elim (fun h => hai (Or.inl h)) (fun h => h.elim (fun h => hai (Or.inr (Or.inl h))) (fun h => h.elim (fun h => hai (Or.inr (Or.inr (Or.inl h)))) (fun h => h.elim (fun h => hai (Or.inr (Or.inr (Or.inr (Or.inl h))))) (fun h => h.elim (fun h => hai (Or.inr (Or.inr (Or.inr (Or.inr (Or.inl h)))))) (fun h => hai (Or.inr (Or.inr (Or.inr (Or.inr (Or.inr (Or.inl h))))))))))))).trans ((frM_53 x0 i0 (fun h => h.elim (fun h => hai (Or.inl h)) (fun h => h.elim (fun h => hai (Or.inr (Or.inl h))) (fun h => h.elim (fun h => hai (Or.inr (Or.inr (Or.inl h)))) (fun h => h.elim (fun h => hai (Or.inr (Or.inr (Or.inr (Or.inl h))))) (fun h => h.elim (fun h => hai (Or.inr (Or.inr (Or.inr (Or.inr (Or.inl h)))))) (fun h => h.elim (fun h => hai (Or.inr (Or.inr (Or.inr (Or.inr (Or.inr (Or.inl h))))))) (fun h => h.elim (fun h => hai (Or.inr (Or.inr (Or.inr (Or.inr (Or.inr (Or.inr (Or.inl h)))))))) (fun h => h.elim (fun h => hai (Or.inr (Or.inr (Or.inr (Or.inr (Or.inr (Or.inr (Or.inr (Or.inl h))))))))) (fun h => hai (Or.inr (Or.inr (Or.inr (Or.inr (Or.inr (Or.inr (Or.inr (Or.inr h)))))))))))))))))).trans ((frM_36 x0 i0 (fun h => h.elim (fun h => hai (Or.inl h)) (fun h => h.elim (fun h => hai (Or.inr (Or.inl h))) (fun h => h.elim (fun h => hai (Or.inr (Or.inr (Or.inl h)))) (fun h => h.elim (fun h => hai (Or.inr (Or.inr (Or.inr (Or.inl h))))) (fun h => h.elim (fun h => hai (Or.inr (Or.inr (Or.inr (Or.inr (Or.inl h)))))) (fun h => hai (Or.inr (Or.inr (Or.inr (Or.inr (Or.inr (Or.inl h))))))))))))).trans ((frM_19 x0 i0 (fun h => h.elim (fun h => hai (Or.inl h)) (fun h => h.elim (fun h => hai (Or.inr (Or.inl h))) (fun h => h.elim (fun h => hai (Or.inr (Or.inr (Or.inl h)))) (fun h => h.elim (fun h => hai (Or.inr (Or.inr (Or.inr (Or.inl h))))) (fun h => h.elim (fun h => hai (Or.inr (Or.inr (Or.inr (Or.inr (Or.inl h)))))) (fun h => h.elim (fun h => hai (Or.inr (Or.inr (Or.inr (Or.inr (Or.inr (Or.inl h))))))) (fun h => hai (Or.inr (Or.inr (Or.inr (Or.inr (Or.inr (Or.inr (Or.inr (Or.inr h)))))))))))))))).trans ((frM_12 x0 i0 (fun h => h.elim (fun h => hai (Or.inl h)) (fun h => h.elim (fun h => hai (Or.inr (Or.inl h))) (fun h => h.elim (fun h => hai (Or.inr (Or.inr (Or.inl h)))) (fun h => hai (Or.inr (Or.inr (Or.inr (Or.inl h))))))))).trans rfl)))))
            · exact f_dok_no qz qfa.1 qfa.2
            · have q9 : M_63 330 21 = M_63 330 21 := rfl
              have q9b : 0 ≤ M_63 330 21 ∧ M_63 330 21 ≤ 9999 := by omega
              exact f_r9 q9 q9b
      · obtain ⟨kk3, ss3, qr3⟩ := f_rb_no h39
        rw [qr3] at fa36_0
        have qz : f_agd (nd + 1) L = .inl (kk3, ss3) := by
          rw [qb2, qr3]
          rfl
        refine ax_iconst dX12_someAgain_42 (by decide) (pc' := 43) rfl ?_
        refine ax_zret dX12_someAgain_43 rfl (by decide) ?_
        refine ⟨rfl, ?_, ?_, ?_, ?_⟩
        · refine congrArg (fun z => some (Sum.inl z)) ?_
          rw [qz]
          rfl
        · intro x0 i0 hai
          exact ((frM_36 x0 i0 (fun h => h.elim (fun h => hai (Or.inl h)) (fun h => h.elim (fun h => hai (Or.inr (Or.inl h))) (fun h => h.elim (fun h => hai (Or.inr (Or.inr (Or.inl h)))) (fun h => h.elim (fun h => hai (Or.inr (Or.inr (Or.inr (Or.inl h))))) (fun h => h.elim (fun h => hai (Or.inr (Or.inr (Or.inr (Or.inr (Or.inl h)))))) (fun h => hai (Or.inr (Or.inr (Or.inr (Or.inr (Or.inr (Or.inl h))))))))))))).trans ((frM_19 x0 i0 (fun h => h.elim (fun h => hai (Or.inl h)) (fun h => h.elim (fun h => hai (Or.inr (Or.inl h))) (fun h => h.elim (fun h => hai (Or.inr (Or.inr (Or.inl h)))) (fun h => h.elim (fun h => hai (Or.inr (Or.inr (Or.inr (Or.inl h))))) (fun h => h.elim (fun h => hai (Or.inr (Or.inr (Or.inr (Or.inr (Or.inl h)))))) (fun h => h.elim (fun h => hai (Or.inr (Or.inr (Or.inr (Or.inr (Or.inr (Or.inl h))))))) (fun h => hai (Or.inr (Or.inr (Or.inr (Or.inr (Or.inr (Or.inr (Or.inr (Or.inr h)))))))))))))))).trans ((frM_12 x0 i0 (fun h => h.elim (fun h => hai (Or.inl h)) (fun h => h.elim (fun h => hai (Or.inr (Or.inl h))) (fun h => h.elim (fun h => hai (Or.inr (Or.inr (Or.inl h)))) (fun h => hai (Or.inr (Or.inr (Or.inr (Or.inl h))))))))).trans rfl)))
        · exact f_dok_no qz fa36_0.1 fa36_0.2
        · have q9 : M_36 330 21 = M_36 330 21 := rfl
          have q9b : 0 ≤ M_36 330 21 ∧ M_36 330 21 ≤ 9999 := by omega
          exact f_r9 q9 q9b
    · obtain ⟨kk2, ss2, qr2⟩ := f_rb_no h22
      rw [qr2] at fa19_0
      have qz : f_agd (nd + 1) L = .inl (kk2, ss2) := by
        rw [qb, qr2]
        rfl
      refine ax_iconst dX12_someAgain_25 (by decide) (pc' := 26) rfl ?_
      refine ax_zret dX12_someAgain_26 rfl (by decide) ?_
      refine ⟨rfl, ?_, ?_, ?_, ?_⟩
      · refine congrArg (fun z => some (Sum.inl z)) ?_
        rw [qz]
        rfl
      · intro x0 i0 hai
        exact ((frM_19 x0 i0 (fun h => h.elim (fun h => hai (Or.inl h)) (fun h => h.elim (fun h => hai (Or.inr (Or.inl h))) (fun h => h.elim (fun h => hai (Or.inr (Or.inr (Or.inl h)))) (fun h => h.elim (fun h => hai (Or.inr (Or.inr (Or.inr (Or.inl h))))) (fun h => h.elim (fun h => hai (Or.inr (Or.inr (Or.inr (Or.inr (Or.inl h)))))) (fun h => h.elim (fun h => hai (Or.inr (Or.inr (Or.inr (Or.inr (Or.inr (Or.inl h))))))) (fun h => hai (Or.inr (Or.inr (Or.inr (Or.inr (Or.inr (Or.inr (Or.inr (Or.inr h)))))))))))))))).trans ((frM_12 x0 i0 (fun h => h.elim (fun h => hai (Or.inl h)) (fun h => h.elim (fun h => hai (Or.inr (Or.inl h))) (fun h => h.elim (fun h => hai (Or.inr (Or.inr (Or.inl h)))) (fun h => hai (Or.inr (Or.inr (Or.inr (Or.inl h))))))))).trans rfl))
      · exact f_dok_no qz fa19_0.1 fa19_0.2
      · have q9 : M_19 330 21 = M_19 330 21 := rfl
        have q9b : 0 ≤ M_19 330 21 ∧ M_19 330 21 ≤ 9999 := by omega
        exact f_r9 q9 q9b
  · exfalso
    omega
set_option maxRecDepth 20000 in
theorem s_X12_someSteps (nd : Nat) (H3 : f_C3 nd) (E : ax_Env) (l : Launch) (d : Nat) (hd : 13 + 2 * nd ≤ d) (M : ax_Mem) (op : Int) (L : List f_Tk) {ta : Int → Int} (hta : M 339 = ta) {fd : Int → Int} (hfd : M 337 = fd) {p0 : Int} (hp0 : M 330 18 = p0) {to : Int} (hto : M 330 19 = to) {tk : Int} (htk : M 330 20 = tk) {v0 : Int} (hv0 : M 330 21 = v0) {tn : Int} (htn : M 330 17 = tn) {rd : Int} (hrd : M 330 13 = rd) {dn : Int} (hdn : M 330 16 = dn) (hg0 : 0 ≤ tn ∧ tn ≤ 400) (hg1 : f_tp ta tn) (hg2 : f_cur ta tn rd L p0 to tk v0) (hg3 : 0 ≤ op ∧ op + ((nd : Nat) : Int) = 4) (hg4 : 0 ≤ dn ∧ dn + ((f_cap (nd) * L.length : Nat) : Int) ≤ 3000000) : ax_G E l d iX12_someSteps [.inr 330, .inl op] M (fun z0 M2 => z0 = some (.inl (f_rdb (f_sts nd L))) ∧ (∀ x0 i0 : Int, ¬ ((x0 = 330 ∧ i0 = 18) ∨ (x0 = 330 ∧ i0 = 19) ∨ (x0 = 330 ∧ i0 = 20) ∨ (x0 = 330 ∧ i0 = 21) ∨ (x0 = 330 ∧ i0 = 22) ∨ (x0 = 330 ∧ i0 = 23) ∨ x0 = 337 ∨ (x0 = 330 ∧ i0 = 16) ∨ (x0 = 330 ∧ i0 = 27)) → M2 x0 i0 = M x0 i0) ∧ (f_dok ta tn rd fd dn (f_sts nd L) M2) ∧ (0 ≤ M2 330 21 ∧ M2 330 21 ≤ 9999)) := by
  obtain ⟨d, rfl⟩ : ∃ d0, d = d0 + 1 := ⟨d - 1, by omega⟩
  refine ax_start rfl (Nat.le_of_ble_eq_true rfl) (ls := [some (.inr 330), some (.inl op), none]) rfl (fun hav hcm => ?_)
  have hc1 : -2147483648 ≤ op ∧ op < 2147483648 := hav (.inl op) (by simp)
  clear hav
  refine ax_iconst dX12_someSteps_0 (by decide) (pc' := 1) rfl ?_
  refine ax_istore_n dX12_someSteps_1 rfl (by decide) (ls' := [some (.inr 330), some (.inl op), some (.inl 1)]) rfl (pc' := 2) rfl ?_
  have LP1 : ∀ (kq2 : Nat) (gd : Int) (f1 : Int → Int) (s1 n1 p1 t1 k1 v1 wx1 wx2 : Int) (L1 : List f_Tk) (cc : List f_Sp) (M1 : ax_Mem) (hm1 : (L1.length : Int) + gd < (kq2 : Nat)) (fr1 : ∀ x0 i0 : Int, ¬ (x0 = 337 ∨ (x0 = 330 ∧ i0 = 16) ∨ (x0 = 330 ∧ i0 = 27) ∨ (x0 = 330 ∧ i0 = 18) ∨ (x0 = 330 ∧ i0 = 19) ∨ (x0 = 330 ∧ i0 = 20) ∨ (x0 = 330 ∧ i0 = 21) ∨ (x0 = 330 ∧ i0 = 22) ∨ (x0 = 330 ∧ i0 = 23)) → M1 x0 i0 = M x0 i0) (mr1_337 : M1 337 = f1) (ms1_330_16 : M1 330 16 = s1) (ms1_330_27 : M1 330 27 = n1) (ms1_330_18 : M1 330 18 = p1) (ms1_330_19 : M1 330 19 = t1) (ms1_330_20 : M1 330 20 = k1) (ms1_330_21 : M1 330 21 = v1) (ms1_330_22 : M1 330 22 = wx1) (ms1_330_23 : M1 330 23 = wx2) (iv1_0 : gd = 0 ∨ gd = 1) (iv1_1 : gd = 0 → f_sts nd L = .inl (wx1, wx2)) (iv1_2 : gd = 1 → f_cur ta tn rd L1 p1 t1 k1 v1) (iv1_3 : gd = 1 → f1 = f_putD fd dn cc ∧ s1 = dn + (cc.length : Int)) (iv1_4 : gd = 1 → cc.length + f_cap nd * L1.length ≤ f_cap nd * L.length) (iv1_5 : gd = 1 → f_sts nd L = f_preD cc (f_repD (f_agd nd) L1)) (iv1_6 : 0 ≤ v1 ∧ v1 ≤ 9999), ax_W E l (d + 1) 0 0 iX12_someSteps 2 [some (.inr 330), some (.inl op), some (.inl gd)] [] SH M1 (ax_P (fun z0 M2 => z0 = some (.inl (f_rdb (f_sts nd L))) ∧ (∀ x0 i0 : Int, ¬ ((x0 = 330 ∧ i0 = 18) ∨ (x0 = 330 ∧ i0 = 19) ∨ (x0 = 330 ∧ i0 = 20) ∨ (x0 = 330 ∧ i0 = 21) ∨ (x0 = 330 ∧ i0 = 22) ∨ (x0 = 330 ∧ i0 = 23) ∨ x0 = 337 ∨ (x0 = 330 ∧ i0 = 16) ∨ (x0 = 330 ∧ i0 = 27)) → M2 x0 i0 = M x0 i0) ∧ (f_dok ta tn rd fd dn (f_sts nd L) M2) ∧ (0 ≤ M2 330 21 ∧ M2 330 21 ≤ 9999))) := by
    intro kq2
    induction kq2 with
    | zero =>
      intro gd f1 s1 n1 p1 t1 k1 v1 wx1 wx2 L1 cc M1 hm1 fr1 mr1_337 ms1_330_16 ms1_330_27 ms1_330_18 ms1_330_19 ms1_330_20 ms1_330_21 ms1_330_22 ms1_330_23 iv1_0 iv1_1 iv1_2 iv1_3 iv1_4 iv1_5 iv1_6
      exfalso
      omega
    | succ kq2 ih3 =>
      intro gd f1 s1 n1 p1 t1 k1 v1 wx1 wx2 L1 cc M1 hm1 fr1 mr1_337 ms1_330_16 ms1_330_27 ms1_330_18 ms1_330_19 ms1_330_20 ms1_330_21 ms1_330_22 ms1_330_23 iv1_0 iv1_1 iv1_2 iv1_3 iv1_4 iv1_5 iv1_6
      refine ax_iload_n dX12_someSteps_2 rfl rfl (pc' := 3) rfl ?_
      refine ax_if_eq (tgt := 45) dX12_someSteps_3 (by decide) (pc' := 6) rfl (fun h3 => ?_) (fun h3 => ?_)
      · have qz := iv1_1 (by omega)
        refine ax_iload_n dX12_someSteps_45 rfl rfl (pc' := 46) rfl ?_
        refine ax_zret dX12_someSteps_46 rfl (by omega) ?_
        refine ⟨rfl, ?_, ?_, ?_, ?_⟩
        · refine congrArg (fun z => some (Sum.inl z)) ?_
          rw [qz]
          first | rfl | (show _ = (0 : Int); omega)
        · intro x0 i0 hai
          exact ((fr1 x0 i0 (fun h => h.elim (fun h => hai (Or.inr (Or.inr (Or.inr (Or.inr (Or.inr (Or.inr (Or.inl h)))))))) (fun h => h.elim (fun h => hai (Or.inr (Or.inr (Or.inr (Or.inr (Or.inr (Or.inr (Or.inr (Or.inl h))))))))) (fun h => h.elim (fun h => hai (Or.inr (Or.inr (Or.inr (Or.inr (Or.inr (Or.inr (Or.inr (Or.inr h))))))))) (fun h => h.elim (fun h => hai (Or.inl h)) (fun h => h.elim (fun h => hai (Or.inr (Or.inl h))) (fun h => h.elim (fun h => hai (Or.inr (Or.inr (Or.inl h)))) (fun h => h.elim (fun h => hai (Or.inr (Or.inr (Or.inr (Or.inl h))))) (fun h => h.elim (fun h => hai (Or.inr (Or.inr (Or.inr (Or.inr (Or.inl h)))))) (fun h => hai (Or.inr (Or.inr (Or.inr (Or.inr (Or.inr (Or.inl h)))))))))))))))).trans rfl)
        · first
            | exact f_dok_no qz ms1_330_22 ms1_330_23
            | exact f_dok_ok qz (Eq.trans mr1_337 qi3.1) (Eq.trans ms1_330_16 qi3.2) qc1 ms1_330_18 ms1_330_19 ms1_330_20 ms1_330_21
        · have q9 : M1 330 21 = v1 := ms1_330_21
          have q9b : 0 ≤ v1 ∧ v1 ≤ 9999 := by omega
          exact f_r9 q9 q9b
      · obtain rfl : gd = 1 := by omega
        have qc1 := iv1_2 rfl
        have qi3 := iv1_3 rfl
        have qi4 := iv1_4 rfl
        have qi5 := iv1_5 rfl
        have qh1 := f_cur_hd qc1
        refine ax_aload_n dX12_someSteps_6 rfl rfl (pc' := 7) rfl ?_
        refine ax_geti (v := t1) dX12_someSteps_7 flX12_208 rfl sh_330 ms1_330_19 rfl (pc' := 10) rfl ?_
        refine ax_bipush dX12_someSteps_10 (by decide) (pc' := 12) rfl ?_
        refine ax_bipush dX12_someSteps_12 (by decide) (pc' := 14) rfl ?_
        refine ax_insG [.inl t1, .inl 10, .inl 15] [] dX12_someSteps_14 mlX12_74 rfl rfl (Nat.le_of_ble_eq_true rfl) (s_X12_isIn E l _ (by omega) _ t1 10 15) (pc' := 17) rfl (fun vv M_14 hq co14 hcm14 => ?_)
        obtain ⟨rfl, rfl⟩ := hq
        refine ax_reS (st2 := [.inl (f_b (10 ≤ t1 ∧ t1 ≤ 15))]) rfl ?_
        refine ax_if_eq (tgt := 45) dX12_someSteps_17 (by decide) (pc' := 20) rfl (fun h17 => ?_) (fun h17 => ?_)
        · replace h17 := f_b_0 h17
          have qz : f_sts nd L = .inr (L1, cc) := by
            rw [qi5, f_repD_none (by omega), f_preD_nil]
          refine ax_iload_n dX12_someSteps_45 rfl rfl (pc' := 46) rfl ?_
          refine ax_zret dX12_someSteps_46 rfl (by omega) ?_
          refine ⟨rfl, ?_, ?_, ?_, ?_⟩
          · refine congrArg (fun z => some (Sum.inl z)) ?_
            rw [qz]
            first | rfl | (show _ = (0 : Int); omega)
          · intro x0 i0 hai
            exact ((fr1 x0 i0 (fun h => h.elim (fun h => hai (Or.inr (Or.inr (Or.inr (Or.inr (Or.inr (Or.inr (Or.inl h)))))))) (fun h => h.elim (fun h => hai (Or.inr (Or.inr (Or.inr (Or.inr (Or.inr (Or.inr (Or.inr (Or.inl h))))))))) (fun h => h.elim (fun h => hai (Or.inr (Or.inr (Or.inr (Or.inr (Or.inr (Or.inr (Or.inr (Or.inr h))))))))) (fun h => h.elim (fun h => hai (Or.inl h)) (fun h => h.elim (fun h => hai (Or.inr (Or.inl h))) (fun h => h.elim (fun h => hai (Or.inr (Or.inr (Or.inl h)))) (fun h => h.elim (fun h => hai (Or.inr (Or.inr (Or.inr (Or.inl h))))) (fun h => h.elim (fun h => hai (Or.inr (Or.inr (Or.inr (Or.inr (Or.inl h)))))) (fun h => hai (Or.inr (Or.inr (Or.inr (Or.inr (Or.inr (Or.inl h)))))))))))))))).trans rfl)
          · first
              | exact f_dok_no qz ms1_330_22 ms1_330_23
              | exact f_dok_ok qz (Eq.trans mr1_337 qi3.1) (Eq.trans ms1_330_16 qi3.2) qc1 ms1_330_18 ms1_330_19 ms1_330_20 ms1_330_21
          · have q9 : M1 330 21 = v1 := ms1_330_21
            have q9b : 0 ≤ v1 ∧ v1 ≤ 9999 := by omega
            exact f_r9 q9 q9b
        · replace h17 := f_b_1 h17
          have qin : 10 ≤ f_T L1 ∧ f_T L1 ≤ 15 := by omega
          refine ax_aload_n dX12_someSteps_20 rfl rfl (pc' := 21) rfl ?_
          refine ax_geti (v := t1) dX12_someSteps_21 flX12_208 rfl sh_330 ms1_330_19 rfl (pc' := 24) rfl ?_
          refine ax_bipush dX12_someSteps_24 (by decide) (pc' := 26) rfl ?_
          refine ax_icmp_ne (tgt := 37) dX12_someSteps_26 (by decide) (pc' := 29) rfl (fun h26 => ?_) (fun h26 => ?_)
          · refine ax_aload_n dX12_someSteps_37 rfl rfl (pc' := 38) rfl ?_
            refine ax_invG [] [] dX12_someSteps_38 mlX12_298 sh_330 rfl rfl rfl (Nat.le_of_ble_eq_true rfl) (s_X12_aStep E l _ (by omega) _ L1 ((funext fun i0 => fr1 339 i0 (fun h => h.elim (fun h => absurd h (by decide)) (fun h => h.elim (fun h => absurd h.1 (by decide)) (fun h => h.elim (fun h => absurd h.1 (by decide)) (fun h => h.elim (fun h => absurd h.1 (by decide)) (fun h => h.elim (fun h => absurd h.1 (by decide)) (fun h => h.elim (fun h => absurd h.1 (by decide)) (fun h => h.elim (fun h => absurd h.1 (by decide)) (fun h => h.elim (fun h => absurd h.1 (by decide)) (fun h => absurd h.1 (by decide))))))))))).trans hta) mr1_337 ms1_330_18 ms1_330_19 ms1_330_20 ms1_330_21 ((fr1 330 17 (fun h => h.elim (fun h => absurd h (by decide)) (fun h => h.elim (fun h => absurd h.2 (by decide)) (fun h => h.elim (fun h => absurd h.2 (by decide)) (fun h => h.elim (fun h => absurd h.2 (by decide)) (fun h => h.elim (fun h => absurd h.2 (by decide)) (fun h => h.elim (fun h => absurd h.2 (by decide)) (fun h => h.elim (fun h => absurd h.2 (by decide)) (fun h => h.elim (fun h => absurd h.2 (by decide)) (fun h => absurd h.2 (by decide))))))))))).trans htn) ((fr1 330 13 (fun h => h.elim (fun h => absurd h (by decide)) (fun h => h.elim (fun h => absurd h.2 (by decide)) (fun h => h.elim (fun h => absurd h.2 (by decide)) (fun h => h.elim (fun h => absurd h.2 (by decide)) (fun h => h.elim (fun h => absurd h.2 (by decide)) (fun h => h.elim (fun h => absurd h.2 (by decide)) (fun h => h.elim (fun h => absurd h.2 (by decide)) (fun h => h.elim (fun h => absurd h.2 (by decide)) (fun h => absurd h.2 (by decide))))))))))).trans hrd) ms1_330_16 (by first | omega | assumption) (by first | omega | assumption) qc1 (by first | omega | assumption) (by first | omega | assumption)) (pc' := 41) rfl (fun vv M_38 hq co38 hcm38 => ?_)
            obtain ⟨rfl, frM_38, fa38_0, fa38_1⟩ := hq
            refine ax_reS (st2 := [.inl (f_rdb (f_stp L1))]) rfl ?_
            have cc38 : -2147483648 ≤ f_rdb (f_stp L1) ∧ f_rdb (f_stp L1) < 2147483648 := co38 _ rfl
            have qit : f_itm (f_agd nd) L1 = f_stp L1 := by
              unfold f_itm
              rw [if_neg (by omega)]
            obtain ⟨L3, c3, qa0, qa1, qa2, qa3, qa4, qa5⟩ : ∃ (L3 : List f_Tk) (c3 : List f_Sp), (L3.length : Int) + f_rdb (f_stp L1) < (L1.length : Int) + 1 ∧ (f_rdb (f_stp L1) = 0 → f_sts nd L = .inl (M_38 330 22, M_38 330 23)) ∧ (f_rdb (f_stp L1) = 1 → f_cur ta tn rd L3 (M_38 330 18) (M_38 330 19) (M_38 330 20) (M_38 330 21)) ∧ (f_rdb (f_stp L1) = 1 → M_38 337 = f_putD fd dn c3 ∧ M_38 330 16 = dn + (c3.length : Int)) ∧ (f_rdb (f_stp L1) = 1 → c3.length + f_cap nd * L3.length ≤ f_cap nd * L.length) ∧ (f_rdb (f_stp L1) = 1 → f_sts nd L = f_preD c3 (f_repD (f_agd nd) L3)) := by
              rcases f_rdb_01 (f_stp L1) with qn | qn
              · obtain ⟨kk3, ss3, qr3⟩ := f_rdb_no qn
                rw [qr3] at fa38_0
                refine ⟨L1, [], by omega, fun _ => ?_, fun q => by omega, fun q => by omega, fun q => by omega, fun q => by omega⟩
                rw [qi5, f_repD_some (f_cap_1 nd) (f_agd_gD nd) qin, qit, qr3, fa38_0.1, fa38_0.2]
                rfl
              · obtain ⟨L3, c2, qr3⟩ := f_rdb_ok (r := f_stp L1) (by omega)
                rw [qr3] at fa38_0
                obtain ⟨qm3, qs3, qc3⟩ := fa38_0
                have qg3 := f_itm_gD (f_cap_1 nd) (f_agd_gD nd) L1 qin L3 c2 (qit.trans qr3)
                refine ⟨L3, cc ++ c2, by omega, fun q => by omega, fun _ => qc3, fun _ => ⟨?_, ?_⟩, fun _ => ?_, fun _ => ?_⟩
                · rw [qm3]
                  exact f_putD_more qi3.1 qi3.2
                · rw [qs3, qi3.2, List.length_append]
                  omega
                · rw [List.length_append]
                  omega
                · rw [qi5, f_repD_some (f_cap_1 nd) (f_agd_gD nd) qin, qit, qr3]
                  exact f_preD_preD cc c2 _
            refine ax_istore_n dX12_someSteps_41 rfl (by decide) (ls' := [some (.inr 330), some (.inl op), some (.inl (f_rdb (f_stp L1)))]) rfl (pc' := 42) rfl ?_
            refine ax_goto dX12_someSteps_42 (pc' := 2) (by decide) ?_
            refine ih3 (f_rdb (f_stp L1)) (M_38 337) (M_38 330 16) (M_38 330 27) (M_38 330 18) (M_38 330 19) (M_38 330 20) (M_38 330 21) (M_38 330 22) (M_38 330 23) L3 c3 M_38 ?_ ?_ ?_ ?_ ?_ ?_ ?_ ?_ ?_ ?_ ?_ ?_ ?_ ?_ ?_ ?_ ?_ ?_
            · omega
            · intro x0 i0 hai
              exact ((frM_38 x0 i0 (fun h => h.elim (fun h => hai (Or.inr (Or.inr (Or.inr (Or.inl h))))) (fun h => h.elim (fun h => hai (Or.inr (Or.inr (Or.inr (Or.inr (Or.inl h)))))) (fun h => h.elim (fun h => hai (Or.inr (Or.inr (Or.inr (Or.inr (Or.inr (Or.inl h))))))) (fun h => h.elim (fun h => hai (Or.inr (Or.inr (Or.inr (Or.inr (Or.inr (Or.inr (Or.inl h)))))))) (fun h => h.elim (fun h => hai (Or.inr (Or.inr (Or.inr (Or.inr (Or.inr (Or.inr (Or.inr (Or.inl h))))))))) (fun h => h.elim (fun h => hai (Or.inr (Or.inr (Or.inr (Or.inr (Or.inr (Or.inr (Or.inr (Or.inr h))))))))) (fun h => h.elim (fun h => hai (Or.inl h)) (fun h => h.elim (fun h => hai (Or.inr (Or.inl h))) (fun h => hai (Or.inr (Or.inr (Or.inl h))))))))))))).trans ((fr1 x0 i0 (fun h => h.elim (fun h => hai (Or.inl h)) (fun h => h.elim (fun h => hai (Or.inr (Or.inl h))) (fun h => h.elim (fun h => hai (Or.inr (Or.inr (Or.inl h)))) (fun h => h.elim (fun h => hai (Or.inr (Or.inr (Or.inr (Or.inl h))))) (fun h => h.elim (fun h => hai (Or.inr (Or.inr (Or.inr (Or.inr (Or.inl h)))))) (fun h => h.elim (fun h => hai (Or.inr (Or.inr (Or.inr (Or.inr (Or.inr (Or.inl h))))))) (fun h => h.elim (fun h => hai (Or.inr (Or.inr (Or.inr (Or.inr (Or.inr (Or.inr (Or.inl h)))))))) (fun h => h.elim (fun h => hai (Or.inr (Or.inr (Or.inr (Or.inr (Or.inr (Or.inr (Or.inr (Or.inl h))))))))) (fun h => hai (Or.inr (Or.inr (Or.inr (Or.inr (Or.inr (Or.inr (Or.inr (Or.inr h)))))))))))))))))).trans rfl))
            · exact rfl
            · exact rfl
            · exact rfl
            · exact rfl
            · exact rfl
            · exact rfl
            · exact rfl
            · exact rfl
            · exact rfl
            · exact f_rdb_01 _
            · exact qa1
            · exact qa2
            · exact qa3
            · exact qa4
            · exact qa5
            · first | exact fa31_1 | exact fa38_1
          · refine ax_aload_n dX12_someSteps_29 rfl rfl (pc' := 30) rfl ?_
            refine ax_iload_n dX12_someSteps_30 rfl rfl (pc' := 31) rfl ?_
            refine ax_invG [.inl op] [] dX12_someSteps_31 mlX12_295 sh_330 rfl rfl rfl (Nat.le_of_ble_eq_true rfl) (H3 E l _ (by omega) _ op L1 ((funext fun i0 => fr1 339 i0 (fun h => h.elim (fun h => absurd h (by decide)) (fun h => h.elim (fun h => absurd h.1 (by decide)) (fun h => h.elim (fun h => absurd h.1 (by decide)) (fun h => h.elim (fun h => absurd h.1 (by decide)) (fun h => h.elim (fun h => absurd h.1 (by decide)) (fun h => h.elim (fun h => absurd h.1 (by decide)) (fun h => h.elim (fun h => absurd h.1 (by decide)) (fun h => h.elim (fun h => absurd h.1 (by decide)) (fun h => absurd h.1 (by decide))))))))))).trans hta) mr1_337 ms1_330_18 ms1_330_19 ms1_330_20 ms1_330_21 ((fr1 330 17 (fun h => h.elim (fun h => absurd h (by decide)) (fun h => h.elim (fun h => absurd h.2 (by decide)) (fun h => h.elim (fun h => absurd h.2 (by decide)) (fun h => h.elim (fun h => absurd h.2 (by decide)) (fun h => h.elim (fun h => absurd h.2 (by decide)) (fun h => h.elim (fun h => absurd h.2 (by decide)) (fun h => h.elim (fun h => absurd h.2 (by decide)) (fun h => h.elim (fun h => absurd h.2 (by decide)) (fun h => absurd h.2 (by decide))))))))))).trans htn) ((fr1 330 13 (fun h => h.elim (fun h => absurd h (by decide)) (fun h => h.elim (fun h => absurd h.2 (by decide)) (fun h => h.elim (fun h => absurd h.2 (by decide)) (fun h => h.elim (fun h => absurd h.2 (by decide)) (fun h => h.elim (fun h => absurd h.2 (by decide)) (fun h => h.elim (fun h => absurd h.2 (by decide)) (fun h => h.elim (fun h => absurd h.2 (by decide)) (fun h => h.elim (fun h => absurd h.2 (by decide)) (fun h => absurd h.2 (by decide))))))))))).trans hrd) ms1_330_16 (by first | omega | assumption) (by first | omega | assumption) qc1 (by first | omega | assumption) (by first | omega | assumption) (by first | omega | assumption)) (pc' := 34) rfl (fun vv M_31 hq co31 hcm31 => ?_)
            obtain ⟨rfl, frM_31, fa31_0, fa31_1⟩ := hq
            refine ax_reS (st2 := [.inl (f_rdb (f_agd nd L1))]) rfl ?_
            have cc31 : -2147483648 ≤ f_rdb (f_agd nd L1) ∧ f_rdb (f_agd nd L1) < 2147483648 := co31 _ rfl
            have qit : f_itm (f_agd nd) L1 = f_agd nd L1 := by
              unfold f_itm
              rw [if_pos (by omega)]
            obtain ⟨L3, c3, qa0, qa1, qa2, qa3, qa4, qa5⟩ : ∃ (L3 : List f_Tk) (c3 : List f_Sp), (L3.length : Int) + f_rdb (f_agd nd L1) < (L1.length : Int) + 1 ∧ (f_rdb (f_agd nd L1) = 0 → f_sts nd L = .inl (M_31 330 22, M_31 330 23)) ∧ (f_rdb (f_agd nd L1) = 1 → f_cur ta tn rd L3 (M_31 330 18) (M_31 330 19) (M_31 330 20) (M_31 330 21)) ∧ (f_rdb (f_agd nd L1) = 1 → M_31 337 = f_putD fd dn c3 ∧ M_31 330 16 = dn + (c3.length : Int)) ∧ (f_rdb (f_agd nd L1) = 1 → c3.length + f_cap nd * L3.length ≤ f_cap nd * L.length) ∧ (f_rdb (f_agd nd L1) = 1 → f_sts nd L = f_preD c3 (f_repD (f_agd nd) L3)) := by
              rcases f_rdb_01 (f_agd nd L1) with qn | qn
              · obtain ⟨kk3, ss3, qr3⟩ := f_rdb_no qn
                rw [qr3] at fa31_0
                refine ⟨L1, [], by omega, fun _ => ?_, fun q => by omega, fun q => by omega, fun q => by omega, fun q => by omega⟩
                rw [qi5, f_repD_some (f_cap_1 nd) (f_agd_gD nd) qin, qit, qr3, fa31_0.1, fa31_0.2]
                rfl
              · obtain ⟨L3, c2, qr3⟩ := f_rdb_ok (r := f_agd nd L1) (by omega)
                rw [qr3] at fa31_0
                obtain ⟨qm3, qs3, qc3⟩ := fa31_0
                have qg3 := f_itm_gD (f_cap_1 nd) (f_agd_gD nd) L1 qin L3 c2 (qit.trans qr3)
                refine ⟨L3, cc ++ c2, by omega, fun q => by omega, fun _ => qc3, fun _ => ⟨?_, ?_⟩, fun _ => ?_, fun _ => ?_⟩
                · rw [qm3]
                  exact f_putD_more qi3.1 qi3.2
                · rw [qs3, qi3.2, List.length_append]
                  omega
                · rw [List.length_append]
                  omega
                · rw [qi5, f_repD_some (f_cap_1 nd) (f_agd_gD nd) qin, qit, qr3]
                  exact f_preD_preD cc c2 _
            refine ax_goto dX12_someSteps_34 (pc' := 41) (by decide) ?_
            refine ax_istore_n dX12_someSteps_41 rfl (by decide) (ls' := [some (.inr 330), some (.inl op), some (.inl (f_rdb (f_agd nd L1)))]) rfl (pc' := 42) rfl ?_
            refine ax_goto dX12_someSteps_42 (pc' := 2) (by decide) ?_
            refine ih3 (f_rdb (f_agd nd L1)) (M_31 337) (M_31 330 16) (M_31 330 27) (M_31 330 18) (M_31 330 19) (M_31 330 20) (M_31 330 21) (M_31 330 22) (M_31 330 23) L3 c3 M_31 ?_ ?_ ?_ ?_ ?_ ?_ ?_ ?_ ?_ ?_ ?_ ?_ ?_ ?_ ?_ ?_ ?_ ?_
            · omega
            · intro x0 i0 hai
              exact ((frM_31 x0 i0 (fun h => h.elim (fun h => hai (Or.inr (Or.inr (Or.inr (Or.inl h))))) (fun h => h.elim (fun h => hai (Or.inr (Or.inr (Or.inr (Or.inr (Or.inl h)))))) (fun h => h.elim (fun h => hai (Or.inr (Or.inr (Or.inr (Or.inr (Or.inr (Or.inl h))))))) (fun h => h.elim (fun h => hai (Or.inr (Or.inr (Or.inr (Or.inr (Or.inr (Or.inr (Or.inl h)))))))) (fun h => h.elim (fun h => hai (Or.inr (Or.inr (Or.inr (Or.inr (Or.inr (Or.inr (Or.inr (Or.inl h))))))))) (fun h => h.elim (fun h => hai (Or.inr (Or.inr (Or.inr (Or.inr (Or.inr (Or.inr (Or.inr (Or.inr h))))))))) (fun h => h.elim (fun h => hai (Or.inl h)) (fun h => h.elim (fun h => hai (Or.inr (Or.inl h))) (fun h => hai (Or.inr (Or.inr (Or.inl h))))))))))))).trans ((fr1 x0 i0 (fun h => h.elim (fun h => hai (Or.inl h)) (fun h => h.elim (fun h => hai (Or.inr (Or.inl h))) (fun h => h.elim (fun h => hai (Or.inr (Or.inr (Or.inl h)))) (fun h => h.elim (fun h => hai (Or.inr (Or.inr (Or.inr (Or.inl h))))) (fun h => h.elim (fun h => hai (Or.inr (Or.inr (Or.inr (Or.inr (Or.inl h)))))) (fun h => h.elim (fun h => hai (Or.inr (Or.inr (Or.inr (Or.inr (Or.inr (Or.inl h))))))) (fun h => h.elim (fun h => hai (Or.inr (Or.inr (Or.inr (Or.inr (Or.inr (Or.inr (Or.inl h)))))))) (fun h => h.elim (fun h => hai (Or.inr (Or.inr (Or.inr (Or.inr (Or.inr (Or.inr (Or.inr (Or.inl h))))))))) (fun h => hai (Or.inr (Or.inr (Or.inr (Or.inr (Or.inr (Or.inr (Or.inr (Or.inr h)))))))))))))))))).trans rfl))
            · exact rfl
            · exact rfl
            · exact rfl
            · exact rfl
            · exact rfl
            · exact rfl
            · exact rfl
            · exact rfl
            · exact rfl
            · exact f_rdb_01 _
            · exact qa1
            · exact qa2
            · exact qa3
            · exact qa4
            · exact qa5
            · first | exact fa31_1 | exact fa38_1
  refine LP1 ((L.length : Int) + 1 : Int).toNat.succ 1 fd dn (M 330 27) p0 to tk v0 (M 330 22) (M 330 23) L ([]) M ?_ ?_ ?_ ?_ ?_ ?_ ?_ ?_ ?_ ?_ ?_ ?_ ?_ ?_ ?_ ?_ ?_ ?_
  · omega
  · exact fun a i _ => rfl
  · exact hfd
  · exact hdn
  · exact rfl
  · exact hp0
  · exact hto
  · exact htk
  · exact hv0
  · exact rfl
  · exact rfl
  · exact Or.inr rfl
  · intro q
    omega
  · intro _
    exact hg2
  · intro _
    exact ⟨rfl, (Int.add_zero _).symm⟩
  · intro _
    exact Nat.le_of_eq (Nat.zero_add _)
  · intro _
    unfold f_sts
    cases f_repD (f_agd nd) L <;> rfl
  · exact (f_cur_rg hg2).2.2
theorem f_C2_all : ∀ nd : Nat, f_C2 nd
  | 0 => s_X12_someSteps 0 s_agn_0
  | nd + 1 => s_X12_someSteps (nd + 1) (s_agn_s nd (f_C2_all nd))
abbrev f_Rq : Type := (Int × Int) ⊕ List f_Sp
def f_drE (r : f_Rd) : f_Rq := match r with
  | .inl e => .inl e
  | .inr (L, ss) => if f_T L ≠ 0 then .inl (1, f_S L) else if (ss.length : Int) ≤ 150 then .inr ss else .inl (4, f_S L)
def f_drl (L : List f_Tk) : f_Rq := f_drE (f_sts 4 L)
def f_rqb (r : f_Rq) : Int := match r with
  | .inl _ => 0
  | .inr _ => 1
theorem f_rqb_01 (r : f_Rq) : f_rqb r = 0 ∨ f_rqb r = 1 := by
  cases r with
  | inl e => exact Or.inl rfl
  | inr e => exact Or.inr rfl
def f_qok (fd : Int → Int) (r : f_Rq) (M2 : ax_Mem) : Prop := match r with
  | .inl (k, s) => M2 330 22 = k ∧ M2 330 23 = s
  | .inr ss => M2 337 = f_putD fd 0 ss ∧ M2 330 16 = (ss.length : Int)
theorem f_qok_no {fd : Int → Int} {r : f_Rq} {M2 : ax_Mem} {k s : Int} (e : r = .inl (k, s)) (h1 : M2 330 22 = k) (h2 : M2 330 23 = s) : f_qok fd r M2 := by
  rw [e]
  exact ⟨h1, h2⟩
set_option maxRecDepth 20000 in
theorem s_X12_readsDrill (E : ax_Env) (l : Launch) (d : Nat) (hd : 22 ≤ d) (M : ax_Mem) (L : List f_Tk) {ta : Int → Int} (hta : M 339 = ta) {fd : Int → Int} (hfd : M 337 = fd) {p0 : Int} (hp0 : M 330 18 = p0) {to : Int} (hto : M 330 19 = to) {tk : Int} (htk : M 330 20 = tk) {v0 : Int} (hv0 : M 330 21 = v0) {tn : Int} (htn : M 330 17 = tn) {rd : Int} (hrd : M 330 13 = rd) (hg0 : 0 ≤ tn ∧ tn ≤ 400) (hg1 : f_tp ta tn) (hg2 : f_cur ta tn rd L p0 to tk v0) (hg3 : (L.length : Int) ≤ 405) : ax_G E l d iX12_readsDrill [.inr 330] M (fun z0 M2 => z0 = some (.inl (f_rqb (f_drl L))) ∧ (∀ x0 i0 : Int, ¬ ((x0 = 330 ∧ i0 = 18) ∨ (x0 = 330 ∧ i0 = 19) ∨ (x0 = 330 ∧ i0 = 20) ∨ (x0 = 330 ∧ i0 = 21) ∨ (x0 = 330 ∧ i0 = 22) ∨ (x0 = 330 ∧ i0 = 23) ∨ x0 = 337 ∨ (x0 = 330 ∧ i0 = 16) ∨ (x0 = 330 ∧ i0 = 27)) → M2 x0 i0 = M x0 i0) ∧ (f_qok fd (f_drl L) M2) ∧ (0 ≤ M2 330 21 ∧ M2 330 21 ≤ 9999)) := by
  obtain ⟨d, rfl⟩ : ∃ d0, d = d0 + 1 := ⟨d - 1, by omega⟩
  refine ax_start rfl (Nat.le_of_ble_eq_true rfl) (ls := [some (.inr 330)]) rfl (fun hav hcm => ?_)
  clear hav
  refine ax_aload_n dX12_readsDrill_0 rfl rfl (pc' := 1) rfl ?_
  refine ax_iconst dX12_readsDrill_1 (by decide) (pc' := 2) rfl ?_
  refine ax_puti dX12_readsDrill_2 flX12_279 (Or.inl rfl) sh_330 rfl (pc' := 5) rfl ?_
  refine ax_aload_n dX12_readsDrill_5 rfl rfl (pc' := 6) rfl ?_
  refine ax_iconst dX12_readsDrill_6 (by decide) (pc' := 7) rfl ?_
  refine ax_invG [.inl 0] [] dX12_readsDrill_7 mlX12_292 sh_330 rfl rfl rfl (Nat.le_of_ble_eq_true rfl) (f_C2_all 4 E l _ (by omega) _ 0 L (ax_up_rowmiss (by decide) hta) (ax_up_rowmiss (by decide) hfd) (ax_up_miss (by decide) hp0) (ax_up_miss (by decide) hto) (ax_up_miss (by decide) htk) (ax_up_miss (by decide) hv0) (ax_up_miss (by decide) htn) (ax_up_miss (by decide) hrd) (ax_up_hit _ _ _ _) (by first | omega | assumption) (by first | omega | assumption) (by first | omega | assumption) (by decide) ⟨Int.le_refl 0, by
      have qca : f_cap 4 = 6561 := rfl
      rw [qca]
      omega⟩) (pc' := 10) rfl (fun vv M_7 hq co7 hcm7 => ?_)
  obtain ⟨rfl, frM_7, fa7_0, fa7_1⟩ := hq
  refine ax_reS (st2 := [.inl (f_rdb (f_sts 4 L))]) rfl ?_
  have cc7 : -2147483648 ≤ f_rdb (f_sts 4 L) ∧ f_rdb (f_sts 4 L) < 2147483648 := co7 _ rfl
  refine ax_if_ne (tgt := 15) dX12_readsDrill_10 (by decide) (pc' := 13) rfl (fun h10 => ?_) (fun h10 => ?_)
  · obtain ⟨L2, ss, qr2⟩ := f_rdb_ok h10
    rw [qr2] at fa7_0
    obtain ⟨qm2, qs2, qc2⟩ := fa7_0
    have qh2 := f_cur_hd qc2
    have qb : f_drl L = if f_T L2 ≠ 0 then .inl (1, f_S L2) else if (ss.length : Int) ≤ 150 then .inr ss else .inl (4, f_S L2) := by
      unfold f_drl
      rw [qr2]
      rfl
    refine ax_aload_n dX12_readsDrill_15 rfl rfl (pc' := 16) rfl ?_
    refine ax_geti (v := M_7 330 19) dX12_readsDrill_16 flX12_208 rfl sh_330 rfl rfl (pc' := 19) rfl ?_
    refine ax_if_eq (tgt := 28) dX12_readsDrill_19 (by decide) (pc' := 22) rfl (fun h19 => ?_) (fun h19 => ?_)
    · refine ax_aload_n dX12_readsDrill_28 rfl rfl (pc' := 29) rfl ?_
      refine ax_geti (v := M_7 330 16) dX12_readsDrill_29 flX12_279 rfl sh_330 rfl rfl (pc' := 32) rfl ?_
      refine ax_sipush dX12_readsDrill_32 (by decide) (pc' := 35) rfl ?_
      refine ax_icmp_le (tgt := 46) dX12_readsDrill_35 (by decide) (pc' := 38) rfl (fun h35 => ?_) (fun h35 => ?_)
      · have qz : f_drl L = .inr ss := by
          rw [qb, if_neg (by omega), if_pos (by omega)]
        refine ax_iconst dX12_readsDrill_46 (by decide) (pc' := 47) rfl ?_
        refine ax_goto dX12_readsDrill_47 (pc' := 51) (by decide) ?_
        refine ax_zret dX12_readsDrill_51 rfl (by decide) ?_
        refine ⟨rfl, ?_, ?_, ?_, ?_⟩
        · refine congrArg (fun z => some (Sum.inl z)) ?_
          rw [qz]
          rfl
        · intro x0 i0 hai
          exact ((frM_7 x0 i0 (fun h => h.elim (fun h => hai (Or.inl h)) (fun h => h.elim (fun h => hai (Or.inr (Or.inl h))) (fun h => h.elim (fun h => hai (Or.inr (Or.inr (Or.inl h)))) (fun h => h.elim (fun h => hai (Or.inr (Or.inr (Or.inr (Or.inl h))))) (fun h => h.elim (fun h => hai (Or.inr (Or.inr (Or.inr (Or.inr (Or.inl h)))))) (fun h => h.elim (fun h => hai (Or.inr (Or.inr (Or.inr (Or.inr (Or.inr (Or.inl h))))))) (fun h => h.elim (fun h => hai (Or.inr (Or.inr (Or.inr (Or.inr (Or.inr (Or.inr (Or.inl h)))))))) (fun h => h.elim (fun h => hai (Or.inr (Or.inr (Or.inr (Or.inr (Or.inr (Or.inr (Or.inr (Or.inl h))))))))) (fun h => hai (Or.inr (Or.inr (Or.inr (Or.inr (Or.inr (Or.inr (Or.inr (Or.inr h)))))))))))))))))).trans (ax_up_miss (fun h => hai (Or.inr (Or.inr (Or.inr (Or.inr (Or.inr (Or.inr (Or.inr (Or.inl h))))))))) rfl))
        · first
            | (rw [qz]
               exact ⟨Eq.trans rfl qm2, Eq.trans rfl (qs2.trans (Int.zero_add _))⟩)
            | exact f_qok_no qz rfl rfl
        · have q9 : M_7 330 21 = M_7 330 21 := rfl
          have q9b : 0 ≤ M_7 330 21 ∧ M_7 330 21 ≤ 9999 := by omega
          exact f_r9 q9 q9b
      · have qz : f_drl L = .inl (4, M_7 330 20) := by
          rw [qb, if_neg (by omega), if_neg (by omega), qh2.2.2]
        refine ax_aload_n dX12_readsDrill_38 rfl rfl (pc' := 39) rfl ?_
        refine ax_iconst dX12_readsDrill_39 (by decide) (pc' := 40) rfl ?_
        refine ax_invG [.inl 4] [] dX12_readsDrill_40 mlX12_229 sh_330 rfl rfl rfl (Nat.le_of_ble_eq_true rfl) (s_X12_bad E l _ (by omega) _ 4 rfl) (pc' := 43) rfl (fun vv M_40 hq co40 hcm40 => ?_)
        obtain ⟨rfl, frM_40, msM_40_0, msM_40_1⟩ := hq
        refine ax_reS (st2 := [.inl 0]) rfl ?_
        refine ax_if_eq (tgt := 50) dX12_readsDrill_43 (by decide) (pc' := 46) rfl (fun h43 => ?_) (fun h43 => ?_)
        · refine ax_iconst dX12_readsDrill_50 (by decide) (pc' := 51) rfl ?_
          refine ax_zret dX12_readsDrill_51 rfl (by decide) ?_
          refine ⟨rfl, ?_, ?_, ?_, ?_⟩
          · refine congrArg (fun z => some (Sum.inl z)) ?_
            rw [qz]
            rfl
          · intro x0 i0 hai
            exact ((frM_40 x0 i0 (fun h => h.elim (fun h => hai (Or.inr (Or.inr (Or.inr (Or.inr (Or.inl h)))))) (fun h => hai (Or.inr (Or.inr (Or.inr (Or.inr (Or.inr (Or.inl h))))))))).trans ((frM_7 x0 i0 (fun h => h.elim (fun h => hai (Or.inl h)) (fun h => h.elim (fun h => hai (Or.inr (Or.inl h))) (fun h => h.elim (fun h => hai (Or.inr (Or.inr (Or.inl h)))) (fun h => h.elim (fun h => hai (Or.inr (Or.inr (Or.inr (Or.inl h))))) (fun h => h.elim (fun h => hai (Or.inr (Or.inr (Or.inr (Or.inr (Or.inl h)))))) (fun h => h.elim (fun h => hai (Or.inr (Or.inr (Or.inr (Or.inr (Or.inr (Or.inl h))))))) (fun h => h.elim (fun h => hai (Or.inr (Or.inr (Or.inr (Or.inr (Or.inr (Or.inr (Or.inl h)))))))) (fun h => h.elim (fun h => hai (Or.inr (Or.inr (Or.inr (Or.inr (Or.inr (Or.inr (Or.inr (Or.inl h))))))))) (fun h => hai (Or.inr (Or.inr (Or.inr (Or.inr (Or.inr (Or.inr (Or.inr (Or.inr h)))))))))))))))))).trans (ax_up_miss (fun h => hai (Or.inr (Or.inr (Or.inr (Or.inr (Or.inr (Or.inr (Or.inr (Or.inl h))))))))) rfl)))
          · first
              | (rw [qz]
                 exact ⟨Eq.trans ((funext fun i0 => frM_40 337 i0 (fun h => h.elim (fun h => absurd h.1 (by decide)) (fun h => absurd h.1 (by decide)))).trans rfl) qm2, Eq.trans ((frM_40 330 16 (fun h => h.elim (fun h => absurd h.2 (by decide)) (fun h => absurd h.2 (by decide)))).trans rfl) (qs2.trans (Int.zero_add _))⟩)
              | exact f_qok_no qz msM_40_0 msM_40_1
          · have q9 : M_40 330 21 = M_7 330 21 := ((frM_40 330 21 (fun h => h.elim (fun h => absurd h.2 (by decide)) (fun h => absurd h.2 (by decide)))).trans rfl)
            have q9b : 0 ≤ M_7 330 21 ∧ M_7 330 21 ≤ 9999 := by omega
            exact f_r9 q9 q9b
        · exfalso
          omega
    · have qz : f_drl L = .inl (1, M_7 330 20) := by
        rw [qb, if_pos (by omega), qh2.2.2]
      refine ax_aload_n dX12_readsDrill_22 rfl rfl (pc' := 23) rfl ?_
      refine ax_iconst dX12_readsDrill_23 (by decide) (pc' := 24) rfl ?_
      refine ax_invG [.inl 1] [] dX12_readsDrill_24 mlX12_229 sh_330 rfl rfl rfl (Nat.le_of_ble_eq_true rfl) (s_X12_bad E l _ (by omega) _ 1 rfl) (pc' := 27) rfl (fun vv M_24 hq co24 hcm24 => ?_)
      obtain ⟨rfl, frM_24, msM_24_0, msM_24_1⟩ := hq
      refine ax_reS (st2 := [.inl 0]) rfl ?_
      refine ax_zret dX12_readsDrill_27 rfl (by decide) ?_
      refine ⟨rfl, ?_, ?_, ?_, ?_⟩
      · refine congrArg (fun z => some (Sum.inl z)) ?_
        rw [qz]
        rfl
      · intro x0 i0 hai
        exact ((frM_24 x0 i0 (fun h => h.elim (fun h => hai (Or.inr (Or.inr (Or.inr (Or.inr (Or.inl h)))))) (fun h => hai (Or.inr (Or.inr (Or.inr (Or.inr (Or.inr (Or.inl h))))))))).trans ((frM_7 x0 i0 (fun h => h.elim (fun h => hai (Or.inl h)) (fun h => h.elim (fun h => hai (Or.inr (Or.inl h))) (fun h => h.elim (fun h => hai (Or.inr (Or.inr (Or.inl h)))) (fun h => h.elim (fun h => hai (Or.inr (Or.inr (Or.inr (Or.inl h))))) (fun h => h.elim (fun h => hai (Or.inr (Or.inr (Or.inr (Or.inr (Or.inl h)))))) (fun h => h.elim (fun h => hai (Or.inr (Or.inr (Or.inr (Or.inr (Or.inr (Or.inl h))))))) (fun h => h.elim (fun h => hai (Or.inr (Or.inr (Or.inr (Or.inr (Or.inr (Or.inr (Or.inl h)))))))) (fun h => h.elim (fun h => hai (Or.inr (Or.inr (Or.inr (Or.inr (Or.inr (Or.inr (Or.inr (Or.inl h))))))))) (fun h => hai (Or.inr (Or.inr (Or.inr (Or.inr (Or.inr (Or.inr (Or.inr (Or.inr h)))))))))))))))))).trans (ax_up_miss (fun h => hai (Or.inr (Or.inr (Or.inr (Or.inr (Or.inr (Or.inr (Or.inr (Or.inl h))))))))) rfl)))
      · exact f_qok_no qz msM_24_0 msM_24_1
      · have q9 : M_24 330 21 = M_7 330 21 := ((frM_24 330 21 (fun h => h.elim (fun h => absurd h.2 (by decide)) (fun h => absurd h.2 (by decide)))).trans rfl)
        have q9b : 0 ≤ M_7 330 21 ∧ M_7 330 21 ≤ 9999 := by omega
        exact f_r9 q9 q9b
  · obtain ⟨kk2, ss2, qr2⟩ := f_rdb_no h10
    rw [qr2] at fa7_0
    have qz : f_drl L = .inl (kk2, ss2) := by
      unfold f_drl
      rw [qr2]
      rfl
    have qfa := fa7_0
    refine ax_iconst dX12_readsDrill_13 (by decide) (pc' := 14) rfl ?_
    refine ax_zret dX12_readsDrill_14 rfl (by decide) ?_
    refine ⟨rfl, ?_, ?_, ?_, ?_⟩
    · refine congrArg (fun z => some (Sum.inl z)) ?_
      rw [qz]
      rfl
    · intro x0 i0 hai
      exact ((frM_7 x0 i0 (fun h => h.elim (fun h => hai (Or.inl h)) (fun h => h.elim (fun h => hai (Or.inr (Or.inl h))) (fun h => h.elim (fun h => hai (Or.inr (Or.inr (Or.inl h)))) (fun h => h.elim (fun h => hai (Or.inr (Or.inr (Or.inr (Or.inl h))))) (fun h => h.elim (fun h => hai (Or.inr (Or.inr (Or.inr (Or.inr (Or.inl h)))))) (fun h => h.elim (fun h => hai (Or.inr (Or.inr (Or.inr (Or.inr (Or.inr (Or.inl h))))))) (fun h => h.elim (fun h => hai (Or.inr (Or.inr (Or.inr (Or.inr (Or.inr (Or.inr (Or.inl h)))))))) (fun h => h.elim (fun h => hai (Or.inr (Or.inr (Or.inr (Or.inr (Or.inr (Or.inr (Or.inr (Or.inl h))))))))) (fun h => hai (Or.inr (Or.inr (Or.inr (Or.inr (Or.inr (Or.inr (Or.inr (Or.inr h)))))))))))))))))).trans (ax_up_miss (fun h => hai (Or.inr (Or.inr (Or.inr (Or.inr (Or.inr (Or.inr (Or.inr (Or.inl h))))))))) rfl))
    · exact f_qok_no qz qfa.1 qfa.2
    · have q9 : M_7 330 21 = M_7 330 21 := rfl
      have q9b : 0 ≤ M_7 330 21 ∧ M_7 330 21 ≤ 9999 := by omega
      exact f_r9 q9 q9b
