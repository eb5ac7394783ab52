set_option maxRecDepth 20000 in
theorem s_X1_readAll (E : ax_Env) (l : Launch) (d : Nat) (hd : 3 ≤ d) (M : ax_Mem) (L : List f_Tk) {kk : Int → Int} (hkk : M 60 = kk) {vv : Int → Int} (hvv : M 61 = vv) {ss : Int → Int} (hss : M 62 = ss) {kn : Int → Int} (hkn : M 66 = kn) {ff : Int → Int} (hff : M 67 = ff) {sc : Int → Int} (hsc : M 68 = sc) {tm : Int → Int} (htm : M 69 = tm) {sr : Int → Int} (hsr : M 70 = sr) {nx : Int} (hnx : M 58 8 = nx) {x2 : Int} (hx2 : M 58 2 = x2) {x3 : Int} (hx3 : M 58 3 = x3) (hg0 : f_cc 3 kk vv ss nx L) : ax_G E l d iX1_readAll [.inr 65, .inr 58] M (fun z0 M2 => z0 = some (.inl (f_rqb (f_drl L))) ∧ (∀ x0 i0 : Int, ¬ ((x0 = 58 ∧ i0 = 8) ∨ (x0 = 58 ∧ i0 = 2) ∨ (x0 = 58 ∧ i0 = 3) ∨ x0 = 66 ∨ x0 = 67 ∨ x0 = 68 ∨ x0 = 69 ∨ x0 = 70 ∨ (x0 = 65 ∧ i0 = 0) ∨ (x0 = 65 ∧ i0 = 4)) → M2 x0 i0 = M x0 i0) ∧ (f_dqo x2 x3 (f_drl L) M2)) := by
  obtain ⟨d, rfl⟩ : ∃ d0, d = d0 + 1 := ⟨d - 1, by omega⟩
  refine ax_start rfl (Nat.le_of_ble_eq_true rfl) (ls := [some (.inr 65), some (.inr 58), none, none]) rfl (fun hav hcm => ?_)
  clear hav
  refine ax_aload_n dX1_readAll_0 rfl rfl (pc' := 1) rfl ?_
  refine ax_iconst dX1_readAll_1 (by decide) (pc' := 2) rfl ?_
  refine ax_puti dX1_readAll_2 flX1_27 (Or.inl rfl) sh_65 rfl (pc' := 5) rfl ?_
  refine ax_aload_n dX1_readAll_5 rfl rfl (pc' := 6) rfl ?_
  refine ax_iconst dX1_readAll_6 (by decide) (pc' := 7) rfl ?_
  refine ax_puti dX1_readAll_7 flX1_37 (Or.inl rfl) sh_65 rfl (pc' := 10) rfl ?_
  refine ax_iconst dX1_readAll_10 (by decide) (pc' := 11) rfl ?_
  refine ax_istore_n dX1_readAll_11 rfl (by decide) (ls' := [some (.inr 65), some (.inr 58), some (.inl 0), none]) rfl (pc' := 12) rfl ?_
  have LP1 : ∀ (kq2 : Nat) (tu : Int) (k1 f1 s1 t1 r1 : Int → Int) (c1 o1 n1 w1 w2 : Int) (L1 : List f_Tk) (fm1 : f_Frm) (cu1 : List f_Sp) (nd : Nat) (M1 : ax_Mem) (hm1 : (L1.length : Int) < (kq2 : Nat)) (fr1 : ∀ x0 i0 : Int, ¬ (x0 = 66 ∨ x0 = 67 ∨ x0 = 68 ∨ x0 = 69 ∨ x0 = 70 ∨ (x0 = 65 ∧ i0 = 0) ∨ (x0 = 65 ∧ i0 = 4) ∨ (x0 = 58 ∧ i0 = 8) ∨ (x0 = 58 ∧ i0 = 2) ∨ (x0 = 58 ∧ i0 = 3)) → M1 x0 i0 = (ax_up (ax_up M 65 0 0) 65 4 0) x0 i0) (mr1_66 : M1 66 = k1) (mr1_67 : M1 67 = f1) (mr1_68 : M1 68 = s1) (mr1_69 : M1 69 = t1) (mr1_70 : M1 70 = r1) (ms1_65_0 : M1 65 0 = c1) (ms1_65_4 : M1 65 4 = o1) (ms1_58_8 : M1 58 8 = n1) (ms1_58_2 : M1 58 2 = w1) (ms1_58_3 : M1 58 3 = w2) (iv1_0 : f_cc 3 kk vv ss n1 L1) (iv1_1 : 0 ≤ tu ∧ tu + (L1.length : Int) ≤ (L.length : Int) ∧ 0 ≤ c1 ∧ c1 ≤ 151 + tu) (iv1_2 : o1 = (fm1.length : Int) ∧ nd + fm1.length = 4) (iv1_3 : f_sk t1 r1 c1 fm1) (iv1_4 : f_dn k1 f1 s1 c1 (f_alS fm1 cu1)) (iv1_5 : f_sts 4 L = f_fin nd fm1 (f_preD cu1 (f_repD (f_agd nd) L1))) (iv1_6 : w1 = x2 ∧ w2 = x3), ax_W E l (d + 1) 0 0 iX1_readAll 12 [some (.inr 65), some (.inr 58), some (.inl tu), none] [] SH M1 (ax_P (fun z0 M2 => z0 = some (.inl (f_rqb (f_drl L))) ∧ (∀ x0 i0 : Int, ¬ ((x0 = 58 ∧ i0 = 8) ∨ (x0 = 58 ∧ i0 = 2) ∨ (x0 = 58 ∧ i0 = 3) ∨ x0 = 66 ∨ x0 = 67 ∨ x0 = 68 ∨ x0 = 69 ∨ x0 = 70 ∨ (x0 = 65 ∧ i0 = 0) ∨ (x0 = 65 ∧ i0 = 4)) → M2 x0 i0 = M x0 i0) ∧ (f_dqo x2 x3 (f_drl L) M2))) := by
    intro kq2
    induction kq2 with
    | zero =>
      intro tu k1 f1 s1 t1 r1 c1 o1 n1 w1 w2 L1 fm1 cu1 nd M1 hm1 fr1 mr1_66 mr1_67 mr1_68 mr1_69 mr1_70 ms1_65_0 ms1_65_4 ms1_58_8 ms1_58_2 ms1_58_3 iv1_0 iv1_1 iv1_2 iv1_3 iv1_4 iv1_5 iv1_6
      exfalso
      omega
    | succ kq2 ih3 =>
      intro tu k1 f1 s1 t1 r1 c1 o1 n1 w1 w2 L1 fm1 cu1 nd M1 hm1 fr1 mr1_66 mr1_67 mr1_68 mr1_69 mr1_70 ms1_65_0 ms1_65_4 ms1_58_8 ms1_58_2 ms1_58_3 iv1_0 iv1_1 iv1_2 iv1_3 iv1_4 iv1_5 iv1_6
      have qR := f_cc_rg hg0
      have pK := f_kv_3 (f_cc_hd iv1_0).1.1
      have ps := (f_cc_hd iv1_0).1.2
      have pR := f_cc_rg iv1_0
      refine ax_iload_n dX1_readAll_12 rfl rfl (pc' := 13) rfl ?_
      refine ax_sipush dX1_readAll_13 (by decide) (pc' := 16) rfl ?_
      refine ax_icmp_gt (tgt := 99) dX1_readAll_16 (by decide) (pc' := 19) rfl (fun h16 => ?_) (fun h16 => ?_)
      · exfalso
        omega
      · refine ax_aload_n dX1_readAll_19 rfl rfl (pc' := 20) rfl ?_
        refine ax_invG [] [] dX1_readAll_20 mlX1_40 sh_58 rfl rfl rfl (Nat.le_of_ble_eq_true rfl) (s_X8_isEnd E l _ (by omega) _ ((funext fun i0 => fr1 60 i0 (fun h => h.elim (fun h => absurd h (by decide)) (fun h => h.elim (fun h => absurd h (by decide)) (fun h => h.elim (fun h => absurd h (by decide)) (fun h => h.elim (fun h => absurd h (by decide)) (fun h => h.elim (fun h => absurd h (by decide)) (fun h => h.elim (fun h => absurd h.1 (by decide)) (fun h => h.elim (fun h => absurd h.1 (by decide)) (fun h => h.elim (fun h => absurd h.1 (by decide)) (fun h => h.elim (fun h => absurd h.1 (by decide)) (fun h => absurd h.1 (by decide)))))))))))).trans (ax_up_rowmiss (by decide) (ax_up_rowmiss (by decide) hkk))) ms1_58_8 (by first | omega | assumption)) (pc' := 23) rfl (fun vv M_20 hq co20 hcm20 => ?_)
        obtain ⟨rfl, rfl⟩ := hq
        refine ax_reS (st2 := [.inl (f_b (kk n1 = 0))]) rfl ?_
        refine ax_if_ne (tgt := 99) dX1_readAll_23 (by decide) (pc' := 26) rfl (fun h23 => ?_) (fun h23 => ?_)
        · replace h23 := f_b_1 h23
          have qT0 := (km_0 pK).mp h23
          have qen := f_m_end iv1_5 (by omega)
          refine ax_aload_n dX1_readAll_99 rfl rfl (pc' := 100) rfl ?_
          refine ax_geti (v := o1) dX1_readAll_100 flX1_37 rfl sh_65 ms1_65_4 rfl (pc' := 103) rfl ?_
          refine ax_if_le (tgt := 112) dX1_readAll_103 (by decide) (pc' := 106) rfl (fun h103 => ?_) (fun h103 => ?_)
          · obtain rfl : fm1 = [] := List.eq_nil_of_length_eq_zero (by omega)
            have qd : f_drl L = if f_T L1 ≠ 0 then .inl (1, f_S L1) else if (cu1.length : Int) ≤ 150 then .inr cu1 else .inl (4, f_S L1) := by
              unfold f_drl
              rw [qen]
              rfl
            rw [if_neg (fun h => h qT0)] at qd
            have q4 : f_dn k1 f1 s1 c1 cu1 := iv1_4
            refine ax_aload_n dX1_readAll_112 rfl rfl (pc' := 113) rfl ?_
            refine ax_geti (v := c1) dX1_readAll_113 flX1_27 rfl sh_65 ms1_65_0 rfl (pc' := 116) rfl ?_
            refine ax_sipush dX1_readAll_116 (by decide) (pc' := 119) rfl ?_
            refine ax_icmp_le (tgt := 130) dX1_readAll_119 (by decide) (pc' := 122) rfl (fun h119 => ?_) (fun h119 => ?_)
            · have qok : cu1.length ≤ 150 ∧ c1 = (cu1.length : Int) ∧ f_dw k1 f1 s1 cu1 := by
                rcases q4 with q | q
                · exact q
                · omega
              have qz : f_drl L = .inr cu1 := by
                rw [qd, if_pos (by omega)]
              refine ax_iconst dX1_readAll_130 (by decide) (pc' := 131) rfl ?_
              refine ax_goto dX1_readAll_131 (pc' := 135) (by decide) ?_
              refine ax_zret dX1_readAll_135 rfl (by decide) ?_
              refine ⟨rfl, ?_, ?_, ?_⟩
              · refine congrArg (fun z => some (Sum.inl z)) ?_
                rw [qz]
                rfl
              · intro x0 i0 hai
                exact ((fr1 x0 i0 (fun h => h.elim (fun h => hai (Or.inr (Or.inr (Or.inr (Or.inl h))))) (fun h => h.elim (fun h => hai (Or.inr (Or.inr (Or.inr (Or.inr (Or.inl h)))))) (fun h => h.elim (fun h => hai (Or.inr (Or.inr (Or.inr (Or.inr (Or.inr (Or.inl h))))))) (fun h => h.elim (fun h => hai (Or.inr (Or.inr (Or.inr (Or.inr (Or.inr (Or.inr (Or.inl h)))))))) (fun h => h.elim (fun h => hai (Or.inr (Or.inr (Or.inr (Or.inr (Or.inr (Or.inr (Or.inr (Or.inl h))))))))) (fun h => h.elim (fun h => hai (Or.inr (Or.inr (Or.inr (Or.inr (Or.inr (Or.inr (Or.inr (Or.inr (Or.inl h)))))))))) (fun h => h.elim (fun h => hai (Or.inr (Or.inr (Or.inr (Or.inr (Or.inr (Or.inr (Or.inr (Or.inr (Or.inr h)))))))))) (fun h => h.elim (fun h => hai (Or.inl h)) (fun h => h.elim (fun h => hai (Or.inr (Or.inl h))) (fun h => hai (Or.inr (Or.inr (Or.inl h)))))))))))))).trans (ax_up_miss (fun h => hai (Or.inr (Or.inr (Or.inr (Or.inr (Or.inr (Or.inr (Or.inr (Or.inr (Or.inr h)))))))))) (ax_up_miss (fun h => hai (Or.inr (Or.inr (Or.inr (Or.inr (Or.inr (Or.inr (Or.inr (Or.inr (Or.inl h)))))))))) rfl)))
              · rw [qz]
                refine ⟨Eq.trans ms1_65_0 qok.2.1, ?_, Eq.trans ms1_58_2 iv1_6.1, Eq.trans ms1_58_3 iv1_6.2⟩
                rw [show M1 66 = _ from mr1_66, show M1 67 = _ from mr1_67, show M1 68 = _ from mr1_68]
                exact qok.2.2
            · have qz : f_drl L = .inl (4, ss n1) := by
                rw [qd, if_neg (by rcases q4 with q | q <;> omega), ps]
              refine ax_aload_n dX1_readAll_122 rfl rfl (pc' := 123) rfl ?_
              refine ax_iconst dX1_readAll_123 (by decide) (pc' := 124) rfl ?_
              refine ax_invG [.inl 4] [] dX1_readAll_124 mlX1_66 sh_58 rfl rfl rfl (Nat.le_of_ble_eq_true rfl) (s_X8_fail E l _ (by omega) _ 4 ((funext fun i0 => fr1 62 i0 (fun h => h.elim (fun h => absurd h (by decide)) (fun h => h.elim (fun h => absurd h (by decide)) (fun h => h.elim (fun h => absurd h (by decide)) (fun h => h.elim (fun h => absurd h (by decide)) (fun h => h.elim (fun h => absurd h (by decide)) (fun h => h.elim (fun h => absurd h.1 (by decide)) (fun h => h.elim (fun h => absurd h.1 (by decide)) (fun h => h.elim (fun h => absurd h.1 (by decide)) (fun h => h.elim (fun h => absurd h.1 (by decide)) (fun h => absurd h.1 (by decide)))))))))))).trans (ax_up_rowmiss (by decide) (ax_up_rowmiss (by decide) hss))) ms1_58_8 (by first | omega | assumption)) (pc' := 127) rfl (fun vv M_124 hq co124 hcm124 => ?_)
              obtain ⟨rfl, frM_124, msM_124_0, msM_124_1⟩ := hq
              refine ax_reS (st2 := [.inl 0]) rfl ?_
              refine ax_if_eq (tgt := 134) dX1_readAll_127 (by decide) (pc' := 130) rfl (fun h127 => ?_) (fun h127 => ?_)
              · refine ax_iconst dX1_readAll_134 (by decide) (pc' := 135) rfl ?_
                refine ax_zret dX1_readAll_135 rfl (by decide) ?_
                refine ⟨rfl, ?_, ?_, ?_⟩
                · refine congrArg (fun z => some (Sum.inl z)) ?_
                  rw [qz]
                  rfl
                · intro x0 i0 hai
                  exact ((frM_124 x0 i0 (fun h => h.elim (fun h => hai (Or.inr (Or.inl h))) (fun h => hai (Or.inr (Or.inr (Or.inl h)))))).trans ((fr1 x0 i0 (fun h => h.elim (fun h => hai (Or.inr (Or.inr (Or.inr (Or.inl h))))) (fun h => h.elim (fun h => hai (Or.inr (Or.inr (Or.inr (Or.inr (Or.inl h)))))) (fun h => h.elim (fun h => hai (Or.inr (Or.inr (Or.inr (Or.inr (Or.inr (Or.inl h))))))) (fun h => h.elim (fun h => hai (Or.inr (Or.inr (Or.inr (Or.inr (Or.inr (Or.inr (Or.inl h)))))))) (fun h => h.elim (fun h => hai (Or.inr (Or.inr (Or.inr (Or.inr (Or.inr (Or.inr (Or.inr (Or.inl h))))))))) (fun h => h.elim (fun h => hai (Or.inr (Or.inr (Or.inr (Or.inr (Or.inr (Or.inr (Or.inr (Or.inr (Or.inl h)))))))))) (fun h => h.elim (fun h => hai (Or.inr (Or.inr (Or.inr (Or.inr (Or.inr (Or.inr (Or.inr (Or.inr (Or.inr h)))))))))) (fun h => h.elim (fun h => hai (Or.inl h)) (fun h => h.elim (fun h => hai (Or.inr (Or.inl h))) (fun h => hai (Or.inr (Or.inr (Or.inl h)))))))))))))).trans (ax_up_miss (fun h => hai (Or.inr (Or.inr (Or.inr (Or.inr (Or.inr (Or.inr (Or.inr (Or.inr (Or.inr h)))))))))) (ax_up_miss (fun h => hai (Or.inr (Or.inr (Or.inr (Or.inr (Or.inr (Or.inr (Or.inr (Or.inr (Or.inl h)))))))))) rfl))))
                · exact f_dqo_no qz msM_124_0 msM_124_1
              · exfalso
                omega
          · have qz : f_drl L = .inl (1, ss n1) := by
              rw [ps]
              refine f_m_oth qen (fun hf => ?_) (fun _ => by omega)
              rw [hf, List.length_nil] at iv1_2
              omega
            refine ax_aload_n dX1_readAll_106 rfl rfl (pc' := 107) rfl ?_
            refine ax_iconst dX1_readAll_107 (by decide) (pc' := 108) rfl ?_
            refine ax_invG [.inl 1] [] dX1_readAll_108 mlX1_66 sh_58 rfl rfl rfl (Nat.le_of_ble_eq_true rfl) (s_X8_fail E l _ (by omega) _ 1 ((funext fun i0 => fr1 62 i0 (fun h => h.elim (fun h => absurd h (by decide)) (fun h => h.elim (fun h => absurd h (by decide)) (fun h => h.elim (fun h => absurd h (by decide)) (fun h => h.elim (fun h => absurd h (by decide)) (fun h => h.elim (fun h => absurd h (by decide)) (fun h => h.elim (fun h => absurd h.1 (by decide)) (fun h => h.elim (fun h => absurd h.1 (by decide)) (fun h => h.elim (fun h => absurd h.1 (by decide)) (fun h => h.elim (fun h => absurd h.1 (by decide)) (fun h => absurd h.1 (by decide)))))))))))).trans (ax_up_rowmiss (by decide) (ax_up_rowmiss (by decide) hss))) ms1_58_8 (by first | omega | assumption)) (pc' := 111) rfl (fun vv M_108 hq co108 hcm108 => ?_)
            obtain ⟨rfl, frM_108, msM_108_0, msM_108_1⟩ := hq
            refine ax_reS (st2 := [.inl 0]) rfl ?_
            refine ax_zret dX1_readAll_111 rfl (by decide) ?_
            refine ⟨rfl, ?_, ?_, ?_⟩
            · refine congrArg (fun z => some (Sum.inl z)) ?_
              rw [qz]
              rfl
            · intro x0 i0 hai
              exact ((frM_108 x0 i0 (fun h => h.elim (fun h => hai (Or.inr (Or.inl h))) (fun h => hai (Or.inr (Or.inr (Or.inl h)))))).trans ((fr1 x0 i0 (fun h => h.elim (fun h => hai (Or.inr (Or.inr (Or.inr (Or.inl h))))) (fun h => h.elim (fun h => hai (Or.inr (Or.inr (Or.inr (Or.inr (Or.inl h)))))) (fun h => h.elim (fun h => hai (Or.inr (Or.inr (Or.inr (Or.inr (Or.inr (Or.inl h))))))) (fun h => h.elim (fun h => hai (Or.inr (Or.inr (Or.inr (Or.inr (Or.inr (Or.inr (Or.inl h)))))))) (fun h => h.elim (fun h => hai (Or.inr (Or.inr (Or.inr (Or.inr (Or.inr (Or.inr (Or.inr (Or.inl h))))))))) (fun h => h.elim (fun h => hai (Or.inr (Or.inr (Or.inr (Or.inr (Or.inr (Or.inr (Or.inr (Or.inr (Or.inl h)))))))))) (fun h => h.elim (fun h => hai (Or.inr (Or.inr (Or.inr (Or.inr (Or.inr (Or.inr (Or.inr (Or.inr (Or.inr h)))))))))) (fun h => h.elim (fun h => hai (Or.inl h)) (fun h => h.elim (fun h => hai (Or.inr (Or.inl h))) (fun h => hai (Or.inr (Or.inr (Or.inl h)))))))))))))).trans (ax_up_miss (fun h => hai (Or.inr (Or.inr (Or.inr (Or.inr (Or.inr (Or.inr (Or.inr (Or.inr (Or.inr h)))))))))) (ax_up_miss (fun h => hai (Or.inr (Or.inr (Or.inr (Or.inr (Or.inr (Or.inr (Or.inr (Or.inr (Or.inl h)))))))))) rfl))))
            · exact f_dqo_no qz msM_108_0 msM_108_1
        · replace h23 := f_b_0 h23
          have qT0 : f_T L1 ≠ 0 := fun h => h23 ((km_0 pK).mpr h)
          refine ax_aload_n dX1_readAll_26 rfl rfl (pc' := 27) rfl ?_
          refine ax_geti (v := o1) dX1_readAll_27 flX1_37 rfl sh_65 ms1_65_4 rfl (pc' := 30) rfl ?_
          refine ax_if_le (tgt := 46) dX1_readAll_30 (by decide) (pc' := 33) rfl (fun h30 => ?_) (fun h30 => ?_)
          · refine ax_iconst dX1_readAll_46 (by decide) (pc' := 47) rfl ?_
            refine ax_istore_n dX1_readAll_47 rfl (by decide) (ls' := [some (.inr 65), some (.inr 58), some (.inl tu), some (.inl 0)]) rfl (pc' := 48) rfl ?_
            refine ax_iload_n dX1_readAll_48 rfl rfl (pc' := 49) rfl ?_
            refine ax_if_eq (tgt := 63) dX1_readAll_49 (by decide) (pc' := 52) rfl (fun h49 => ?_) (fun h49 => ?_)
            · have qnc : fm1 ≠ [] → f_T L1 ≠ 141 := by
                intro hf ht
                have hl : fm1.length ≠ 0 := fun h => hf (List.eq_nil_of_length_eq_zero h)
                omega
              refine ax_aload_n dX1_readAll_63 rfl rfl (pc' := 64) rfl ?_
              refine ax_bipush dX1_readAll_64 (by decide) (pc' := 66) rfl ?_
              refine ax_invG [.inl 6] [] dX1_readAll_66 mlX1_56 sh_58 rfl rfl rfl (Nat.le_of_ble_eq_true rfl) (s_X8_isWord E l _ (by omega) _ 6 ((funext fun i0 => fr1 60 i0 (fun h => h.elim (fun h => absurd h (by decide)) (fun h => h.elim (fun h => absurd h (by decide)) (fun h => h.elim (fun h => absurd h (by decide)) (fun h => h.elim (fun h => absurd h (by decide)) (fun h => h.elim (fun h => absurd h (by decide)) (fun h => h.elim (fun h => absurd h.1 (by decide)) (fun h => h.elim (fun h => absurd h.1 (by decide)) (fun h => h.elim (fun h => absurd h.1 (by decide)) (fun h => h.elim (fun h => absurd h.1 (by decide)) (fun h => absurd h.1 (by decide)))))))))))).trans (ax_up_rowmiss (by decide) (ax_up_rowmiss (by decide) hkk))) ((funext fun i0 => fr1 61 i0 (fun h => h.elim (fun h => absurd h (by decide)) (fun h => h.elim (fun h => absurd h (by decide)) (fun h => h.elim (fun h => absurd h (by decide)) (fun h => h.elim (fun h => absurd h (by decide)) (fun h => h.elim (fun h => absurd h (by decide)) (fun h => h.elim (fun h => absurd h.1 (by decide)) (fun h => h.elim (fun h => absurd h.1 (by decide)) (fun h => h.elim (fun h => absurd h.1 (by decide)) (fun h => h.elim (fun h => absurd h.1 (by decide)) (fun h => absurd h.1 (by decide)))))))))))).trans (ax_up_rowmiss (by decide) (ax_up_rowmiss (by decide) hvv))) ms1_58_8 (by first | omega | assumption)) (pc' := 69) rfl (fun vv M_66 hq co66 hcm66 => ?_)
              obtain ⟨rfl, rfl⟩ := hq
              refine ax_reS (st2 := [.inl (f_b (kk n1 = 2 ∧ vv n1 = 6))]) rfl ?_
              refine ax_if_eq (tgt := 83) dX1_readAll_69 (by decide) (pc' := 72) rfl (fun h69 => ?_) (fun h69 => ?_)
              · replace h69 := f_b_0 h69
                have qT15 : f_T L1 ≠ 15 := fun h => h69 ((km_a pK).mpr h)
                refine ax_aload_n dX1_readAll_83 rfl rfl (pc' := 84) rfl ?_
                refine ax_aload_n dX1_readAll_84 rfl rfl (pc' := 85) rfl ?_
                refine ax_invG [.inr 58] [] dX1_readAll_85 mlX1_63 sh_65 rfl rfl rfl (Nat.le_of_ble_eq_true rfl) (s_X1_readStep E l _ (by omega) _ L1 ((funext fun i0 => fr1 60 i0 (fun h => h.elim (fun h => absurd h (by decide)) (fun h => h.elim (fun h => absurd h (by decide)) (fun h => h.elim (fun h => absurd h (by decide)) (fun h => h.elim (fun h => absurd h (by decide)) (fun h => h.elim (fun h => absurd h (by decide)) (fun h => h.elim (fun h => absurd h.1 (by decide)) (fun h => h.elim (fun h => absurd h.1 (by decide)) (fun h => h.elim (fun h => absurd h.1 (by decide)) (fun h => h.elim (fun h => absurd h.1 (by decide)) (fun h => absurd h.1 (by decide)))))))))))).trans (ax_up_rowmiss (by decide) (ax_up_rowmiss (by decide) hkk))) ((funext fun i0 => fr1 61 i0 (fun h => h.elim (fun h => absurd h (by decide)) (fun h => h.elim (fun h => absurd h (by decide)) (fun h => h.elim (fun h => absurd h (by decide)) (fun h => h.elim (fun h => absurd h (by decide)) (fun h => h.elim (fun h => absurd h (by decide)) (fun h => h.elim (fun h => absurd h.1 (by decide)) (fun h => h.elim (fun h => absurd h.1 (by decide)) (fun h => h.elim (fun h => absurd h.1 (by decide)) (fun h => h.elim (fun h => absurd h.1 (by decide)) (fun h => absurd h.1 (by decide)))))))))))).trans (ax_up_rowmiss (by decide) (ax_up_rowmiss (by decide) hvv))) ((funext fun i0 => fr1 62 i0 (fun h => h.elim (fun h => absurd h (by decide)) (fun h => h.elim (fun h => absurd h (by decide)) (fun h => h.elim (fun h => absurd h (by decide)) (fun h => h.elim (fun h => absurd h (by decide)) (fun h => h.elim (fun h => absurd h (by decide)) (fun h => h.elim (fun h => absurd h.1 (by decide)) (fun h => h.elim (fun h => absurd h.1 (by decide)) (fun h => h.elim (fun h => absurd h.1 (by decide)) (fun h => h.elim (fun h => absurd h.1 (by decide)) (fun h => absurd h.1 (by decide)))))))))))).trans (ax_up_rowmiss (by decide) (ax_up_rowmiss (by decide) hss))) mr1_66 mr1_67 mr1_68 ms1_58_8 ms1_65_0 ms1_58_2 ms1_58_3 iv1_0 qT15 (by first | omega | assumption)) (pc' := 88) rfl (fun vv M_85 hq co85 hcm85 => ?_)
                obtain ⟨rfl, frM_85, fa85_0⟩ := hq
                refine ax_reS (st2 := [.inl (f_rdb (f_stq L1))]) rfl ?_
                have cc85 : -2147483648 ≤ f_rdb (f_stq L1) ∧ f_rdb (f_stq L1) < 2147483648 := co85 _ rfl
                refine ax_if_ne (tgt := 93) dX1_readAll_88 (by decide) (pc' := 91) rfl (fun h88 => ?_) (fun h88 => ?_)
                · obtain ⟨L3, ss3, qr3⟩ := f_rdb_ok h88
                  rw [qr3] at fa85_0
                  obtain ⟨qb0, s3, rfl, qk3, qf3, qz3, qn3, qy2, qy3⟩ := fa85_0
                  obtain ⟨qb5, ql3⟩ := f_m_stp iv1_5 qT15 qr3
                  obtain ⟨fm3, qfr⟩ : ∃ z, z = fm1 := ⟨_, rfl⟩
                  obtain ⟨cu3, qcu⟩ : ∃ z, z = cu1 ++ [s3] := ⟨_, rfl⟩
                  obtain ⟨nd3, qnd⟩ : ∃ z, z = nd := ⟨_, rfl⟩
                  rw [← qfr, ← qcu, ← qnd] at qb5
                  have qb2 : o1 = (fm3.length : Int) ∧ nd3 + fm3.length = 4 := by
                    rw [qfr, qnd]
                    exact iv1_2
                  have qb3 : f_sk t1 r1 (M_85 65 0) fm3 := by
                    rw [qfr]
                    exact f_sk_mono (by omega) iv1_3
                  have qb4 : f_dn (M_85 66) (M_85 67) (M_85 68) (M_85 65 0) (f_alS fm3 cu3) := by
                    rw [qk3, qf3, qz3, qn3, qfr, qcu, f_alS_app]
                    exact f_dn_add iv1_4
                  refine ax_iinc dX1_readAll_93 rfl (by decide) (by omega) (ls' := [some (.inr 65), some (.inr 58), some (.inl (tu + 1)), some (.inl 0)]) rfl (pc' := 96) rfl ?_
                  refine ax_goto dX1_readAll_96 (pc' := 12) (by decide) ?_
                  refine ax_less (ls2 := [some (.inr 65), some (.inr 58), some (.inl (tu + 1)), none]) [true, true, true, false] rfl ?_
                  refine ih3 (tu + 1) (M_85 66) (M_85 67) (M_85 68) t1 r1 (M_85 65 0) o1 (M_85 58 8) (M_85 58 2) (M_85 58 3) L3 fm3 cu3 nd3 M_85 ?_ ?_ ?_ ?_ ?_ ?_ ?_ ?_ ?_ ?_ ?_ ?_ ?_ ?_ ?_ ?_ ?_ ?_ ?_
                  · omega
                  · intro x0 i0 hai
                    exact ((frM_85 x0 i0 (fun h => h.elim (fun h => hai (Or.inr (Or.inr (Or.inr (Or.inr (Or.inr (Or.inr (Or.inr (Or.inl h))))))))) (fun h => h.elim (fun h => hai (Or.inr (Or.inr (Or.inr (Or.inr (Or.inr (Or.inr (Or.inr (Or.inr (Or.inl h)))))))))) (fun h => h.elim (fun h => hai (Or.inr (Or.inr (Or.inr (Or.inr (Or.inr (Or.inr (Or.inr (Or.inr (Or.inr h)))))))))) (fun h => h.elim (fun h => hai (Or.inl h)) (fun h => h.elim (fun h => hai (Or.inr (Or.inl h))) (fun h => h.elim (fun h => hai (Or.inr (Or.inr (Or.inl h)))) (fun h => hai (Or.inr (Or.inr (Or.inr (Or.inr (Or.inr (Or.inl h)))))))))))))).trans ((fr1 x0 i0 (fun h => h.elim (fun h => hai (Or.inl h)) (fun h => h.elim (fun h => hai (Or.inr (Or.inl h))) (fun h => h.elim (fun h => hai (Or.inr (Or.inr (Or.inl h)))) (fun h => h.elim (fun h => hai (Or.inr (Or.inr (Or.inr (Or.inl h))))) (fun h => h.elim (fun h => hai (Or.inr (Or.inr (Or.inr (Or.inr (Or.inl h)))))) (fun h => h.elim (fun h => hai (Or.inr (Or.inr (Or.inr (Or.inr (Or.inr (Or.inl h))))))) (fun h => h.elim (fun h => hai (Or.inr (Or.inr (Or.inr (Or.inr (Or.inr (Or.inr (Or.inl h)))))))) (fun h => h.elim (fun h => hai (Or.inr (Or.inr (Or.inr (Or.inr (Or.inr (Or.inr (Or.inr (Or.inl h))))))))) (fun h => h.elim (fun h => hai (Or.inr (Or.inr (Or.inr (Or.inr (Or.inr (Or.inr (Or.inr (Or.inr (Or.inl h)))))))))) (fun h => hai (Or.inr (Or.inr (Or.inr (Or.inr (Or.inr (Or.inr (Or.inr (Or.inr (Or.inr h)))))))))))))))))))).trans rfl))
                  · exact rfl
                  · exact rfl
                  · exact rfl
                  · exact ((funext fun i0 => frM_85 69 i0 (fun h => h.elim (fun h => absurd h.1 (by decide)) (fun h => h.elim (fun h => absurd h.1 (by decide)) (fun h => h.elim (fun h => absurd h.1 (by decide)) (fun h => h.elim (fun h => absurd h (by decide)) (fun h => h.elim (fun h => absurd h (by decide)) (fun h => h.elim (fun h => absurd h (by decide)) (fun h => absurd h.1 (by decide))))))))).trans mr1_69)
                  · exact ((funext fun i0 => frM_85 70 i0 (fun h => h.elim (fun h => absurd h.1 (by decide)) (fun h => h.elim (fun h => absurd h.1 (by decide)) (fun h => h.elim (fun h => absurd h.1 (by decide)) (fun h => h.elim (fun h => absurd h (by decide)) (fun h => h.elim (fun h => absurd h (by decide)) (fun h => h.elim (fun h => absurd h (by decide)) (fun h => absurd h.1 (by decide))))))))).trans mr1_70)
                  · exact rfl
                  · exact ((frM_85 65 4 (fun h => h.elim (fun h => absurd h.1 (by decide)) (fun h => h.elim (fun h => absurd h.1 (by decide)) (fun h => h.elim (fun h => absurd h.1 (by decide)) (fun h => h.elim (fun h => absurd h (by decide)) (fun h => h.elim (fun h => absurd h (by decide)) (fun h => h.elim (fun h => absurd h (by decide)) (fun h => absurd h.2 (by decide))))))))).trans ms1_65_4)
                  · exact rfl
                  · exact rfl
                  · exact rfl
                  · exact qb0
                  · omega
                  · exact qb2
                  · exact qb3
                  · exact qb4
                  · exact qb5
                  · first | exact iv1_6 | exact ⟨qy2.trans iv1_6.1, qy3.trans iv1_6.2⟩
                · obtain ⟨kk3, ss3, qr3⟩ := f_rdb_no h88
                  rw [qr3] at fa85_0
                  obtain ⟨qk3, qs3⟩ := fa85_0
                  have qz := f_m_sno iv1_5 qT15 qT0 qnc qr3
                  refine ax_iconst dX1_readAll_91 (by decide) (pc' := 92) rfl ?_
                  refine ax_zret dX1_readAll_92 rfl (by decide) ?_
                  refine ⟨rfl, ?_, ?_, ?_⟩
                  · refine congrArg (fun z => some (Sum.inl z)) ?_
                    rw [qz]
                    rfl
                  · intro x0 i0 hai
                    exact ((frM_85 x0 i0 (fun h => h.elim (fun h => hai (Or.inl h)) (fun h => h.elim (fun h => hai (Or.inr (Or.inl h))) (fun h => h.elim (fun h => hai (Or.inr (Or.inr (Or.inl h)))) (fun h => h.elim (fun h => hai (Or.inr (Or.inr (Or.inr (Or.inl h))))) (fun h => h.elim (fun h => hai (Or.inr (Or.inr (Or.inr (Or.inr (Or.inl h)))))) (fun h => h.elim (fun h => hai (Or.inr (Or.inr (Or.inr (Or.inr (Or.inr (Or.inl h))))))) (fun h => hai (Or.inr (Or.inr (Or.inr (Or.inr (Or.inr (Or.inr (Or.inr (Or.inr (Or.inl h))))))))))))))))).trans ((fr1 x0 i0 (fun h => h.elim (fun h => hai (Or.inr (Or.inr (Or.inr (Or.inl h))))) (fun h => h.elim (fun h => hai (Or.inr (Or.inr (Or.inr (Or.inr (Or.inl h)))))) (fun h => h.elim (fun h => hai (Or.inr (Or.inr (Or.inr (Or.inr (Or.inr (Or.inl h))))))) (fun h => h.elim (fun h => hai (Or.inr (Or.inr (Or.inr (Or.inr (Or.inr (Or.inr (Or.inl h)))))))) (fun h => h.elim (fun h => hai (Or.inr (Or.inr (Or.inr (Or.inr (Or.inr (Or.inr (Or.inr (Or.inl h))))))))) (fun h => h.elim (fun h => hai (Or.inr (Or.inr (Or.inr (Or.inr (Or.inr (Or.inr (Or.inr (Or.inr (Or.inl h)))))))))) (fun h => h.elim (fun h => hai (Or.inr (Or.inr (Or.inr (Or.inr (Or.inr (Or.inr (Or.inr (Or.inr (Or.inr h)))))))))) (fun h => h.elim (fun h => hai (Or.inl h)) (fun h => h.elim (fun h => hai (Or.inr (Or.inl h))) (fun h => hai (Or.inr (Or.inr (Or.inl h)))))))))))))).trans (ax_up_miss (fun h => hai (Or.inr (Or.inr (Or.inr (Or.inr (Or.inr (Or.inr (Or.inr (Or.inr (Or.inr h)))))))))) (ax_up_miss (fun h => hai (Or.inr (Or.inr (Or.inr (Or.inr (Or.inr (Or.inr (Or.inr (Or.inr (Or.inl h)))))))))) rfl))))
                  · exact f_dqo_no qz qk3 qs3
              · replace h69 := f_b_1 h69
                have qT15 := (km_a pK).mp h69
                refine ax_aload_n dX1_readAll_72 rfl rfl (pc' := 73) rfl ?_
                refine ax_aload_n dX1_readAll_73 rfl rfl (pc' := 74) rfl ?_
                refine ax_invG [.inr 58] [] dX1_readAll_74 mlX1_59 sh_65 rfl rfl rfl (Nat.le_of_ble_eq_true rfl) (s_X1_readAgain E l _ (by omega) _ L1 ((funext fun i0 => fr1 60 i0 (fun h => h.elim (fun h => absurd h (by decide)) (fun h => h.elim (fun h => absurd h (by decide)) (fun h => h.elim (fun h => absurd h (by decide)) (fun h => h.elim (fun h => absurd h (by decide)) (fun h => h.elim (fun h => absurd h (by decide)) (fun h => h.elim (fun h => absurd h.1 (by decide)) (fun h => h.elim (fun h => absurd h.1 (by decide)) (fun h => h.elim (fun h => absurd h.1 (by decide)) (fun h => h.elim (fun h => absurd h.1 (by decide)) (fun h => absurd h.1 (by decide)))))))))))).trans (ax_up_rowmiss (by decide) (ax_up_rowmiss (by decide) hkk))) ((funext fun i0 => fr1 61 i0 (fun h => h.elim (fun h => absurd h (by decide)) (fun h => h.elim (fun h => absurd h (by decide)) (fun h => h.elim (fun h => absurd h (by decide)) (fun h => h.elim (fun h => absurd h (by decide)) (fun h => h.elim (fun h => absurd h (by decide)) (fun h => h.elim (fun h => absurd h.1 (by decide)) (fun h => h.elim (fun h => absurd h.1 (by decide)) (fun h => h.elim (fun h => absurd h.1 (by decide)) (fun h => h.elim (fun h => absurd h.1 (by decide)) (fun h => absurd h.1 (by decide)))))))))))).trans (ax_up_rowmiss (by decide) (ax_up_rowmiss (by decide) hvv))) ((funext fun i0 => fr1 62 i0 (fun h => h.elim (fun h => absurd h (by decide)) (fun h => h.elim (fun h => absurd h (by decide)) (fun h => h.elim (fun h => absurd h (by decide)) (fun h => h.elim (fun h => absurd h (by decide)) (fun h => h.elim (fun h => absurd h (by decide)) (fun h => h.elim (fun h => absurd h.1 (by decide)) (fun h => h.elim (fun h => absurd h.1 (by decide)) (fun h => h.elim (fun h => absurd h.1 (by decide)) (fun h => h.elim (fun h => absurd h.1 (by decide)) (fun h => absurd h.1 (by decide)))))))))))).trans (ax_up_rowmiss (by decide) (ax_up_rowmiss (by decide) hss))) mr1_69 mr1_70 ms1_58_8 ms1_65_0 ms1_65_4 ms1_58_2 ms1_58_3 iv1_0 qT15 (by first | omega | assumption)) (pc' := 77) rfl (fun vv M_74 hq co74 hcm74 => ?_)
                obtain ⟨rfl, frM_74, fa74_0⟩ := hq
                refine ax_reS (st2 := [.inl (f_rdb (f_agq o1 L1))]) rfl ?_
                have cc74 : -2147483648 ≤ f_rdb (f_agq o1 L1) ∧ f_rdb (f_agq o1 L1) < 2147483648 := co74 _ rfl
                refine ax_if_eq (tgt := 91) dX1_readAll_77 (by decide) (pc' := 80) rfl (fun h77 => ?_) (fun h77 => ?_)
                · obtain ⟨kk3, ss3, qr3⟩ := f_rdb_no h77
                  rw [qr3] at fa74_0
                  obtain ⟨qk3, qs3⟩ := fa74_0
                  rw [iv1_2.1] at qr3
                  have qz := f_m_agn iv1_5 qT15 iv1_2.2 qr3
                  refine ax_iconst dX1_readAll_91 (by decide) (pc' := 92) rfl ?_
                  refine ax_zret dX1_readAll_92 rfl (by decide) ?_
                  refine ⟨rfl, ?_, ?_, ?_⟩
                  · refine congrArg (fun z => some (Sum.inl z)) ?_
                    rw [qz]
                    rfl
                  · intro x0 i0 hai
                    exact ((frM_74 x0 i0 (fun h => h.elim (fun h => hai (Or.inl h)) (fun h => h.elim (fun h => hai (Or.inr (Or.inl h))) (fun h => h.elim (fun h => hai (Or.inr (Or.inr (Or.inl h)))) (fun h => h.elim (fun h => hai (Or.inr (Or.inr (Or.inr (Or.inr (Or.inr (Or.inr (Or.inl h)))))))) (fun h => h.elim (fun h => hai (Or.inr (Or.inr (Or.inr (Or.inr (Or.inr (Or.inr (Or.inr (Or.inl h))))))))) (fun h => hai (Or.inr (Or.inr (Or.inr (Or.inr (Or.inr (Or.inr (Or.inr (Or.inr (Or.inr h)))))))))))))))).trans ((fr1 x0 i0 (fun h => h.elim (fun h => hai (Or.inr (Or.inr (Or.inr (Or.inl h))))) (fun h => h.elim (fun h => hai (Or.inr (Or.inr (Or.inr (Or.inr (Or.inl h)))))) (fun h => h.elim (fun h => hai (Or.inr (Or.inr (Or.inr (Or.inr (Or.inr (Or.inl h))))))) (fun h => h.elim (fun h => hai (Or.inr (Or.inr (Or.inr (Or.inr (Or.inr (Or.inr (Or.inl h)))))))) (fun h => h.elim (fun h => hai (Or.inr (Or.inr (Or.inr (Or.inr (Or.inr (Or.inr (Or.inr (Or.inl h))))))))) (fun h => h.elim (fun h => hai (Or.inr (Or.inr (Or.inr (Or.inr (Or.inr (Or.inr (Or.inr (Or.inr (Or.inl h)))))))))) (fun h => h.elim (fun h => hai (Or.inr (Or.inr (Or.inr (Or.inr (Or.inr (Or.inr (Or.inr (Or.inr (Or.inr h)))))))))) (fun h => h.elim (fun h => hai (Or.inl h)) (fun h => h.elim (fun h => hai (Or.inr (Or.inl h))) (fun h => hai (Or.inr (Or.inr (Or.inl h)))))))))))))).trans (ax_up_miss (fun h => hai (Or.inr (Or.inr (Or.inr (Or.inr (Or.inr (Or.inr (Or.inr (Or.inr (Or.inr h)))))))))) (ax_up_miss (fun h => hai (Or.inr (Or.inr (Or.inr (Or.inr (Or.inr (Or.inr (Or.inr (Or.inr (Or.inl h)))))))))) rfl))))
                  · exact f_dqo_no qz qk3 qs3
                · obtain ⟨L3, ss3, qr3⟩ := f_rdb_ok h77
                  rw [qr3] at fa74_0
                  obtain ⟨qb0, qk3, qf3, qz3, qn3, qy2, qy3⟩ := fa74_0
                  rw [iv1_2.1] at qr3
                  obtain ⟨nd3, qnd, qb5, ql3⟩ := f_m_ago iv1_5 qT15 iv1_2.2 qr3
                  obtain ⟨fm3, qfr⟩ : ∃ z : f_Frm, z = ((f_V L1.tail).toNat, cu1) :: fm1 := ⟨_, rfl⟩
                  obtain ⟨cu3, qcu⟩ : ∃ z : List f_Sp, z = [] := ⟨_, rfl⟩
                  rw [← qfr, ← qcu] at qb5
                  have qb2 : M_74 65 4 = (fm3.length : Int) ∧ nd3 + fm3.length = 4 := by
                    rw [qfr, List.length_cons, qz3]
                    omega
                  have qb3 : f_sk (M_74 69) (M_74 70) c1 fm3 := by
                    rw [qfr, qk3, qf3, iv1_2.1]
                    refine ⟨⟨(f_up_same _ _ _).trans (by omega), by omega, by omega⟩, ?_, f_sk_up (Int.le_refl _) iv1_3⟩
                    rw [show f_up r1 (fm1.length : Int) c1 (fm1.length : Int) = c1 from f_up_same _ _ _]
                    refine ⟨by omega, Int.le_refl _, fun hq => ?_⟩
                    rcases iv1_4 with q | q
                    · exact q.2.1
                    · omega
                  have qb4 : f_dn k1 f1 s1 c1 (f_alS fm3 cu3) := by
                    rw [qfr, qcu]
                    show f_dn k1 f1 s1 c1 (f_alS fm1 cu1 ++ [])
                    rw [List.append_nil]
                    exact iv1_4
                  refine ax_goto dX1_readAll_80 (pc' := 93) (by decide) ?_
                  refine ax_iinc dX1_readAll_93 rfl (by decide) (by omega) (ls' := [some (.inr 65), some (.inr 58), some (.inl (tu + 1)), some (.inl 0)]) rfl (pc' := 96) rfl ?_
                  refine ax_goto dX1_readAll_96 (pc' := 12) (by decide) ?_
                  refine ax_less (ls2 := [some (.inr 65), some (.inr 58), some (.inl (tu + 1)), none]) [true, true, true, false] rfl ?_
                  refine ih3 (tu + 1) k1 f1 s1 (M_74 69) (M_74 70) c1 (M_74 65 4) (M_74 58 8) (M_74 58 2) (M_74 58 3) L3 fm3 cu3 nd3 M_74 ?_ ?_ ?_ ?_ ?_ ?_ ?_ ?_ ?_ ?_ ?_ ?_ ?_ ?_ ?_ ?_ ?_ ?_ ?_
                  · omega
                  · intro x0 i0 hai
                    exact ((frM_74 x0 i0 (fun h => h.elim (fun h => hai (Or.inr (Or.inr (Or.inr (Or.inr (Or.inr (Or.inr (Or.inr (Or.inl h))))))))) (fun h => h.elim (fun h => hai (Or.inr (Or.inr (Or.inr (Or.inr (Or.inr (Or.inr (Or.inr (Or.inr (Or.inl h)))))))))) (fun h => h.elim (fun h => hai (Or.inr (Or.inr (Or.inr (Or.inr (Or.inr (Or.inr (Or.inr (Or.inr (Or.inr h)))))))))) (fun h => h.elim (fun h => hai (Or.inr (Or.inr (Or.inr (Or.inl h))))) (fun h => h.elim (fun h => hai (Or.inr (Or.inr (Or.inr (Or.inr (Or.inl h)))))) (fun h => hai (Or.inr (Or.inr (Or.inr (Or.inr (Or.inr (Or.inr (Or.inl h)))))))))))))).trans ((fr1 x0 i0 (fun h => h.elim (fun h => hai (Or.inl h)) (fun h => h.elim (fun h => hai (Or.inr (Or.inl h))) (fun h => h.elim (fun h => hai (Or.inr (Or.inr (Or.inl h)))) (fun h => h.elim (fun h => hai (Or.inr (Or.inr (Or.inr (Or.inl h))))) (fun h => h.elim (fun h => hai (Or.inr (Or.inr (Or.inr (Or.inr (Or.inl h)))))) (fun h => h.elim (fun h => hai (Or.inr (Or.inr (Or.inr (Or.inr (Or.inr (Or.inl h))))))) (fun h => h.elim (fun h => hai (Or.inr (Or.inr (Or.inr (Or.inr (Or.inr (Or.inr (Or.inl h)))))))) (fun h => h.elim (fun h => hai (Or.inr (Or.inr (Or.inr (Or.inr (Or.inr (Or.inr (Or.inr (Or.inl h))))))))) (fun h => h.elim (fun h => hai (Or.inr (Or.inr (Or.inr (Or.inr (Or.inr (Or.inr (Or.inr (Or.inr (Or.inl h)))))))))) (fun h => hai (Or.inr (Or.inr (Or.inr (Or.inr (Or.inr (Or.inr (Or.inr (Or.inr (Or.inr h)))))))))))))))))))).trans rfl))
                  · exact ((funext fun i0 => frM_74 66 i0 (fun h => h.elim (fun h => absurd h.1 (by decide)) (fun h => h.elim (fun h => absurd h.1 (by decide)) (fun h => h.elim (fun h => absurd h.1 (by decide)) (fun h => h.elim (fun h => absurd h (by decide)) (fun h => h.elim (fun h => absurd h (by decide)) (fun h => absurd h.1 (by decide)))))))).trans mr1_66)
                  · exact ((funext fun i0 => frM_74 67 i0 (fun h => h.elim (fun h => absurd h.1 (by decide)) (fun h => h.elim (fun h => absurd h.1 (by decide)) (fun h => h.elim (fun h => absurd h.1 (by decide)) (fun h => h.elim (fun h => absurd h (by decide)) (fun h => h.elim (fun h => absurd h (by decide)) (fun h => absurd h.1 (by decide)))))))).trans mr1_67)
                  · exact ((funext fun i0 => frM_74 68 i0 (fun h => h.elim (fun h => absurd h.1 (by decide)) (fun h => h.elim (fun h => absurd h.1 (by decide)) (fun h => h.elim (fun h => absurd h.1 (by decide)) (fun h => h.elim (fun h => absurd h (by decide)) (fun h => h.elim (fun h => absurd h (by decide)) (fun h => absurd h.1 (by decide)))))))).trans mr1_68)
                  · exact rfl
                  · exact rfl
                  · exact ((frM_74 65 0 (fun h => h.elim (fun h => absurd h.1 (by decide)) (fun h => h.elim (fun h => absurd h.1 (by decide)) (fun h => h.elim (fun h => absurd h.1 (by decide)) (fun h => h.elim (fun h => absurd h (by decide)) (fun h => h.elim (fun h => absurd h (by decide)) (fun h => absurd h.2 (by decide)))))))).trans ms1_65_0)
                  · exact rfl
                  · exact rfl
                  · exact rfl
                  · exact rfl
                  · exact qb0
                  · omega
                  · exact qb2
                  · exact qb3
                  · exact qb4
                  · exact qb5
                  · first | exact iv1_6 | exact ⟨qy2.trans iv1_6.1, qy3.trans iv1_6.2⟩
            · exfalso
              omega
          · refine ax_aload_n dX1_readAll_33 rfl rfl (pc' := 34) rfl ?_
            refine ax_bipush dX1_readAll_34 (by decide) (pc' := 36) rfl ?_
            refine ax_invG [.inl 41] [] dX1_readAll_36 mlX1_46 sh_58 rfl rfl rfl (Nat.le_of_ble_eq_true rfl) (s_X8_isSign E l _ (by omega) _ 41 ((funext fun i0 => fr1 60 i0 (fun h => h.elim (fun h => absurd h (by decide)) (fun h => h.elim (fun h => absurd h (by decide)) (fun h => h.elim (fun h => absurd h (by decide)) (fun h => h.elim (fun h => absurd h (by decide)) (fun h => h.elim (fun h => absurd h (by decide)) (fun h => h.elim (fun h => absurd h.1 (by decide)) (fun h => h.elim (fun h => absurd h.1 (by decide)) (fun h => h.elim (fun h => absurd h.1 (by decide)) (fun h => h.elim (fun h => absurd h.1 (by decide)) (fun h => absurd h.1 (by decide)))))))))))).trans (ax_up_rowmiss (by decide) (ax_up_rowmiss (by decide) hkk))) ((funext fun i0 => fr1 61 i0 (fun h => h.elim (fun h => absurd h (by decide)) (fun h => h.elim (fun h => absurd h (by decide)) (fun h => h.elim (fun h => absurd h (by decide)) (fun h => h.elim (fun h => absurd h (by decide)) (fun h => h.elim (fun h => absurd h (by decide)) (fun h => h.elim (fun h => absurd h.1 (by decide)) (fun h => h.elim (fun h => absurd h.1 (by decide)) (fun h => h.elim (fun h => absurd h.1 (by decide)) (fun h => h.elim (fun h => absurd h.1 (by decide)) (fun h => absurd h.1 (by decide)))))))))))).trans (ax_up_rowmiss (by decide) (ax_up_rowmiss (by decide) hvv))) ms1_58_8 (by first | omega | assumption)) (pc' := 39) rfl (fun vv M_36 hq co36 hcm36 => ?_)
            obtain ⟨rfl, rfl⟩ := hq
            refine ax_reS (st2 := [.inl (f_b (kk n1 = 1 ∧ vv n1 = 41))]) rfl ?_
            refine ax_if_eq (tgt := 46) dX1_readAll_39 (by decide) (pc' := 42) rfl (fun h39 => ?_) (fun h39 => ?_)
            · replace h39 := f_b_0 h39
              refine ax_iconst dX1_readAll_46 (by decide) (pc' := 47) rfl ?_
              refine ax_istore_n dX1_readAll_47 rfl (by decide) (ls' := [some (.inr 65), some (.inr 58), some (.inl tu), some (.inl 0)]) rfl (pc' := 48) rfl ?_
              refine ax_iload_n dX1_readAll_48 rfl rfl (pc' := 49) rfl ?_
              refine ax_if_eq (tgt := 63) dX1_readAll_49 (by decide) (pc' := 52) rfl (fun h49 => ?_) (fun h49 => ?_)
              · have qnc : fm1 ≠ [] → f_T L1 ≠ 141 := by
                  intro hf ht
                  have hl : fm1.length ≠ 0 := fun h => hf (List.eq_nil_of_length_eq_zero h)
                  exact h39 ((km_s pK 41 (by decide)).mpr ht)
                refine ax_aload_n dX1_readAll_63 rfl rfl (pc' := 64) rfl ?_
                refine ax_bipush dX1_readAll_64 (by decide) (pc' := 66) rfl ?_
                refine ax_invG [.inl 6] [] dX1_readAll_66 mlX1_56 sh_58 rfl rfl rfl (Nat.le_of_ble_eq_true rfl) (s_X8_isWord E l _ (by omega) _ 6 ((funext fun i0 => fr1 60 i0 (fun h => h.elim (fun h => absurd h (by decide)) (fun h => h.elim (fun h => absurd h (by decide)) (fun h => h.elim (fun h => absurd h (by decide)) (fun h => h.elim (fun h => absurd h (by decide)) (fun h => h.elim (fun h => absurd h (by decide)) (fun h => h.elim (fun h => absurd h.1 (by decide)) (fun h => h.elim (fun h => absurd h.1 (by decide)) (fun h => h.elim (fun h => absurd h.1 (by decide)) (fun h => h.elim (fun h => absurd h.1 (by decide)) (fun h => absurd h.1 (by decide)))))))))))).trans (ax_up_rowmiss (by decide) (ax_up_rowmiss (by decide) hkk))) ((funext fun i0 => fr1 61 i0 (fun h => h.elim (fun h => absurd h (by decide)) (fun h => h.elim (fun h => absurd h (by decide)) (fun h => h.elim (fun h => absurd h (by decide)) (fun h => h.elim (fun h => absurd h (by decide)) (fun h => h.elim (fun h => absurd h (by decide)) (fun h => h.elim (fun h => absurd h.1 (by decide)) (fun h => h.elim (fun h => absurd h.1 (by decide)) (fun h => h.elim (fun h => absurd h.1 (by decide)) (fun h => h.elim (fun h => absurd h.1 (by decide)) (fun h => absurd h.1 (by decide)))))))))))).trans (ax_up_rowmiss (by decide) (ax_up_rowmiss (by decide) hvv))) ms1_58_8 (by first | omega | assumption)) (pc' := 69) rfl (fun vv M_66 hq co66 hcm66 => ?_)
                obtain ⟨rfl, rfl⟩ := hq
                refine ax_reS (st2 := [.inl (f_b (kk n1 = 2 ∧ vv n1 = 6))]) rfl ?_
                refine ax_if_eq (tgt := 83) dX1_readAll_69 (by decide) (pc' := 72) rfl (fun h69 => ?_) (fun h69 => ?_)
                · replace h69 := f_b_0 h69
                  have qT15 : f_T L1 ≠ 15 := fun h => h69 ((km_a pK).mpr h)
                  refine ax_aload_n dX1_readAll_83 rfl rfl (pc' := 84) rfl ?_
                  refine ax_aload_n dX1_readAll_84 rfl rfl (pc' := 85) rfl ?_
                  refine ax_invG [.inr 58] [] dX1_readAll_85 mlX1_63 sh_65 rfl rfl rfl (Nat.le_of_ble_eq_true rfl) (s_X1_readStep E l _ (by omega) _ L1 ((funext fun i0 => fr1 60 i0 (fun h => h.elim (fun h => absurd h (by decide)) (fun h => h.elim (fun h => absurd h (by decide)) (fun h => h.elim (fun h => absurd h (by decide)) (fun h => h.elim (fun h => absurd h (by decide)) (fun h => h.elim (fun h => absurd h (by decide)) (fun h => h.elim (fun h => absurd h.1 (by decide)) (fun h => h.elim (fun h => absurd h.1 (by decide)) (fun h => h.elim (fun h => absurd h.1 (by decide)) (fun h => h.elim (fun h => absurd h.1 (by decide)) (fun h => absurd h.1 (by decide)))))))))))).trans (ax_up_rowmiss (by decide) (ax_up_rowmiss (by decide) hkk))) ((funext fun i0 => fr1 61 i0 (fun h => h.elim (fun h => absurd h (by decide)) (fun h => h.elim (fun h => absurd h (by decide)) (fun h => h.elim (fun h => absurd h (by decide)) (fun h => h.elim (fun h => absurd h (by decide)) (fun h => h.elim (fun h => absurd h (by decide)) (fun h => h.elim (fun h => absurd h.1 (by decide)) (fun h => h.elim (fun h => absurd h.1 (by decide)) (fun h => h.elim (fun h => absurd h.1 (by decide)) (fun h => h.elim (fun h => absurd h.1 (by decide)) (fun h => absurd h.1 (by decide)))))))))))).trans (ax_up_rowmiss (by decide) (ax_up_rowmiss (by decide) hvv))) ((funext fun i0 => fr1 62 i0 (fun h => h.elim (fun h => absurd h (by decide)) (fun h => h.elim (fun h => absurd h (by decide)) (fun h => h.elim (fun h => absurd h (by decide)) (fun h => h.elim (fun h => absurd h (by decide)) (fun h => h.elim (fun h => absurd h (by decide)) (fun h => h.elim (fun h => absurd h.1 (by decide)) (fun h => h.elim (fun h => absurd h.1 (by decide)) (fun h => h.elim (fun h => absurd h.1 (by decide)) (fun h => h.elim (fun h => absurd h.1 (by decide)) (fun h => absurd h.1 (by decide)))))))))))).trans (ax_up_rowmiss (by decide) (ax_up_rowmiss (by decide) hss))) mr1_66 mr1_67 mr1_68 ms1_58_8 ms1_65_0 ms1_58_2 ms1_58_3 iv1_0 qT15 (by first | omega | assumption)) (pc' := 88) rfl (fun vv M_85 hq co85 hcm85 => ?_)
                  obtain ⟨rfl, frM_85, fa85_0⟩ := hq
                  refine ax_reS (st2 := [.inl (f_rdb (f_stq L1))]) rfl ?_
                  have cc85 : -2147483648 ≤ f_rdb (f_stq L1) ∧ f_rdb (f_stq L1) < 2147483648 := co85 _ rfl
                  refine ax_if_ne (tgt := 93) dX1_readAll_88 (by decide) (pc' := 91) rfl (fun h88 => ?_) (fun h88 => ?_)
                  · obtain ⟨L3, ss3, qr3⟩ := f_rdb_ok h88
                    rw [qr3] at fa85_0
                    obtain ⟨qb0, s3, rfl, qk3, qf3, qz3, qn3, qy2, qy3⟩ := fa85_0
                    obtain ⟨qb5, ql3⟩ := f_m_stp iv1_5 qT15 qr3
                    obtain ⟨fm3, qfr⟩ : ∃ z, z = fm1 := ⟨_, rfl⟩
                    obtain ⟨cu3, qcu⟩ : ∃ z, z = cu1 ++ [s3] := ⟨_, rfl⟩
                    obtain ⟨nd3, qnd⟩ : ∃ z, z = nd := ⟨_, rfl⟩
                    rw [← qfr, ← qcu, ← qnd] at qb5
                    have qb2 : o1 = (fm3.length : Int) ∧ nd3 + fm3.length = 4 := by
                      rw [qfr, qnd]
                      exact iv1_2
                    have qb3 : f_sk t1 r1 (M_85 65 0) fm3 := by
                      rw [qfr]
                      exact f_sk_mono (by omega) iv1_3
                    have qb4 : f_dn (M_85 66) (M_85 67) (M_85 68) (M_85 65 0) (f_alS fm3 cu3) := by
                      rw [qk3, qf3, qz3, qn3, qfr, qcu, f_alS_app]
                      exact f_dn_add iv1_4
                    refine ax_iinc dX1_readAll_93 rfl (by decide) (by omega) (ls' := [some (.inr 65), some (.inr 58), some (.inl (tu + 1)), some (.inl 0)]) rfl (pc' := 96) rfl ?_
                    refine ax_goto dX1_readAll_96 (pc' := 12) (by decide) ?_
                    refine ax_less (ls2 := [some (.inr 65), some (.inr 58), some (.inl (tu + 1)), none]) [true, true, true, false] rfl ?_
                    refine ih3 (tu + 1) (M_85 66) (M_85 67) (M_85 68) t1 r1 (M_85 65 0) o1 (M_85 58 8) (M_85 58 2) (M_85 58 3) L3 fm3 cu3 nd3 M_85 ?_ ?_ ?_ ?_ ?_ ?_ ?_ ?_ ?_ ?_ ?_ ?_ ?_ ?_ ?_ ?_ ?_ ?_ ?_
                    · omega
                    · intro x0 i0 hai
                      exact ((frM_85 x0 i0 (fun h => h.elim (fun h => hai (Or.inr (Or.inr (Or.inr (Or.inr (Or.inr (Or.inr (Or.inr (Or.inl h))))))))) (fun h => h.elim (fun h => hai (Or.inr (Or.inr (Or.inr (Or.inr (Or.inr (Or.inr (Or.inr (Or.inr (Or.inl h)))))))))) (fun h => h.elim (fun h => hai (Or.inr (Or.inr (Or.inr (Or.inr (Or.inr (Or.inr (Or.inr (Or.inr (Or.inr h)))))))))) (fun h => h.elim (fun h => hai (Or.inl h)) (fun h => h.elim (fun h => hai (Or.inr (Or.inl h))) (fun h => h.elim (fun h => hai (Or.inr (Or.inr (Or.inl h)))) (fun h => hai (Or.inr (Or.inr (Or.inr (Or.inr (Or.inr (Or.inl h)))))))))))))).trans ((fr1 x0 i0 (fun h => h.elim (fun h => hai (Or.inl h)) (fun h => h.elim (fun h => hai (Or.inr (Or.inl h))) (fun h => h.elim (fun h => hai (Or.inr (Or.inr (Or.inl h)))) (fun h => h.elim (fun h => hai (Or.inr (Or.inr (Or.inr (Or.inl h))))) (fun h => h.elim (fun h => hai (Or.inr (Or.inr (Or.inr (Or.inr (Or.inl h)))))) (fun h => h.elim (fun h => hai (Or.inr (Or.inr (Or.inr (Or.inr (Or.inr (Or.inl h))))))) (fun h => h.elim (fun h => hai (Or.inr (Or.inr (Or.inr (Or.inr (Or.inr (Or.inr (Or.inl h)))))))) (fun h => h.elim (fun h => hai (Or.inr (Or.inr (Or.inr (Or.inr (Or.inr (Or.inr (Or.inr (Or.inl h))))))))) (fun h => h.elim (fun h => hai (Or.inr (Or.inr (Or.inr (Or.inr (Or.inr (Or.inr (Or.inr (Or.inr (Or.inl h)))))))))) (fun h => hai (Or.inr (Or.inr (Or.inr (Or.inr (Or.inr (Or.inr (Or.inr (Or.inr (Or.inr h)))))))))))))))))))).trans rfl))
                    · exact rfl
                    · exact rfl
                    · exact rfl
                    · exact ((funext fun i0 => frM_85 69 i0 (fun h => h.elim (fun h => absurd h.1 (by decide)) (fun h => h.elim (fun h => absurd h.1 (by decide)) (fun h => h.elim (fun h => absurd h.1 (by decide)) (fun h => h.elim (fun h => absurd h (by decide)) (fun h => h.elim (fun h => absurd h (by decide)) (fun h => h.elim (fun h => absurd h (by decide)) (fun h => absurd h.1 (by decide))))))))).trans mr1_69)
                    · exact ((funext fun i0 => frM_85 70 i0 (fun h => h.elim (fun h => absurd h.1 (by decide)) (fun h => h.elim (fun h => absurd h.1 (by decide)) (fun h => h.elim (fun h => absurd h.1 (by decide)) (fun h => h.elim (fun h => absurd h (by decide)) (fun h => h.elim (fun h => absurd h (by decide)) (fun h => h.elim (fun h => absurd h (by decide)) (fun h => absurd h.1 (by decide))))))))).trans mr1_70)
                    · exact rfl
                    · exact ((frM_85 65 4 (fun h => h.elim (fun h => absurd h.1 (by decide)) (fun h => h.elim (fun h => absurd h.1 (by decide)) (fun h => h.elim (fun h => absurd h.1 (by decide)) (fun h => h.elim (fun h => absurd h (by decide)) (fun h => h.elim (fun h => absurd h (by decide)) (fun h => h.elim (fun h => absurd h (by decide)) (fun h => absurd h.2 (by decide))))))))).trans ms1_65_4)
                    · exact rfl
                    · exact rfl
                    · exact rfl
                    · exact qb0
                    · omega
                    · exact qb2
                    · exact qb3
                    · exact qb4
                    · exact qb5
                    · first | exact iv1_6 | exact ⟨qy2.trans iv1_6.1, qy3.trans iv1_6.2⟩
                  · obtain ⟨kk3, ss3, qr3⟩ := f_rdb_no h88
                    rw [qr3] at fa85_0
                    obtain ⟨qk3, qs3⟩ := fa85_0
                    have qz := f_m_sno iv1_5 qT15 qT0 qnc qr3
                    refine ax_iconst dX1_readAll_91 (by decide) (pc' := 92) rfl ?_
                    refine ax_zret dX1_readAll_92 rfl (by decide) ?_
                    refine ⟨rfl, ?_, ?_, ?_⟩
                    · refine congrArg (fun z => some (Sum.inl z)) ?_
                      rw [qz]
                      rfl
                    · intro x0 i0 hai
                      exact ((frM_85 x0 i0 (fun h => h.elim (fun h => hai (Or.inl h)) (fun h => h.elim (fun h => hai (Or.inr (Or.inl h))) (fun h => h.elim (fun h => hai (Or.inr (Or.inr (Or.inl h)))) (fun h => h.elim (fun h => hai (Or.inr (Or.inr (Or.inr (Or.inl h))))) (fun h => h.elim (fun h => hai (Or.inr (Or.inr (Or.inr (Or.inr (Or.inl h)))))) (fun h => h.elim (fun h => hai (Or.inr (Or.inr (Or.inr (Or.inr (Or.inr (Or.inl h))))))) (fun h => hai (Or.inr (Or.inr (Or.inr (Or.inr (Or.inr (Or.inr (Or.inr (Or.inr (Or.inl h))))))))))))))))).trans ((fr1 x0 i0 (fun h => h.elim (fun h => hai (Or.inr (Or.inr (Or.inr (Or.inl h))))) (fun h => h.elim (fun h => hai (Or.inr (Or.inr (Or.inr (Or.inr (Or.inl h)))))) (fun h => h.elim (fun h => hai (Or.inr (Or.inr (Or.inr (Or.inr (Or.inr (Or.inl h))))))) (fun h => h.elim (fun h => hai (Or.inr (Or.inr (Or.inr (Or.inr (Or.inr (Or.inr (Or.inl h)))))))) (fun h => h.elim (fun h => hai (Or.inr (Or.inr (Or.inr (Or.inr (Or.inr (Or.inr (Or.inr (Or.inl h))))))))) (fun h => h.elim (fun h => hai (Or.inr (Or.inr (Or.inr (Or.inr (Or.inr (Or.inr (Or.inr (Or.inr (Or.inl h)))))))))) (fun h => h.elim (fun h => hai (Or.inr (Or.inr (Or.inr (Or.inr (Or.inr (Or.inr (Or.inr (Or.inr (Or.inr h)))))))))) (fun h => h.elim (fun h => hai (Or.inl h)) (fun h => h.elim (fun h => hai (Or.inr (Or.inl h))) (fun h => hai (Or.inr (Or.inr (Or.inl h)))))))))))))).trans (ax_up_miss (fun h => hai (Or.inr (Or.inr (Or.inr (Or.inr (Or.inr (Or.inr (Or.inr (Or.inr (Or.inr h)))))))))) (ax_up_miss (fun h => hai (Or.inr (Or.inr (Or.inr (Or.inr (Or.inr (Or.inr (Or.inr (Or.inr (Or.inl h)))))))))) rfl))))
                    · exact f_dqo_no qz qk3 qs3
                · replace h69 := f_b_1 h69
                  have qT15 := (km_a pK).mp h69
                  refine ax_aload_n dX1_readAll_72 rfl rfl (pc' := 73) rfl ?_
                  refine ax_aload_n dX1_readAll_73 rfl rfl (pc' := 74) rfl ?_
                  refine ax_invG [.inr 58] [] dX1_readAll_74 mlX1_59 sh_65 rfl rfl rfl (Nat.le_of_ble_eq_true rfl) (s_X1_readAgain E l _ (by omega) _ L1 ((funext fun i0 => fr1 60 i0 (fun h => h.elim (fun h => absurd h (by decide)) (fun h => h.elim (fun h => absurd h (by decide)) (fun h => h.elim (fun h => absurd h (by decide)) (fun h => h.elim (fun h => absurd h (by decide)) (fun h => h.elim (fun h => absurd h (by decide)) (fun h => h.elim (fun h => absurd h.1 (by decide)) (fun h => h.elim (fun h => absurd h.1 (by decide)) (fun h => h.elim (fun h => absurd h.1 (by decide)) (fun h => h.elim (fun h => absurd h.1 (by decide)) (fun h => absurd h.1 (by decide)))))))))))).trans (ax_up_rowmiss (by decide) (ax_up_rowmiss (by decide) hkk))) ((funext fun i0 => fr1 61 i0 (fun h => h.elim (fun h => absurd h (by decide)) (fun h => h.elim (fun h => absurd h (by decide)) (fun h => h.elim (fun h => absurd h (by decide)) (fun h => h.elim (fun h => absurd h (by decide)) (fun h => h.elim (fun h => absurd h (by decide)) (fun h => h.elim (fun h => absurd h.1 (by decide)) (fun h => h.elim (fun h => absurd h.1 (by decide)) (fun h => h.elim (fun h => absurd h.1 (by decide)) (fun h => h.elim (fun h => absurd h.1 (by decide)) (fun h => absurd h.1 (by decide)))))))))))).trans (ax_up_rowmiss (by decide) (ax_up_rowmiss (by decide) hvv))) ((funext fun i0 => fr1 62 i0 (fun h => h.elim (fun h => absurd h (by decide)) (fun h => h.elim (fun h => absurd h (by decide)) (fun h => h.elim (fun h => absurd h (by decide)) (fun h => h.elim (fun h => absurd h (by decide)) (fun h => h.elim (fun h => absurd h (by decide)) (fun h => h.elim (fun h => absurd h.1 (by decide)) (fun h => h.elim (fun h => absurd h.1 (by decide)) (fun h => h.elim (fun h => absurd h.1 (by decide)) (fun h => h.elim (fun h => absurd h.1 (by decide)) (fun h => absurd h.1 (by decide)))))))))))).trans (ax_up_rowmiss (by decide) (ax_up_rowmiss (by decide) hss))) mr1_69 mr1_70 ms1_58_8 ms1_65_0 ms1_65_4 ms1_58_2 ms1_58_3 iv1_0 qT15 (by first | omega | assumption)) (pc' := 77) rfl (fun vv M_74 hq co74 hcm74 => ?_)
                  obtain ⟨rfl, frM_74, fa74_0⟩ := hq
                  refine ax_reS (st2 := [.inl (f_rdb (f_agq o1 L1))]) rfl ?_
                  have cc74 : -2147483648 ≤ f_rdb (f_agq o1 L1) ∧ f_rdb (f_agq o1 L1) < 2147483648 := co74 _ rfl
                  refine ax_if_eq (tgt := 91) dX1_readAll_77 (by decide) (pc' := 80) rfl (fun h77 => ?_) (fun h77 => ?_)
                  · obtain ⟨kk3, ss3, qr3⟩ := f_rdb_no h77
                    rw [qr3] at fa74_0
                    obtain ⟨qk3, qs3⟩ := fa74_0
                    rw [iv1_2.1] at qr3
                    have qz := f_m_agn iv1_5 qT15 iv1_2.2 qr3
                    refine ax_iconst dX1_readAll_91 (by decide) (pc' := 92) rfl ?_
                    refine ax_zret dX1_readAll_92 rfl (by decide) ?_
                    refine ⟨rfl, ?_, ?_, ?_⟩
                    · refine congrArg (fun z => some (Sum.inl z)) ?_
                      rw [qz]
                      rfl
                    · intro x0 i0 hai
                      exact ((frM_74 x0 i0 (fun h => h.elim (fun h => hai (Or.inl h)) (fun h => h.elim (fun h => hai (Or.inr (Or.inl h))) (fun h => h.elim (fun h => hai (Or.inr (Or.inr (Or.inl h)))) (fun h => h.elim (fun h => hai (Or.inr (Or.inr (Or.inr (Or.inr (Or.inr (Or.inr (Or.inl h)))))))) (fun h => h.elim (fun h => hai (Or.inr (Or.inr (Or.inr (Or.inr (Or.inr (Or.inr (Or.inr (Or.inl h))))))))) (fun h => hai (Or.inr (Or.inr (Or.inr (Or.inr (Or.inr (Or.inr (Or.inr (Or.inr (Or.inr h)))))))))))))))).trans ((fr1 x0 i0 (fun h => h.elim (fun h => hai (Or.inr (Or.inr (Or.inr (Or.inl h))))) (fun h => h.elim (fun h => hai (Or.inr (Or.inr (Or.inr (Or.inr (Or.inl h)))))) (fun h => h.elim (fun h => hai (Or.inr (Or.inr (Or.inr (Or.inr (Or.inr (Or.inl h))))))) (fun h => h.elim (fun h => hai (Or.inr (Or.inr (Or.inr (Or.inr (Or.inr (Or.inr (Or.inl h)))))))) (fun h => h.elim (fun h => hai (Or.inr (Or.inr (Or.inr (Or.inr (Or.inr (Or.inr (Or.inr (Or.inl h))))))))) (fun h => h.elim (fun h => hai (Or.inr (Or.inr (Or.inr (Or.inr (Or.inr (Or.inr (Or.inr (Or.inr (Or.inl h)))))))))) (fun h => h.elim (fun h => hai (Or.inr (Or.inr (Or.inr (Or.inr (Or.inr (Or.inr (Or.inr (Or.inr (Or.inr h)))))))))) (fun h => h.elim (fun h => hai (Or.inl h)) (fun h => h.elim (fun h => hai (Or.inr (Or.inl h))) (fun h => hai (Or.inr (Or.inr (Or.inl h)))))))))))))).trans (ax_up_miss (fun h => hai (Or.inr (Or.inr (Or.inr (Or.inr (Or.inr (Or.inr (Or.inr (Or.inr (Or.inr h)))))))))) (ax_up_miss (fun h => hai (Or.inr (Or.inr (Or.inr (Or.inr (Or.inr (Or.inr (Or.inr (Or.inr (Or.inl h)))))))))) rfl))))
                    · exact f_dqo_no qz qk3 qs3
                  · obtain ⟨L3, ss3, qr3⟩ := f_rdb_ok h77
                    rw [qr3] at fa74_0
                    obtain ⟨qb0, qk3, qf3, qz3, qn3, qy2, qy3⟩ := fa74_0
                    rw [iv1_2.1] at qr3
                    obtain ⟨nd3, qnd, qb5, ql3⟩ := f_m_ago iv1_5 qT15 iv1_2.2 qr3
                    obtain ⟨fm3, qfr⟩ : ∃ z : f_Frm, z = ((f_V L1.tail).toNat, cu1) :: fm1 := ⟨_, rfl⟩
                    obtain ⟨cu3, qcu⟩ : ∃ z : List f_Sp, z = [] := ⟨_, rfl⟩
                    rw [← qfr, ← qcu] at qb5
                    have qb2 : M_74 65 4 = (fm3.length : Int) ∧ nd3 + fm3.length = 4 := by
                      rw [qfr, List.length_cons, qz3]
                      omega
                    have qb3 : f_sk (M_74 69) (M_74 70) c1 fm3 := by
                      rw [qfr, qk3, qf3, iv1_2.1]
                      refine ⟨⟨(f_up_same _ _ _).trans (by omega), by omega, by omega⟩, ?_, f_sk_up (Int.le_refl _) iv1_3⟩
                      rw [show f_up r1 (fm1.length : Int) c1 (fm1.length : Int) = c1 from f_up_same _ _ _]
                      refine ⟨by omega, Int.le_refl _, fun hq => ?_⟩
                      rcases iv1_4 with q | q
                      · exact q.2.1
                      · omega
                    have qb4 : f_dn k1 f1 s1 c1 (f_alS fm3 cu3) := by
                      rw [qfr, qcu]
                      show f_dn k1 f1 s1 c1 (f_alS fm1 cu1 ++ [])
                      rw [List.append_nil]
                      exact iv1_4
                    refine ax_goto dX1_readAll_80 (pc' := 93) (by decide) ?_
                    refine ax_iinc dX1_readAll_93 rfl (by decide) (by omega) (ls' := [some (.inr 65), some (.inr 58), some (.inl (tu + 1)), some (.inl 0)]) rfl (pc' := 96) rfl ?_
                    refine ax_goto dX1_readAll_96 (pc' := 12) (by decide) ?_
                    refine ax_less (ls2 := [some (.inr 65), some (.inr 58), some (.inl (tu + 1)), none]) [true, true, true, false] rfl ?_
                    refine ih3 (tu + 1) k1 f1 s1 (M_74 69) (M_74 70) c1 (M_74 65 4) (M_74 58 8) (M_74 58 2) (M_74 58 3) L3 fm3 cu3 nd3 M_74 ?_ ?_ ?_ ?_ ?_ ?_ ?_ ?_ ?_ ?_ ?_ ?_ ?_ ?_ ?_ ?_ ?_ ?_ ?_
                    · omega
                    · intro x0 i0 hai
                      exact ((frM_74 x0 i0 (fun h => h.elim (fun h => hai (Or.inr (Or.inr (Or.inr (Or.inr (Or.inr (Or.inr (Or.inr (Or.inl h))))))))) (fun h => h.elim (fun h => hai (Or.inr (Or.inr (Or.inr (Or.inr (Or.inr (Or.inr (Or.inr (Or.inr (Or.inl h)))))))))) (fun h => h.elim (fun h => hai (Or.inr (Or.inr (Or.inr (Or.inr (Or.inr (Or.inr (Or.inr (Or.inr (Or.inr h)))))))))) (fun h => h.elim (fun h => hai (Or.inr (Or.inr (Or.inr (Or.inl h))))) (fun h => h.elim (fun h => hai (Or.inr (Or.inr (Or.inr (Or.inr (Or.inl h)))))) (fun h => hai (Or.inr (Or.inr (Or.inr (Or.inr (Or.inr (Or.inr (Or.inl h)))))))))))))).trans ((fr1 x0 i0 (fun h => h.elim (fun h => hai (Or.inl h)) (fun h => h.elim (fun h => hai (Or.inr (Or.inl h))) (fun h => h.elim (fun h => hai (Or.inr (Or.inr (Or.inl h)))) (fun h => h.elim (fun h => hai (Or.inr (Or.inr (Or.inr (Or.inl h))))) (fun h => h.elim (fun h => hai (Or.inr (Or.inr (Or.inr (Or.inr (Or.inl h)))))) (fun h => h.elim (fun h => hai (Or.inr (Or.inr (Or.inr (Or.inr (Or.inr (Or.inl h))))))) (fun h => h.elim (fun h => hai (Or.inr (Or.inr (Or.inr (Or.inr (Or.inr (Or.inr (Or.inl h)))))))) (fun h => h.elim (fun h => hai (Or.inr (Or.inr (Or.inr (Or.inr (Or.inr (Or.inr (Or.inr (Or.inl h))))))))) (fun h => h.elim (fun h => hai (Or.inr (Or.inr (Or.inr (Or.inr (Or.inr (Or.inr (Or.inr (Or.inr (Or.inl h)))))))))) (fun h => hai (Or.inr (Or.inr (Or.inr (Or.inr (Or.inr (Or.inr (Or.inr (Or.inr (Or.inr h)))))))))))))))))))).trans rfl))
                    · exact ((funext fun i0 => frM_74 66 i0 (fun h => h.elim (fun h => absurd h.1 (by decide)) (fun h => h.elim (fun h => absurd h.1 (by decide)) (fun h => h.elim (fun h => absurd h.1 (by decide)) (fun h => h.elim (fun h => absurd h (by decide)) (fun h => h.elim (fun h => absurd h (by decide)) (fun h => absurd h.1 (by decide)))))))).trans mr1_66)
                    · exact ((funext fun i0 => frM_74 67 i0 (fun h => h.elim (fun h => absurd h.1 (by decide)) (fun h => h.elim (fun h => absurd h.1 (by decide)) (fun h => h.elim (fun h => absurd h.1 (by decide)) (fun h => h.elim (fun h => absurd h (by decide)) (fun h => h.elim (fun h => absurd h (by decide)) (fun h => absurd h.1 (by decide)))))))).trans mr1_67)
                    · exact ((funext fun i0 => frM_74 68 i0 (fun h => h.elim (fun h => absurd h.1 (by decide)) (fun h => h.elim (fun h => absurd h.1 (by decide)) (fun h => h.elim (fun h => absurd h.1 (by decide)) (fun h => h.elim (fun h => absurd h (by decide)) (fun h => h.elim (fun h => absurd h (by decide)) (fun h => absurd h.1 (by decide)))))))).trans mr1_68)
                    · exact rfl
                    · exact rfl
                    · exact ((frM_74 65 0 (fun h => h.elim (fun h => absurd h.1 (by decide)) (fun h => h.elim (fun h => absurd h.1 (by decide)) (fun h => h.elim (fun h => absurd h.1 (by decide)) (fun h => h.elim (fun h => absurd h (by decide)) (fun h => h.elim (fun h => absurd h (by decide)) (fun h => absurd h.2 (by decide)))))))).trans ms1_65_0)
                    · exact rfl
                    · exact rfl
                    · exact rfl
                    · exact rfl
                    · exact qb0
                    · omega
                    · exact qb2
                    · exact qb3
                    · exact qb4
                    · exact qb5
                    · first | exact iv1_6 | exact ⟨qy2.trans iv1_6.1, qy3.trans iv1_6.2⟩
              · exfalso
                omega
            · replace h39 := f_b_1 h39
              obtain ⟨m9, pre9, fm9, qfr9⟩ : ∃ m pre fr, fm1 = ((m, pre) :: fr : f_Frm) := by
                match fm1, iv1_2 with
                | [], q => exact absurd q.1 (by simp only [List.length_nil]; omega)
                | (m, pre) :: fr, _ => exact ⟨m, pre, fr, rfl⟩
              have qT41 : f_T L1 = 141 := (km_s pK 41 (by decide)).mp h39
              have q2 := iv1_2
              have q3 := iv1_3
              have q4 := iv1_4
              have q5 := iv1_5
              rw [qfr9] at q2 q3 q4 q5
              rw [List.length_cons] at q2
              obtain ⟨xc, xl, xn⟩ := f_cc_nx iv1_0 (by omega)
              have xK := f_kv_3 (f_cc_hd xc).1.1
              have xs := (f_cc_hd xc).1.2
              have xR := f_cc_rg xc
              refine ax_iconst dX1_readAll_42 (by decide) (pc' := 43) rfl ?_
              refine ax_goto dX1_readAll_43 (pc' := 47) (by decide) ?_
              refine ax_istore_n dX1_readAll_47 rfl (by decide) (ls' := [some (.inr 65), some (.inr 58), some (.inl tu), some (.inl 1)]) rfl (pc' := 48) rfl ?_
              refine ax_iload_n dX1_readAll_48 rfl rfl (pc' := 49) rfl ?_
              refine ax_if_eq (tgt := 63) dX1_readAll_49 (by decide) (pc' := 52) rfl (fun h49 => ?_) (fun h49 => ?_)
              · exfalso
                omega
              · refine ax_aload_n dX1_readAll_52 rfl rfl (pc' := 53) rfl ?_
                refine ax_invG [] [] dX1_readAll_53 mlX1_50 sh_58 rfl rfl rfl (Nat.le_of_ble_eq_true rfl) (s_X8_step E l _ (by omega) _ ((funext fun i0 => fr1 60 i0 (fun h => h.elim (fun h => absurd h (by decide)) (fun h => h.elim (fun h => absurd h (by decide)) (fun h => h.elim (fun h => absurd h (by decide)) (fun h => h.elim (fun h => absurd h (by decide)) (fun h => h.elim (fun h => absurd h (by decide)) (fun h => h.elim (fun h => absurd h.1 (by decide)) (fun h => h.elim (fun h => absurd h.1 (by decide)) (fun h => h.elim (fun h => absurd h.1 (by decide)) (fun h => h.elim (fun h => absurd h.1 (by decide)) (fun h => absurd h.1 (by decide)))))))))))).trans (ax_up_rowmiss (by decide) (ax_up_rowmiss (by decide) hkk))) ms1_58_8 (by first | omega | assumption) (by first | omega | assumption)) (pc' := 56) rfl (fun vv M_53 hq co53 hcm53 => ?_)
                obtain ⟨rfl, frM_53, msM_53_0⟩ := hq
                refine ax_reS (st2 := []) rfl ?_
                refine ax_aload_n dX1_readAll_56 rfl rfl (pc' := 57) rfl ?_
                refine ax_invG [] [] dX1_readAll_57 mlX1_53 sh_65 rfl rfl rfl (Nat.le_of_ble_eq_true rfl) (s_X1_closeAgain E l _ (by omega) _ m9 pre9 cu1 fm9 ((funext fun i0 => frM_53 66 i0 (fun h => absurd h.1 (by decide))).trans mr1_66) ((funext fun i0 => frM_53 67 i0 (fun h => absurd h.1 (by decide))).trans mr1_67) ((funext fun i0 => frM_53 68 i0 (fun h => absurd h.1 (by decide))).trans mr1_68) ((funext fun i0 => frM_53 69 i0 (fun h => absurd h.1 (by decide))).trans mr1_69) ((funext fun i0 => frM_53 70 i0 (fun h => absurd h.1 (by decide))).trans mr1_70) ((frM_53 65 0 (fun h => absurd h.1 (by decide))).trans ms1_65_0) ((frM_53 65 4 (fun h => absurd h.1 (by decide))).trans ms1_65_4) (by omega) q3 q4 (by first | omega | assumption)) (pc' := 60) rfl (fun vv M_57 hq co57 hcm57 => ?_)
                obtain ⟨rfl, frM_57, msM_57_0, fa57_0, fa57_1⟩ := hq
                refine ax_reS (st2 := []) rfl ?_
                obtain ⟨L3, qL3⟩ : ∃ z, z = L1.tail := ⟨_, rfl⟩
                obtain ⟨fm3, qfr⟩ : ∃ z, z = fm9 := ⟨_, rfl⟩
                obtain ⟨cu3, qcu⟩ : ∃ z, z = pre9 ++ f_tms m9 cu1 := ⟨_, rfl⟩
                obtain ⟨nd3, qnd⟩ : ∃ z, z = nd + 1 := ⟨_, rfl⟩
                have qb0 := xc
                rw [← qL3] at qb0 xl
                have qb5 := f_m_cls q5 qT41
                rw [← qfr, ← qcu, ← qnd, ← qL3] at qb5
                have qb2 : o1 - 1 = (fm3.length : Int) ∧ nd3 + fm3.length = 4 := by
                  rw [qfr, qnd]
                  omega
                have qb3 : f_sk t1 r1 (M_57 65 0) fm3 := by
                  rw [qfr]
                  exact f_sk_mono fa57_1.1 q3.2.2
                have qb4 : f_dn (M_57 66) (M_57 67) (M_57 68) (M_57 65 0) (f_alS fm3 cu3) := by
                  rw [qfr, qcu]
                  exact fa57_0
                refine ax_goto dX1_readAll_60 (pc' := 93) (by decide) ?_
                refine ax_iinc dX1_readAll_93 rfl (by decide) (by omega) (ls' := [some (.inr 65), some (.inr 58), some (.inl (tu + 1)), some (.inl 1)]) rfl (pc' := 96) rfl ?_
                refine ax_goto dX1_readAll_96 (pc' := 12) (by decide) ?_
                refine ax_less (ls2 := [some (.inr 65), some (.inr 58), some (.inl (tu + 1)), none]) [true, true, true, false] rfl ?_
                refine ih3 (tu + 1) (M_57 66) (M_57 67) (M_57 68) t1 r1 (M_57 65 0) (o1 - 1) (n1 + 1) w1 w2 L3 fm3 cu3 nd3 M_57 ?_ ?_ ?_ ?_ ?_ ?_ ?_ ?_ ?_ ?_ ?_ ?_ ?_ ?_ ?_ ?_ ?_ ?_ ?_
                · omega
                · intro x0 i0 hai
                  exact ((frM_57 x0 i0 (fun h => h.elim (fun h => hai (Or.inr (Or.inr (Or.inr (Or.inr (Or.inr (Or.inr (Or.inl h)))))))) (fun h => h.elim (fun h => hai (Or.inl h)) (fun h => h.elim (fun h => hai (Or.inr (Or.inl h))) (fun h => h.elim (fun h => hai (Or.inr (Or.inr (Or.inl h)))) (fun h => hai (Or.inr (Or.inr (Or.inr (Or.inr (Or.inr (Or.inl h)))))))))))).trans ((frM_53 x0 i0 (fun h => hai (Or.inr (Or.inr (Or.inr (Or.inr (Or.inr (Or.inr (Or.inr (Or.inl h)))))))))).trans ((fr1 x0 i0 (fun h => h.elim (fun h => hai (Or.inl h)) (fun h => h.elim (fun h => hai (Or.inr (Or.inl h))) (fun h => h.elim (fun h => hai (Or.inr (Or.inr (Or.inl h)))) (fun h => h.elim (fun h => hai (Or.inr (Or.inr (Or.inr (Or.inl h))))) (fun h => h.elim (fun h => hai (Or.inr (Or.inr (Or.inr (Or.inr (Or.inl h)))))) (fun h => h.elim (fun h => hai (Or.inr (Or.inr (Or.inr (Or.inr (Or.inr (Or.inl h))))))) (fun h => h.elim (fun h => hai (Or.inr (Or.inr (Or.inr (Or.inr (Or.inr (Or.inr (Or.inl h)))))))) (fun h => h.elim (fun h => hai (Or.inr (Or.inr (Or.inr (Or.inr (Or.inr (Or.inr (Or.inr (Or.inl h))))))))) (fun h => h.elim (fun h => hai (Or.inr (Or.inr (Or.inr (Or.inr (Or.inr (Or.inr (Or.inr (Or.inr (Or.inl h)))))))))) (fun h => hai (Or.inr (Or.inr (Or.inr (Or.inr (Or.inr (Or.inr (Or.inr (Or.inr (Or.inr h)))))))))))))))))))).trans rfl)))
                · exact rfl
                · exact rfl
                · exact rfl
                · exact ((funext fun i0 => frM_57 69 i0 (fun h => h.elim (fun h => absurd h.1 (by decide)) (fun h => h.elim (fun h => absurd h (by decide)) (fun h => h.elim (fun h => absurd h (by decide)) (fun h => h.elim (fun h => absurd h (by decide)) (fun h => absurd h.1 (by decide))))))).trans ((funext fun i0 => frM_53 69 i0 (fun h => absurd h.1 (by decide))).trans mr1_69))
                · exact ((funext fun i0 => frM_57 70 i0 (fun h => h.elim (fun h => absurd h.1 (by decide)) (fun h => h.elim (fun h => absurd h (by decide)) (fun h => h.elim (fun h => absurd h (by decide)) (fun h => h.elim (fun h => absurd h (by decide)) (fun h => absurd h.1 (by decide))))))).trans ((funext fun i0 => frM_53 70 i0 (fun h => absurd h.1 (by decide))).trans mr1_70))
                · exact rfl
                · exact msM_57_0
                · exact ((frM_57 58 8 (fun h => h.elim (fun h => absurd h.1 (by decide)) (fun h => h.elim (fun h => absurd h (by decide)) (fun h => h.elim (fun h => absurd h (by decide)) (fun h => h.elim (fun h => absurd h (by decide)) (fun h => absurd h.1 (by decide))))))).trans msM_53_0)
                · exact ((frM_57 58 2 (fun h => h.elim (fun h => absurd h.1 (by decide)) (fun h => h.elim (fun h => absurd h (by decide)) (fun h => h.elim (fun h => absurd h (by decide)) (fun h => h.elim (fun h => absurd h (by decide)) (fun h => absurd h.1 (by decide))))))).trans ((frM_53 58 2 (fun h => absurd h.2 (by decide))).trans ms1_58_2))
                · exact ((frM_57 58 3 (fun h => h.elim (fun h => absurd h.1 (by decide)) (fun h => h.elim (fun h => absurd h (by decide)) (fun h => h.elim (fun h => absurd h (by decide)) (fun h => h.elim (fun h => absurd h (by decide)) (fun h => absurd h.1 (by decide))))))).trans ((frM_53 58 3 (fun h => absurd h.2 (by decide))).trans ms1_58_3))
                · exact qb0
                · omega
                · exact qb2
                · exact qb3
                · exact qb4
                · exact qb5
                · first | exact iv1_6 | exact ⟨qy2.trans iv1_6.1, qy3.trans iv1_6.2⟩
  refine LP1 ((L.length : Int) : Int).toNat.succ 0 kn ff sc tm sr 0 0 nx x2 x3 L ([]) ([]) 4 (ax_up (ax_up M 65 0 0) 65 4 0) ?_ ?_ ?_ ?_ ?_ ?_ ?_ ?_ ?_ ?_ ?_ ?_ ?_ ?_ ?_ ?_ ?_ ?_ ?_
  · omega
  · exact fun a i _ => rfl
  · exact (ax_up_rowmiss (by decide) (ax_up_rowmiss (by decide) hkn))
  · exact (ax_up_rowmiss (by decide) (ax_up_rowmiss (by decide) hff))
  · exact (ax_up_rowmiss (by decide) (ax_up_rowmiss (by decide) hsc))
  · exact (ax_up_rowmiss (by decide) (ax_up_rowmiss (by decide) htm))
  · exact (ax_up_rowmiss (by decide) (ax_up_rowmiss (by decide) hsr))
  · exact (ax_up_miss (by decide) (ax_up_hit _ _ _ _))
  · exact (ax_up_hit _ _ _ _)
  · exact (ax_up_miss (fun h => absurd h.1 (by decide)) (ax_up_miss (fun h => absurd h.1 (by decide)) hnx))
  · exact (ax_up_miss (fun h => absurd h.1 (by decide)) (ax_up_miss (fun h => absurd h.1 (by decide)) hx2))
  · exact (ax_up_miss (fun h => absurd h.1 (by decide)) (ax_up_miss (fun h => absurd h.1 (by decide)) hx3))
  · exact hg0
  · omega
  · exact ⟨rfl, rfl⟩
  · trivial
  · exact Or.inl ⟨by decide, rfl, fun i s h => by cases h⟩
  · show f_sts 4 L = f_preD [] (f_sts 4 L)
    cases f_sts 4 L <;> rfl
  · exact ⟨rfl, rfl⟩
