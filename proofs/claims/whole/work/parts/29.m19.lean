/-! the tape -/
def f_fb (x1 x2 x3 x4 x5 k : Int) : Int := ax_and (ax_shr (if k < 4 then x1 else if k < 8 then x2 else if k < 12 then x3 else if k < 16 then x4 else x5) (24 - 8 * (k % 4))) 255
def f_feed (ta : Int → Int) (tn x1 x2 x3 x4 x5 : Int) : Int → Int := f_loop (fun k t => f_up t (tn + k) (f_fb x1 x2 x3 x4 x5 k)) 0 20 ta
set_option maxRecDepth 20000 in
theorem s_X12_see (E : ax_Env) (l : Launch) (d : Nat) (hd : 0 ≤ d) (M : ax_Mem) (k : Int) {ta : Int → Int} (hta : M 339 = ta) {tn : Int} (htn : M 330 17 = tn) (hg0 : 0 ≤ k) (hg1 : 0 ≤ tn ∧ tn ≤ 400) : ax_G E l d iX12_see [.inr 330, .inl k] M (fun z0 M2 => z0 = some (.inl (if k < tn then ta k else -1)) ∧ M = M2) := by
  refine ax_start rfl (Nat.le_of_ble_eq_true rfl) (ls := [some (.inr 330), some (.inl k)]) rfl (fun hav hcm => ?_)
  have hc1 : -2147483648 ≤ k ∧ k < 2147483648 := hav (.inl k) (by simp)
  clear hav
  refine ax_iload_n dX12_see_0 rfl rfl (pc' := 1) rfl ?_
  refine ax_aload_n dX12_see_1 rfl rfl (pc' := 2) rfl ?_
  refine ax_geti (v := tn) dX12_see_2 flX12_120 rfl sh_330 htn rfl (pc' := 5) rfl ?_
  refine ax_icmp_ge (tgt := 17) dX12_see_5 (by decide) (pc' := 8) rfl (fun h5 => ?_) (fun h5 => ?_)
  · refine ax_iconst dX12_see_17 (by decide) (pc' := 18) rfl ?_
    refine ax_iret dX12_see_18 rfl ?_
    refine ⟨rfl, ?_, ?_⟩
    · refine congrArg (fun z => some (Sum.inl z)) ?_
      repeat' split
      all_goals first | rfl | omega | (exfalso; omega)
    · rfl
  · refine ax_aload_n dX12_see_8 rfl rfl (pc' := 9) rfl ?_
    refine ax_getr (v := 339) dX12_see_9 flX12_34 rfl sh_330 rfl (pc' := 12) rfl ?_
    refine ax_iload_n dX12_see_12 rfl rfl (pc' := 13) rfl ?_
    refine ax_iald (v := ta k) dX12_see_13 sh_339 rfl (by omega) (by omega) ((congrFun hta k).trans rfl) (pc' := 14) rfl ?_
    refine ax_goto dX12_see_14 (pc' := 18) (by decide) ?_
    refine ax_iret dX12_see_18 rfl ?_
    refine ⟨rfl, ?_, ?_⟩
    · refine congrArg (fun z => some (Sum.inl z)) ?_
      repeat' split
      all_goals first | rfl | omega | (exfalso; omega)
    · rfl
set_option maxRecDepth 20000 in
theorem s_X12_feed_no (E : ax_Env) (l : Launch) (d : Nat) (hd : 0 ≤ d) (M : ax_Mem) (x1 x2 x3 x4 x5 : Int) {tn : Int} (htn : M 330 17 = tn) (hg0 : 0 ≤ tn ∧ tn ≤ 400) (hg1 : 400 < tn + 20) : ax_G E l d iX12_feed [.inr 330, .inl x1, .inl x2, .inl x3, .inl x4, .inl x5] M (fun z0 M2 => z0 = some (.inl (-1)) ∧ M = M2) := by
  refine ax_start rfl (Nat.le_of_ble_eq_true rfl) (ls := [some (.inr 330), some (.inl x1), some (.inl x2), some (.inl x3), some (.inl x4), some (.inl x5), none, none]) rfl (fun hav hcm => ?_)
  have hc1 : -2147483648 ≤ x1 ∧ x1 < 2147483648 := hav (.inl x1) (by simp)
  have hc2 : -2147483648 ≤ x2 ∧ x2 < 2147483648 := hav (.inl x2) (by simp)
  have hc3 : -2147483648 ≤ x3 ∧ x3 < 2147483648 := hav (.inl x3) (by simp)
  have hc4 : -2147483648 ≤ x4 ∧ x4 < 2147483648 := hav (.inl x4) (by simp)
  have hc5 : -2147483648 ≤ x5 ∧ x5 < 2147483648 := hav (.inl x5) (by simp)
  clear hav
  refine ax_aload_n dX12_feed_0 rfl rfl (pc' := 1) rfl ?_
  refine ax_geti (v := tn) dX12_feed_1 flX12_120 rfl sh_330 htn rfl (pc' := 4) rfl ?_
  refine ax_bipush dX12_feed_4 (by decide) (pc' := 6) rfl ?_
  refine ax_iadd dX12_feed_6 (by omega) (pc' := 7) rfl ?_
  refine ax_sipush dX12_feed_7 (by decide) (pc' := 10) rfl ?_
  refine ax_icmp_le (tgt := 15) dX12_feed_10 (by decide) (pc' := 13) rfl (fun h10 => ?_) (fun h10 => ?_)
  · exfalso
    omega
  · refine ax_iconst dX12_feed_13 (by decide) (pc' := 14) rfl ?_
    refine ax_iret dX12_feed_14 rfl ?_
    refine ⟨rfl, ?_, ?_⟩
    · rfl
    · rfl
set_option maxRecDepth 20000 in
theorem s_X12_feed_ok (E : ax_Env) (l : Launch) (d : Nat) (hd : 0 ≤ d) (M : ax_Mem) (x1 x2 x3 x4 x5 : Int) {ta : Int → Int} (hta : M 339 = ta) {tn : Int} (htn : M 330 17 = tn) (hg0 : 0 ≤ tn ∧ tn + 20 ≤ 400) : ax_G E l d iX12_feed [.inr 330, .inl x1, .inl x2, .inl x3, .inl x4, .inl x5] M (fun z0 M2 => z0 = some (.inl (tn + 20)) ∧ (∀ x0 i0 : Int, ¬ (x0 = 339 ∨ (x0 = 330 ∧ i0 = 17)) → M2 x0 i0 = M x0 i0) ∧ M2 339 = f_feed ta tn x1 x2 x3 x4 x5 ∧ M2 330 17 = tn + 20) := by
  refine ax_start rfl (Nat.le_of_ble_eq_true rfl) (ls := [some (.inr 330), some (.inl x1), some (.inl x2), some (.inl x3), some (.inl x4), some (.inl x5), none, none]) rfl (fun hav hcm => ?_)
  have hc1 : -2147483648 ≤ x1 ∧ x1 < 2147483648 := hav (.inl x1) (by simp)
  have hc2 : -2147483648 ≤ x2 ∧ x2 < 2147483648 := hav (.inl x2) (by simp)
  have hc3 : -2147483648 ≤ x3 ∧ x3 < 2147483648 := hav (.inl x3) (by simp)
  have hc4 : -2147483648 ≤ x4 ∧ x4 < 2147483648 := hav (.inl x4) (by simp)
  have hc5 : -2147483648 ≤ x5 ∧ x5 < 2147483648 := hav (.inl x5) (by simp)
  clear hav
  refine ax_aload_n dX12_feed_0 rfl rfl (pc' := 1) rfl ?_
  refine ax_geti (v := tn) dX12_feed_1 flX12_120 rfl sh_330 htn rfl (pc' := 4) rfl ?_
  refine ax_bipush dX12_feed_4 (by decide) (pc' := 6) rfl ?_
  refine ax_iadd dX12_feed_6 (by omega) (pc' := 7) rfl ?_
  refine ax_sipush dX12_feed_7 (by decide) (pc' := 10) rfl ?_
  refine ax_icmp_le (tgt := 15) dX12_feed_10 (by decide) (pc' := 13) rfl (fun h10 => ?_) (fun h10 => ?_)
  · refine ax_iconst dX12_feed_15 (by decide) (pc' := 16) rfl ?_
    refine ax_istore dX12_feed_16 (by decide) (ls' := [some (.inr 330), some (.inl x1), some (.inl x2), some (.inl x3), some (.inl x4), some (.inl x5), some (.inl 0), none]) rfl (pc' := 18) rfl ?_
    have LP1 : ∀ (kq2 : Nat) (k : Int) (tv : Int → Int) (M1 : ax_Mem) (hm1 : 20 - k < (kq2 : Nat)) (fr1 : ∀ x0 i0 : Int, ¬ (x0 = 339 ∨ (x0 = 330 ∧ i0 = 17)) → M1 x0 i0 = M x0 i0) (mr1_339 : M1 339 = tv) (ms1_330_17 : M1 330 17 = tn + k) (iv1_0 : 0 ≤ k ∧ k ≤ 20) (iv1_1 : f_loop (fun k t => f_up t (tn + k) (f_fb x1 x2 x3 x4 x5 k)) k 20 tv = f_feed ta tn x1 x2 x3 x4 x5), ax_W E l d 0 0 iX12_feed 18 [some (.inr 330), some (.inl x1), some (.inl x2), some (.inl x3), some (.inl x4), some (.inl x5), some (.inl k), none] [] SH M1 (ax_P (fun z0 M2 => z0 = some (.inl (tn + 20)) ∧ (∀ x0 i0 : Int, ¬ (x0 = 339 ∨ (x0 = 330 ∧ i0 = 17)) → M2 x0 i0 = M x0 i0) ∧ M2 339 = f_feed ta tn x1 x2 x3 x4 x5 ∧ M2 330 17 = tn + 20)) := by
      intro kq2
      induction kq2 with
      | zero =>
        intro k tv M1 hm1 fr1 mr1_339 ms1_330_17 iv1_0 iv1_1
        exfalso
        omega
      | succ kq2 ih3 =>
        intro k tv M1 hm1 fr1 mr1_339 ms1_330_17 iv1_0 iv1_1
        refine ax_iload dX12_feed_18 rfl (pc' := 20) rfl ?_
        refine ax_bipush dX12_feed_20 (by decide) (pc' := 22) rfl ?_
        refine ax_icmp_ge (tgt := 115) dX12_feed_22 (by decide) (pc' := 25) rfl (fun h22 => ?_) (fun h22 => ?_)
        · refine ax_aload_n dX12_feed_115 rfl rfl (pc' := 116) rfl ?_
          refine ax_geti (v := tn + k) dX12_feed_116 flX12_120 rfl sh_330 ms1_330_17 rfl (pc' := 119) rfl ?_
          refine ax_iret dX12_feed_119 rfl ?_
          refine ⟨rfl, ?_, ?_, ?_, ?_⟩
          · refine congrArg (fun z => some (Sum.inl z)) ?_
            omega
          · intro x0 i0 hai
            exact ((fr1 x0 i0 (by omega)).trans rfl)
          · refine Eq.trans mr1_339 ?_
            exact (f_loop_done (by omega)).symm.trans iv1_1
          · refine Eq.trans ms1_330_17 ?_
            omega
        · refine ax_iload dX12_feed_25 rfl (pc' := 27) rfl ?_
          refine ax_iconst dX12_feed_27 (by decide) (pc' := 28) rfl ?_
          refine ax_icmp_ge (tgt := 35) dX12_feed_28 (by decide) (pc' := 31) rfl (fun h28 => ?_) (fun h28 => ?_)
          · refine ax_iload dX12_feed_35 rfl (pc' := 37) rfl ?_
            refine ax_bipush dX12_feed_37 (by decide) (pc' := 39) rfl ?_
            refine ax_icmp_ge (tgt := 46) dX12_feed_39 (by decide) (pc' := 42) rfl (fun h39 => ?_) (fun h39 => ?_)
            · refine ax_iload dX12_feed_46 rfl (pc' := 48) rfl ?_
              refine ax_bipush dX12_feed_48 (by decide) (pc' := 50) rfl ?_
              refine ax_icmp_ge (tgt := 57) dX12_feed_50 (by decide) (pc' := 53) rfl (fun h50 => ?_) (fun h50 => ?_)
              · refine ax_iload dX12_feed_57 rfl (pc' := 59) rfl ?_
                refine ax_bipush dX12_feed_59 (by decide) (pc' := 61) rfl ?_
                refine ax_icmp_ge (tgt := 69) dX12_feed_61 (by decide) (pc' := 64) rfl (fun h61 => ?_) (fun h61 => ?_)
                · refine ax_iload dX12_feed_69 rfl (pc' := 71) rfl ?_
                  refine ax_istore dX12_feed_71 (by decide) (ls' := [some (.inr 330), some (.inl x1), some (.inl x2), some (.inl x3), some (.inl x4), some (.inl x5), some (.inl k), some (.inl x5)]) rfl (pc' := 73) rfl ?_
                  refine ax_aload_n dX12_feed_73 rfl rfl (pc' := 74) rfl ?_
                  refine ax_getr (v := 339) dX12_feed_74 flX12_34 rfl sh_330 rfl (pc' := 77) rfl ?_
                  refine ax_aload_n dX12_feed_77 rfl rfl (pc' := 78) rfl ?_
                  refine ax_geti (v := tn + k) dX12_feed_78 flX12_120 rfl sh_330 ms1_330_17 rfl (pc' := 81) rfl ?_
                  refine ax_iload dX12_feed_81 rfl (pc' := 83) rfl ?_
                  refine ax_bipush dX12_feed_83 (by decide) (pc' := 85) rfl ?_
                  refine ax_bipush dX12_feed_85 (by decide) (pc' := 87) rfl ?_
                  refine ax_iload dX12_feed_87 rfl (pc' := 89) rfl ?_
                  refine ax_iconst dX12_feed_89 (by decide) (pc' := 90) rfl ?_
                  refine ax_irem dX12_feed_90 (by omega) (by omega) (pc' := 91) rfl ?_
                  refine ax_imul dX12_feed_91 (by omega) (pc' := 92) rfl ?_
                  refine ax_isub dX12_feed_92 (by omega) (pc' := 93) rfl ?_
                  refine ax_ishr dX12_feed_93 (pc' := 94) rfl ?_
                  refine ax_sipush dX12_feed_94 (by decide) (pc' := 97) rfl ?_
                  refine ax_iand dX12_feed_97 (pc' := 98) rfl ?_
                  refine ax_iast dX12_feed_98 sh_339 rfl (by omega) (by omega) (pc' := 99) rfl ?_
                  refine ax_aload_n dX12_feed_99 rfl rfl (pc' := 100) rfl ?_
                  refine ax_dup dX12_feed_100 (pc' := 101) rfl ?_
                  refine ax_geti (v := tn + k) dX12_feed_101 flX12_120 rfl sh_330 (show (ax_up M1 339 (tn + k) (ax_and (ax_shr x5 (24 - (8 * (k % 4)))) 255)) 330 17 = tn + k from (ax_up_miss (by omega) ms1_330_17)) rfl (pc' := 104) rfl ?_
                  refine ax_iconst dX12_feed_104 (by decide) (pc' := 105) rfl ?_
                  refine ax_iadd dX12_feed_105 (by omega) (pc' := 106) rfl ?_
                  refine ax_puti dX12_feed_106 flX12_120 (Or.inl rfl) sh_330 rfl (pc' := 109) rfl ?_
                  refine ax_iinc dX12_feed_109 rfl (by decide) (by omega) (ls' := [some (.inr 330), some (.inl x1), some (.inl x2), some (.inl x3), some (.inl x4), some (.inl x5), some (.inl (k + 1)), some (.inl x5)]) rfl (pc' := 112) rfl ?_
                  refine ax_goto dX12_feed_112 (pc' := 18) (by decide) ?_
                  refine ax_less (ls2 := [some (.inr 330), some (.inl x1), some (.inl x2), some (.inl x3), some (.inl x4), some (.inl x5), some (.inl (k + 1)), none]) [true, true, true, true, true, true, true, false] rfl ?_
                  refine ih3 (k + 1) (f_up tv (tn + k) (ax_and (ax_shr x5 (24 - (8 * (k % 4)))) 255)) (ax_up (ax_up M1 339 (tn + k) (ax_and (ax_shr x5 (24 - (8 * (k % 4)))) 255)) 330 17 (tn + k + 1)) ?_ ?_ ?_ ?_ ?_ ?_
                  · omega
                  · intro x0 i0 hai
                    exact (ax_up_miss (by omega) (ax_up_miss (by omega) ((fr1 x0 i0 (by omega)).trans rfl)))
                  · exact (ax_up_rowmiss (by decide) (ax_up_rowhit mr1_339))
                  · refine Eq.trans (ax_up_hit _ _ _ _) ?_
                    omega
                  · omega
                  · refine f_loop_back (by omega) iv1_1 ?_
                    unfold f_fb
                    repeat' split
                    all_goals first | rfl | (exfalso; omega)
                · refine ax_iload dX12_feed_64 rfl (pc' := 66) rfl ?_
                  refine ax_goto dX12_feed_66 (pc' := 71) (by decide) ?_
                  refine ax_istore dX12_feed_71 (by decide) (ls' := [some (.inr 330), some (.inl x1), some (.inl x2), some (.inl x3), some (.inl x4), some (.inl x5), some (.inl k), some (.inl x4)]) rfl (pc' := 73) rfl ?_
                  refine ax_aload_n dX12_feed_73 rfl rfl (pc' := 74) rfl ?_
                  refine ax_getr (v := 339) dX12_feed_74 flX12_34 rfl sh_330 rfl (pc' := 77) rfl ?_
                  refine ax_aload_n dX12_feed_77 rfl rfl (pc' := 78) rfl ?_
                  refine ax_geti (v := tn + k) dX12_feed_78 flX12_120 rfl sh_330 ms1_330_17 rfl (pc' := 81) rfl ?_
                  refine ax_iload dX12_feed_81 rfl (pc' := 83) rfl ?_
                  refine ax_bipush dX12_feed_83 (by decide) (pc' := 85) rfl ?_
                  refine ax_bipush dX12_feed_85 (by decide) (pc' := 87) rfl ?_
                  refine ax_iload dX12_feed_87 rfl (pc' := 89) rfl ?_
                  refine ax_iconst dX12_feed_89 (by decide) (pc' := 90) rfl ?_
                  refine ax_irem dX12_feed_90 (by omega) (by omega) (pc' := 91) rfl ?_
                  refine ax_imul dX12_feed_91 (by omega) (pc' := 92) rfl ?_
                  refine ax_isub dX12_feed_92 (by omega) (pc' := 93) rfl ?_
                  refine ax_ishr dX12_feed_93 (pc' := 94) rfl ?_
                  refine ax_sipush dX12_feed_94 (by decide) (pc' := 97) rfl ?_
                  refine ax_iand dX12_feed_97 (pc' := 98) rfl ?_
                  refine ax_iast dX12_feed_98 sh_339 rfl (by omega) (by omega) (pc' := 99) rfl ?_
                  refine ax_aload_n dX12_feed_99 rfl rfl (pc' := 100) rfl ?_
                  refine ax_dup dX12_feed_100 (pc' := 101) rfl ?_
                  refine ax_geti (v := tn + k) dX12_feed_101 flX12_120 rfl sh_330 (show (ax_up M1 339 (tn + k) (ax_and (ax_shr x4 (24 - (8 * (k % 4)))) 255)) 330 17 = tn + k from (ax_up_miss (by omega) ms1_330_17)) rfl (pc' := 104) rfl ?_
                  refine ax_iconst dX12_feed_104 (by decide) (pc' := 105) rfl ?_
                  refine ax_iadd dX12_feed_105 (by omega) (pc' := 106) rfl ?_
                  refine ax_puti dX12_feed_106 flX12_120 (Or.inl rfl) sh_330 rfl (pc' := 109) rfl ?_
                  refine ax_iinc dX12_feed_109 rfl (by decide) (by omega) (ls' := [some (.inr 330), some (.inl x1), some (.inl x2), some (.inl x3), some (.inl x4), some (.inl x5), some (.inl (k + 1)), some (.inl x4)]) rfl (pc' := 112) rfl ?_
                  refine ax_goto dX12_feed_112 (pc' := 18) (by decide) ?_
                  refine ax_less (ls2 := [some (.inr 330), some (.inl x1), some (.inl x2), some (.inl x3), some (.inl x4), some (.inl x5), some (.inl (k + 1)), none]) [true, true, true, true, true, true, true, false] rfl ?_
                  refine ih3 (k + 1) (f_up tv (tn + k) (ax_and (ax_shr x4 (24 - (8 * (k % 4)))) 255)) (ax_up (ax_up M1 339 (tn + k) (ax_and (ax_shr x4 (24 - (8 * (k % 4)))) 255)) 330 17 (tn + k + 1)) ?_ ?_ ?_ ?_ ?_ ?_
                  · omega
                  · intro x0 i0 hai
                    exact (ax_up_miss (by omega) (ax_up_miss (by omega) ((fr1 x0 i0 (by omega)).trans rfl)))
                  · exact (ax_up_rowmiss (by decide) (ax_up_rowhit mr1_339))
                  · refine Eq.trans (ax_up_hit _ _ _ _) ?_
                    omega
                  · omega
                  · refine f_loop_back (by omega) iv1_1 ?_
                    unfold f_fb
                    repeat' split
                    all_goals first | rfl | (exfalso; omega)
              · refine ax_iload_n dX12_feed_53 rfl rfl (pc' := 54) rfl ?_
                refine ax_goto dX12_feed_54 (pc' := 71) (by decide) ?_
                refine ax_istore dX12_feed_71 (by decide) (ls' := [some (.inr 330), some (.inl x1), some (.inl x2), some (.inl x3), some (.inl x4), some (.inl x5), some (.inl k), some (.inl x3)]) rfl (pc' := 73) rfl ?_
                refine ax_aload_n dX12_feed_73 rfl rfl (pc' := 74) rfl ?_
                refine ax_getr (v := 339) dX12_feed_74 flX12_34 rfl sh_330 rfl (pc' := 77) rfl ?_
                refine ax_aload_n dX12_feed_77 rfl rfl (pc' := 78) rfl ?_
                refine ax_geti (v := tn + k) dX12_feed_78 flX12_120 rfl sh_330 ms1_330_17 rfl (pc' := 81) rfl ?_
                refine ax_iload dX12_feed_81 rfl (pc' := 83) rfl ?_
                refine ax_bipush dX12_feed_83 (by decide) (pc' := 85) rfl ?_
                refine ax_bipush dX12_feed_85 (by decide) (pc' := 87) rfl ?_
                refine ax_iload dX12_feed_87 rfl (pc' := 89) rfl ?_
                refine ax_iconst dX12_feed_89 (by decide) (pc' := 90) rfl ?_
                refine ax_irem dX12_feed_90 (by omega) (by omega) (pc' := 91) rfl ?_
                refine ax_imul dX12_feed_91 (by omega) (pc' := 92) rfl ?_
                refine ax_isub dX12_feed_92 (by omega) (pc' := 93) rfl ?_
                refine ax_ishr dX12_feed_93 (pc' := 94) rfl ?_
                refine ax_sipush dX12_feed_94 (by decide) (pc' := 97) rfl ?_
                refine ax_iand dX12_feed_97 (pc' := 98) rfl ?_
                refine ax_iast dX12_feed_98 sh_339 rfl (by omega) (by omega) (pc' := 99) rfl ?_
                refine ax_aload_n dX12_feed_99 rfl rfl (pc' := 100) rfl ?_
                refine ax_dup dX12_feed_100 (pc' := 101) rfl ?_
                refine ax_geti (v := tn + k) dX12_feed_101 flX12_120 rfl sh_330 (show (ax_up M1 339 (tn + k) (ax_and (ax_shr x3 (24 - (8 * (k % 4)))) 255)) 330 17 = tn + k from (ax_up_miss (by omega) ms1_330_17)) rfl (pc' := 104) rfl ?_
                refine ax_iconst dX12_feed_104 (by decide) (pc' := 105) rfl ?_
                refine ax_iadd dX12_feed_105 (by omega) (pc' := 106) rfl ?_
                refine ax_puti dX12_feed_106 flX12_120 (Or.inl rfl) sh_330 rfl (pc' := 109) rfl ?_
                refine ax_iinc dX12_feed_109 rfl (by decide) (by omega) (ls' := [some (.inr 330), some (.inl x1), some (.inl x2), some (.inl x3), some (.inl x4), some (.inl x5), some (.inl (k + 1)), some (.inl x3)]) rfl (pc' := 112) rfl ?_
                refine ax_goto dX12_feed_112 (pc' := 18) (by decide) ?_
                refine ax_less (ls2 := [some (.inr 330), some (.inl x1), some (.inl x2), some (.inl x3), some (.inl x4), some (.inl x5), some (.inl (k + 1)), none]) [true, true, true, true, true, true, true, false] rfl ?_
                refine ih3 (k + 1) (f_up tv (tn + k) (ax_and (ax_shr x3 (24 - (8 * (k % 4)))) 255)) (ax_up (ax_up M1 339 (tn + k) (ax_and (ax_shr x3 (24 - (8 * (k % 4)))) 255)) 330 17 (tn + k + 1)) ?_ ?_ ?_ ?_ ?_ ?_
                · omega
                · intro x0 i0 hai
                  exact (ax_up_miss (by omega) (ax_up_miss (by omega) ((fr1 x0 i0 (by omega)).trans rfl)))
                · exact (ax_up_rowmiss (by decide) (ax_up_rowhit mr1_339))
                · refine Eq.trans (ax_up_hit _ _ _ _) ?_
                  omega
                · omega
                · refine f_loop_back (by omega) iv1_1 ?_
                  unfold f_fb
                  repeat' split
                  all_goals first | rfl | (exfalso; omega)
            · refine ax_iload_n dX12_feed_42 rfl rfl (pc' := 43) rfl ?_
              refine ax_goto dX12_feed_43 (pc' := 71) (by decide) ?_
              refine ax_istore dX12_feed_71 (by decide) (ls' := [some (.inr 330), some (.inl x1), some (.inl x2), some (.inl x3), some (.inl x4), some (.inl x5), some (.inl k), some (.inl x2)]) rfl (pc' := 73) rfl ?_
              refine ax_aload_n dX12_feed_73 rfl rfl (pc' := 74) rfl ?_
              refine ax_getr (v := 339) dX12_feed_74 flX12_34 rfl sh_330 rfl (pc' := 77) rfl ?_
              refine ax_aload_n dX12_feed_77 rfl rfl (pc' := 78) rfl ?_
              refine ax_geti (v := tn + k) dX12_feed_78 flX12_120 rfl sh_330 ms1_330_17 rfl (pc' := 81) rfl ?_
              refine ax_iload dX12_feed_81 rfl (pc' := 83) rfl ?_
              refine ax_bipush dX12_feed_83 (by decide) (pc' := 85) rfl ?_
              refine ax_bipush dX12_feed_85 (by decide) (pc' := 87) rfl ?_
              refine ax_iload dX12_feed_87 rfl (pc' := 89) rfl ?_
              refine ax_iconst dX12_feed_89 (by decide) (pc' := 90) rfl ?_
              refine ax_irem dX12_feed_90 (by omega) (by omega) (pc' := 91) rfl ?_
              refine ax_imul dX12_feed_91 (by omega) (pc' := 92) rfl ?_
              refine ax_isub dX12_feed_92 (by omega) (pc' := 93) rfl ?_
              refine ax_ishr dX12_feed_93 (pc' := 94) rfl ?_
              refine ax_sipush dX12_feed_94 (by decide) (pc' := 97) rfl ?_
              refine ax_iand dX12_feed_97 (pc' := 98) rfl ?_
              refine ax_iast dX12_feed_98 sh_339 rfl (by omega) (by omega) (pc' := 99) rfl ?_
              refine ax_aload_n dX12_feed_99 rfl rfl (pc' := 100) rfl ?_
              refine ax_dup dX12_feed_100 (pc' := 101) rfl ?_
              refine ax_geti (v := tn + k) dX12_feed_101 flX12_120 rfl sh_330 (show (ax_up M1 339 (tn + k) (ax_and (ax_shr x2 (24 - (8 * (k % 4)))) 255)) 330 17 = tn + k from (ax_up_miss (by omega) ms1_330_17)) rfl (pc' := 104) rfl ?_
              refine ax_iconst dX12_feed_104 (by decide) (pc' := 105) rfl ?_
              refine ax_iadd dX12_feed_105 (by omega) (pc' := 106) rfl ?_
              refine ax_puti dX12_feed_106 flX12_120 (Or.inl rfl) sh_330 rfl (pc' := 109) rfl ?_
              refine ax_iinc dX12_feed_109 rfl (by decide) (by omega) (ls' := [some (.inr 330), some (.inl x1), some (.inl x2), some (.inl x3), some (.inl x4), some (.inl x5), some (.inl (k + 1)), some (.inl x2)]) rfl (pc' := 112) rfl ?_
              refine ax_goto dX12_feed_112 (pc' := 18) (by decide) ?_
              refine ax_less (ls2 := [some (.inr 330), some (.inl x1), some (.inl x2), some (.inl x3), some (.inl x4), some (.inl x5), some (.inl (k + 1)), none]) [true, true, true, true, true, true, true, false] rfl ?_
              refine ih3 (k + 1) (f_up tv (tn + k) (ax_and (ax_shr x2 (24 - (8 * (k % 4)))) 255)) (ax_up (ax_up M1 339 (tn + k) (ax_and (ax_shr x2 (24 - (8 * (k % 4)))) 255)) 330 17 (tn + k + 1)) ?_ ?_ ?_ ?_ ?_ ?_
              · omega
              · intro x0 i0 hai
                exact (ax_up_miss (by omega) (ax_up_miss (by omega) ((fr1 x0 i0 (by omega)).trans rfl)))
              · exact (ax_up_rowmiss (by decide) (ax_up_rowhit mr1_339))
              · refine Eq.trans (ax_up_hit _ _ _ _) ?_
                omega
              · omega
              · refine f_loop_back (by omega) iv1_1 ?_
                unfold f_fb
                repeat' split
                all_goals first | rfl | (exfalso; omega)
          · refine ax_iload_n dX12_feed_31 rfl rfl (pc' := 32) rfl ?_
            refine ax_goto dX12_feed_32 (pc' := 71) (by decide) ?_
            refine ax_istore dX12_feed_71 (by decide) (ls' := [some (.inr 330), some (.inl x1), some (.inl x2), some (.inl x3), some (.inl x4), some (.inl x5), some (.inl k), some (.inl x1)]) rfl (pc' := 73) rfl ?_
            refine ax_aload_n dX12_feed_73 rfl rfl (pc' := 74) rfl ?_
            refine ax_getr (v := 339) dX12_feed_74 flX12_34 rfl sh_330 rfl (pc' := 77) rfl ?_
            refine ax_aload_n dX12_feed_77 rfl rfl (pc' := 78) rfl ?_
            refine ax_geti (v := tn + k) dX12_feed_78 flX12_120 rfl sh_330 ms1_330_17 rfl (pc' := 81) rfl ?_
            refine ax_iload dX12_feed_81 rfl (pc' := 83) rfl ?_
            refine ax_bipush dX12_feed_83 (by decide) (pc' := 85) rfl ?_
            refine ax_bipush dX12_feed_85 (by decide) (pc' := 87) rfl ?_
            refine ax_iload dX12_feed_87 rfl (pc' := 89) rfl ?_
            refine ax_iconst dX12_feed_89 (by decide) (pc' := 90) rfl ?_
            refine ax_irem dX12_feed_90 (by omega) (by omega) (pc' := 91) rfl ?_
            refine ax_imul dX12_feed_91 (by omega) (pc' := 92) rfl ?_
            refine ax_isub dX12_feed_92 (by omega) (pc' := 93) rfl ?_
            refine ax_ishr dX12_feed_93 (pc' := 94) rfl ?_
            refine ax_sipush dX12_feed_94 (by decide) (pc' := 97) rfl ?_
            refine ax_iand dX12_feed_97 (pc' := 98) rfl ?_
            refine ax_iast dX12_feed_98 sh_339 rfl (by omega) (by omega) (pc' := 99) rfl ?_
            refine ax_aload_n dX12_feed_99 rfl rfl (pc' := 100) rfl ?_
            refine ax_dup dX12_feed_100 (pc' := 101) rfl ?_
            refine ax_geti (v := tn + k) dX12_feed_101 flX12_120 rfl sh_330 (show (ax_up M1 339 (tn + k) (ax_and (ax_shr x1 (24 - (8 * (k % 4)))) 255)) 330 17 = tn + k from (ax_up_miss (by omega) ms1_330_17)) rfl (pc' := 104) rfl ?_
            refine ax_iconst dX12_feed_104 (by decide) (pc' := 105) rfl ?_
            refine ax_iadd dX12_feed_105 (by omega) (pc' := 106) rfl ?_
            refine ax_puti dX12_feed_106 flX12_120 (Or.inl rfl) sh_330 rfl (pc' := 109) rfl ?_
            refine ax_iinc dX12_feed_109 rfl (by decide) (by omega) (ls' := [some (.inr 330), some (.inl x1), some (.inl x2), some (.inl x3), some (.inl x4), some (.inl x5), some (.inl (k + 1)), some (.inl x1)]) rfl (pc' := 112) rfl ?_
            refine ax_goto dX12_feed_112 (pc' := 18) (by decide) ?_
            refine ax_less (ls2 := [some (.inr 330), some (.inl x1), some (.inl x2), some (.inl x3), some (.inl x4), some (.inl x5), some (.inl (k + 1)), none]) [true, true, true, true, true, true, true, false] rfl ?_
            refine ih3 (k + 1) (f_up tv (tn + k) (ax_and (ax_shr x1 (24 - (8 * (k % 4)))) 255)) (ax_up (ax_up M1 339 (tn + k) (ax_and (ax_shr x1 (24 - (8 * (k % 4)))) 255)) 330 17 (tn + k + 1)) ?_ ?_ ?_ ?_ ?_ ?_
            · omega
            · intro x0 i0 hai
              exact (ax_up_miss (by omega) (ax_up_miss (by omega) ((fr1 x0 i0 (by omega)).trans rfl)))
            · exact (ax_up_rowmiss (by decide) (ax_up_rowhit mr1_339))
            · refine Eq.trans (ax_up_hit _ _ _ _) ?_
              omega
            · omega
            · refine f_loop_back (by omega) iv1_1 ?_
              unfold f_fb
              repeat' split
              all_goals first | rfl | (exfalso; omega)
    refine LP1 (20 - 0 : Int).toNat.succ 0 ta M ?_ ?_ ?_ ?_ ?_ ?_
    · omega
    · exact fun a i _ => rfl
    · exact hta
    · refine Eq.trans htn ?_
      omega
    · omega
    · rfl
  · exfalso
    omega
