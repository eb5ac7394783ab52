/-! the constructors of class and reference -/
def f_mX11_0 (M : ax_Mem) : ax_Mem := ax_up (f_mX4_311 (ax_row (ax_up (f_mX0_309 (ax_row (ax_up (f_mX9_273 (ax_row (ax_up (f_mX9_237 (ax_row (ax_up (f_mX9_201 (ax_row (ax_up (f_mX9_165 (ax_row (ax_up (f_mX9_129 (ax_row (ax_up (f_mX9_93 (ax_row (ax_up (ax_row (ax_up (f_mX5_88 (ax_row (ax_up (f_mX10_82 (ax_row (ax_up (f_mX7_78 (ax_row (ax_up (f_mX6_75 (ax_row (ax_up (f_mX2_71 (ax_row (ax_up (f_mX1_65 (ax_row (ax_up (f_mX3_63 (ax_row (ax_up (f_mX8_58 (ax_row (ax_up (f_mX4_39 (ax_row (ax_up (f_mX0_37 (ax_row (ax_up (f_mX9_1 (ax_row M 1 (ax_zero 9))) 0 0 1) 37 (ax_zero 0))) 0 1 37) 39 (ax_zero 4))) 0 2 39) 58 (ax_zero 8))) 0 3 58) 63 (ax_zero 3))) 0 4 63) 65 (ax_zero 1))) 0 5 65) 71 (ax_zero 2))) 0 6 71) 75 (ax_zero 6))) 0 7 75) 78 (ax_zero 7))) 0 8 78) 82 (ax_zero 10))) 0 9 82) 88 (ax_zero 5))) 0 10 88) 92 (fun _ => -1)) 0 11 92) 93 (ax_zero 9))) 92 0 93) 129 (ax_zero 9))) 92 1 129) 165 (ax_zero 9))) 92 2 165) 201 (ax_zero 9))) 92 3 201) 237 (ax_zero 9))) 92 4 237) 273 (ax_zero 9))) 0 14 273) 309 (ax_zero 0))) 0 15 309) 311 (ax_zero 4))) 0 16 311
set_option maxRecDepth 20000 in
theorem c_X11_0 (E : ax_Env) (l : Launch) (d : Nat) (hd : 3 ≤ d) (M : ax_Mem) : ax_M E l d 329 34763 iX11_init [.inr 0] (SN 1) M (fun z0 S2 M2 => z0 = none ∧ S2 = SN 330 ∧ M2 = f_mX11_0 M) := by
  obtain ⟨d, rfl⟩ : ∃ d0, d = d0 + 1 := ⟨d - 1, by omega⟩
  refine ax_enter rfl (by decide) (ls := [some (.inr 0), none]) rfl (fun _ hcm => ?_)
  refine ax_aload_n dX11_init_0 rfl rfl (pc' := 1) rfl ?_
  refine ax_oinit dX11_init_1 (by decide) mlX11_1 hx_oi hx_oc (by decide) (pc' := 4) rfl ?_
  refine ax_aload_n dX11_init_4 rfl rfl (pc' := 5) rfl ?_
  refine ax_new (I := iX11_init) (kc := 328) (ks := 34756) (n := 1) dX11_init_5 nlX11_7 (SN_len 1 (Nat.le_of_ble_eq_true rfl)) (pc' := 8) rfl ?_
  refine ax_reC (S2 := SN 2) (SN_push h0_1) ?_
  refine ax_dup dX11_init_8 (pc' := 9) rfl ?_
  refine ax_ini (kc1 := 35) (ks1 := 2580) (kc := 293) (ks := 32176) [] [.inr 1, .inr 0] dX11_init_9 mlX11_9 (by decide) rfl rfl (by decide) (c_X9_1 E l _ (by omega) _) (pc' := 12) rfl (fun vv SS MM hq _ _ _ => ?_)
  obtain ⟨rfl, rfl, rfl⟩ := hq
  refine ax_reT (st2 := [.inr 1, .inr 0]) rfl ?_
  refine ax_putF dX11_init_12 flX11_10 rfl (fun C T N h => by cases h; rfl) rfl (SN_sh 0 37 (by decide) h0_0) rfl (by unfold ax_can; decide) (pc' := 15) rfl ?_
  refine ax_aload_n dX11_init_15 rfl rfl (pc' := 16) rfl ?_
  refine ax_new (I := iX11_init) (kc := 292) (ks := 32175) (n := 37) dX11_init_16 nlX11_16 (SN_len 37 (Nat.le_of_ble_eq_true rfl)) (pc' := 19) rfl ?_
  refine ax_reC (S2 := SN 38) (SN_push h0_37) ?_
  refine ax_dup dX11_init_19 (pc' := 20) rfl ?_
  refine ax_ini (kc1 := 1) (ks1 := 1200) (kc := 291) (ks := 30975) [] [.inr 37, .inr 0] dX11_init_20 mlX11_18 (by decide) rfl rfl (by decide) (c_X0_37 E l _ (by omega) _) (pc' := 23) rfl (fun vv SS MM hq _ _ _ => ?_)
  obtain ⟨rfl, rfl, rfl⟩ := hq
  refine ax_reT (st2 := [.inr 37, .inr 0]) rfl ?_
  refine ax_putF dX11_init_23 flX11_19 rfl (fun C T N h => by cases h; rfl) rfl (SN_sh 0 39 (by decide) h0_0) rfl (by unfold ax_can; decide) (pc' := 26) rfl ?_
  refine ax_aload_n dX11_init_26 rfl rfl (pc' := 27) rfl ?_
  refine ax_new (I := iX11_init) (kc := 290) (ks := 30966) (n := 39) dX11_init_27 nlX11_23 (SN_len 39 (Nat.le_of_ble_eq_true rfl)) (pc' := 30) rfl ?_
  refine ax_reC (S2 := SN 40) (SN_push h0_39) ?_
  refine ax_dup dX11_init_30 (pc' := 31) rfl ?_
  refine ax_ini (kc1 := 18) (ks1 := 1728) (kc := 272) (ks := 29238) [] [.inr 39, .inr 0] dX11_init_31 mlX11_25 (by decide) rfl rfl (by decide) (c_X4_39 E l _ (by omega) _) (pc' := 34) rfl (fun vv SS MM hq _ _ _ => ?_)
  obtain ⟨rfl, rfl, rfl⟩ := hq
  refine ax_reT (st2 := [.inr 39, .inr 0]) rfl ?_
  refine ax_putF dX11_init_34 flX11_26 rfl (fun C T N h => by cases h; rfl) rfl (SN_sh 0 58 (by decide) h0_0) rfl (by unfold ax_can; decide) (pc' := 37) rfl ?_
  refine ax_aload_n dX11_init_37 rfl rfl (pc' := 38) rfl ?_
  refine ax_new (I := iX11_init) (kc := 271) (ks := 29229) (n := 58) dX11_init_38 nlX11_30 (SN_len 58 (Nat.le_of_ble_eq_true rfl)) (pc' := 41) rfl ?_
  refine ax_reC (S2 := SN 59) (SN_push h0_58) ?_
  refine ax_dup dX11_init_41 (pc' := 42) rfl ?_
  refine ax_ini (kc1 := 4) (ks1 := 1603) (kc := 267) (ks := 27626) [] [.inr 58, .inr 0] dX11_init_42 mlX11_32 (by decide) rfl rfl (by decide) (c_X8_58 E l _ (by omega) _) (pc' := 45) rfl (fun vv SS MM hq _ _ _ => ?_)
  obtain ⟨rfl, rfl, rfl⟩ := hq
  refine ax_reT (st2 := [.inr 58, .inr 0]) rfl ?_
  refine ax_putF dX11_init_45 flX11_33 rfl (fun C T N h => by cases h; rfl) rfl (SN_sh 0 63 (by decide) h0_0) rfl (by unfold ax_can; decide) (pc' := 48) rfl ?_
  refine ax_aload_n dX11_init_48 rfl rfl (pc' := 49) rfl ?_
  refine ax_new (I := iX11_init) (kc := 266) (ks := 27623) (n := 63) dX11_init_49 nlX11_37 (SN_len 63 (Nat.le_of_ble_eq_true rfl)) (pc' := 52) rfl ?_
  refine ax_reC (S2 := SN 64) (SN_push h0_63) ?_
  refine ax_dup dX11_init_52 (pc' := 53) rfl ?_
  refine ax_ini (kc1 := 1) (ks1 := 400) (kc := 265) (ks := 27223) [] [.inr 63, .inr 0] dX11_init_53 mlX11_39 (by decide) rfl rfl (by decide) (c_X3_63 E l _ (by omega) _) (pc' := 56) rfl (fun vv SS MM hq _ _ _ => ?_)
  obtain ⟨rfl, rfl, rfl⟩ := hq
  refine ax_reT (st2 := [.inr 63, .inr 0]) rfl ?_
  refine ax_putF dX11_init_56 flX11_40 rfl (fun C T N h => by cases h; rfl) rfl (SN_sh 0 65 (by decide) h0_0) rfl (by unfold ax_can; decide) (pc' := 59) rfl ?_
  refine ax_aload_n dX11_init_59 rfl rfl (pc' := 60) rfl ?_
  refine ax_new (I := iX11_init) (kc := 264) (ks := 27216) (n := 65) dX11_init_60 nlX11_44 (SN_len 65 (Nat.le_of_ble_eq_true rfl)) (pc' := 63) rfl ?_
  refine ax_reC (S2 := SN 66) (SN_push h0_65) ?_
  refine ax_dup dX11_init_63 (pc' := 64) rfl ?_
  refine ax_ini (kc1 := 5) (ks1 := 458) (kc := 259) (ks := 26758) [] [.inr 65, .inr 0] dX11_init_64 mlX11_46 (by decide) rfl rfl (by decide) (c_X1_65 E l _ (by omega) _) (pc' := 67) rfl (fun vv SS MM hq _ _ _ => ?_)
  obtain ⟨rfl, rfl, rfl⟩ := hq
  refine ax_reT (st2 := [.inr 65, .inr 0]) rfl ?_
  refine ax_putF dX11_init_67 flX11_47 rfl (fun C T N h => by cases h; rfl) rfl (SN_sh 0 71 (by decide) h0_0) rfl (by unfold ax_can; decide) (pc' := 70) rfl ?_
  refine ax_aload_n dX11_init_70 rfl rfl (pc' := 71) rfl ?_
  refine ax_new (I := iX11_init) (kc := 258) (ks := 26751) (n := 71) dX11_init_71 nlX11_51 (SN_len 71 (Nat.le_of_ble_eq_true rfl)) (pc' := 74) rfl ?_
  refine ax_reC (S2 := SN 72) (SN_push h0_71) ?_
  refine ax_dup dX11_init_74 (pc' := 75) rfl ?_
  refine ax_aload_n dX11_init_75 rfl rfl (pc' := 76) rfl ?_
  refine ax_getr (v := 39) dX11_init_76 flX11_26 rfl (SN_sh 0 72 (by decide) h0_0) rfl (pc' := 79) rfl ?_
  refine ax_ini (kc1 := 3) (ks1 := 1056) (kc := 255) (ks := 25695) [.inr 39] [.inr 71, .inr 0] dX11_init_79 mlX11_53 (by decide) rfl rfl (by decide) (c_X2_71 E l _ (by omega) _) (pc' := 82) rfl (fun vv SS MM hq _ _ _ => ?_)
  obtain ⟨rfl, rfl, rfl⟩ := hq
  refine ax_reT (st2 := [.inr 71, .inr 0]) rfl ?_
  refine ax_putF dX11_init_82 flX11_56 rfl (fun C T N h => by cases h; rfl) rfl (SN_sh 0 75 (by decide) h0_0) rfl (by unfold ax_can; decide) (pc' := 85) rfl ?_
  refine ax_aload_n dX11_init_85 rfl rfl (pc' := 86) rfl ?_
  refine ax_new (I := iX11_init) (kc := 254) (ks := 25690) (n := 75) dX11_init_86 nlX11_60 (SN_len 75 (Nat.le_of_ble_eq_true rfl)) (pc' := 89) rfl ?_
  refine ax_reC (S2 := SN 76) (SN_push h0_75) ?_
  refine ax_dup dX11_init_89 (pc' := 90) rfl ?_
  refine ax_aload_n dX11_init_90 rfl rfl (pc' := 91) rfl ?_
  refine ax_getr (v := 71) dX11_init_91 flX11_56 rfl (SN_sh 0 76 (by decide) h0_0) rfl (pc' := 94) rfl ?_
  refine ax_ini (kc1 := 2) (ks1 := 48) (kc := 252) (ks := 25642) [.inr 71] [.inr 75, .inr 0] dX11_init_94 mlX11_62 (by decide) rfl rfl (by decide) (c_X6_75 E l _ (by omega) _) (pc' := 97) rfl (fun vv SS MM hq _ _ _ => ?_)
  obtain ⟨rfl, rfl, rfl⟩ := hq
  refine ax_reT (st2 := [.inr 75, .inr 0]) rfl ?_
  refine ax_putF dX11_init_97 flX11_65 rfl (fun C T N h => by cases h; rfl) rfl (SN_sh 0 78 (by decide) h0_0) rfl (by unfold ax_can; decide) (pc' := 100) rfl ?_
  refine ax_aload_n dX11_init_100 rfl rfl (pc' := 101) rfl ?_
  refine ax_new (I := iX11_init) (kc := 251) (ks := 25634) (n := 78) dX11_init_101 nlX11_69 (SN_len 78 (Nat.le_of_ble_eq_true rfl)) (pc' := 104) rfl ?_
  refine ax_reC (S2 := SN 79) (SN_push h0_78) ?_
  refine ax_dup dX11_init_104 (pc' := 105) rfl ?_
  refine ax_ini (kc1 := 3) (ks1 := 312) (kc := 248) (ks := 25322) [] [.inr 78, .inr 0] dX11_init_105 mlX11_71 (by decide) rfl rfl (by decide) (c_X7_78 E l _ (by omega) _) (pc' := 108) rfl (fun vv SS MM hq _ _ _ => ?_)
  obtain ⟨rfl, rfl, rfl⟩ := hq
  refine ax_reT (st2 := [.inr 78, .inr 0]) rfl ?_
  refine ax_putF dX11_init_108 flX11_72 rfl (fun C T N h => by cases h; rfl) rfl (SN_sh 0 82 (by decide) h0_0) rfl (by unfold ax_can; decide) (pc' := 111) rfl ?_
  refine ax_aload_n dX11_init_111 rfl rfl (pc' := 112) rfl ?_
  refine ax_new (I := iX11_init) (kc := 247) (ks := 25316) (n := 82) dX11_init_112 nlX11_76 (SN_len 82 (Nat.le_of_ble_eq_true rfl)) (pc' := 115) rfl ?_
  refine ax_reC (S2 := SN 83) (SN_push h0_82) ?_
  refine ax_dup dX11_init_115 (pc' := 116) rfl ?_
  refine ax_ini (kc1 := 5) (ks1 := 279) (kc := 242) (ks := 25037) [] [.inr 82, .inr 0] dX11_init_116 mlX11_78 (by decide) rfl rfl (by decide) (c_X10_82 E l _ (by omega) _) (pc' := 119) rfl (fun vv SS MM hq _ _ _ => ?_)
  obtain ⟨rfl, rfl, rfl⟩ := hq
  refine ax_reT (st2 := [.inr 82, .inr 0]) rfl ?_
  refine ax_putF dX11_init_119 flX11_79 rfl (fun C T N h => by cases h; rfl) rfl (SN_sh 0 88 (by decide) h0_0) rfl (by unfold ax_can; decide) (pc' := 122) rfl ?_
  refine ax_aload_n dX11_init_122 rfl rfl (pc' := 123) rfl ?_
  refine ax_new (I := iX11_init) (kc := 241) (ks := 25032) (n := 88) dX11_init_123 nlX11_83 (SN_len 88 (Nat.le_of_ble_eq_true rfl)) (pc' := 126) rfl ?_
  refine ax_reC (S2 := SN 89) (SN_push h0_88) ?_
  refine ax_dup dX11_init_126 (pc' := 127) rfl ?_
  refine ax_ini (kc1 := 3) (ks1 := 6567) (kc := 238) (ks := 18465) [] [.inr 88, .inr 0] dX11_init_127 mlX11_85 (by decide) rfl rfl (by decide) (c_X5_88 E l _ (by omega) _) (pc' := 130) rfl (fun vv SS MM hq _ _ _ => ?_)
  obtain ⟨rfl, rfl, rfl⟩ := hq
  refine ax_reT (st2 := [.inr 88, .inr 0]) rfl ?_
  refine ax_putF dX11_init_130 flX11_86 rfl (fun C T N h => by cases h; rfl) rfl (SN_sh 0 92 (by decide) h0_0) rfl (by unfold ax_can; decide) (pc' := 133) rfl ?_
  refine ax_aload_n dX11_init_133 rfl rfl (pc' := 134) rfl ?_
  refine ax_iconst dX11_init_134 (by decide) (pc' := 135) rfl ?_
  refine ax_newq (ci := 15) (kc := 237) (ks := 18460) (N := 5) (n := 92) (v := 5) dX11_init_135 (by decide) alX11_7 rfl (by decide) (SN_len 92 (Nat.le_of_ble_eq_true rfl)) (pc' := 138) rfl ?_
  refine ax_reC (S2 := SN 93) (SN_push h0_92) ?_
  refine ax_putF dX11_init_138 flX11_90 rfl (fun C T N h => by cases h; rfl) rfl (SN_sh 0 93 (by decide) h0_0) rfl (by unfold ax_can; decide) (pc' := 141) rfl ?_
  refine ax_iconst dX11_init_141 (by decide) (pc' := 142) rfl ?_
  refine ax_istore_n dX11_init_142 rfl (by decide) (ls' := [some (.inr 0), some (.inl 0)]) rfl (pc' := 143) rfl ?_
  refine ax_iload_n dX11_init_143 rfl rfl (pc' := 144) rfl ?_
  refine ax_iconst dX11_init_144 (by decide) (pc' := 145) rfl ?_
  refine ax_icmp_ge (tgt := 167) dX11_init_145 (by decide) (pc' := 148) rfl (fun h => absurd h (by decide)) (fun _ => ?_)
  refine ax_aload_n dX11_init_148 rfl rfl (pc' := 149) rfl ?_
  refine ax_getr (v := 92) dX11_init_149 flX11_90 rfl (SN_sh 0 93 (by decide) h0_0) rfl (pc' := 152) rfl ?_
  refine ax_iload_n dX11_init_152 rfl rfl (pc' := 153) rfl ?_
  refine ax_new (I := iX11_init) (kc := 236) (ks := 18453) (n := 93) dX11_init_153 nlX11_7 (SN_len 93 (Nat.le_of_ble_eq_true rfl)) (pc' := 156) rfl ?_
  refine ax_reC (S2 := SN 94) (SN_push h0_93) ?_
  refine ax_dup dX11_init_156 (pc' := 157) rfl ?_
  refine ax_ini (kc1 := 35) (ks1 := 2580) (kc := 201) (ks := 15873) [] [.inr 93, .inl 0, .inr 92] dX11_init_157 mlX11_9 (by decide) rfl rfl (by decide) (c_X9_93 E l _ (by omega) _) (pc' := 160) rfl (fun vv SS MM hq _ _ _ => ?_)
  obtain ⟨rfl, rfl, rfl⟩ := hq
  refine ax_reT (st2 := [.inr 93, .inl 0, .inr 92]) rfl ?_
  refine ax_aast dX11_init_160 (SN_sh 92 129 (by decide) h0_92) (by decide) (SN_sh 93 129 (by decide) h0_93) rfl (by decide) (by decide) rfl (by unfold ax_can; decide) (pc' := 161) rfl ?_
  refine ax_iinc dX11_init_161 rfl (by decide) (by decide) (ls' := [some (.inr 0), some (.inl 1)]) rfl (pc' := 164) rfl ?_
  refine ax_goto dX11_init_164 (pc' := 143) (by decide) ?_
  refine ax_iload_n dX11_init_143 rfl rfl (pc' := 144) rfl ?_
  refine ax_iconst dX11_init_144 (by decide) (pc' := 145) rfl ?_
  refine ax_icmp_ge (tgt := 167) dX11_init_145 (by decide) (pc' := 148) rfl (fun h => absurd h (by decide)) (fun _ => ?_)
  refine ax_aload_n dX11_init_148 rfl rfl (pc' := 149) rfl ?_
  refine ax_getr (v := 92) dX11_init_149 flX11_90 rfl (SN_sh 0 129 (by decide) h0_0) rfl (pc' := 152) rfl ?_
  refine ax_iload_n dX11_init_152 rfl rfl (pc' := 153) rfl ?_
  refine ax_new (I := iX11_init) (kc := 200) (ks := 15866) (n := 129) dX11_init_153 nlX11_7 (SN_len 129 (Nat.le_of_ble_eq_true rfl)) (pc' := 156) rfl ?_
  refine ax_reC (S2 := SN 130) (SN_push h0_129) ?_
  refine ax_dup dX11_init_156 (pc' := 157) rfl ?_
  refine ax_ini (kc1 := 35) (ks1 := 2580) (kc := 165) (ks := 13286) [] [.inr 129, .inl 1, .inr 92] dX11_init_157 mlX11_9 (by decide) rfl rfl (by decide) (c_X9_129 E l _ (by omega) _) (pc' := 160) rfl (fun vv SS MM hq _ _ _ => ?_)
  obtain ⟨rfl, rfl, rfl⟩ := hq
  refine ax_reT (st2 := [.inr 129, .inl 1, .inr 92]) rfl ?_
  refine ax_aast dX11_init_160 (SN_sh 92 165 (by decide) h0_92) (by decide) (SN_sh 129 165 (by decide) h0_129) rfl (by decide) (by decide) rfl (by unfold ax_can; decide) (pc' := 161) rfl ?_
  refine ax_iinc dX11_init_161 rfl (by decide) (by decide) (ls' := [some (.inr 0), some (.inl 2)]) rfl (pc' := 164) rfl ?_
  refine ax_goto dX11_init_164 (pc' := 143) (by decide) ?_
  refine ax_iload_n dX11_init_143 rfl rfl (pc' := 144) rfl ?_
  refine ax_iconst dX11_init_144 (by decide) (pc' := 145) rfl ?_
  refine ax_icmp_ge (tgt := 167) dX11_init_145 (by decide) (pc' := 148) rfl (fun h => absurd h (by decide)) (fun _ => ?_)
  refine ax_aload_n dX11_init_148 rfl rfl (pc' := 149) rfl ?_
  refine ax_getr (v := 92) dX11_init_149 flX11_90 rfl (SN_sh 0 165 (by decide) h0_0) rfl (pc' := 152) rfl ?_
  refine ax_iload_n dX11_init_152 rfl rfl (pc' := 153) rfl ?_
  refine ax_new (I := iX11_init) (kc := 164) (ks := 13279) (n := 165) dX11_init_153 nlX11_7 (SN_len 165 (Nat.le_of_ble_eq_true rfl)) (pc' := 156) rfl ?_
  refine ax_reC (S2 := SN 166) (SN_push h0_165) ?_
  refine ax_dup dX11_init_156 (pc' := 157) rfl ?_
  refine ax_ini (kc1 := 35) (ks1 := 2580) (kc := 129) (ks := 10699) [] [.inr 165, .inl 2, .inr 92] dX11_init_157 mlX11_9 (by decide) rfl rfl (by decide) (c_X9_165 E l _ (by omega) _) (pc' := 160) rfl (fun vv SS MM hq _ _ _ => ?_)
  obtain ⟨rfl, rfl, rfl⟩ := hq
  refine ax_reT (st2 := [.inr 165, .inl 2, .inr 92]) rfl ?_
  refine ax_aast dX11_init_160 (SN_sh 92 201 (by decide) h0_92) (by decide) (SN_sh 165 201 (by decide) h0_165) rfl (by decide) (by decide) rfl (by unfold ax_can; decide) (pc' := 161) rfl ?_
  refine ax_iinc dX11_init_161 rfl (by decide) (by decide) (ls' := [some (.inr 0), some (.inl 3)]) rfl (pc' := 164) rfl ?_
  refine ax_goto dX11_init_164 (pc' := 143) (by decide) ?_
  refine ax_iload_n dX11_init_143 rfl rfl (pc' := 144) rfl ?_
  refine ax_iconst dX11_init_144 (by decide) (pc' := 145) rfl ?_
  refine ax_icmp_ge (tgt := 167) dX11_init_145 (by decide) (pc' := 148) rfl (fun h => absurd h (by decide)) (fun _ => ?_)
  refine ax_aload_n dX11_init_148 rfl rfl (pc' := 149) rfl ?_
  refine ax_getr (v := 92) dX11_init_149 flX11_90 rfl (SN_sh 0 201 (by decide) h0_0) rfl (pc' := 152) rfl ?_
  refine ax_iload_n dX11_init_152 rfl rfl (pc' := 153) rfl ?_
  refine ax_new (I := iX11_init) (kc := 128) (ks := 10692) (n := 201) dX11_init_153 nlX11_7 (SN_len 201 (Nat.le_of_ble_eq_true rfl)) (pc' := 156) rfl ?_
  refine ax_reC (S2 := SN 202) (SN_push h0_201) ?_
  refine ax_dup dX11_init_156 (pc' := 157) rfl ?_
  refine ax_ini (kc1 := 35) (ks1 := 2580) (kc := 93) (ks := 8112) [] [.inr 201, .inl 3, .inr 92] dX11_init_157 mlX11_9 (by decide) rfl rfl (by decide) (c_X9_201 E l _ (by omega) _) (pc' := 160) rfl (fun vv SS MM hq _ _ _ => ?_)
  obtain ⟨rfl, rfl, rfl⟩ := hq
  refine ax_reT (st2 := [.inr 201, .inl 3, .inr 92]) rfl ?_
  refine ax_aast dX11_init_160 (SN_sh 92 237 (by decide) h0_92) (by decide) (SN_sh 201 237 (by decide) h0_201) rfl (by decide) (by decide) rfl (by unfold ax_can; decide) (pc' := 161) rfl ?_
  refine ax_iinc dX11_init_161 rfl (by decide) (by decide) (ls' := [some (.inr 0), some (.inl 4)]) rfl (pc' := 164) rfl ?_
  refine ax_goto dX11_init_164 (pc' := 143) (by decide) ?_
  refine ax_iload_n dX11_init_143 rfl rfl (pc' := 144) rfl ?_
  refine ax_iconst dX11_init_144 (by decide) (pc' := 145) rfl ?_
  refine ax_icmp_ge (tgt := 167) dX11_init_145 (by decide) (pc' := 148) rfl (fun h => absurd h (by decide)) (fun _ => ?_)
  refine ax_aload_n dX11_init_148 rfl rfl (pc' := 149) rfl ?_
  refine ax_getr (v := 92) dX11_init_149 flX11_90 rfl (SN_sh 0 237 (by decide) h0_0) rfl (pc' := 152) rfl ?_
  refine ax_iload_n dX11_init_152 rfl rfl (pc' := 153) rfl ?_
  refine ax_new (I := iX11_init) (kc := 92) (ks := 8105) (n := 237) dX11_init_153 nlX11_7 (SN_len 237 (Nat.le_of_ble_eq_true rfl)) (pc' := 156) rfl ?_
  refine ax_reC (S2 := SN 238) (SN_push h0_237) ?_
  refine ax_dup dX11_init_156 (pc' := 157) rfl ?_
  refine ax_ini (kc1 := 35) (ks1 := 2580) (kc := 57) (ks := 5525) [] [.inr 237, .inl 4, .inr 92] dX11_init_157 mlX11_9 (by decide) rfl rfl (by decide) (c_X9_237 E l _ (by omega) _) (pc' := 160) rfl (fun vv SS MM hq _ _ _ => ?_)
  obtain ⟨rfl, rfl, rfl⟩ := hq
  refine ax_reT (st2 := [.inr 237, .inl 4, .inr 92]) rfl ?_
  refine ax_aast dX11_init_160 (SN_sh 92 273 (by decide) h0_92) (by decide) (SN_sh 237 273 (by decide) h0_237) rfl (by decide) (by decide) rfl (by unfold ax_can; decide) (pc' := 161) rfl ?_
  refine ax_iinc dX11_init_161 rfl (by decide) (by decide) (ls' := [some (.inr 0), some (.inl 5)]) rfl (pc' := 164) rfl ?_
  refine ax_goto dX11_init_164 (pc' := 143) (by decide) ?_
  refine ax_iload_n dX11_init_143 rfl rfl (pc' := 144) rfl ?_
  refine ax_iconst dX11_init_144 (by decide) (pc' := 145) rfl ?_
  refine ax_icmp_ge (tgt := 167) dX11_init_145 (by decide) (pc' := 148) rfl (fun _ => ?_) (fun h => absurd h (by decide))
  refine ax_aload_n dX11_init_167 rfl rfl (pc' := 168) rfl ?_
  refine ax_new (I := iX11_init) (kc := 56) (ks := 5518) (n := 273) dX11_init_168 nlX11_7 (SN_len 273 (Nat.le_of_ble_eq_true rfl)) (pc' := 171) rfl ?_
  refine ax_reC (S2 := SN 274) (SN_push h0_273) ?_
  refine ax_dup dX11_init_171 (pc' := 172) rfl ?_
  refine ax_ini (kc1 := 35) (ks1 := 2580) (kc := 21) (ks := 2938) [] [.inr 273, .inr 0] dX11_init_172 mlX11_9 (by decide) rfl rfl (by decide) (c_X9_273 E l _ (by omega) _) (pc' := 175) rfl (fun vv SS MM hq _ _ _ => ?_)
  obtain ⟨rfl, rfl, rfl⟩ := hq
  refine ax_reT (st2 := [.inr 273, .inr 0]) rfl ?_
  refine ax_putF dX11_init_175 flX11_94 rfl (fun C T N h => by cases h; rfl) rfl (SN_sh 0 309 (by decide) h0_0) rfl (by unfold ax_can; decide) (pc' := 178) rfl ?_
  refine ax_aload_n dX11_init_178 rfl rfl (pc' := 179) rfl ?_
  refine ax_new (I := iX11_init) (kc := 20) (ks := 2937) (n := 309) dX11_init_179 nlX11_16 (SN_len 309 (Nat.le_of_ble_eq_true rfl)) (pc' := 182) rfl ?_
  refine ax_reC (S2 := SN 310) (SN_push h0_309) ?_
  refine ax_dup dX11_init_182 (pc' := 183) rfl ?_
  refine ax_ini (kc1 := 1) (ks1 := 1200) (kc := 19) (ks := 1737) [] [.inr 309, .inr 0] dX11_init_183 mlX11_18 (by decide) rfl rfl (by decide) (c_X0_309 E l _ (by omega) _) (pc' := 186) rfl (fun vv SS MM hq _ _ _ => ?_)
  obtain ⟨rfl, rfl, rfl⟩ := hq
  refine ax_reT (st2 := [.inr 309, .inr 0]) rfl ?_
  refine ax_putF dX11_init_186 flX11_97 rfl (fun C T N h => by cases h; rfl) rfl (SN_sh 0 311 (by decide) h0_0) rfl (by unfold ax_can; decide) (pc' := 189) rfl ?_
  refine ax_aload_n dX11_init_189 rfl rfl (pc' := 190) rfl ?_
  refine ax_new (I := iX11_init) (kc := 18) (ks := 1728) (n := 311) dX11_init_190 nlX11_23 (SN_len 311 (Nat.le_of_ble_eq_true rfl)) (pc' := 193) rfl ?_
  refine ax_reC (S2 := SN 312) (SN_push h0_311) ?_
  refine ax_dup dX11_init_193 (pc' := 194) rfl ?_
  refine ax_ini (kc1 := 18) (ks1 := 1728) (kc := 0) (ks := 0) [] [.inr 311, .inr 0] dX11_init_194 mlX11_25 (by decide) rfl rfl (by decide) (c_X4_311 E l _ (by omega) _) (pc' := 197) rfl (fun vv SS MM hq _ _ _ => ?_)
  obtain ⟨rfl, rfl, rfl⟩ := hq
  refine ax_reT (st2 := [.inr 311, .inr 0]) rfl ?_
  refine ax_putF dX11_init_197 flX11_100 rfl (fun C T N h => by cases h; rfl) rfl (SN_sh 0 330 (by decide) h0_0) rfl (by unfold ax_can; decide) (pc' := 200) rfl ?_
  exact ax_vret dX11_init_200 rfl ⟨rfl, rfl, rfl⟩
def f_mX12_330 (M : ax_Mem) : ax_Mem := ax_up (ax_up (ax_up (ax_up (ax_up (ax_up (ax_up (ax_up (ax_up (ax_up (ax_up (ax_up (ax_up (ax_row (ax_up (ax_row (ax_up (ax_row (ax_up (ax_row (ax_up (ax_row (ax_up (ax_row (ax_up (ax_row (ax_up (ax_row (ax_up (ax_row (ax_up (ax_up (ax_row (ax_up (ax_row (ax_up (ax_row (ax_up (ax_row (ax_up (ax_row (ax_up (ax_row (ax_up (ax_row (ax_up (ax_row (ax_up (ax_row (ax_up (ax_row (ax_up (ax_row M 331 (fun _ => 0)) 330 0 331) 332 (fun _ => 0)) 330 1 332) 333 (fun _ => 0)) 330 2 333) 334 (fun _ => 0)) 330 3 334) 335 (fun _ => 0)) 330 6 335) 336 (fun _ => 0)) 330 7 336) 337 (fun _ => 0)) 330 8 337) 338 (fun _ => 0)) 330 9 338) 339 (fun _ => 0)) 330 10 339) 340 (fun _ => 0)) 330 11 340) 341 (fun _ => 0)) 330 12 341) 330 26 (-1)) 342 (fun _ => 0)) 330 28 342) 343 (fun _ => 0)) 330 29 343) 344 (fun _ => 0)) 330 34 344) 345 (fun _ => 0)) 330 36 345) 346 (fun _ => 0)) 330 37 346) 347 (fun _ => 0)) 330 38 347) 348 (fun _ => 0)) 330 40 348) 349 (fun _ => 0)) 330 41 349) 350 (fun _ => 0)) 330 42 350) 331 2564 3) 331 2570 2) 331 2565 3) 331 2571 2) 331 2566 3) 331 2572 2) 331 2567 3) 331 2573 2) 331 2568 3) 331 2574 2) 331 2569 3) 331 2575 2
set_option maxRecDepth 20000 in
theorem c_X12_330 (E : ax_Env) (l : Launch) (d : Nat) (hd : 1 ≤ d) (M : ax_Mem) : ax_M E l d 20 67003 iX12_init [.inr 330] (SN 331) M (fun z0 S2 M2 => z0 = none ∧ S2 = SN 351 ∧ M2 = f_mX12_330 M) := by
  obtain ⟨d, rfl⟩ : ∃ d0, d = d0 + 1 := ⟨d - 1, by omega⟩
  refine ax_enter rfl (by decide) (ls := [some (.inr 330), none]) rfl (fun _ hcm => ?_)
  refine ax_aload_n dX12_init_0 rfl rfl (pc' := 1) rfl ?_
  refine ax_oinit dX12_init_1 (by decide) mlX12_1 hx_oi hx_oc (by decide) (pc' := 4) rfl ?_
  refine ax_aload_n dX12_init_4 rfl rfl (pc' := 5) rfl ?_
  refine ax_sipush dX12_init_5 (by decide) (pc' := 8) rfl ?_
  refine ax_newa (kc := 19) (ks := 60109) (N := 6894) (n := 331) (v := 6894) dX12_init_8 hx_arr rfl (by decide) (SN_len 331 (Nat.le_of_ble_eq_true rfl)) (pc' := 10) rfl ?_
  refine ax_reC (S2 := SN 332) (SN_push h0_331) ?_
  refine ax_putF dX12_init_10 flX12_7 rfl (fun C T N h => by cases h; rfl) rfl (SN_sh 330 332 (by decide) h0_330) rfl (by unfold ax_can; decide) (pc' := 13) rfl ?_
  refine ax_aload_n dX12_init_13 rfl rfl (pc' := 14) rfl ?_
  refine ax_sipush dX12_init_14 (by decide) (pc' := 17) rfl ?_
  refine ax_newa (kc := 18) (ks := 53215) (N := 6894) (n := 332) (v := 6894) dX12_init_17 hx_arr rfl (by decide) (SN_len 332 (Nat.le_of_ble_eq_true rfl)) (pc' := 19) rfl ?_
  refine ax_reC (S2 := SN 333) (SN_push h0_332) ?_
  refine ax_putF dX12_init_19 flX12_13 rfl (fun C T N h => by cases h; rfl) rfl (SN_sh 330 333 (by decide) h0_330) rfl (by unfold ax_can; decide) (pc' := 22) rfl ?_
  refine ax_aload_n dX12_init_22 rfl rfl (pc' := 23) rfl ?_
  refine ax_sipush dX12_init_23 (by decide) (pc' := 26) rfl ?_
  refine ax_newa (kc := 17) (ks := 40395) (N := 12820) (n := 333) (v := 12820) dX12_init_26 hx_arr rfl (by decide) (SN_len 333 (Nat.le_of_ble_eq_true rfl)) (pc' := 28) rfl ?_
  refine ax_reC (S2 := SN 334) (SN_push h0_333) ?_
  refine ax_putF dX12_init_28 flX12_16 rfl (fun C T N h => by cases h; rfl) rfl (SN_sh 330 334 (by decide) h0_330) rfl (by unfold ax_can; decide) (pc' := 31) rfl ?_
  refine ax_aload_n dX12_init_31 rfl rfl (pc' := 32) rfl ?_
  refine ax_sipush dX12_init_32 (by decide) (pc' := 35) rfl ?_
  refine ax_newa (kc := 16) (ks := 37831) (N := 2564) (n := 334) (v := 2564) dX12_init_35 hx_arr rfl (by decide) (SN_len 334 (Nat.le_of_ble_eq_true rfl)) (pc' := 37) rfl ?_
  refine ax_reC (S2 := SN 335) (SN_push h0_334) ?_
  refine ax_putF dX12_init_37 flX12_19 rfl (fun C T N h => by cases h; rfl) rfl (SN_sh 330 335 (by decide) h0_330) rfl (by unfold ax_can; decide) (pc' := 40) rfl ?_
  refine ax_aload_n dX12_init_40 rfl rfl (pc' := 41) rfl ?_
  refine ax_bipush dX12_init_41 (by decide) (pc' := 43) rfl ?_
  refine ax_newa (kc := 15) (ks := 37783) (N := 48) (n := 335) (v := 48) dX12_init_43 hx_arr rfl (by decide) (SN_len 335 (Nat.le_of_ble_eq_true rfl)) (pc' := 45) rfl ?_
  refine ax_reC (S2 := SN 336) (SN_push h0_335) ?_
  refine ax_putF dX12_init_45 flX12_22 rfl (fun C T N h => by cases h; rfl) rfl (SN_sh 330 336 (by decide) h0_330) rfl (by unfold ax_can; decide) (pc' := 48) rfl ?_
  refine ax_aload_n dX12_init_48 rfl rfl (pc' := 49) rfl ?_
  refine ax_sipush dX12_init_49 (by decide) (pc' := 52) rfl ?_
  refine ax_newa (kc := 14) (ks := 36963) (N := 820) (n := 336) (v := 820) dX12_init_52 hx_arr rfl (by decide) (SN_len 336 (Nat.le_of_ble_eq_true rfl)) (pc' := 54) rfl ?_
  refine ax_reC (S2 := SN 337) (SN_push h0_336) ?_
  refine ax_putF dX12_init_54 flX12_25 rfl (fun C T N h => by cases h; rfl) rfl (SN_sh 330 337 (by decide) h0_330) rfl (by unfold ax_can; decide) (pc' := 57) rfl ?_
  refine ax_aload_n dX12_init_57 rfl rfl (pc' := 58) rfl ?_
  refine ax_sipush dX12_init_58 (by decide) (pc' := 61) rfl ?_
  refine ax_newa (kc := 13) (ks := 36513) (N := 450) (n := 337) (v := 450) dX12_init_61 hx_arr rfl (by decide) (SN_len 337 (Nat.le_of_ble_eq_true rfl)) (pc' := 63) rfl ?_
  refine ax_reC (S2 := SN 338) (SN_push h0_337) ?_
  refine ax_putF dX12_init_63 flX12_28 rfl (fun C T N h => by cases h; rfl) rfl (SN_sh 330 338 (by decide) h0_330) rfl (by unfold ax_can; decide) (pc' := 66) rfl ?_
  refine ax_aload_n dX12_init_66 rfl rfl (pc' := 67) rfl ?_
  refine ax_bipush dX12_init_67 (by decide) (pc' := 69) rfl ?_
  refine ax_newa (kc := 12) (ks := 36506) (N := 7) (n := 338) (v := 7) dX12_init_69 hx_arr rfl (by decide) (SN_len 338 (Nat.le_of_ble_eq_true rfl)) (pc' := 71) rfl ?_
  refine ax_reC (S2 := SN 339) (SN_push h0_338) ?_
  refine ax_putF dX12_init_71 flX12_31 rfl (fun C T N h => by cases h; rfl) rfl (SN_sh 330 339 (by decide) h0_330) rfl (by unfold ax_can; decide) (pc' := 74) rfl ?_
  refine ax_aload_n dX12_init_74 rfl rfl (pc' := 75) rfl ?_
  refine ax_sipush dX12_init_75 (by decide) (pc' := 78) rfl ?_
  refine ax_newa (kc := 11) (ks := 36106) (N := 400) (n := 339) (v := 400) dX12_init_78 hx_arr rfl (by decide) (SN_len 339 (Nat.le_of_ble_eq_true rfl)) (pc' := 80) rfl ?_
  refine ax_reC (S2 := SN 340) (SN_push h0_339) ?_
  refine ax_putF dX12_init_80 flX12_34 rfl (fun C T N h => by cases h; rfl) rfl (SN_sh 330 340 (by decide) h0_330) rfl (by unfold ax_can; decide) (pc' := 83) rfl ?_
  refine ax_aload_n dX12_init_83 rfl rfl (pc' := 84) rfl ?_
  refine ax_sipush dX12_init_84 (by decide) (pc' := 87) rfl ?_
  refine ax_newa (kc := 10) (ks := 35686) (N := 420) (n := 340) (v := 420) dX12_init_87 hx_arr rfl (by decide) (SN_len 340 (Nat.le_of_ble_eq_true rfl)) (pc' := 89) rfl ?_
  refine ax_reC (S2 := SN 341) (SN_push h0_340) ?_
  refine ax_putF dX12_init_89 flX12_37 rfl (fun C T N h => by cases h; rfl) rfl (SN_sh 330 341 (by decide) h0_330) rfl (by unfold ax_can; decide) (pc' := 92) rfl ?_
  refine ax_aload_n dX12_init_92 rfl rfl (pc' := 93) rfl ?_
  refine ax_bipush dX12_init_93 (by decide) (pc' := 95) rfl ?_
  refine ax_newa (kc := 9) (ks := 35672) (N := 14) (n := 341) (v := 14) dX12_init_95 hx_arr rfl (by decide) (SN_len 341 (Nat.le_of_ble_eq_true rfl)) (pc' := 97) rfl ?_
  refine ax_reC (S2 := SN 342) (SN_push h0_341) ?_
  refine ax_putF dX12_init_97 flX12_40 rfl (fun C T N h => by cases h; rfl) rfl (SN_sh 330 342 (by decide) h0_330) rfl (by unfold ax_can; decide) (pc' := 100) rfl ?_
  refine ax_aload_n dX12_init_100 rfl rfl (pc' := 101) rfl ?_
  refine ax_iconst dX12_init_101 (by decide) (pc' := 102) rfl ?_
  refine ax_puti dX12_init_102 flX12_43 (Or.inl rfl) (SN_sh 330 342 (by decide) h0_330) rfl (pc' := 105) rfl ?_
  refine ax_aload_n dX12_init_105 rfl rfl (pc' := 106) rfl ?_
  refine ax_bipush dX12_init_106 (by decide) (pc' := 108) rfl ?_
  refine ax_newa (kc := 8) (ks := 35648) (N := 24) (n := 342) (v := 24) dX12_init_108 hx_arr rfl (by decide) (SN_len 342 (Nat.le_of_ble_eq_true rfl)) (pc' := 110) rfl ?_
  refine ax_reC (S2 := SN 343) (SN_push h0_342) ?_
  refine ax_putF dX12_init_110 flX12_47 rfl (fun C T N h => by cases h; rfl) rfl (SN_sh 330 343 (by decide) h0_330) rfl (by unfold ax_can; decide) (pc' := 113) rfl ?_
  refine ax_aload_n dX12_init_113 rfl rfl (pc' := 114) rfl ?_
  refine ax_bipush dX12_init_114 (by decide) (pc' := 116) rfl ?_
  refine ax_newa (kc := 7) (ks := 35624) (N := 24) (n := 343) (v := 24) dX12_init_116 hx_arr rfl (by decide) (SN_len 343 (Nat.le_of_ble_eq_true rfl)) (pc' := 118) rfl ?_
  refine ax_reC (S2 := SN 344) (SN_push h0_343) ?_
  refine ax_putF dX12_init_118 flX12_50 rfl (fun C T N h => by cases h; rfl) rfl (SN_sh 330 344 (by decide) h0_330) rfl (by unfold ax_can; decide) (pc' := 121) rfl ?_
  refine ax_aload_n dX12_init_121 rfl rfl (pc' := 122) rfl ?_
  refine ax_sipush dX12_init_122 (by decide) (pc' := 125) rfl ?_
  refine ax_newa (kc := 6) (ks := 35024) (N := 600) (n := 344) (v := 600) dX12_init_125 hx_arr rfl (by decide) (SN_len 344 (Nat.le_of_ble_eq_true rfl)) (pc' := 127) rfl ?_
  refine ax_reC (S2 := SN 345) (SN_push h0_344) ?_
  refine ax_putF dX12_init_127 flX12_53 rfl (fun C T N h => by cases h; rfl) rfl (SN_sh 330 345 (by decide) h0_330) rfl (by unfold ax_can; decide) (pc' := 130) rfl ?_
  refine ax_aload_n dX12_init_130 rfl rfl (pc' := 131) rfl ?_
  refine ax_bipush dX12_init_131 (by decide) (pc' := 133) rfl ?_
  refine ax_newa (kc := 5) (ks := 35016) (N := 8) (n := 345) (v := 8) dX12_init_133 hx_arr rfl (by decide) (SN_len 345 (Nat.le_of_ble_eq_true rfl)) (pc' := 135) rfl ?_
  refine ax_reC (S2 := SN 346) (SN_push h0_345) ?_
  refine ax_putF dX12_init_135 flX12_56 rfl (fun C T N h => by cases h; rfl) rfl (SN_sh 330 346 (by decide) h0_330) rfl (by unfold ax_can; decide) (pc' := 138) rfl ?_
  refine ax_aload_n dX12_init_138 rfl rfl (pc' := 139) rfl ?_
  refine ax_bipush dX12_init_139 (by decide) (pc' := 141) rfl ?_
  refine ax_newa (kc := 4) (ks := 35009) (N := 7) (n := 346) (v := 7) dX12_init_141 hx_arr rfl (by decide) (SN_len 346 (Nat.le_of_ble_eq_true rfl)) (pc' := 143) rfl ?_
  refine ax_reC (S2 := SN 347) (SN_push h0_346) ?_
  refine ax_putF dX12_init_143 flX12_59 rfl (fun C T N h => by cases h; rfl) rfl (SN_sh 330 347 (by decide) h0_330) rfl (by unfold ax_can; decide) (pc' := 146) rfl ?_
  refine ax_aload_n dX12_init_146 rfl rfl (pc' := 147) rfl ?_
  refine ax_bipush dX12_init_147 (by decide) (pc' := 149) rfl ?_
  refine ax_newa (kc := 3) (ks := 35002) (N := 7) (n := 347) (v := 7) dX12_init_149 hx_arr rfl (by decide) (SN_len 347 (Nat.le_of_ble_eq_true rfl)) (pc' := 151) rfl ?_
  refine ax_reC (S2 := SN 348) (SN_push h0_347) ?_
  refine ax_putF dX12_init_151 flX12_62 rfl (fun C T N h => by cases h; rfl) rfl (SN_sh 330 348 (by decide) h0_330) rfl (by unfold ax_can; decide) (pc' := 154) rfl ?_
  refine ax_aload_n dX12_init_154 rfl rfl (pc' := 155) rfl ?_
  refine ax_sipush dX12_init_155 (by decide) (pc' := 158) rfl ?_
  refine ax_newa (kc := 2) (ks := 17506) (N := 17496) (n := 348) (v := 17496) dX12_init_158 hx_arr rfl (by decide) (SN_len 348 (Nat.le_of_ble_eq_true rfl)) (pc' := 160) rfl ?_
  refine ax_reC (S2 := SN 349) (SN_push h0_348) ?_
  refine ax_putF dX12_init_160 flX12_65 rfl (fun C T N h => by cases h; rfl) rfl (SN_sh 330 349 (by decide) h0_330) rfl (by unfold ax_can; decide) (pc' := 163) rfl ?_
  refine ax_aload_n dX12_init_163 rfl rfl (pc' := 164) rfl ?_
  refine ax_sipush dX12_init_164 (by decide) (pc' := 167) rfl ?_
  refine ax_newa (kc := 1) (ks := 10) (N := 17496) (n := 349) (v := 17496) dX12_init_167 hx_arr rfl (by decide) (SN_len 349 (Nat.le_of_ble_eq_true rfl)) (pc' := 169) rfl ?_
  refine ax_reC (S2 := SN 350) (SN_push h0_349) ?_
  refine ax_putF dX12_init_169 flX12_68 rfl (fun C T N h => by cases h; rfl) rfl (SN_sh 330 350 (by decide) h0_330) rfl (by unfold ax_can; decide) (pc' := 172) rfl ?_
  refine ax_aload_n dX12_init_172 rfl rfl (pc' := 173) rfl ?_
  refine ax_bipush dX12_init_173 (by decide) (pc' := 175) rfl ?_
  refine ax_newa (kc := 0) (ks := 0) (N := 10) (n := 350) (v := 10) dX12_init_175 hx_arr rfl (by decide) (SN_len 350 (Nat.le_of_ble_eq_true rfl)) (pc' := 177) rfl ?_
  refine ax_reC (S2 := SN 351) (SN_push h0_350) ?_
  refine ax_putF dX12_init_177 flX12_71 rfl (fun C T N h => by cases h; rfl) rfl (SN_sh 330 351 (by decide) h0_330) rfl (by unfold ax_can; decide) (pc' := 180) rfl ?_
  refine ax_iconst dX12_init_180 (by decide) (pc' := 181) rfl ?_
  refine ax_istore_n dX12_init_181 rfl (by decide) (ls' := [some (.inr 330), some (.inl 0)]) rfl (pc' := 182) rfl ?_
  refine ax_iload_n dX12_init_182 rfl rfl (pc' := 183) rfl ?_
  refine ax_bipush dX12_init_183 (by decide) (pc' := 185) rfl ?_
  refine ax_icmp_ge (tgt := 216) dX12_init_185 (by decide) (pc' := 188) rfl (fun h => absurd h (by decide)) (fun _ => ?_)
  refine ax_aload_n dX12_init_188 rfl rfl (pc' := 189) rfl ?_
  refine ax_getr (v := 331) dX12_init_189 flX12_7 rfl (SN_sh 330 351 (by decide) h0_330) rfl (pc' := 192) rfl ?_
  refine ax_sipush dX12_init_192 (by decide) (pc' := 195) rfl ?_
  refine ax_iload_n dX12_init_195 rfl rfl (pc' := 196) rfl ?_
  refine ax_iadd dX12_init_196 (by decide) (pc' := 197) rfl ?_
  refine ax_reT (st2 := [.inl 2564, .inr 331]) rfl ?_
  refine ax_iconst dX12_init_197 (by decide) (pc' := 198) rfl ?_
  refine ax_iast dX12_init_198 (SN_sh 331 351 (by decide) h0_331) rfl (by decide) (by decide) (pc' := 199) rfl ?_
  refine ax_aload_n dX12_init_199 rfl rfl (pc' := 200) rfl ?_
  refine ax_getr (v := 331) dX12_init_200 flX12_7 rfl (SN_sh 330 351 (by decide) h0_330) rfl (pc' := 203) rfl ?_
  refine ax_sipush dX12_init_203 (by decide) (pc' := 206) rfl ?_
  refine ax_iload_n dX12_init_206 rfl rfl (pc' := 207) rfl ?_
  refine ax_iadd dX12_init_207 (by decide) (pc' := 208) rfl ?_
  refine ax_reT (st2 := [.inl 2570, .inr 331]) rfl ?_
  refine ax_iconst dX12_init_208 (by decide) (pc' := 209) rfl ?_
  refine ax_iast dX12_init_209 (SN_sh 331 351 (by decide) h0_331) rfl (by decide) (by decide) (pc' := 210) rfl ?_
  refine ax_iinc dX12_init_210 rfl (by decide) (by decide) (ls' := [some (.inr 330), some (.inl 1)]) rfl (pc' := 213) rfl ?_
  refine ax_goto dX12_init_213 (pc' := 182) (by decide) ?_
  refine ax_iload_n dX12_init_182 rfl rfl (pc' := 183) rfl ?_
  refine ax_bipush dX12_init_183 (by decide) (pc' := 185) rfl ?_
  refine ax_icmp_ge (tgt := 216) dX12_init_185 (by decide) (pc' := 188) rfl (fun h => absurd h (by decide)) (fun _ => ?_)
  refine ax_aload_n dX12_init_188 rfl rfl (pc' := 189) rfl ?_
  refine ax_getr (v := 331) dX12_init_189 flX12_7 rfl (SN_sh 330 351 (by decide) h0_330) rfl (pc' := 192) rfl ?_
  refine ax_sipush dX12_init_192 (by decide) (pc' := 195) rfl ?_
  refine ax_iload_n dX12_init_195 rfl rfl (pc' := 196) rfl ?_
  refine ax_iadd dX12_init_196 (by decide) (pc' := 197) rfl ?_
  refine ax_reT (st2 := [.inl 2565, .inr 331]) rfl ?_
  refine ax_iconst dX12_init_197 (by decide) (pc' := 198) rfl ?_
  refine ax_iast dX12_init_198 (SN_sh 331 351 (by decide) h0_331) rfl (by decide) (by decide) (pc' := 199) rfl ?_
  refine ax_aload_n dX12_init_199 rfl rfl (pc' := 200) rfl ?_
  refine ax_getr (v := 331) dX12_init_200 flX12_7 rfl (SN_sh 330 351 (by decide) h0_330) rfl (pc' := 203) rfl ?_
  refine ax_sipush dX12_init_203 (by decide) (pc' := 206) rfl ?_
  refine ax_iload_n dX12_init_206 rfl rfl (pc' := 207) rfl ?_
  refine ax_iadd dX12_init_207 (by decide) (pc' := 208) rfl ?_
  refine ax_reT (st2 := [.inl 2571, .inr 331]) rfl ?_
  refine ax_iconst dX12_init_208 (by decide) (pc' := 209) rfl ?_
  refine ax_iast dX12_init_209 (SN_sh 331 351 (by decide) h0_331) rfl (by decide) (by decide) (pc' := 210) rfl ?_
  refine ax_iinc dX12_init_210 rfl (by decide) (by decide) (ls' := [some (.inr 330), some (.inl 2)]) rfl (pc' := 213) rfl ?_
  refine ax_goto dX12_init_213 (pc' := 182) (by decide) ?_
  refine ax_iload_n dX12_init_182 rfl rfl (pc' := 183) rfl ?_
  refine ax_bipush dX12_init_183 (by decide) (pc' := 185) rfl ?_
  refine ax_icmp_ge (tgt := 216) dX12_init_185 (by decide) (pc' := 188) rfl (fun h => absurd h (by decide)) (fun _ => ?_)
  refine ax_aload_n dX12_init_188 rfl rfl (pc' := 189) rfl ?_
  refine ax_getr (v := 331) dX12_init_189 flX12_7 rfl (SN_sh 330 351 (by decide) h0_330) rfl (pc' := 192) rfl ?_
  refine ax_sipush dX12_init_192 (by decide) (pc' := 195) rfl ?_
  refine ax_iload_n dX12_init_195 rfl rfl (pc' := 196) rfl ?_
  refine ax_iadd dX12_init_196 (by decide) (pc' := 197) rfl ?_
  refine ax_reT (st2 := [.inl 2566, .inr 331]) rfl ?_
  refine ax_iconst dX12_init_197 (by decide) (pc' := 198) rfl ?_
  refine ax_iast dX12_init_198 (SN_sh 331 351 (by decide) h0_331) rfl (by decide) (by decide) (pc' := 199) rfl ?_
  refine ax_aload_n dX12_init_199 rfl rfl (pc' := 200) rfl ?_
  refine ax_getr (v := 331) dX12_init_200 flX12_7 rfl (SN_sh 330 351 (by decide) h0_330) rfl (pc' := 203) rfl ?_
  refine ax_sipush dX12_init_203 (by decide) (pc' := 206) rfl ?_
  refine ax_iload_n dX12_init_206 rfl rfl (pc' := 207) rfl ?_
  refine ax_iadd dX12_init_207 (by decide) (pc' := 208) rfl ?_
  refine ax_reT (st2 := [.inl 2572, .inr 331]) rfl ?_
  refine ax_iconst dX12_init_208 (by decide) (pc' := 209) rfl ?_
  refine ax_iast dX12_init_209 (SN_sh 331 351 (by decide) h0_331) rfl (by decide) (by decide) (pc' := 210) rfl ?_
  refine ax_iinc dX12_init_210 rfl (by decide) (by decide) (ls' := [some (.inr 330), some (.inl 3)]) rfl (pc' := 213) rfl ?_
  refine ax_goto dX12_init_213 (pc' := 182) (by decide) ?_
  refine ax_iload_n dX12_init_182 rfl rfl (pc' := 183) rfl ?_
  refine ax_bipush dX12_init_183 (by decide) (pc' := 185) rfl ?_
  refine ax_icmp_ge (tgt := 216) dX12_init_185 (by decide) (pc' := 188) rfl (fun h => absurd h (by decide)) (fun _ => ?_)
  refine ax_aload_n dX12_init_188 rfl rfl (pc' := 189) rfl ?_
  refine ax_getr (v := 331) dX12_init_189 flX12_7 rfl (SN_sh 330 351 (by decide) h0_330) rfl (pc' := 192) rfl ?_
  refine ax_sipush dX12_init_192 (by decide) (pc' := 195) rfl ?_
  refine ax_iload_n dX12_init_195 rfl rfl (pc' := 196) rfl ?_
  refine ax_iadd dX12_init_196 (by decide) (pc' := 197) rfl ?_
  refine ax_reT (st2 := [.inl 2567, .inr 331]) rfl ?_
  refine ax_iconst dX12_init_197 (by decide) (pc' := 198) rfl ?_
  refine ax_iast dX12_init_198 (SN_sh 331 351 (by decide) h0_331) rfl (by decide) (by decide) (pc' := 199) rfl ?_
  refine ax_aload_n dX12_init_199 rfl rfl (pc' := 200) rfl ?_
  refine ax_getr (v := 331) dX12_init_200 flX12_7 rfl (SN_sh 330 351 (by decide) h0_330) rfl (pc' := 203) rfl ?_
  refine ax_sipush dX12_init_203 (by decide) (pc' := 206) rfl ?_
  refine ax_iload_n dX12_init_206 rfl rfl (pc' := 207) rfl ?_
  refine ax_iadd dX12_init_207 (by decide) (pc' := 208) rfl ?_
  refine ax_reT (st2 := [.inl 2573, .inr 331]) rfl ?_
  refine ax_iconst dX12_init_208 (by decide) (pc' := 209) rfl ?_
  refine ax_iast dX12_init_209 (SN_sh 331 351 (by decide) h0_331) rfl (by decide) (by decide) (pc' := 210) rfl ?_
  refine ax_iinc dX12_init_210 rfl (by decide) (by decide) (ls' := [some (.inr 330), some (.inl 4)]) rfl (pc' := 213) rfl ?_
  refine ax_goto dX12_init_213 (pc' := 182) (by decide) ?_
  refine ax_iload_n dX12_init_182 rfl rfl (pc' := 183) rfl ?_
  refine ax_bipush dX12_init_183 (by decide) (pc' := 185) rfl ?_
  refine ax_icmp_ge (tgt := 216) dX12_init_185 (by decide) (pc' := 188) rfl (fun h => absurd h (by decide)) (fun _ => ?_)
  refine ax_aload_n dX12_init_188 rfl rfl (pc' := 189) rfl ?_
  refine ax_getr (v := 331) dX12_init_189 flX12_7 rfl (SN_sh 330 351 (by decide) h0_330) rfl (pc' := 192) rfl ?_
  refine ax_sipush dX12_init_192 (by decide) (pc' := 195) rfl ?_
  refine ax_iload_n dX12_init_195 rfl rfl (pc' := 196) rfl ?_
  refine ax_iadd dX12_init_196 (by decide) (pc' := 197) rfl ?_
  refine ax_reT (st2 := [.inl 2568, .inr 331]) rfl ?_
  refine ax_iconst dX12_init_197 (by decide) (pc' := 198) rfl ?_
  refine ax_iast dX12_init_198 (SN_sh 331 351 (by decide) h0_331) rfl (by decide) (by decide) (pc' := 199) rfl ?_
  refine ax_aload_n dX12_init_199 rfl rfl (pc' := 200) rfl ?_
  refine ax_getr (v := 331) dX12_init_200 flX12_7 rfl (SN_sh 330 351 (by decide) h0_330) rfl (pc' := 203) rfl ?_
  refine ax_sipush dX12_init_203 (by decide) (pc' := 206) rfl ?_
  refine ax_iload_n dX12_init_206 rfl rfl (pc' := 207) rfl ?_
  refine ax_iadd dX12_init_207 (by decide) (pc' := 208) rfl ?_
  refine ax_reT (st2 := [.inl 2574, .inr 331]) rfl ?_
  refine ax_iconst dX12_init_208 (by decide) (pc' := 209) rfl ?_
  refine ax_iast dX12_init_209 (SN_sh 331 351 (by decide) h0_331) rfl (by decide) (by decide) (pc' := 210) rfl ?_
  refine ax_iinc dX12_init_210 rfl (by decide) (by decide) (ls' := [some (.inr 330), some (.inl 5)]) rfl (pc' := 213) rfl ?_
  refine ax_goto dX12_init_213 (pc' := 182) (by decide) ?_
  refine ax_iload_n dX12_init_182 rfl rfl (pc' := 183) rfl ?_
  refine ax_bipush dX12_init_183 (by decide) (pc' := 185) rfl ?_
  refine ax_icmp_ge (tgt := 216) dX12_init_185 (by decide) (pc' := 188) rfl (fun h => absurd h (by decide)) (fun _ => ?_)
  refine ax_aload_n dX12_init_188 rfl rfl (pc' := 189) rfl ?_
  refine ax_getr (v := 331) dX12_init_189 flX12_7 rfl (SN_sh 330 351 (by decide) h0_330) rfl (pc' := 192) rfl ?_
  refine ax_sipush dX12_init_192 (by decide) (pc' := 195) rfl ?_
  refine ax_iload_n dX12_init_195 rfl rfl (pc' := 196) rfl ?_
  refine ax_iadd dX12_init_196 (by decide) (pc' := 197) rfl ?_
  refine ax_reT (st2 := [.inl 2569, .inr 331]) rfl ?_
  refine ax_iconst dX12_init_197 (by decide) (pc' := 198) rfl ?_
  refine ax_iast dX12_init_198 (SN_sh 331 351 (by decide) h0_331) rfl (by decide) (by decide) (pc' := 199) rfl ?_
  refine ax_aload_n dX12_init_199 rfl rfl (pc' := 200) rfl ?_
  refine ax_getr (v := 331) dX12_init_200 flX12_7 rfl (SN_sh 330 351 (by decide) h0_330) rfl (pc' := 203) rfl ?_
  refine ax_sipush dX12_init_203 (by decide) (pc' := 206) rfl ?_
  refine ax_iload_n dX12_init_206 rfl rfl (pc' := 207) rfl ?_
  refine ax_iadd dX12_init_207 (by decide) (pc' := 208) rfl ?_
  refine ax_reT (st2 := [.inl 2575, .inr 331]) rfl ?_
  refine ax_iconst dX12_init_208 (by decide) (pc' := 209) rfl ?_
  refine ax_iast dX12_init_209 (SN_sh 331 351 (by decide) h0_331) rfl (by decide) (by decide) (pc' := 210) rfl ?_
  refine ax_iinc dX12_init_210 rfl (by decide) (by decide) (ls' := [some (.inr 330), some (.inl 6)]) rfl (pc' := 213) rfl ?_
  refine ax_goto dX12_init_213 (pc' := 182) (by decide) ?_
  refine ax_iload_n dX12_init_182 rfl rfl (pc' := 183) rfl ?_
  refine ax_bipush dX12_init_183 (by decide) (pc' := 185) rfl ?_
  refine ax_icmp_ge (tgt := 216) dX12_init_185 (by decide) (pc' := 188) rfl (fun _ => ?_) (fun h => absurd h (by decide))
  exact ax_vret dX12_init_216 rfl ⟨rfl, rfl, rfl⟩
