/-! the tape -/
def f_tkm (M : ax_Mem) (ta : Int → Int) (tn : Int) : Prop := M 58 1 = tn ∧ ∀ i, 0 ≤ i → i < tn → M 59 i = ta i
theorem f_lns_n {Ls : Int → List f_Ln} {w : Int → Int} {k : Int} (h : f_lw Ls w) (hk : 0 ≤ k ∧ k < 3) : ((Ls k).length : Int) = w (2634 + k) := by
  have := f_lns_len (h k hk.1 hk.2).2
  omega
set_option maxRecDepth 20000 in
theorem s_X11_fault (E : ax_Env) (l : Launch) (d : Nat) (hd : 0 ≤ d) (M : ax_Mem) (what : Int) {fk : Int} (hfk : M 58 2 = fk) {fp : Int} (hfp : M 58 3 = fp) : ax_G E l d iX11_fault [.inr 0, .inl what] M (fun z0 M2 => z0 = some (.inl (if what = 0 then fk else if what = 1 then fp else -1)) ∧ M = M2) := by
  refine ax_start rfl (Nat.le_of_ble_eq_true rfl) (ls := [some (.inr 0), some (.inl what)]) rfl (fun hav hcm => ?_)
  have hc1 : -2147483648 ≤ what ∧ what < 2147483648 := hav (.inl what) (by simp)
  clear hav
  refine ax_iload_n dX11_fault_0 rfl rfl (pc' := 1) rfl ?_
  by_cases h1_0 : what = 0
  · refine ax_reS (st2 := [.inl 0]) (by rw [h1_0]) ?_
    refine ax_look (tgt := 28) dX11_fault_1 (by decide) rfl (by decide) ?_
    refine ax_aload_n dX11_fault_28 rfl rfl (pc' := 29) rfl ?_
    refine ax_getr (v := 58) dX11_fault_29 flX11_33 rfl sh_0 rfl (pc' := 32) rfl ?_
    refine ax_geti (v := fk) dX11_fault_32 flX11_200 rfl sh_58 hfk rfl (pc' := 35) rfl ?_
    refine ax_iret dX11_fault_35 rfl ?_
    refine ⟨rfl, ?_, ?_⟩
    · refine congrArg (fun z => some (Sum.inl z)) ?_
      repeat' split
      all_goals first | rfl | omega | (exfalso; omega)
    · rfl
  by_cases h1_1 : what = 1
  · refine ax_reS (st2 := [.inl 1]) (by rw [h1_1]) ?_
    refine ax_look (tgt := 36) dX11_fault_1 (by decide) rfl (by decide) ?_
    refine ax_aload_n dX11_fault_36 rfl rfl (pc' := 37) rfl ?_
    refine ax_getr (v := 58) dX11_fault_37 flX11_33 rfl sh_0 rfl (pc' := 40) rfl ?_
    refine ax_geti (v := fp) dX11_fault_40 flX11_203 rfl sh_58 hfp rfl (pc' := 43) rfl ?_
    refine ax_iret dX11_fault_43 rfl ?_
    refine ⟨rfl, ?_, ?_⟩
    · refine congrArg (fun z => some (Sum.inl z)) ?_
      repeat' split
      all_goals first | rfl | omega | (exfalso; omega)
    · rfl
  refine ax_look (tgt := 44) (off := 43) dX11_fault_1 (by decide) (by simp [Op.lookupswitch.offset, h1_0, (show ¬ ((0 : Int) = what) from fun z => h1_0 z.symm), h1_1, (show ¬ ((1 : Int) = what) from fun z => h1_1 z.symm)]) (by decide) ?_
  refine ax_iconst dX11_fault_44 (by decide) (pc' := 45) rfl ?_
  refine ax_iret dX11_fault_45 rfl ?_
  refine ⟨rfl, ?_, ?_⟩
  · refine congrArg (fun z => some (Sum.inl z)) ?_
    repeat' split
    all_goals first | rfl | omega | (exfalso; omega)
  · rfl
set_option maxRecDepth 20000 in
theorem s_X11_end_no (E : ax_Env) (l : Launch) (d : Nat) (hd : 0 ≤ d) (M : ax_Mem) (n : Int) {tp : Int} (htp : M 58 1 = tp) (hg0 : ¬ (0 ≤ n ∧ n ≤ tp)) : ax_G E l d iX11_end [.inr 0, .inl n] M (fun z0 M2 => z0 = some (.inl 0) ∧ M = M2) := by
  refine ax_start rfl (Nat.le_of_ble_eq_true rfl) (ls := [some (.inr 0), some (.inl n)]) rfl (fun hav hcm => ?_)
  have hc1 : -2147483648 ≤ n ∧ n < 2147483648 := hav (.inl n) (by simp)
  clear hav
  refine ax_iload_n dX11_end_0 rfl rfl (pc' := 1) rfl ?_
  refine ax_if_lt (tgt := 15) dX11_end_1 (by decide) (pc' := 4) rfl (fun h1 => ?_) (fun h1 => ?_)
  · refine ax_iconst dX11_end_15 (by decide) (pc' := 16) rfl ?_
    refine ax_zret dX11_end_16 rfl (by decide) ?_
    refine ⟨rfl, ?_, ?_⟩
    · rfl
    · rfl
  · refine ax_iload_n dX11_end_4 rfl rfl (pc' := 5) rfl ?_
    refine ax_aload_n dX11_end_5 rfl rfl (pc' := 6) rfl ?_
    refine ax_getr (v := 58) dX11_end_6 flX11_33 rfl sh_0 rfl (pc' := 9) rfl ?_
    refine ax_geti (v := tp) dX11_end_9 flX11_195 rfl sh_58 htp rfl (pc' := 12) rfl ?_
    refine ax_icmp_le (tgt := 17) dX11_end_12 (by decide) (pc' := 15) rfl (fun h12 => ?_) (fun h12 => ?_)
    · exfalso
      omega
    · refine ax_iconst dX11_end_15 (by decide) (pc' := 16) rfl ?_
      refine ax_zret dX11_end_16 rfl (by decide) ?_
      refine ⟨rfl, ?_, ?_⟩
      · rfl
      · rfl
set_option maxRecDepth 20000 in
theorem s_X11_end_ok (E : ax_Env) (l : Launch) (d : Nat) (hd : 0 ≤ d) (M : ax_Mem) (n : Int) {tp : Int} (htp : M 58 1 = tp) (hg0 : 0 ≤ n ∧ n ≤ tp) : ax_G E l d iX11_end [.inr 0, .inl n] M (fun z0 M2 => z0 = some (.inl 1) ∧ (∀ x0 i0 : Int, ¬ ((x0 = 58 ∧ i0 = 1)) → M2 x0 i0 = M x0 i0) ∧ M2 58 1 = n) := by
  refine ax_start rfl (Nat.le_of_ble_eq_true rfl) (ls := [some (.inr 0), some (.inl n)]) rfl (fun hav hcm => ?_)
  have hc1 : -2147483648 ≤ n ∧ n < 2147483648 := hav (.inl n) (by simp)
  clear hav
  refine ax_iload_n dX11_end_0 rfl rfl (pc' := 1) rfl ?_
  refine ax_if_lt (tgt := 15) dX11_end_1 (by decide) (pc' := 4) rfl (fun h1 => ?_) (fun h1 => ?_)
  · exfalso
    omega
  · refine ax_iload_n dX11_end_4 rfl rfl (pc' := 5) rfl ?_
    refine ax_aload_n dX11_end_5 rfl rfl (pc' := 6) rfl ?_
    refine ax_getr (v := 58) dX11_end_6 flX11_33 rfl sh_0 rfl (pc' := 9) rfl ?_
    refine ax_geti (v := tp) dX11_end_9 flX11_195 rfl sh_58 htp rfl (pc' := 12) rfl ?_
    refine ax_icmp_le (tgt := 17) dX11_end_12 (by decide) (pc' := 15) rfl (fun h12 => ?_) (fun h12 => ?_)
    · refine ax_aload_n dX11_end_17 rfl rfl (pc' := 18) rfl ?_
      refine ax_getr (v := 58) dX11_end_18 flX11_33 rfl sh_0 rfl (pc' := 21) rfl ?_
      refine ax_iload_n dX11_end_21 rfl rfl (pc' := 22) rfl ?_
      refine ax_puti dX11_end_22 flX11_195 (Or.inl rfl) sh_58 rfl (pc' := 25) rfl ?_
      refine ax_iconst dX11_end_25 (by decide) (pc' := 26) rfl ?_
      refine ax_zret dX11_end_26 rfl (by decide) ?_
      refine ⟨rfl, ?_, ?_, ?_⟩
      · rfl
      · intro x0 i0 hai
        exact (ax_up_miss (fun h => hai h) rfl)
      · exact (ax_up_hit _ _ _ _)
    · exfalso
      omega
set_option maxRecDepth 20000 in
theorem s_X11_look (E : ax_Env) (l : Launch) (d : Nat) (hd : 1 ≤ d) (M : ax_Mem) (what : Int) (Ls : Int → List f_Ln) (w bk : Int → Int) (m : Int) (hg0 : f_nb M w) (hg1 : f_jv Ls w) (hg2 : f_pr M bk m w) (hg3 : f_lrn M 52 Ls) (hg4 : M 41 0 = w 2600) (hg5 : M 39 6 = w 2577) (hg6 : M 39 8 = w 2578) : ax_G E l d iX11_look [.inr 0, .inl what] M (fun z0 M2 => z0 = some (.inl (F_look w m what)) ∧ M = M2) := by
  obtain ⟨d, rfl⟩ : ∃ d0, d = d0 + 1 := ⟨d - 1, by omega⟩
  refine ax_start rfl (Nat.le_of_ble_eq_true rfl) (ls := [some (.inr 0), some (.inl what)]) rfl (fun hav hcm => ?_)
  have hc1 : -2147483648 ≤ what ∧ what < 2147483648 := hav (.inl what) (by simp)
  clear hav
  have qlo := hg1.1.2.2.1
  have qlb := hg1.1.2.2.2.1
  have q0 : M 1 0 = w 0 := hg0.1.1.1
  have q1 : M 1 1 = w 2576 := hg0.1.1.2.1
  have q2 : M 1 2 = w 2 := hg0.1.1.2.2.1
  have q3 : M 1 3 = w 1 := hg0.1.1.2.2.2
  have q5 : M 52 0 = w 2634 := (hg3 0 (by decide) (by decide)).1.trans (f_lns_n hg1.2.2 (by decide))
  have q6 : M 54 0 = w 2635 := (hg3 1 (by decide) (by decide)).1.trans (f_lns_n hg1.2.2 (by decide))
  have q7 : M 56 0 = w 2636 := (hg3 2 (by decide) (by decide)).1.trans (f_lns_n hg1.2.2 (by decide))
  have qm := hg2.1.1
  refine ax_iload_n dX11_look_0 rfl rfl (pc' := 1) rfl ?_
  refine ax_bipush dX11_look_1 (by decide) (pc' := 3) rfl ?_
  refine ax_icmp_lt (tgt := 25) dX11_look_3 (by decide) (pc' := 6) rfl (fun h3 => ?_) (fun h3 => ?_)
  · refine ax_iload_n dX11_look_25 rfl rfl (pc' := 26) rfl ?_
    refine ax_bipush dX11_look_26 (by decide) (pc' := 28) rfl ?_
    refine ax_icmp_lt (tgt := 50) dX11_look_28 (by decide) (pc' := 31) rfl (fun h28 => ?_) (fun h28 => ?_)
    · refine ax_iload_n dX11_look_50 rfl rfl (pc' := 51) rfl ?_
      by_cases h51_0 : what = 0
      · refine ax_reS (st2 := [.inl 0]) (by rw [h51_0]) ?_
        refine ax_tabIn (tgt := 112) dX11_look_51 (by decide) (by decide) rfl (by decide) ?_
        refine ax_aload_n dX11_look_112 rfl rfl (pc' := 113) rfl ?_
        refine ax_getr (v := 1) dX11_look_113 flX11_10 rfl sh_0 rfl (pc' := 116) rfl ?_
        refine ax_invG [] [] dX11_look_116 mlX11_391 sh_1 rfl rfl rfl (Nat.le_of_ble_eq_true rfl) (s_X9_ropeSet E l _ (by omega) _ w hg0.1 hg1.1.1) (pc' := 119) rfl (fun vv M_116 hq co116 hcm116 => ?_)
        obtain ⟨rfl, rfl⟩ := hq
        refine ax_reS (st2 := [.inl (f_set w)]) rfl ?_
        have cc116 : -2147483648 ≤ f_set w ∧ f_set w < 2147483648 := co116 _ rfl
        refine ax_iret dX11_look_119 rfl ?_
        refine ⟨rfl, ?_, ?_⟩
        · refine congrArg (fun z => some (Sum.inl z)) ?_
          unfold F_look
          rw [if_pos h51_0]
        · rfl
      by_cases h51_1 : what = 1
      · refine ax_reS (st2 := [.inl 1]) (by rw [h51_1]) ?_
        refine ax_tabIn (tgt := 120) dX11_look_51 (by decide) (by decide) rfl (by decide) ?_
        refine ax_aload_n dX11_look_120 rfl rfl (pc' := 121) rfl ?_
        refine ax_getr (v := 1) dX11_look_121 flX11_10 rfl sh_0 rfl (pc' := 124) rfl ?_
        refine ax_geti (v := M 1 0) dX11_look_124 flX11_122 rfl sh_1 rfl rfl (pc' := 127) rfl ?_
        refine ax_iret dX11_look_127 rfl ?_
        refine ⟨rfl, ?_, ?_⟩
        · refine congrArg (fun z => some (Sum.inl z)) ?_
          unfold F_look
          rw [if_neg h51_0, if_pos h51_1]
          exact q0
        · rfl
      by_cases h51_2 : what = 2
      · refine ax_reS (st2 := [.inl 2]) (by rw [h51_2]) ?_
        refine ax_tabIn (tgt := 128) dX11_look_51 (by decide) (by decide) rfl (by decide) ?_
        refine ax_aload_n dX11_look_128 rfl rfl (pc' := 129) rfl ?_
        refine ax_getr (v := 1) dX11_look_129 flX11_10 rfl sh_0 rfl (pc' := 132) rfl ?_
        refine ax_geti (v := M 1 1) dX11_look_132 flX11_129 rfl sh_1 rfl rfl (pc' := 135) rfl ?_
        refine ax_iret dX11_look_135 rfl ?_
        refine ⟨rfl, ?_, ?_⟩
        · refine congrArg (fun z => some (Sum.inl z)) ?_
          unfold F_look
          rw [if_neg h51_0, if_neg h51_1, if_pos h51_2]
          exact q1
        · rfl
      by_cases h51_3 : what = 3
      · refine ax_reS (st2 := [.inl 3]) (by rw [h51_3]) ?_
        refine ax_tabIn (tgt := 136) dX11_look_51 (by decide) (by decide) rfl (by decide) ?_
        refine ax_aload_n dX11_look_136 rfl rfl (pc' := 137) rfl ?_
        refine ax_getr (v := 1) dX11_look_137 flX11_10 rfl sh_0 rfl (pc' := 140) rfl ?_
        refine ax_geti (v := M 1 3) dX11_look_140 flX11_287 rfl sh_1 rfl rfl (pc' := 143) rfl ?_
        refine ax_iret dX11_look_143 rfl ?_
        refine ⟨rfl, ?_, ?_⟩
        · refine congrArg (fun z => some (Sum.inl z)) ?_
          unfold F_look
          rw [if_neg h51_0, if_neg h51_1, if_neg h51_2, if_pos h51_3]
          exact q3
        · rfl
      by_cases h51_4 : what = 4
      · refine ax_reS (st2 := [.inl 4]) (by rw [h51_4]) ?_
        refine ax_tabIn (tgt := 144) dX11_look_51 (by decide) (by decide) rfl (by decide) ?_
        refine ax_aload_n dX11_look_144 rfl rfl (pc' := 145) rfl ?_
        refine ax_getr (v := 1) dX11_look_145 flX11_10 rfl sh_0 rfl (pc' := 148) rfl ?_
        refine ax_geti (v := M 1 2) dX11_look_148 flX11_103 rfl sh_1 rfl rfl (pc' := 151) rfl ?_
        refine ax_iret dX11_look_151 rfl ?_
        refine ⟨rfl, ?_, ?_⟩
        · refine congrArg (fun z => some (Sum.inl z)) ?_
          unfold F_look
          rw [if_neg h51_0, if_neg h51_1, if_neg h51_2, if_neg h51_3, if_pos h51_4]
          exact q2
        · rfl
      by_cases h51_5 : what = 5
      · refine ax_reS (st2 := [.inl 5]) (by rw [h51_5]) ?_
        refine ax_tabIn (tgt := 152) dX11_look_51 (by decide) (by decide) rfl (by decide) ?_
        refine ax_aload_n dX11_look_152 rfl rfl (pc' := 153) rfl ?_
        refine ax_getr (v := 39) dX11_look_153 flX11_26 rfl sh_0 rfl (pc' := 156) rfl ?_
        refine ax_getr (v := 40) dX11_look_156 flX11_220 rfl sh_39 rfl (pc' := 159) rfl ?_
        refine ax_iconst dX11_look_159 (by decide) (pc' := 160) rfl ?_
        refine ax_aald (v := 52) dX11_look_160 sh_40 (by decide) (by decide) (by decide) rfl (pc' := 161) rfl ?_
        refine ax_geti (v := M 52 0) dX11_look_161 flX11_228 rfl sh_52 rfl rfl (pc' := 164) rfl ?_
        refine ax_iret dX11_look_164 rfl ?_
        refine ⟨rfl, ?_, ?_⟩
        · refine congrArg (fun z => some (Sum.inl z)) ?_
          unfold F_look
          rw [if_neg h51_0, if_neg h51_1, if_neg h51_2, if_neg h51_3, if_neg h51_4, if_pos h51_5]
          exact q5
        · rfl
      by_cases h51_6 : what = 6
      · refine ax_reS (st2 := [.inl 6]) (by rw [h51_6]) ?_
        refine ax_tabIn (tgt := 165) dX11_look_51 (by decide) (by decide) rfl (by decide) ?_
        refine ax_aload_n dX11_look_165 rfl rfl (pc' := 166) rfl ?_
        refine ax_getr (v := 39) dX11_look_166 flX11_26 rfl sh_0 rfl (pc' := 169) rfl ?_
        refine ax_getr (v := 40) dX11_look_169 flX11_220 rfl sh_39 rfl (pc' := 172) rfl ?_
        refine ax_iconst dX11_look_172 (by decide) (pc' := 173) rfl ?_
        refine ax_aald (v := 54) dX11_look_173 sh_40 (by decide) (by decide) (by decide) rfl (pc' := 174) rfl ?_
        refine ax_geti (v := M 54 0) dX11_look_174 flX11_228 rfl sh_54 rfl rfl (pc' := 177) rfl ?_
        refine ax_iret dX11_look_177 rfl ?_
        refine ⟨rfl, ?_, ?_⟩
        · refine congrArg (fun z => some (Sum.inl z)) ?_
          unfold F_look
          rw [if_neg h51_0, if_neg h51_1, if_neg h51_2, if_neg h51_3, if_neg h51_4, if_neg h51_5, if_pos h51_6]
          exact q6
        · rfl
      by_cases h51_7 : what = 7
      · refine ax_reS (st2 := [.inl 7]) (by rw [h51_7]) ?_
        refine ax_tabIn (tgt := 178) dX11_look_51 (by decide) (by decide) rfl (by decide) ?_
        refine ax_aload_n dX11_look_178 rfl rfl (pc' := 179) rfl ?_
        refine ax_getr (v := 39) dX11_look_179 flX11_26 rfl sh_0 rfl (pc' := 182) rfl ?_
        refine ax_getr (v := 40) dX11_look_182 flX11_220 rfl sh_39 rfl (pc' := 185) rfl ?_
        refine ax_iconst dX11_look_185 (by decide) (pc' := 186) rfl ?_
        refine ax_aald (v := 56) dX11_look_186 sh_40 (by decide) (by decide) (by decide) rfl (pc' := 187) rfl ?_
        refine ax_geti (v := M 56 0) dX11_look_187 flX11_228 rfl sh_56 rfl rfl (pc' := 190) rfl ?_
        refine ax_iret dX11_look_190 rfl ?_
        refine ⟨rfl, ?_, ?_⟩
        · refine congrArg (fun z => some (Sum.inl z)) ?_
          unfold F_look
          rw [if_neg h51_0, if_neg h51_1, if_neg h51_2, if_neg h51_3, if_neg h51_4, if_neg h51_5, if_neg h51_6, if_pos h51_7]
          exact q7
        · rfl
      by_cases h51_8 : what = 8
      · refine ax_reS (st2 := [.inl 8]) (by rw [h51_8]) ?_
        refine ax_tabIn (tgt := 191) dX11_look_51 (by decide) (by decide) rfl (by decide) ?_
        refine ax_aload_n dX11_look_191 rfl rfl (pc' := 192) rfl ?_
        refine ax_getr (v := 39) dX11_look_192 flX11_26 rfl sh_0 rfl (pc' := 195) rfl ?_
        refine ax_getr (v := 41) dX11_look_195 flX11_234 rfl sh_39 rfl (pc' := 198) rfl ?_
        refine ax_geti (v := M 41 0) dX11_look_198 flX11_240 rfl sh_41 rfl rfl (pc' := 201) rfl ?_
        refine ax_iret dX11_look_201 rfl ?_
        refine ⟨rfl, ?_, ?_⟩
        · refine congrArg (fun z => some (Sum.inl z)) ?_
          unfold F_look
          rw [if_neg h51_0, if_neg h51_1, if_neg h51_2, if_neg h51_3, if_neg h51_4, if_neg h51_5, if_neg h51_6, if_neg h51_7, if_pos h51_8]
          exact hg4
        · rfl
      by_cases h51_9 : what = 9
      · refine ax_reS (st2 := [.inl 9]) (by rw [h51_9]) ?_
        refine ax_tabIn (tgt := 202) dX11_look_51 (by decide) (by decide) rfl (by decide) ?_
        refine ax_aload_n dX11_look_202 rfl rfl (pc' := 203) rfl ?_
        refine ax_geti (v := M 0 12) dX11_look_203 flX11_107 rfl sh_0 rfl rfl (pc' := 206) rfl ?_
        refine ax_iret dX11_look_206 rfl ?_
        refine ⟨rfl, ?_, ?_⟩
        · refine congrArg (fun z => some (Sum.inl z)) ?_
          unfold F_look
          rw [if_neg h51_0, if_neg h51_1, if_neg h51_2, if_neg h51_3, if_neg h51_4, if_neg h51_5, if_neg h51_6, if_neg h51_7, if_neg h51_8, if_pos h51_9]
          exact qm
        · rfl
      by_cases h51_10 : what = 10
      · refine ax_reS (st2 := [.inl 10]) (by rw [h51_10]) ?_
        refine ax_tabIn (tgt := 207) dX11_look_51 (by decide) (by decide) rfl (by decide) ?_
        refine ax_aload_n dX11_look_207 rfl rfl (pc' := 208) rfl ?_
        refine ax_getr (v := 39) dX11_look_208 flX11_26 rfl sh_0 rfl (pc' := 211) rfl ?_
        refine ax_geti (v := M 39 6) dX11_look_211 flX11_313 rfl sh_39 rfl rfl (pc' := 214) rfl ?_
        refine ax_iret dX11_look_214 rfl ?_
        refine ⟨rfl, ?_, ?_⟩
        · refine congrArg (fun z => some (Sum.inl z)) ?_
          unfold F_look
          rw [if_neg h51_0, if_neg h51_1, if_neg h51_2, if_neg h51_3, if_neg h51_4, if_neg h51_5, if_neg h51_6, if_neg h51_7, if_neg h51_8, if_neg h51_9, if_pos h51_10]
          exact hg5
        · rfl
      by_cases h51_11 : what = 11
      · refine ax_reS (st2 := [.inl 11]) (by rw [h51_11]) ?_
        refine ax_tabIn (tgt := 215) dX11_look_51 (by decide) (by decide) rfl (by decide) ?_
        refine ax_aload_n dX11_look_215 rfl rfl (pc' := 216) rfl ?_
        refine ax_getr (v := 39) dX11_look_216 flX11_26 rfl sh_0 rfl (pc' := 219) rfl ?_
        refine ax_geti (v := M 39 8) dX11_look_219 flX11_337 rfl sh_39 rfl rfl (pc' := 222) rfl ?_
        refine ax_iret dX11_look_222 rfl ?_
        refine ⟨rfl, ?_, ?_⟩
        · refine congrArg (fun z => some (Sum.inl z)) ?_
          unfold F_look
          rw [if_neg h51_0, if_neg h51_1, if_neg h51_2, if_neg h51_3, if_neg h51_4, if_neg h51_5, if_neg h51_6, if_neg h51_7, if_neg h51_8, if_neg h51_9, if_neg h51_10, if_pos h51_11]
          exact hg6
        · rfl
      refine ax_tabOut (tgt := 223) dX11_look_51 (by omega) (by decide) ?_
      refine ax_iconst dX11_look_223 (by decide) (pc' := 224) rfl ?_
      refine ax_iret dX11_look_224 rfl ?_
      refine ⟨rfl, ?_, ?_⟩
      · refine congrArg (fun z => some (Sum.inl z)) ?_
        unfold F_look
        rw [if_neg h51_0, if_neg h51_1, if_neg h51_2, if_neg h51_3, if_neg h51_4, if_neg h51_5, if_neg h51_6, if_neg h51_7, if_neg h51_8, if_neg h51_9, if_neg h51_10, if_neg h51_11, if_neg (by omega), if_neg (by omega)]
      · rfl
    · refine ax_iload_n dX11_look_31 rfl rfl (pc' := 32) rfl ?_
      refine ax_bipush dX11_look_32 (by decide) (pc' := 34) rfl ?_
      refine ax_icmp_ge (tgt := 50) dX11_look_34 (by decide) (pc' := 37) rfl (fun h34 => ?_) (fun h34 => ?_)
      · refine ax_iload_n dX11_look_50 rfl rfl (pc' := 51) rfl ?_
        by_cases h51_0 : what = 0
        · refine ax_reS (st2 := [.inl 0]) (by rw [h51_0]) ?_
          refine ax_tabIn (tgt := 112) dX11_look_51 (by decide) (by decide) rfl (by decide) ?_
          refine ax_aload_n dX11_look_112 rfl rfl (pc' := 113) rfl ?_
          refine ax_getr (v := 1) dX11_look_113 flX11_10 rfl sh_0 rfl (pc' := 116) rfl ?_
          refine ax_invG [] [] dX11_look_116 mlX11_391 sh_1 rfl rfl rfl (Nat.le_of_ble_eq_true rfl) (s_X9_ropeSet E l _ (by omega) _ w hg0.1 hg1.1.1) (pc' := 119) rfl (fun vv M_116 hq co116 hcm116 => ?_)
          obtain ⟨rfl, rfl⟩ := hq
          refine ax_reS (st2 := [.inl (f_set w)]) rfl ?_
          have cc116 : -2147483648 ≤ f_set w ∧ f_set w < 2147483648 := co116 _ rfl
          refine ax_iret dX11_look_119 rfl ?_
          refine ⟨rfl, ?_, ?_⟩
          · refine congrArg (fun z => some (Sum.inl z)) ?_
            unfold F_look
            rw [if_pos h51_0]
          · rfl
        by_cases h51_1 : what = 1
        · refine ax_reS (st2 := [.inl 1]) (by rw [h51_1]) ?_
          refine ax_tabIn (tgt := 120) dX11_look_51 (by decide) (by decide) rfl (by decide) ?_
          refine ax_aload_n dX11_look_120 rfl rfl (pc' := 121) rfl ?_
          refine ax_getr (v := 1) dX11_look_121 flX11_10 rfl sh_0 rfl (pc' := 124) rfl ?_
          refine ax_geti (v := M 1 0) dX11_look_124 flX11_122 rfl sh_1 rfl rfl (pc' := 127) rfl ?_
          refine ax_iret dX11_look_127 rfl ?_
          refine ⟨rfl, ?_, ?_⟩
          · refine congrArg (fun z => some (Sum.inl z)) ?_
            unfold F_look
            rw [if_neg h51_0, if_pos h51_1]
            exact q0
          · rfl
        by_cases h51_2 : what = 2
        · refine ax_reS (st2 := [.inl 2]) (by rw [h51_2]) ?_
          refine ax_tabIn (tgt := 128) dX11_look_51 (by decide) (by decide) rfl (by decide) ?_
          refine ax_aload_n dX11_look_128 rfl rfl (pc' := 129) rfl ?_
          refine ax_getr (v := 1) dX11_look_129 flX11_10 rfl sh_0 rfl (pc' := 132) rfl ?_
          refine ax_geti (v := M 1 1) dX11_look_132 flX11_129 rfl sh_1 rfl rfl (pc' := 135) rfl ?_
          refine ax_iret dX11_look_135 rfl ?_
          refine ⟨rfl, ?_, ?_⟩
          · refine congrArg (fun z => some (Sum.inl z)) ?_
            unfold F_look
            rw [if_neg h51_0, if_neg h51_1, if_pos h51_2]
            exact q1
          · rfl
        by_cases h51_3 : what = 3
        · refine ax_reS (st2 := [.inl 3]) (by rw [h51_3]) ?_
          refine ax_tabIn (tgt := 136) dX11_look_51 (by decide) (by decide) rfl (by decide) ?_
          refine ax_aload_n dX11_look_136 rfl rfl (pc' := 137) rfl ?_
          refine ax_getr (v := 1) dX11_look_137 flX11_10 rfl sh_0 rfl (pc' := 140) rfl ?_
          refine ax_geti (v := M 1 3) dX11_look_140 flX11_287 rfl sh_1 rfl rfl (pc' := 143) rfl ?_
          refine ax_iret dX11_look_143 rfl ?_
          refine ⟨rfl, ?_, ?_⟩
          · refine congrArg (fun z => some (Sum.inl z)) ?_
            unfold F_look
            rw [if_neg h51_0, if_neg h51_1, if_neg h51_2, if_pos h51_3]
            exact q3
          · rfl
        by_cases h51_4 : what = 4
        · refine ax_reS (st2 := [.inl 4]) (by rw [h51_4]) ?_
          refine ax_tabIn (tgt := 144) dX11_look_51 (by decide) (by decide) rfl (by decide) ?_
          refine ax_aload_n dX11_look_144 rfl rfl (pc' := 145) rfl ?_
          refine ax_getr (v := 1) dX11_look_145 flX11_10 rfl sh_0 rfl (pc' := 148) rfl ?_
          refine ax_geti (v := M 1 2) dX11_look_148 flX11_103 rfl sh_1 rfl rfl (pc' := 151) rfl ?_
          refine ax_iret dX11_look_151 rfl ?_
          refine ⟨rfl, ?_, ?_⟩
          · refine congrArg (fun z => some (Sum.inl z)) ?_
            unfold F_look
            rw [if_neg h51_0, if_neg h51_1, if_neg h51_2, if_neg h51_3, if_pos h51_4]
            exact q2
          · rfl
        by_cases h51_5 : what = 5
        · refine ax_reS (st2 := [.inl 5]) (by rw [h51_5]) ?_
          refine ax_tabIn (tgt := 152) dX11_look_51 (by decide) (by decide) rfl (by decide) ?_
          refine ax_aload_n dX11_look_152 rfl rfl (pc' := 153) rfl ?_
          refine ax_getr (v := 39) dX11_look_153 flX11_26 rfl sh_0 rfl (pc' := 156) rfl ?_
          refine ax_getr (v := 40) dX11_look_156 flX11_220 rfl sh_39 rfl (pc' := 159) rfl ?_
          refine ax_iconst dX11_look_159 (by decide) (pc' := 160) rfl ?_
          refine ax_aald (v := 52) dX11_look_160 sh_40 (by decide) (by decide) (by decide) rfl (pc' := 161) rfl ?_
          refine ax_geti (v := M 52 0) dX11_look_161 flX11_228 rfl sh_52 rfl rfl (pc' := 164) rfl ?_
          refine ax_iret dX11_look_164 rfl ?_
          refine ⟨rfl, ?_, ?_⟩
          · refine congrArg (fun z => some (Sum.inl z)) ?_
            unfold F_look
            rw [if_neg h51_0, if_neg h51_1, if_neg h51_2, if_neg h51_3, if_neg h51_4, if_pos h51_5]
            exact q5
          · rfl
        by_cases h51_6 : what = 6
        · refine ax_reS (st2 := [.inl 6]) (by rw [h51_6]) ?_
          refine ax_tabIn (tgt := 165) dX11_look_51 (by decide) (by decide) rfl (by decide) ?_
          refine ax_aload_n dX11_look_165 rfl rfl (pc' := 166) rfl ?_
          refine ax_getr (v := 39) dX11_look_166 flX11_26 rfl sh_0 rfl (pc' := 169) rfl ?_
          refine ax_getr (v := 40) dX11_look_169 flX11_220 rfl sh_39 rfl (pc' := 172) rfl ?_
          refine ax_iconst dX11_look_172 (by decide) (pc' := 173) rfl ?_
          refine ax_aald (v := 54) dX11_look_173 sh_40 (by decide) (by decide) (by decide) rfl (pc' := 174) rfl ?_
          refine ax_geti (v := M 54 0) dX11_look_174 flX11_228 rfl sh_54 rfl rfl (pc' := 177) rfl ?_
          refine ax_iret dX11_look_177 rfl ?_
          refine ⟨rfl, ?_, ?_⟩
          · refine congrArg (fun z => some (Sum.inl z)) ?_
            unfold F_look
            rw [if_neg h51_0, if_neg h51_1, if_neg h51_2, if_neg h51_3, if_neg h51_4, if_neg h51_5, if_pos h51_6]
            exact q6
          · rfl
        by_cases h51_7 : what = 7
        · refine ax_reS (st2 := [.inl 7]) (by rw [h51_7]) ?_
          refine ax_tabIn (tgt := 178) dX11_look_51 (by decide) (by decide) rfl (by decide) ?_
          refine ax_aload_n dX11_look_178 rfl rfl (pc' := 179) rfl ?_
          refine ax_getr (v := 39) dX11_look_179 flX11_26 rfl sh_0 rfl (pc' := 182) rfl ?_
          refine ax_getr (v := 40) dX11_look_182 flX11_220 rfl sh_39 rfl (pc' := 185) rfl ?_
          refine ax_iconst dX11_look_185 (by decide) (pc' := 186) rfl ?_
          refine ax_aald (v := 56) dX11_look_186 sh_40 (by decide) (by decide) (by decide) rfl (pc' := 187) rfl ?_
          refine ax_geti (v := M 56 0) dX11_look_187 flX11_228 rfl sh_56 rfl rfl (pc' := 190) rfl ?_
          refine ax_iret dX11_look_190 rfl ?_
          refine ⟨rfl, ?_, ?_⟩
          · refine congrArg (fun z => some (Sum.inl z)) ?_
            unfold F_look
            rw [if_neg h51_0, if_neg h51_1, if_neg h51_2, if_neg h51_3, if_neg h51_4, if_neg h51_5, if_neg h51_6, if_pos h51_7]
            exact q7
          · rfl
        by_cases h51_8 : what = 8
        · refine ax_reS (st2 := [.inl 8]) (by rw [h51_8]) ?_
          refine ax_tabIn (tgt := 191) dX11_look_51 (by decide) (by decide) rfl (by decide) ?_
          refine ax_aload_n dX11_look_191 rfl rfl (pc' := 192) rfl ?_
          refine ax_getr (v := 39) dX11_look_192 flX11_26 rfl sh_0 rfl (pc' := 195) rfl ?_
          refine ax_getr (v := 41) dX11_look_195 flX11_234 rfl sh_39 rfl (pc' := 198) rfl ?_
          refine ax_geti (v := M 41 0) dX11_look_198 flX11_240 rfl sh_41 rfl rfl (pc' := 201) rfl ?_
          refine ax_iret dX11_look_201 rfl ?_
          refine ⟨rfl, ?_, ?_⟩
          · refine congrArg (fun z => some (Sum.inl z)) ?_
            unfold F_look
            rw [if_neg h51_0, if_neg h51_1, if_neg h51_2, if_neg h51_3, if_neg h51_4, if_neg h51_5, if_neg h51_6, if_neg h51_7, if_pos h51_8]
            exact hg4
          · rfl
        by_cases h51_9 : what = 9
        · refine ax_reS (st2 := [.inl 9]) (by rw [h51_9]) ?_
          refine ax_tabIn (tgt := 202) dX11_look_51 (by decide) (by decide) rfl (by decide) ?_
          refine ax_aload_n dX11_look_202 rfl rfl (pc' := 203) rfl ?_
          refine ax_geti (v := M 0 12) dX11_look_203 flX11_107 rfl sh_0 rfl rfl (pc' := 206) rfl ?_
          refine ax_iret dX11_look_206 rfl ?_
          refine ⟨rfl, ?_, ?_⟩
          · refine congrArg (fun z => some (Sum.inl z)) ?_
            unfold F_look
            rw [if_neg h51_0, if_neg h51_1, if_neg h51_2, if_neg h51_3, if_neg h51_4, if_neg h51_5, if_neg h51_6, if_neg h51_7, if_neg h51_8, if_pos h51_9]
            exact qm
          · rfl
        by_cases h51_10 : what = 10
        · refine ax_reS (st2 := [.inl 10]) (by rw [h51_10]) ?_
          refine ax_tabIn (tgt := 207) dX11_look_51 (by decide) (by decide) rfl (by decide) ?_
          refine ax_aload_n dX11_look_207 rfl rfl (pc' := 208) rfl ?_
          refine ax_getr (v := 39) dX11_look_208 flX11_26 rfl sh_0 rfl (pc' := 211) rfl ?_
          refine ax_geti (v := M 39 6) dX11_look_211 flX11_313 rfl sh_39 rfl rfl (pc' := 214) rfl ?_
          refine ax_iret dX11_look_214 rfl ?_
          refine ⟨rfl, ?_, ?_⟩
          · refine congrArg (fun z => some (Sum.inl z)) ?_
            unfold F_look
            rw [if_neg h51_0, if_neg h51_1, if_neg h51_2, if_neg h51_3, if_neg h51_4, if_neg h51_5, if_neg h51_6, if_neg h51_7, if_neg h51_8, if_neg h51_9, if_pos h51_10]
            exact hg5
          · rfl
        by_cases h51_11 : what = 11
        · refine ax_reS (st2 := [.inl 11]) (by rw [h51_11]) ?_
          refine ax_tabIn (tgt := 215) dX11_look_51 (by decide) (by decide) rfl (by decide) ?_
          refine ax_aload_n dX11_look_215 rfl rfl (pc' := 216) rfl ?_
          refine ax_getr (v := 39) dX11_look_216 flX11_26 rfl sh_0 rfl (pc' := 219) rfl ?_
          refine ax_geti (v := M 39 8) dX11_look_219 flX11_337 rfl sh_39 rfl rfl (pc' := 222) rfl ?_
          refine ax_iret dX11_look_222 rfl ?_
          refine ⟨rfl, ?_, ?_⟩
          · refine congrArg (fun z => some (Sum.inl z)) ?_
            unfold F_look
            rw [if_neg h51_0, if_neg h51_1, if_neg h51_2, if_neg h51_3, if_neg h51_4, if_neg h51_5, if_neg h51_6, if_neg h51_7, if_neg h51_8, if_neg h51_9, if_neg h51_10, if_pos h51_11]
            exact hg6
          · rfl
        refine ax_tabOut (tgt := 223) dX11_look_51 (by omega) (by decide) ?_
        refine ax_iconst dX11_look_223 (by decide) (pc' := 224) rfl ?_
        refine ax_iret dX11_look_224 rfl ?_
        refine ⟨rfl, ?_, ?_⟩
        · refine congrArg (fun z => some (Sum.inl z)) ?_
          unfold F_look
          rw [if_neg h51_0, if_neg h51_1, if_neg h51_2, if_neg h51_3, if_neg h51_4, if_neg h51_5, if_neg h51_6, if_neg h51_7, if_neg h51_8, if_neg h51_9, if_neg h51_10, if_neg h51_11, if_neg (by omega), if_neg (by omega)]
        · rfl
      · have qt := (hg0.1.2.1 (what - 30) (by omega) (by omega)).2
        refine ax_aload_n dX11_look_37 rfl rfl (pc' := 38) rfl ?_
        refine ax_getr (v := 1) dX11_look_38 flX11_10 rfl sh_0 rfl (pc' := 41) rfl ?_
        refine ax_getr (v := 3) dX11_look_41 flX11_136 rfl sh_1 rfl (pc' := 44) rfl ?_
        refine ax_iload_n dX11_look_44 rfl rfl (pc' := 45) rfl ?_
        refine ax_bipush dX11_look_45 (by decide) (pc' := 47) rfl ?_
        refine ax_isub dX11_look_47 (by omega) (pc' := 48) rfl ?_
        refine ax_iald (v := (M 3) (what - 30)) dX11_look_48 sh_3 rfl (by omega) (by omega) ((congrFun rfl (what - 30)).trans rfl) (pc' := 49) rfl ?_
        refine ax_iret dX11_look_49 rfl ?_
        refine ⟨rfl, ?_, ?_⟩
        · refine congrArg (fun z => some (Sum.inl z)) ?_
          unfold F_look
          rw [if_neg (by omega), if_neg (by omega), if_neg (by omega), if_neg (by omega), if_neg (by omega), if_neg (by omega), if_neg (by omega), if_neg (by omega), if_neg (by omega), if_neg (by omega), if_neg (by omega), if_neg (by omega), if_neg (by omega), if_pos (by omega), show 2570 + what - 30 = 2570 + (what - 30) by omega]
          exact qt
        · rfl
  · refine ax_iload_n dX11_look_6 rfl rfl (pc' := 7) rfl ?_
    refine ax_bipush dX11_look_7 (by decide) (pc' := 9) rfl ?_
    refine ax_icmp_ge (tgt := 25) dX11_look_9 (by decide) (pc' := 12) rfl (fun h9 => ?_) (fun h9 => ?_)
    · refine ax_iload_n dX11_look_25 rfl rfl (pc' := 26) rfl ?_
      refine ax_bipush dX11_look_26 (by decide) (pc' := 28) rfl ?_
      refine ax_icmp_lt (tgt := 50) dX11_look_28 (by decide) (pc' := 31) rfl (fun h28 => ?_) (fun h28 => ?_)
      · refine ax_iload_n dX11_look_50 rfl rfl (pc' := 51) rfl ?_
        by_cases h51_0 : what = 0
        · refine ax_reS (st2 := [.inl 0]) (by rw [h51_0]) ?_
          refine ax_tabIn (tgt := 112) dX11_look_51 (by decide) (by decide) rfl (by decide) ?_
          refine ax_aload_n dX11_look_112 rfl rfl (pc' := 113) rfl ?_
          refine ax_getr (v := 1) dX11_look_113 flX11_10 rfl sh_0 rfl (pc' := 116) rfl ?_
          refine ax_invG [] [] dX11_look_116 mlX11_391 sh_1 rfl rfl rfl (Nat.le_of_ble_eq_true rfl) (s_X9_ropeSet E l _ (by omega) _ w hg0.1 hg1.1.1) (pc' := 119) rfl (fun vv M_116 hq co116 hcm116 => ?_)
          obtain ⟨rfl, rfl⟩ := hq
          refine ax_reS (st2 := [.inl (f_set w)]) rfl ?_
          have cc116 : -2147483648 ≤ f_set w ∧ f_set w < 2147483648 := co116 _ rfl
          refine ax_iret dX11_look_119 rfl ?_
          refine ⟨rfl, ?_, ?_⟩
          · refine congrArg (fun z => some (Sum.inl z)) ?_
            unfold F_look
            rw [if_pos h51_0]
          · rfl
        by_cases h51_1 : what = 1
        · refine ax_reS (st2 := [.inl 1]) (by rw [h51_1]) ?_
          refine ax_tabIn (tgt := 120) dX11_look_51 (by decide) (by decide) rfl (by decide) ?_
          refine ax_aload_n dX11_look_120 rfl rfl (pc' := 121) rfl ?_
          refine ax_getr (v := 1) dX11_look_121 flX11_10 rfl sh_0 rfl (pc' := 124) rfl ?_
          refine ax_geti (v := M 1 0) dX11_look_124 flX11_122 rfl sh_1 rfl rfl (pc' := 127) rfl ?_
          refine ax_iret dX11_look_127 rfl ?_
          refine ⟨rfl, ?_, ?_⟩
          · refine congrArg (fun z => some (Sum.inl z)) ?_
            unfold F_look
            rw [if_neg h51_0, if_pos h51_1]
            exact q0
          · rfl
        by_cases h51_2 : what = 2
        · refine ax_reS (st2 := [.inl 2]) (by rw [h51_2]) ?_
          refine ax_tabIn (tgt := 128) dX11_look_51 (by decide) (by decide) rfl (by decide) ?_
          refine ax_aload_n dX11_look_128 rfl rfl (pc' := 129) rfl ?_
          refine ax_getr (v := 1) dX11_look_129 flX11_10 rfl sh_0 rfl (pc' := 132) rfl ?_
          refine ax_geti (v := M 1 1) dX11_look_132 flX11_129 rfl sh_1 rfl rfl (pc' := 135) rfl ?_
          refine ax_iret dX11_look_135 rfl ?_
          refine ⟨rfl, ?_, ?_⟩
          · refine congrArg (fun z => some (Sum.inl z)) ?_
            unfold F_look
            rw [if_neg h51_0, if_neg h51_1, if_pos h51_2]
            exact q1
          · rfl
        by_cases h51_3 : what = 3
        · refine ax_reS (st2 := [.inl 3]) (by rw [h51_3]) ?_
          refine ax_tabIn (tgt := 136) dX11_look_51 (by decide) (by decide) rfl (by decide) ?_
          refine ax_aload_n dX11_look_136 rfl rfl (pc' := 137) rfl ?_
          refine ax_getr (v := 1) dX11_look_137 flX11_10 rfl sh_0 rfl (pc' := 140) rfl ?_
          refine ax_geti (v := M 1 3) dX11_look_140 flX11_287 rfl sh_1 rfl rfl (pc' := 143) rfl ?_
          refine ax_iret dX11_look_143 rfl ?_
          refine ⟨rfl, ?_, ?_⟩
          · refine congrArg (fun z => some (Sum.inl z)) ?_
            unfold F_look
            rw [if_neg h51_0, if_neg h51_1, if_neg h51_2, if_pos h51_3]
            exact q3
          · rfl
        by_cases h51_4 : what = 4
        · refine ax_reS (st2 := [.inl 4]) (by rw [h51_4]) ?_
          refine ax_tabIn (tgt := 144) dX11_look_51 (by decide) (by decide) rfl (by decide) ?_
          refine ax_aload_n dX11_look_144 rfl rfl (pc' := 145) rfl ?_
          refine ax_getr (v := 1) dX11_look_145 flX11_10 rfl sh_0 rfl (pc' := 148) rfl ?_
          refine ax_geti (v := M 1 2) dX11_look_148 flX11_103 rfl sh_1 rfl rfl (pc' := 151) rfl ?_
          refine ax_iret dX11_look_151 rfl ?_
          refine ⟨rfl, ?_, ?_⟩
          · refine congrArg (fun z => some (Sum.inl z)) ?_
            unfold F_look
            rw [if_neg h51_0, if_neg h51_1, if_neg h51_2, if_neg h51_3, if_pos h51_4]
            exact q2
          · rfl
        by_cases h51_5 : what = 5
        · refine ax_reS (st2 := [.inl 5]) (by rw [h51_5]) ?_
          refine ax_tabIn (tgt := 152) dX11_look_51 (by decide) (by decide) rfl (by decide) ?_
          refine ax_aload_n dX11_look_152 rfl rfl (pc' := 153) rfl ?_
          refine ax_getr (v := 39) dX11_look_153 flX11_26 rfl sh_0 rfl (pc' := 156) rfl ?_
          refine ax_getr (v := 40) dX11_look_156 flX11_220 rfl sh_39 rfl (pc' := 159) rfl ?_
          refine ax_iconst dX11_look_159 (by decide) (pc' := 160) rfl ?_
          refine ax_aald (v := 52) dX11_look_160 sh_40 (by decide) (by decide) (by decide) rfl (pc' := 161) rfl ?_
          refine ax_geti (v := M 52 0) dX11_look_161 flX11_228 rfl sh_52 rfl rfl (pc' := 164) rfl ?_
          refine ax_iret dX11_look_164 rfl ?_
          refine ⟨rfl, ?_, ?_⟩
          · refine congrArg (fun z => some (Sum.inl z)) ?_
            unfold F_look
            rw [if_neg h51_0, if_neg h51_1, if_neg h51_2, if_neg h51_3, if_neg h51_4, if_pos h51_5]
            exact q5
          · rfl
        by_cases h51_6 : what = 6
        · refine ax_reS (st2 := [.inl 6]) (by rw [h51_6]) ?_
          refine ax_tabIn (tgt := 165) dX11_look_51 (by decide) (by decide) rfl (by decide) ?_
          refine ax_aload_n dX11_look_165 rfl rfl (pc' := 166) rfl ?_
          refine ax_getr (v := 39) dX11_look_166 flX11_26 rfl sh_0 rfl (pc' := 169) rfl ?_
          refine ax_getr (v := 40) dX11_look_169 flX11_220 rfl sh_39 rfl (pc' := 172) rfl ?_
          refine ax_iconst dX11_look_172 (by decide) (pc' := 173) rfl ?_
          refine ax_aald (v := 54) dX11_look_173 sh_40 (by decide) (by decide) (by decide) rfl (pc' := 174) rfl ?_
          refine ax_geti (v := M 54 0) dX11_look_174 flX11_228 rfl sh_54 rfl rfl (pc' := 177) rfl ?_
          refine ax_iret dX11_look_177 rfl ?_
          refine ⟨rfl, ?_, ?_⟩
          · refine congrArg (fun z => some (Sum.inl z)) ?_
            unfold F_look
            rw [if_neg h51_0, if_neg h51_1, if_neg h51_2, if_neg h51_3, if_neg h51_4, if_neg h51_5, if_pos h51_6]
            exact q6
          · rfl
        by_cases h51_7 : what = 7
        · refine ax_reS (st2 := [.inl 7]) (by rw [h51_7]) ?_
          refine ax_tabIn (tgt := 178) dX11_look_51 (by decide) (by decide) rfl (by decide) ?_
          refine ax_aload_n dX11_look_178 rfl rfl (pc' := 179) rfl ?_
          refine ax_getr (v := 39) dX11_look_179 flX11_26 rfl sh_0 rfl (pc' := 182) rfl ?_
          refine ax_getr (v := 40) dX11_look_182 flX11_220 rfl sh_39 rfl (pc' := 185) rfl ?_
          refine ax_iconst dX11_look_185 (by decide) (pc' := 186) rfl ?_
          refine ax_aald (v := 56) dX11_look_186 sh_40 (by decide) (by decide) (by decide) rfl (pc' := 187) rfl ?_
          refine ax_geti (v := M 56 0) dX11_look_187 flX11_228 rfl sh_56 rfl rfl (pc' := 190) rfl ?_
          refine ax_iret dX11_look_190 rfl ?_
          refine ⟨rfl, ?_, ?_⟩
          · refine congrArg (fun z => some (Sum.inl z)) ?_
            unfold F_look
            rw [if_neg h51_0, if_neg h51_1, if_neg h51_2, if_neg h51_3, if_neg h51_4, if_neg h51_5, if_neg h51_6, if_pos h51_7]
            exact q7
          · rfl
        by_cases h51_8 : what = 8
        · refine ax_reS (st2 := [.inl 8]) (by rw [h51_8]) ?_
          refine ax_tabIn (tgt := 191) dX11_look_51 (by decide) (by decide) rfl (by decide) ?_
          refine ax_aload_n dX11_look_191 rfl rfl (pc' := 192) rfl ?_
          refine ax_getr (v := 39) dX11_look_192 flX11_26 rfl sh_0 rfl (pc' := 195) rfl ?_
          refine ax_getr (v := 41) dX11_look_195 flX11_234 rfl sh_39 rfl (pc' := 198) rfl ?_
          refine ax_geti (v := M 41 0) dX11_look_198 flX11_240 rfl sh_41 rfl rfl (pc' := 201) rfl ?_
          refine ax_iret dX11_look_201 rfl ?_
          refine ⟨rfl, ?_, ?_⟩
          · refine congrArg (fun z => some (Sum.inl z)) ?_
            unfold F_look
            rw [if_neg h51_0, if_neg h51_1, if_neg h51_2, if_neg h51_3, if_neg h51_4, if_neg h51_5, if_neg h51_6, if_neg h51_7, if_pos h51_8]
            exact hg4
          · rfl
        by_cases h51_9 : what = 9
        · refine ax_reS (st2 := [.inl 9]) (by rw [h51_9]) ?_
          refine ax_tabIn (tgt := 202) dX11_look_51 (by decide) (by decide) rfl (by decide) ?_
          refine ax_aload_n dX11_look_202 rfl rfl (pc' := 203) rfl ?_
          refine ax_geti (v := M 0 12) dX11_look_203 flX11_107 rfl sh_0 rfl rfl (pc' := 206) rfl ?_
          refine ax_iret dX11_look_206 rfl ?_
          refine ⟨rfl, ?_, ?_⟩
          · refine congrArg (fun z => some (Sum.inl z)) ?_
            unfold F_look
            rw [if_neg h51_0, if_neg h51_1, if_neg h51_2, if_neg h51_3, if_neg h51_4, if_neg h51_5, if_neg h51_6, if_neg h51_7, if_neg h51_8, if_pos h51_9]
            exact qm
          · rfl
        by_cases h51_10 : what = 10
        · refine ax_reS (st2 := [.inl 10]) (by rw [h51_10]) ?_
          refine ax_tabIn (tgt := 207) dX11_look_51 (by decide) (by decide) rfl (by decide) ?_
          refine ax_aload_n dX11_look_207 rfl rfl (pc' := 208) rfl ?_
          refine ax_getr (v := 39) dX11_look_208 flX11_26 rfl sh_0 rfl (pc' := 211) rfl ?_
          refine ax_geti (v := M 39 6) dX11_look_211 flX11_313 rfl sh_39 rfl rfl (pc' := 214) rfl ?_
          refine ax_iret dX11_look_214 rfl ?_
          refine ⟨rfl, ?_, ?_⟩
          · refine congrArg (fun z => some (Sum.inl z)) ?_
            unfold F_look
            rw [if_neg h51_0, if_neg h51_1, if_neg h51_2, if_neg h51_3, if_neg h51_4, if_neg h51_5, if_neg h51_6, if_neg h51_7, if_neg h51_8, if_neg h51_9, if_pos h51_10]
            exact hg5
          · rfl
        by_cases h51_11 : what = 11
        · refine ax_reS (st2 := [.inl 11]) (by rw [h51_11]) ?_
          refine ax_tabIn (tgt := 215) dX11_look_51 (by decide) (by decide) rfl (by decide) ?_
          refine ax_aload_n dX11_look_215 rfl rfl (pc' := 216) rfl ?_
          refine ax_getr (v := 39) dX11_look_216 flX11_26 rfl sh_0 rfl (pc' := 219) rfl ?_
          refine ax_geti (v := M 39 8) dX11_look_219 flX11_337 rfl sh_39 rfl rfl (pc' := 222) rfl ?_
          refine ax_iret dX11_look_222 rfl ?_
          refine ⟨rfl, ?_, ?_⟩
          · refine congrArg (fun z => some (Sum.inl z)) ?_
            unfold F_look
            rw [if_neg h51_0, if_neg h51_1, if_neg h51_2, if_neg h51_3, if_neg h51_4, if_neg h51_5, if_neg h51_6, if_neg h51_7, if_neg h51_8, if_neg h51_9, if_neg h51_10, if_pos h51_11]
            exact hg6
          · rfl
        refine ax_tabOut (tgt := 223) dX11_look_51 (by omega) (by decide) ?_
        refine ax_iconst dX11_look_223 (by decide) (pc' := 224) rfl ?_
        refine ax_iret dX11_look_224 rfl ?_
        refine ⟨rfl, ?_, ?_⟩
        · refine congrArg (fun z => some (Sum.inl z)) ?_
          unfold F_look
          rw [if_neg h51_0, if_neg h51_1, if_neg h51_2, if_neg h51_3, if_neg h51_4, if_neg h51_5, if_neg h51_6, if_neg h51_7, if_neg h51_8, if_neg h51_9, if_neg h51_10, if_neg h51_11, if_neg (by omega), if_neg (by omega)]
        · rfl
      · refine ax_iload_n dX11_look_31 rfl rfl (pc' := 32) rfl ?_
        refine ax_bipush dX11_look_32 (by decide) (pc' := 34) rfl ?_
        refine ax_icmp_ge (tgt := 50) dX11_look_34 (by decide) (pc' := 37) rfl (fun h34 => ?_) (fun h34 => ?_)
        · refine ax_iload_n dX11_look_50 rfl rfl (pc' := 51) rfl ?_
          by_cases h51_0 : what = 0
          · refine ax_reS (st2 := [.inl 0]) (by rw [h51_0]) ?_
            refine ax_tabIn (tgt := 112) dX11_look_51 (by decide) (by decide) rfl (by decide) ?_
            refine ax_aload_n dX11_look_112 rfl rfl (pc' := 113) rfl ?_
            refine ax_getr (v := 1) dX11_look_113 flX11_10 rfl sh_0 rfl (pc' := 116) rfl ?_
            refine ax_invG [] [] dX11_look_116 mlX11_391 sh_1 rfl rfl rfl (Nat.le_of_ble_eq_true rfl) (s_X9_ropeSet E l _ (by omega) _ w hg0.1 hg1.1.1) (pc' := 119) rfl (fun vv M_116 hq co116 hcm116 => ?_)
            obtain ⟨rfl, rfl⟩ := hq
            refine ax_reS (st2 := [.inl (f_set w)]) rfl ?_
            have cc116 : -2147483648 ≤ f_set w ∧ f_set w < 2147483648 := co116 _ rfl
            refine ax_iret dX11_look_119 rfl ?_
            refine ⟨rfl, ?_, ?_⟩
            · refine congrArg (fun z => some (Sum.inl z)) ?_
              unfold F_look
              rw [if_pos h51_0]
            · rfl
          by_cases h51_1 : what = 1
          · refine ax_reS (st2 := [.inl 1]) (by rw [h51_1]) ?_
            refine ax_tabIn (tgt := 120) dX11_look_51 (by decide) (by decide) rfl (by decide) ?_
            refine ax_aload_n dX11_look_120 rfl rfl (pc' := 121) rfl ?_
            refine ax_getr (v := 1) dX11_look_121 flX11_10 rfl sh_0 rfl (pc' := 124) rfl ?_
            refine ax_geti (v := M 1 0) dX11_look_124 flX11_122 rfl sh_1 rfl rfl (pc' := 127) rfl ?_
            refine ax_iret dX11_look_127 rfl ?_
            refine ⟨rfl, ?_, ?_⟩
            · refine congrArg (fun z => some (Sum.inl z)) ?_
              unfold F_look
              rw [if_neg h51_0, if_pos h51_1]
              exact q0
            · rfl
          by_cases h51_2 : what = 2
          · refine ax_reS (st2 := [.inl 2]) (by rw [h51_2]) ?_
            refine ax_tabIn (tgt := 128) dX11_look_51 (by decide) (by decide) rfl (by decide) ?_
            refine ax_aload_n dX11_look_128 rfl rfl (pc' := 129) rfl ?_
            refine ax_getr (v := 1) dX11_look_129 flX11_10 rfl sh_0 rfl (pc' := 132) rfl ?_
            refine ax_geti (v := M 1 1) dX11_look_132 flX11_129 rfl sh_1 rfl rfl (pc' := 135) rfl ?_
            refine ax_iret dX11_look_135 rfl ?_
            refine ⟨rfl, ?_, ?_⟩
            · refine congrArg (fun z => some (Sum.inl z)) ?_
              unfold F_look
              rw [if_neg h51_0, if_neg h51_1, if_pos h51_2]
              exact q1
            · rfl
          by_cases h51_3 : what = 3
          · refine ax_reS (st2 := [.inl 3]) (by rw [h51_3]) ?_
            refine ax_tabIn (tgt := 136) dX11_look_51 (by decide) (by decide) rfl (by decide) ?_
            refine ax_aload_n dX11_look_136 rfl rfl (pc' := 137) rfl ?_
            refine ax_getr (v := 1) dX11_look_137 flX11_10 rfl sh_0 rfl (pc' := 140) rfl ?_
            refine ax_geti (v := M 1 3) dX11_look_140 flX11_287 rfl sh_1 rfl rfl (pc' := 143) rfl ?_
            refine ax_iret dX11_look_143 rfl ?_
            refine ⟨rfl, ?_, ?_⟩
            · refine congrArg (fun z => some (Sum.inl z)) ?_
              unfold F_look
              rw [if_neg h51_0, if_neg h51_1, if_neg h51_2, if_pos h51_3]
              exact q3
            · rfl
          by_cases h51_4 : what = 4
          · refine ax_reS (st2 := [.inl 4]) (by rw [h51_4]) ?_
            refine ax_tabIn (tgt := 144) dX11_look_51 (by decide) (by decide) rfl (by decide) ?_
            refine ax_aload_n dX11_look_144 rfl rfl (pc' := 145) rfl ?_
            refine ax_getr (v := 1) dX11_look_145 flX11_10 rfl sh_0 rfl (pc' := 148) rfl ?_
            refine ax_geti (v := M 1 2) dX11_look_148 flX11_103 rfl sh_1 rfl rfl (pc' := 151) rfl ?_
            refine ax_iret dX11_look_151 rfl ?_
            refine ⟨rfl, ?_, ?_⟩
            · refine congrArg (fun z => some (Sum.inl z)) ?_
              unfold F_look
              rw [if_neg h51_0, if_neg h51_1, if_neg h51_2, if_neg h51_3, if_pos h51_4]
              exact q2
            · rfl
          by_cases h51_5 : what = 5
          · refine ax_reS (st2 := [.inl 5]) (by rw [h51_5]) ?_
            refine ax_tabIn (tgt := 152) dX11_look_51 (by decide) (by decide) rfl (by decide) ?_
            refine ax_aload_n dX11_look_152 rfl rfl (pc' := 153) rfl ?_
            refine ax_getr (v := 39) dX11_look_153 flX11_26 rfl sh_0 rfl (pc' := 156) rfl ?_
            refine ax_getr (v := 40) dX11_look_156 flX11_220 rfl sh_39 rfl (pc' := 159) rfl ?_
            refine ax_iconst dX11_look_159 (by decide) (pc' := 160) rfl ?_
            refine ax_aald (v := 52) dX11_look_160 sh_40 (by decide) (by decide) (by decide) rfl (pc' := 161) rfl ?_
            refine ax_geti (v := M 52 0) dX11_look_161 flX11_228 rfl sh_52 rfl rfl (pc' := 164) rfl ?_
            refine ax_iret dX11_look_164 rfl ?_
            refine ⟨rfl, ?_, ?_⟩
            · refine congrArg (fun z => some (Sum.inl z)) ?_
              unfold F_look
              rw [if_neg h51_0, if_neg h51_1, if_neg h51_2, if_neg h51_3, if_neg h51_4, if_pos h51_5]
              exact q5
            · rfl
          by_cases h51_6 : what = 6
          · refine ax_reS (st2 := [.inl 6]) (by rw [h51_6]) ?_
            refine ax_tabIn (tgt := 165) dX11_look_51 (by decide) (by decide) rfl (by decide) ?_
            refine ax_aload_n dX11_look_165 rfl rfl (pc' := 166) rfl ?_
            refine ax_getr (v := 39) dX11_look_166 flX11_26 rfl sh_0 rfl (pc' := 169) rfl ?_
            refine ax_getr (v := 40) dX11_look_169 flX11_220 rfl sh_39 rfl (pc' := 172) rfl ?_
            refine ax_iconst dX11_look_172 (by decide) (pc' := 173) rfl ?_
            refine ax_aald (v := 54) dX11_look_173 sh_40 (by decide) (by decide) (by decide) rfl (pc' := 174) rfl ?_
            refine ax_geti (v := M 54 0) dX11_look_174 flX11_228 rfl sh_54 rfl rfl (pc' := 177) rfl ?_
            refine ax_iret dX11_look_177 rfl ?_
            refine ⟨rfl, ?_, ?_⟩
            · refine congrArg (fun z => some (Sum.inl z)) ?_
              unfold F_look
              rw [if_neg h51_0, if_neg h51_1, if_neg h51_2, if_neg h51_3, if_neg h51_4, if_neg h51_5, if_pos h51_6]
              exact q6
            · rfl
          by_cases h51_7 : what = 7
          · refine ax_reS (st2 := [.inl 7]) (by rw [h51_7]) ?_
            refine ax_tabIn (tgt := 178) dX11_look_51 (by decide) (by decide) rfl (by decide) ?_
            refine ax_aload_n dX11_look_178 rfl rfl (pc' := 179) rfl ?_
            refine ax_getr (v := 39) dX11_look_179 flX11_26 rfl sh_0 rfl (pc' := 182) rfl ?_
            refine ax_getr (v := 40) dX11_look_182 flX11_220 rfl sh_39 rfl (pc' := 185) rfl ?_
            refine ax_iconst dX11_look_185 (by decide) (pc' := 186) rfl ?_
            refine ax_aald (v := 56) dX11_look_186 sh_40 (by decide) (by decide) (by decide) rfl (pc' := 187) rfl ?_
            refine ax_geti (v := M 56 0) dX11_look_187 flX11_228 rfl sh_56 rfl rfl (pc' := 190) rfl ?_
            refine ax_iret dX11_look_190 rfl ?_
            refine ⟨rfl, ?_, ?_⟩
            · refine congrArg (fun z => some (Sum.inl z)) ?_
              unfold F_look
              rw [if_neg h51_0, if_neg h51_1, if_neg h51_2, if_neg h51_3, if_neg h51_4, if_neg h51_5, if_neg h51_6, if_pos h51_7]
              exact q7
            · rfl
          by_cases h51_8 : what = 8
          · refine ax_reS (st2 := [.inl 8]) (by rw [h51_8]) ?_
            refine ax_tabIn (tgt := 191) dX11_look_51 (by decide) (by decide) rfl (by decide) ?_
            refine ax_aload_n dX11_look_191 rfl rfl (pc' := 192) rfl ?_
            refine ax_getr (v := 39) dX11_look_192 flX11_26 rfl sh_0 rfl (pc' := 195) rfl ?_
            refine ax_getr (v := 41) dX11_look_195 flX11_234 rfl sh_39 rfl (pc' := 198) rfl ?_
            refine ax_geti (v := M 41 0) dX11_look_198 flX11_240 rfl sh_41 rfl rfl (pc' := 201) rfl ?_
            refine ax_iret dX11_look_201 rfl ?_
            refine ⟨rfl, ?_, ?_⟩
            · refine congrArg (fun z => some (Sum.inl z)) ?_
              unfold F_look
              rw [if_neg h51_0, if_neg h51_1, if_neg h51_2, if_neg h51_3, if_neg h51_4, if_neg h51_5, if_neg h51_6, if_neg h51_7, if_pos h51_8]
              exact hg4
            · rfl
          by_cases h51_9 : what = 9
          · refine ax_reS (st2 := [.inl 9]) (by rw [h51_9]) ?_
            refine ax_tabIn (tgt := 202) dX11_look_51 (by decide) (by decide) rfl (by decide) ?_
            refine ax_aload_n dX11_look_202 rfl rfl (pc' := 203) rfl ?_
            refine ax_geti (v := M 0 12) dX11_look_203 flX11_107 rfl sh_0 rfl rfl (pc' := 206) rfl ?_
            refine ax_iret dX11_look_206 rfl ?_
            refine ⟨rfl, ?_, ?_⟩
            · refine congrArg (fun z => some (Sum.inl z)) ?_
              unfold F_look
              rw [if_neg h51_0, if_neg h51_1, if_neg h51_2, if_neg h51_3, if_neg h51_4, if_neg h51_5, if_neg h51_6, if_neg h51_7, if_neg h51_8, if_pos h51_9]
              exact qm
            · rfl
          by_cases h51_10 : what = 10
          · refine ax_reS (st2 := [.inl 10]) (by rw [h51_10]) ?_
            refine ax_tabIn (tgt := 207) dX11_look_51 (by decide) (by decide) rfl (by decide) ?_
            refine ax_aload_n dX11_look_207 rfl rfl (pc' := 208) rfl ?_
            refine ax_getr (v := 39) dX11_look_208 flX11_26 rfl sh_0 rfl (pc' := 211) rfl ?_
            refine ax_geti (v := M 39 6) dX11_look_211 flX11_313 rfl sh_39 rfl rfl (pc' := 214) rfl ?_
            refine ax_iret dX11_look_214 rfl ?_
            refine ⟨rfl, ?_, ?_⟩
            · refine congrArg (fun z => some (Sum.inl z)) ?_
              unfold F_look
              rw [if_neg h51_0, if_neg h51_1, if_neg h51_2, if_neg h51_3, if_neg h51_4, if_neg h51_5, if_neg h51_6, if_neg h51_7, if_neg h51_8, if_neg h51_9, if_pos h51_10]
              exact hg5
            · rfl
          by_cases h51_11 : what = 11
          · refine ax_reS (st2 := [.inl 11]) (by rw [h51_11]) ?_
            refine ax_tabIn (tgt := 215) dX11_look_51 (by decide) (by decide) rfl (by decide) ?_
            refine ax_aload_n dX11_look_215 rfl rfl (pc' := 216) rfl ?_
            refine ax_getr (v := 39) dX11_look_216 flX11_26 rfl sh_0 rfl (pc' := 219) rfl ?_
            refine ax_geti (v := M 39 8) dX11_look_219 flX11_337 rfl sh_39 rfl rfl (pc' := 222) rfl ?_
            refine ax_iret dX11_look_222 rfl ?_
            refine ⟨rfl, ?_, ?_⟩
            · refine congrArg (fun z => some (Sum.inl z)) ?_
              unfold F_look
              rw [if_neg h51_0, if_neg h51_1, if_neg h51_2, if_neg h51_3, if_neg h51_4, if_neg h51_5, if_neg h51_6, if_neg h51_7, if_neg h51_8, if_neg h51_9, if_neg h51_10, if_pos h51_11]
              exact hg6
            · rfl
          refine ax_tabOut (tgt := 223) dX11_look_51 (by omega) (by decide) ?_
          refine ax_iconst dX11_look_223 (by decide) (pc' := 224) rfl ?_
          refine ax_iret dX11_look_224 rfl ?_
          refine ⟨rfl, ?_, ?_⟩
          · refine congrArg (fun z => some (Sum.inl z)) ?_
            unfold F_look
            rw [if_neg h51_0, if_neg h51_1, if_neg h51_2, if_neg h51_3, if_neg h51_4, if_neg h51_5, if_neg h51_6, if_neg h51_7, if_neg h51_8, if_neg h51_9, if_neg h51_10, if_neg h51_11, if_neg (by omega), if_neg (by omega)]
          · rfl
        · have qt := (hg0.1.2.1 (what - 30) (by omega) (by omega)).2
          refine ax_aload_n dX11_look_37 rfl rfl (pc' := 38) rfl ?_
          refine ax_getr (v := 1) dX11_look_38 flX11_10 rfl sh_0 rfl (pc' := 41) rfl ?_
          refine ax_getr (v := 3) dX11_look_41 flX11_136 rfl sh_1 rfl (pc' := 44) rfl ?_
          refine ax_iload_n dX11_look_44 rfl rfl (pc' := 45) rfl ?_
          refine ax_bipush dX11_look_45 (by decide) (pc' := 47) rfl ?_
          refine ax_isub dX11_look_47 (by omega) (pc' := 48) rfl ?_
          refine ax_iald (v := (M 3) (what - 30)) dX11_look_48 sh_3 rfl (by omega) (by omega) ((congrFun rfl (what - 30)).trans rfl) (pc' := 49) rfl ?_
          refine ax_iret dX11_look_49 rfl ?_
          refine ⟨rfl, ?_, ?_⟩
          · refine congrArg (fun z => some (Sum.inl z)) ?_
            unfold F_look
            rw [if_neg (by omega), if_neg (by omega), if_neg (by omega), if_neg (by omega), if_neg (by omega), if_neg (by omega), if_neg (by omega), if_neg (by omega), if_neg (by omega), if_neg (by omega), if_neg (by omega), if_neg (by omega), if_neg (by omega), if_pos (by omega), show 2570 + what - 30 = 2570 + (what - 30) by omega]
            exact qt
          · rfl
    · have qt := (hg0.1.2.1 (what - 20) (by omega) (by omega)).1
      refine ax_aload_n dX11_look_12 rfl rfl (pc' := 13) rfl ?_
      refine ax_getr (v := 1) dX11_look_13 flX11_10 rfl sh_0 rfl (pc' := 16) rfl ?_
      refine ax_getr (v := 2) dX11_look_16 flX11_132 rfl sh_1 rfl (pc' := 19) rfl ?_
      refine ax_iload_n dX11_look_19 rfl rfl (pc' := 20) rfl ?_
      refine ax_bipush dX11_look_20 (by decide) (pc' := 22) rfl ?_
      refine ax_isub dX11_look_22 (by omega) (pc' := 23) rfl ?_
      refine ax_iald (v := (M 2) (what - 20)) dX11_look_23 sh_2 rfl (by omega) (by omega) ((congrFun rfl (what - 20)).trans rfl) (pc' := 24) rfl ?_
      refine ax_iret dX11_look_24 rfl ?_
      refine ⟨rfl, ?_, ?_⟩
      · refine congrArg (fun z => some (Sum.inl z)) ?_
        unfold F_look
        rw [if_neg (by omega), if_neg (by omega), if_neg (by omega), if_neg (by omega), if_neg (by omega), if_neg (by omega), if_neg (by omega), if_neg (by omega), if_neg (by omega), if_neg (by omega), if_neg (by omega), if_neg (by omega), if_pos (by omega), show 2564 + what - 20 = 2564 + (what - 20) by omega]
        exact qt
      · rfl
set_option maxRecDepth 20000 in
theorem s_X8_feedNumber (E : ax_Env) (l : Launch) (d : Nat) (hd : 0 ≤ d) (M : ax_Mem) (v : Int) {tb : Int → Int} (htb : M 59 = tb) {tn : Int} (htn : M 58 1 = tn) (hg0 : 0 ≤ tn ∧ tn + 4 ≤ 400) : ax_G E l d iX8_feedNumber [.inr 58, .inl v] M (fun z0 M2 => z0 = none ∧ (∀ x0 i0 : Int, ¬ (x0 = 59 ∨ (x0 = 58 ∧ i0 = 1)) → M2 x0 i0 = M x0 i0) ∧ M2 59 = f_up (f_up (f_up (f_up tb tn (ax_and (ax_ushr v 24) 255)) (tn + 1) (ax_and (ax_ushr v 16) 255)) (tn + 2) (ax_and (ax_ushr v 8) 255)) (tn + 3) (ax_and (ax_ushr v 0) 255) ∧ M2 58 1 = tn + 4) := by
  refine ax_start rfl (Nat.le_of_ble_eq_true rfl) (ls := [some (.inr 58), some (.inl v), none]) rfl (fun hav hcm => ?_)
  have hc1 : -2147483648 ≤ v ∧ v < 2147483648 := hav (.inl v) (by simp)
  clear hav
  refine ax_bipush dX8_feedNumber_0 (by decide) (pc' := 2) rfl ?_
  refine ax_istore_n dX8_feedNumber_2 rfl (by decide) (ls' := [some (.inr 58), some (.inl v), some (.inl 24)]) rfl (pc' := 3) rfl ?_
  refine ax_iload_n dX8_feedNumber_3 rfl rfl (pc' := 4) rfl ?_
  refine ax_if_lt (tgt := 49) dX8_feedNumber_4 (by decide) (pc' := 7) rfl (fun h4 => ?_) (fun h4 => ?_)
  · exfalso
    omega
  · refine ax_aload_n dX8_feedNumber_7 rfl rfl (pc' := 8) rfl ?_
    refine ax_geti (v := tn) dX8_feedNumber_8 flX8_28 rfl sh_58 htn rfl (pc' := 11) rfl ?_
    refine ax_sipush dX8_feedNumber_11 (by decide) (pc' := 14) rfl ?_
    refine ax_icmp_ge (tgt := 43) dX8_feedNumber_14 (by decide) (pc' := 17) rfl (fun h14 => ?_) (fun h14 => ?_)
    · exfalso
      omega
    · refine ax_aload_n dX8_feedNumber_17 rfl rfl (pc' := 18) rfl ?_
      refine ax_getr (v := 59) dX8_feedNumber_18 flX8_9 rfl sh_58 rfl (pc' := 21) rfl ?_
      refine ax_aload_n dX8_feedNumber_21 rfl rfl (pc' := 22) rfl ?_
      refine ax_geti (v := tn) dX8_feedNumber_22 flX8_28 rfl sh_58 htn rfl (pc' := 25) rfl ?_
      refine ax_iload_n dX8_feedNumber_25 rfl rfl (pc' := 26) rfl ?_
      refine ax_iload_n dX8_feedNumber_26 rfl rfl (pc' := 27) rfl ?_
      refine ax_iushr dX8_feedNumber_27 (pc' := 28) rfl ?_
      refine ax_sipush dX8_feedNumber_28 (by decide) (pc' := 31) rfl ?_
      refine ax_iand dX8_feedNumber_31 (pc' := 32) rfl ?_
      refine ax_iast dX8_feedNumber_32 sh_59 rfl (by omega) (by omega) (pc' := 33) rfl ?_
      refine ax_aload_n dX8_feedNumber_33 rfl rfl (pc' := 34) rfl ?_
      refine ax_dup dX8_feedNumber_34 (pc' := 35) rfl ?_
      refine ax_geti (v := tn) dX8_feedNumber_35 flX8_28 rfl sh_58 (show (ax_up M 59 tn (ax_and (ax_ushr v 24) 255)) 58 1 = tn from (ax_up_miss (fun h => absurd h.1 (by decide)) htn)) rfl (pc' := 38) rfl ?_
      refine ax_iconst dX8_feedNumber_38 (by decide) (pc' := 39) rfl ?_
      refine ax_iadd dX8_feedNumber_39 (by omega) (pc' := 40) rfl ?_
      refine ax_puti dX8_feedNumber_40 flX8_28 (Or.inl rfl) sh_58 rfl (pc' := 43) rfl ?_
      refine ax_iinc dX8_feedNumber_43 rfl (by decide) (by omega) (ls' := [some (.inr 58), some (.inl v), some (.inl 16)]) rfl (pc' := 46) rfl ?_
      refine ax_goto dX8_feedNumber_46 (pc' := 3) (by decide) ?_
      refine ax_iload_n dX8_feedNumber_3 rfl rfl (pc' := 4) rfl ?_
      refine ax_if_lt (tgt := 49) dX8_feedNumber_4 (by decide) (pc' := 7) rfl (fun h4 => ?_) (fun h4 => ?_)
      · exfalso
        omega
      · refine ax_aload_n dX8_feedNumber_7 rfl rfl (pc' := 8) rfl ?_
        refine ax_geti (v := tn + 1) dX8_feedNumber_8 flX8_28 rfl sh_58 (show (ax_up (ax_up M 59 tn (ax_and (ax_ushr v 24) 255)) 58 1 (tn + 1)) 58 1 = tn + 1 from (ax_up_hit _ _ _ _)) rfl (pc' := 11) rfl ?_
        refine ax_sipush dX8_feedNumber_11 (by decide) (pc' := 14) rfl ?_
        refine ax_icmp_ge (tgt := 43) dX8_feedNumber_14 (by decide) (pc' := 17) rfl (fun h14 => ?_) (fun h14 => ?_)
        · exfalso
          omega
        · refine ax_aload_n dX8_feedNumber_17 rfl rfl (pc' := 18) rfl ?_
          refine ax_getr (v := 59) dX8_feedNumber_18 flX8_9 rfl sh_58 rfl (pc' := 21) rfl ?_
          refine ax_aload_n dX8_feedNumber_21 rfl rfl (pc' := 22) rfl ?_
          refine ax_geti (v := tn + 1) dX8_feedNumber_22 flX8_28 rfl sh_58 (show (ax_up (ax_up M 59 tn (ax_and (ax_ushr v 24) 255)) 58 1 (tn + 1)) 58 1 = tn + 1 from (ax_up_hit _ _ _ _)) rfl (pc' := 25) rfl ?_
          refine ax_iload_n dX8_feedNumber_25 rfl rfl (pc' := 26) rfl ?_
          refine ax_iload_n dX8_feedNumber_26 rfl rfl (pc' := 27) rfl ?_
          refine ax_iushr dX8_feedNumber_27 (pc' := 28) rfl ?_
          refine ax_sipush dX8_feedNumber_28 (by decide) (pc' := 31) rfl ?_
          refine ax_iand dX8_feedNumber_31 (pc' := 32) rfl ?_
          refine ax_iast dX8_feedNumber_32 sh_59 rfl (by omega) (by omega) (pc' := 33) rfl ?_
          refine ax_aload_n dX8_feedNumber_33 rfl rfl (pc' := 34) rfl ?_
          refine ax_dup dX8_feedNumber_34 (pc' := 35) rfl ?_
          refine ax_geti (v := tn + 1) dX8_feedNumber_35 flX8_28 rfl sh_58 (show (ax_up (ax_up (ax_up M 59 tn (ax_and (ax_ushr v 24) 255)) 58 1 (tn + 1)) 59 (tn + 1) (ax_and (ax_ushr v 16) 255)) 58 1 = tn + 1 from (ax_up_miss (fun h => absurd h.1 (by decide)) (ax_up_hit _ _ _ _))) rfl (pc' := 38) rfl ?_
          refine ax_iconst dX8_feedNumber_38 (by decide) (pc' := 39) rfl ?_
          refine ax_iadd dX8_feedNumber_39 (by omega) (pc' := 40) rfl ?_
          refine ax_puti dX8_feedNumber_40 flX8_28 (Or.inl rfl) sh_58 rfl (pc' := 43) rfl ?_
          refine ax_iinc dX8_feedNumber_43 rfl (by decide) (by omega) (ls' := [some (.inr 58), some (.inl v), some (.inl 8)]) rfl (pc' := 46) rfl ?_
          refine ax_goto dX8_feedNumber_46 (pc' := 3) (by decide) ?_
          refine ax_iload_n dX8_feedNumber_3 rfl rfl (pc' := 4) rfl ?_
          refine ax_if_lt (tgt := 49) dX8_feedNumber_4 (by decide) (pc' := 7) rfl (fun h4 => ?_) (fun h4 => ?_)
          · exfalso
            omega
          · refine ax_aload_n dX8_feedNumber_7 rfl rfl (pc' := 8) rfl ?_
            refine ax_geti (v := tn + 1 + 1) dX8_feedNumber_8 flX8_28 rfl sh_58 (show (ax_up (ax_up (ax_up (ax_up M 59 tn (ax_and (ax_ushr v 24) 255)) 58 1 (tn + 1)) 59 (tn + 1) (ax_and (ax_ushr v 16) 255)) 58 1 (tn + 1 + 1)) 58 1 = tn + 1 + 1 from (ax_up_hit _ _ _ _)) rfl (pc' := 11) rfl ?_
            refine ax_sipush dX8_feedNumber_11 (by decide) (pc' := 14) rfl ?_
            refine ax_icmp_ge (tgt := 43) dX8_feedNumber_14 (by decide) (pc' := 17) rfl (fun h14 => ?_) (fun h14 => ?_)
            · exfalso
              omega
            · refine ax_aload_n dX8_feedNumber_17 rfl rfl (pc' := 18) rfl ?_
              refine ax_getr (v := 59) dX8_feedNumber_18 flX8_9 rfl sh_58 rfl (pc' := 21) rfl ?_
              refine ax_aload_n dX8_feedNumber_21 rfl rfl (pc' := 22) rfl ?_
              refine ax_geti (v := tn + 1 + 1) dX8_feedNumber_22 flX8_28 rfl sh_58 (show (ax_up (ax_up (ax_up (ax_up M 59 tn (ax_and (ax_ushr v 24) 255)) 58 1 (tn + 1)) 59 (tn + 1) (ax_and (ax_ushr v 16) 255)) 58 1 (tn + 1 + 1)) 58 1 = tn + 1 + 1 from (ax_up_hit _ _ _ _)) rfl (pc' := 25) rfl ?_
              refine ax_iload_n dX8_feedNumber_25 rfl rfl (pc' := 26) rfl ?_
              refine ax_iload_n dX8_feedNumber_26 rfl rfl (pc' := 27) rfl ?_
              refine ax_iushr dX8_feedNumber_27 (pc' := 28) rfl ?_
              refine ax_sipush dX8_feedNumber_28 (by decide) (pc' := 31) rfl ?_
              refine ax_iand dX8_feedNumber_31 (pc' := 32) rfl ?_
              refine ax_iast dX8_feedNumber_32 sh_59 rfl (by omega) (by omega) (pc' := 33) rfl ?_
              refine ax_aload_n dX8_feedNumber_33 rfl rfl (pc' := 34) rfl ?_
              refine ax_dup dX8_feedNumber_34 (pc' := 35) rfl ?_
              refine ax_geti (v := tn + 1 + 1) dX8_feedNumber_35 flX8_28 rfl sh_58 (show (ax_up (ax_up (ax_up (ax_up (ax_up M 59 tn (ax_and (ax_ushr v 24) 255)) 58 1 (tn + 1)) 59 (tn + 1) (ax_and (ax_ushr v 16) 255)) 58 1 (tn + 1 + 1)) 59 (tn + 1 + 1) (ax_and (ax_ushr v 8) 255)) 58 1 = tn + 1 + 1 from (ax_up_miss (fun h => absurd h.1 (by decide)) (ax_up_hit _ _ _ _))) rfl (pc' := 38) rfl ?_
              refine ax_iconst dX8_feedNumber_38 (by decide) (pc' := 39) rfl ?_
              refine ax_iadd dX8_feedNumber_39 (by omega) (pc' := 40) rfl ?_
              refine ax_puti dX8_feedNumber_40 flX8_28 (Or.inl rfl) sh_58 rfl (pc' := 43) rfl ?_
              refine ax_iinc dX8_feedNumber_43 rfl (by decide) (by omega) (ls' := [some (.inr 58), some (.inl v), some (.inl 0)]) rfl (pc' := 46) rfl ?_
              refine ax_goto dX8_feedNumber_46 (pc' := 3) (by decide) ?_
              refine ax_iload_n dX8_feedNumber_3 rfl rfl (pc' := 4) rfl ?_
              refine ax_if_lt (tgt := 49) dX8_feedNumber_4 (by decide) (pc' := 7) rfl (fun h4 => ?_) (fun h4 => ?_)
              · exfalso
                omega
              · refine ax_aload_n dX8_feedNumber_7 rfl rfl (pc' := 8) rfl ?_
                refine ax_geti (v := tn + 1 + 1 + 1) dX8_feedNumber_8 flX8_28 rfl sh_58 (show (ax_up (ax_up (ax_up (ax_up (ax_up (ax_up M 59 tn (ax_and (ax_ushr v 24) 255)) 58 1 (tn + 1)) 59 (tn + 1) (ax_and (ax_ushr v 16) 255)) 58 1 (tn + 1 + 1)) 59 (tn + 1 + 1) (ax_and (ax_ushr v 8) 255)) 58 1 (tn + 1 + 1 + 1)) 58 1 = tn + 1 + 1 + 1 from (ax_up_hit _ _ _ _)) rfl (pc' := 11) rfl ?_
                refine ax_sipush dX8_feedNumber_11 (by decide) (pc' := 14) rfl ?_
                refine ax_icmp_ge (tgt := 43) dX8_feedNumber_14 (by decide) (pc' := 17) rfl (fun h14 => ?_) (fun h14 => ?_)
                · exfalso
                  omega
                · refine ax_aload_n dX8_feedNumber_17 rfl rfl (pc' := 18) rfl ?_
                  refine ax_getr (v := 59) dX8_feedNumber_18 flX8_9 rfl sh_58 rfl (pc' := 21) rfl ?_
                  refine ax_aload_n dX8_feedNumber_21 rfl rfl (pc' := 22) rfl ?_
                  refine ax_geti (v := tn + 1 + 1 + 1) dX8_feedNumber_22 flX8_28 rfl sh_58 (show (ax_up (ax_up (ax_up (ax_up (ax_up (ax_up M 59 tn (ax_and (ax_ushr v 24) 255)) 58 1 (tn + 1)) 59 (tn + 1) (ax_and (ax_ushr v 16) 255)) 58 1 (tn + 1 + 1)) 59 (tn + 1 + 1) (ax_and (ax_ushr v 8) 255)) 58 1 (tn + 1 + 1 + 1)) 58 1 = tn + 1 + 1 + 1 from (ax_up_hit _ _ _ _)) rfl (pc' := 25) rfl ?_
                  refine ax_iload_n dX8_feedNumber_25 rfl rfl (pc' := 26) rfl ?_
                  refine ax_iload_n dX8_feedNumber_26 rfl rfl (pc' := 27) rfl ?_
                  refine ax_iushr dX8_feedNumber_27 (pc' := 28) rfl ?_
                  refine ax_sipush dX8_feedNumber_28 (by decide) (pc' := 31) rfl ?_
                  refine ax_iand dX8_feedNumber_31 (pc' := 32) rfl ?_
                  refine ax_iast dX8_feedNumber_32 sh_59 rfl (by omega) (by omega) (pc' := 33) rfl ?_
                  refine ax_aload_n dX8_feedNumber_33 rfl rfl (pc' := 34) rfl ?_
                  refine ax_dup dX8_feedNumber_34 (pc' := 35) rfl ?_
                  refine ax_geti (v := tn + 1 + 1 + 1) dX8_feedNumber_35 flX8_28 rfl sh_58 (show (ax_up (ax_up (ax_up (ax_up (ax_up (ax_up (ax_up M 59 tn (ax_and (ax_ushr v 24) 255)) 58 1 (tn + 1)) 59 (tn + 1) (ax_and (ax_ushr v 16) 255)) 58 1 (tn + 1 + 1)) 59 (tn + 1 + 1) (ax_and (ax_ushr v 8) 255)) 58 1 (tn + 1 + 1 + 1)) 59 (tn + 1 + 1 + 1) (ax_and (ax_ushr v 0) 255)) 58 1 = tn + 1 + 1 + 1 from (ax_up_miss (fun h => absurd h.1 (by decide)) (ax_up_hit _ _ _ _))) rfl (pc' := 38) rfl ?_
                  refine ax_iconst dX8_feedNumber_38 (by decide) (pc' := 39) rfl ?_
                  refine ax_iadd dX8_feedNumber_39 (by omega) (pc' := 40) rfl ?_
                  refine ax_puti dX8_feedNumber_40 flX8_28 (Or.inl rfl) sh_58 rfl (pc' := 43) rfl ?_
                  refine ax_iinc dX8_feedNumber_43 rfl (by decide) (by omega) (ls' := [some (.inr 58), some (.inl v), some (.inl (-8))]) rfl (pc' := 46) rfl ?_
                  refine ax_goto dX8_feedNumber_46 (pc' := 3) (by decide) ?_
                  refine ax_iload_n dX8_feedNumber_3 rfl rfl (pc' := 4) rfl ?_
                  refine ax_if_lt (tgt := 49) dX8_feedNumber_4 (by decide) (pc' := 7) rfl (fun h4 => ?_) (fun h4 => ?_)
                  · refine ax_vret dX8_feedNumber_49 rfl ?_
                    refine ⟨rfl, rfl, ?_, ?_, ?_⟩
                    · intro x0 i0 hai
                      exact (ax_up_miss (fun h => hai (Or.inr h)) (ax_up_miss (fun h => hai (Or.inl h.1)) (ax_up_miss (fun h => hai (Or.inr h)) (ax_up_miss (fun h => hai (Or.inl h.1)) (ax_up_miss (fun h => hai (Or.inr h)) (ax_up_miss (fun h => hai (Or.inl h.1)) (ax_up_miss (fun h => hai (Or.inr h)) (ax_up_miss (fun h => hai (Or.inl h.1)) rfl))))))))
                    · refine Eq.trans (ax_up_rowmiss (by decide) (ax_up_rowhit (ax_up_rowmiss (by decide) (ax_up_rowhit (ax_up_rowmiss (by decide) (ax_up_rowhit (ax_up_rowmiss (by decide) (ax_up_rowhit htb)))))))) ?_
                      rw [show tn + 1 + 1 = tn + 2 by omega, show tn + 2 + 1 = tn + 3 by omega]
                    · refine Eq.trans (ax_up_hit _ _ _ _) ?_
                      omega
                  · exfalso
                    omega
