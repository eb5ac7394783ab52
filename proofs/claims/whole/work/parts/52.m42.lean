theorem f_hm_fr {M N : ax_Mem} {w : Int → Int} (h0 : ∀ x i, 0 ≤ x ∧ x < 5 → N x i = M x i) (h : f_hm M w) : f_hm N w := by
  refine ⟨(h0 1 0 (by decide)).trans h.1, fun k k1 k2 => ?_⟩
  rw [h0 2 k (by decide), h0 3 k (by decide)]
  exact h.2 k k1 k2
theorem f_lrn_fr {M N : ax_Mem} {b : Int} {Ls : Int → List f_Ln} (h0 : ∀ x i, b ≤ x ∧ x < b + 6 → N x i = M x i) (h : f_lrn M b Ls) : f_lrn N b Ls := by
  intro k k1 k2
  have e : N (b + 2 * k + 1) = M (b + 2 * k + 1) := funext fun i => h0 _ i (by omega)
  rw [h0 _ 0 (by omega), h0 _ 1 (by omega), e]
  exact h k k1 k2
set_option maxRecDepth 20000 in
theorem s_X2_strengthOf (E : ax_Env) (l : Launch) (d : Nat) (hd : 1 ≤ d) (M : ax_Mem) (a p : Int) (Ls : Int → List f_Ln) (w : Int → Int) (r : Int) (hg0 : f_rp a) (hg1 : f_rm M a w r) (hg2 : f_jv Ls w) (hg3 : 0 ≤ r ∧ r < 8) (hg4 : f_hm M w) (hg5 : f_lrn M 52 Ls) (hg6 : 4 < a ∧ a < 37 ∨ a = 78) (hg7 : 0 ≤ p ∧ p < f_R w r 1) : ax_G E l d iX2_strengthOf [.inr 71, .inr 1, .inr a, .inl p] M (fun z0 M2 => z0 = some (.inl (f_str Ls w r p)) ∧ (∀ x0 i0 : Int, ¬ (x0 = 72 ∨ x0 = 73) → M2 x0 i0 = M x0 i0)) := by
  obtain ⟨d, rfl⟩ : ∃ d0, d = d0 + 1 := ⟨d - 1, by omega⟩
  refine ax_start rfl (Nat.le_of_ble_eq_true rfl) (ls := [some (.inr 71), some (.inr 1), some (.inr a), some (.inl p), none]) rfl (fun hav hcm => ?_)
  have hc3 : -2147483648 ≤ p ∧ p < 2147483648 := hav (.inl p) (by simp)
  clear hav
  have ql : M a 1 = f_R w r 1 := hg1.1
  have qlr := (hg2.1.1 r hg3.1 hg3.2).2
  have qp := hg1.2.2.2.2
  have qw4 : M a 4 = f_R w r 4 := hg1.2.2.2.1
  have qt := (qp p (by omega) (by omega)).1
  have qtr := f_rg_t hg2.1 hg3 (p := p) ⟨by omega, by omega⟩
  have qb3 : M a 3 = f_R w r 3 := hg1.2.2.1
  refine ax_iload_n dX2_strengthOf_0 rfl rfl (pc' := 1) rfl ?_
  refine ax_aload_n dX2_strengthOf_1 rfl rfl (pc' := 2) rfl ?_
  refine ax_geti (v := M a 1) dX2_strengthOf_2 flX2_73 rfl hg0.1 rfl rfl (pc' := 5) rfl ?_
  refine ax_insG [.inl p, .inl (M a 1)] [] dX2_strengthOf_5 mlX2_76 rfl rfl (Nat.le_of_ble_eq_true rfl) (s_X11_isIn E l _ (by omega) _ p (M a 1)) (pc' := 8) rfl (fun vv M_5 hq co5 hcm5 => ?_)
  obtain ⟨rfl, rfl⟩ := hq
  refine ax_reS (st2 := [.inl (f_b (0 ≤ p ∧ p < (M a 1)))]) rfl ?_
  refine ax_if_ne (tgt := 13) dX2_strengthOf_8 (by decide) (pc' := 11) rfl (fun h8 => ?_) (fun h8 => ?_)
  · replace h8 := f_b_1 h8
    refine ax_aload_n dX2_strengthOf_13 rfl rfl (pc' := 14) rfl ?_
    refine ax_getr (v := a + 1) dX2_strengthOf_14 flX2_80 rfl hg0.1 rfl (pc' := 17) rfl ?_
    refine ax_iload_n dX2_strengthOf_17 rfl rfl (pc' := 18) rfl ?_
    refine ax_iald (v := (M (a + 1)) p) dX2_strengthOf_18 hg0.2.1 rfl (by omega) (by omega) ((congrFun rfl p).trans rfl) (pc' := 19) rfl ?_
    refine ax_reS (st2 := [.inl (f_P w r p 0)]) (congrArg (fun z => Sum.inl z :: _) (by exact qt)) ?_
    refine ax_istore dX2_strengthOf_19 (by decide) (ls' := [some (.inr 71), some (.inr 1), some (.inr a), some (.inl p), some (.inl (f_P w r p 0))]) rfl (pc' := 21) rfl ?_
    refine ax_aload_n dX2_strengthOf_21 rfl rfl (pc' := 22) rfl ?_
    refine ax_getr (v := 72) dX2_strengthOf_22 flX2_11 rfl sh_71 rfl (pc' := 25) rfl ?_
    refine ax_iconst dX2_strengthOf_25 (by decide) (pc' := 26) rfl ?_
    refine ax_iload dX2_strengthOf_26 rfl (pc' := 28) rfl ?_
    refine ax_iconst dX2_strengthOf_28 (by decide) (pc' := 29) rfl ?_
    refine ax_icmp_ne (tgt := 36) dX2_strengthOf_29 (by decide) (pc' := 32) rfl (fun h29 => ?_) (fun h29 => ?_)
    · have qz := h29
      have qtt := hg4.2 (f_P w r p 0) (by omega) (by omega)
      refine ax_iconst dX2_strengthOf_36 (by decide) (pc' := 37) rfl ?_
      refine ax_iast dX2_strengthOf_37 sh_72 rfl (by omega) (by omega) (pc' := 38) rfl ?_
      refine ax_aload_n dX2_strengthOf_38 rfl rfl (pc' := 39) rfl ?_
      refine ax_getr (v := 72) dX2_strengthOf_39 flX2_11 rfl sh_71 rfl (pc' := 42) rfl ?_
      refine ax_iconst dX2_strengthOf_42 (by decide) (pc' := 43) rfl ?_
      refine ax_iload dX2_strengthOf_43 rfl (pc' := 45) rfl ?_
      refine ax_iconst dX2_strengthOf_45 (by decide) (pc' := 46) rfl ?_
      refine ax_icmp_ne (tgt := 53) dX2_strengthOf_46 (by decide) (pc' := 49) rfl (fun h46 => ?_) (fun h46 => ?_)
      · refine ax_aload_n dX2_strengthOf_53 rfl rfl (pc' := 54) rfl ?_
        refine ax_getr (v := 2) dX2_strengthOf_54 flX2_41 rfl sh_1 rfl (pc' := 57) rfl ?_
        refine ax_iload dX2_strengthOf_57 rfl (pc' := 59) rfl ?_
        refine ax_iald (v := (M 2) (f_P w r p 0)) dX2_strengthOf_59 sh_2 rfl (by omega) (by omega) ((congrFun (ax_up_rowmiss (by decide) rfl) (f_P w r p 0)).trans rfl) (pc' := 60) rfl ?_
        refine ax_reS (st2 := [.inl (w (2564 + f_P w r p 0)), .inl 1, .inr 72]) (congrArg (fun z => Sum.inl z :: _) (by exact qtt.1)) ?_
        refine ax_iast dX2_strengthOf_60 sh_72 rfl (by omega) (by omega) (pc' := 61) rfl ?_
        refine ax_aload_n dX2_strengthOf_61 rfl rfl (pc' := 62) rfl ?_
        refine ax_getr (v := 72) dX2_strengthOf_62 flX2_11 rfl sh_71 rfl (pc' := 65) rfl ?_
        refine ax_iconst dX2_strengthOf_65 (by decide) (pc' := 66) rfl ?_
        refine ax_iload dX2_strengthOf_66 rfl (pc' := 68) rfl ?_
        refine ax_iconst dX2_strengthOf_68 (by decide) (pc' := 69) rfl ?_
        refine ax_icmp_ne (tgt := 76) dX2_strengthOf_69 (by decide) (pc' := 72) rfl (fun h69 => ?_) (fun h69 => ?_)
        · refine ax_aload_n dX2_strengthOf_76 rfl rfl (pc' := 77) rfl ?_
          refine ax_getr (v := 3) dX2_strengthOf_77 flX2_83 rfl sh_1 rfl (pc' := 80) rfl ?_
          refine ax_iload dX2_strengthOf_80 rfl (pc' := 82) rfl ?_
          refine ax_iald (v := (M 3) (f_P w r p 0)) dX2_strengthOf_82 sh_3 rfl (by omega) (by omega) ((congrFun (ax_up_rowmiss (by decide) (ax_up_rowmiss (by decide) rfl)) (f_P w r p 0)).trans rfl) (pc' := 83) rfl ?_
          refine ax_reS (st2 := [.inl (w (2570 + f_P w r p 0)), .inl 2, .inr 72]) (congrArg (fun z => Sum.inl z :: _) (by exact qtt.2)) ?_
          refine ax_iast dX2_strengthOf_83 sh_72 rfl (by omega) (by omega) (pc' := 84) rfl ?_
          refine ax_aload_n dX2_strengthOf_84 rfl rfl (pc' := 85) rfl ?_
          refine ax_getr (v := 72) dX2_strengthOf_85 flX2_11 rfl sh_71 rfl (pc' := 88) rfl ?_
          refine ax_iconst dX2_strengthOf_88 (by decide) (pc' := 89) rfl ?_
          refine ax_aload_n dX2_strengthOf_89 rfl rfl (pc' := 90) rfl ?_
          refine ax_geti (v := M 1 0) dX2_strengthOf_90 flX2_32 rfl sh_1 (show (ax_up (ax_up (ax_up M 72 0 1) 72 1 (w (2564 + f_P w r p 0))) 72 2 (w (2570 + f_P w r p 0))) 1 0 = M 1 0 from (ax_up_miss (fun h => absurd h.1 (by decide)) (ax_up_miss (fun h => absurd h.1 (by decide)) (ax_up_miss (fun h => absurd h.1 (by decide)) rfl)))) rfl (pc' := 93) rfl ?_
          refine ax_reS (st2 := [.inl (w 0), .inl 3, .inr 72]) (congrArg (fun z => Sum.inl z :: _) (by exact hg4.1)) ?_
          refine ax_aload_n dX2_strengthOf_93 rfl rfl (pc' := 94) rfl ?_
          refine ax_geti (v := M a 3) dX2_strengthOf_94 flX2_86 rfl hg0.1 (show (ax_up (ax_up (ax_up M 72 0 1) 72 1 (w (2564 + f_P w r p 0))) 72 2 (w (2570 + f_P w r p 0))) a 3 = M a 3 from (ax_up_miss (by omega) (ax_up_miss (by omega) (ax_up_miss (by omega) rfl)))) rfl (pc' := 97) rfl ?_
          refine ax_reS (st2 := [.inl (f_R w r 3), .inl (w 0), .inl 3, .inr 72]) (congrArg (fun z => Sum.inl z :: _) (by exact qb3)) ?_
          refine ax_isubw dX2_strengthOf_97 (pc' := 98) rfl ?_
          refine ax_sipush dX2_strengthOf_98 (by decide) (pc' := 101) rfl ?_
          refine ax_idivw dX2_strengthOf_101 (by decide) (pc' := 102) rfl ?_
          refine ax_iast dX2_strengthOf_102 sh_72 rfl (by omega) (by omega) (pc' := 103) rfl ?_
          refine ax_aload_n dX2_strengthOf_103 rfl rfl (pc' := 104) rfl ?_
          refine ax_getr (v := 72) dX2_strengthOf_104 flX2_11 rfl sh_71 rfl (pc' := 107) rfl ?_
          refine ax_iconst dX2_strengthOf_107 (by decide) (pc' := 108) rfl ?_
          refine ax_iload_n dX2_strengthOf_108 rfl rfl (pc' := 109) rfl ?_
          refine ax_iast dX2_strengthOf_109 sh_72 rfl (by omega) (by omega) (pc' := 110) rfl ?_
          refine ax_aload_n dX2_strengthOf_110 rfl rfl (pc' := 111) rfl ?_
          refine ax_getr (v := 72) dX2_strengthOf_111 flX2_11 rfl sh_71 rfl (pc' := 114) rfl ?_
          refine ax_iconst dX2_strengthOf_114 (by decide) (pc' := 115) rfl ?_
          refine ax_aload_n dX2_strengthOf_115 rfl rfl (pc' := 116) rfl ?_
          refine ax_geti (v := M a 1) dX2_strengthOf_116 flX2_73 rfl hg0.1 (show (ax_up (ax_up (ax_up (ax_up (ax_up M 72 0 1) 72 1 (w (2564 + f_P w r p 0))) 72 2 (w (2570 + f_P w r p 0))) 72 3 (ax_div (ax_wr ((w 0) - (f_R w r 3))) 365)) 72 4 p) a 1 = M a 1 from (ax_up_miss (by omega) (ax_up_miss (by omega) (ax_up_miss (by omega) (ax_up_miss (by omega) (ax_up_miss (by omega) rfl)))))) rfl (pc' := 119) rfl ?_
          refine ax_reS (st2 := [.inl (f_R w r 1), .inl 5, .inr 72]) (congrArg (fun z => Sum.inl z :: _) (by exact ql)) ?_
          refine ax_iast dX2_strengthOf_119 sh_72 rfl (by omega) (by omega) (pc' := 120) rfl ?_
          refine ax_aload_n dX2_strengthOf_120 rfl rfl (pc' := 121) rfl ?_
          refine ax_getr (v := 72) dX2_strengthOf_121 flX2_11 rfl sh_71 rfl (pc' := 124) rfl ?_
          refine ax_bipush dX2_strengthOf_124 (by decide) (pc' := 126) rfl ?_
          refine ax_aload_n dX2_strengthOf_126 rfl rfl (pc' := 127) rfl ?_
          refine ax_geti (v := M a 4) dX2_strengthOf_127 flX2_44 rfl hg0.1 (show (ax_up (ax_up (ax_up (ax_up (ax_up (ax_up M 72 0 1) 72 1 (w (2564 + f_P w r p 0))) 72 2 (w (2570 + f_P w r p 0))) 72 3 (ax_div (ax_wr ((w 0) - (f_R w r 3))) 365)) 72 4 p) 72 5 (f_R w r 1)) a 4 = M a 4 from (ax_up_miss (by omega) (ax_up_miss (by omega) (ax_up_miss (by omega) (ax_up_miss (by omega) (ax_up_miss (by omega) (ax_up_miss (by omega) rfl))))))) rfl (pc' := 130) rfl ?_
          refine ax_reS (st2 := [.inl (f_R w r 4), .inl 6, .inr 72]) (congrArg (fun z => Sum.inl z :: _) (by exact qw4)) ?_
          refine ax_iast dX2_strengthOf_130 sh_72 rfl (by omega) (by omega) (pc' := 131) rfl ?_
          refine ax_aload_n dX2_strengthOf_131 rfl rfl (pc' := 132) rfl ?_
          refine ax_getr (v := 72) dX2_strengthOf_132 flX2_11 rfl sh_71 rfl (pc' := 135) rfl ?_
          refine ax_bipush dX2_strengthOf_135 (by decide) (pc' := 137) rfl ?_
          refine ax_aload_n dX2_strengthOf_137 rfl rfl (pc' := 138) rfl ?_
          refine ax_iload_n dX2_strengthOf_138 rfl rfl (pc' := 139) rfl ?_
          refine ax_invG [.inl p] [.inl 7, .inr 72] dX2_strengthOf_139 mlX2_89 hg0.1 rfl rfl rfl (Nat.le_of_ble_eq_true rfl) (s_X7_habitsAt E l _ (by omega) _ a p w r hg0 (f_rm_fr (M := M) (fun x0 i0 hx => (ax_up_miss (by omega) (ax_up_miss (by omega) (ax_up_miss (by omega) (ax_up_miss (by omega) (ax_up_miss (by omega) (ax_up_miss (by omega) (ax_up_miss (by omega) rfl)))))))) hg1) hg2.1 hg3 hg7) (pc' := 142) rfl (fun vv M_139 hq co139 hcm139 => ?_)
          obtain ⟨rfl, rfl, fa139_0⟩ := hq
          refine ax_reS (st2 := [.inl (f_habs w r p), .inl 7, .inr 72]) rfl ?_
          have cc139 : -2147483648 ≤ f_habs w r p ∧ f_habs w r p < 2147483648 := co139 _ rfl
          refine ax_iast dX2_strengthOf_142 sh_72 rfl (by omega) (by omega) (pc' := 143) rfl ?_
          refine ax_aload_n dX2_strengthOf_143 rfl rfl (pc' := 144) rfl ?_
          refine ax_getr (v := 39) dX2_strengthOf_144 flX2_23 rfl sh_71 rfl (pc' := 147) rfl ?_
          refine ax_getr (v := 40) dX2_strengthOf_147 flX2_59 rfl sh_39 rfl (pc' := 150) rfl ?_
          refine ax_iconst dX2_strengthOf_150 (by decide) (pc' := 151) rfl ?_
          refine ax_aald (v := 56) dX2_strengthOf_151 sh_40 (by decide) (by decide) (by decide) rfl (pc' := 152) rfl ?_
          refine ax_aload_n dX2_strengthOf_152 rfl rfl (pc' := 153) rfl ?_
          refine ax_getr (v := 72) dX2_strengthOf_153 flX2_11 rfl sh_71 rfl (pc' := 156) rfl ?_
          refine ax_aload_n dX2_strengthOf_156 rfl rfl (pc' := 157) rfl ?_
          refine ax_getr (v := 73) dX2_strengthOf_157 flX2_17 rfl sh_71 rfl (pc' := 160) rfl ?_
          refine ax_bipush dX2_strengthOf_160 (by decide) (pc' := 162) rfl ?_
          have qA : ∀ i, f_al 2 i → (f_up (f_up (f_up (f_up (f_up (f_up (f_up (f_up (M 72) 0 1) 1 (w (2564 + f_P w r p 0))) 2 (w (2570 + f_P w r p 0))) 3 (ax_div (ax_wr ((w 0) - (f_R w r 3))) 365)) 4 p) 5 (f_R w r 1)) 6 (f_R w r 4)) 7 (f_habs w r p)) (f_ix 2 i) = f_Fs w r p i := by
            intro i hi
            unfold f_al at hi
            rcases (by omega : i = 3 ∨ i = 5 ∨ i = 6 ∨ i = 9 ∨ i = 10 ∨ i = 11 ∨ i = 12 ∨ i = 13) with rfl | rfl | rfl | rfl | rfl | rfl | rfl | rfl
            · simp [f_up, f_ix, f_Fs, qz]
            · simp [f_up, f_ix, f_Fs, qz]
            · simp [f_up, f_ix, f_Fs, qz]
            · simp [f_up, f_ix, f_Fs, qz]
            · simp [f_up, f_ix, f_Fs, qz]
            · simp [f_up, f_ix, f_Fs, qz]
            · simp [f_up, f_ix, f_Fs, qz]
            · simp [f_up, f_ix, f_Fs, qz]
          refine ax_invG [.inr 72, .inr 73, .inl 90] [] dX2_strengthOf_162 mlX2_65 sh_56 rfl rfl rfl (Nat.le_of_ble_eq_true rfl) (s_X3_answer E l _ (by omega) _ 56 90 (f_enLs 2 (Ls 2)) (ax_up_rowhit (ax_up_rowhit (ax_up_rowhit (ax_up_rowhit (ax_up_rowhit (ax_up_rowhit (ax_up_rowhit (ax_up_rowhit rfl)))))))) f_lp_0.2.2 ⟨Eq.trans (ax_up_miss (fun h => absurd h.1 (by decide)) (ax_up_miss (fun h => absurd h.1 (by decide)) (ax_up_miss (fun h => absurd h.1 (by decide)) (ax_up_miss (fun h => absurd h.1 (by decide)) (ax_up_miss (fun h => absurd h.1 (by decide)) (ax_up_miss (fun h => absurd h.1 (by decide)) (ax_up_miss (fun h => absurd h.1 (by decide)) (ax_up_miss (fun h => absurd h.1 (by decide)) rfl)))))))) (hg5 2 (by decide) (by decide)).2.1, (hg5 2 (by decide) (by decide)).2.2.1⟩ ((show (ax_up (ax_up (ax_up (ax_up (ax_up (ax_up (ax_up (ax_up M 72 0 1) 72 1 (w (2564 + f_P w r p 0))) 72 2 (w (2570 + f_P w r p 0))) 72 3 (ax_div (ax_wr ((w 0) - (f_R w r 3))) 365)) 72 4 p) 72 5 (f_R w r 1)) 72 6 (f_R w r 4)) 72 7 (f_habs w r p)) 57 = M 57 from (ax_up_rowmiss (by decide) (ax_up_rowmiss (by decide) (ax_up_rowmiss (by decide) (ax_up_rowmiss (by decide) (ax_up_rowmiss (by decide) (ax_up_rowmiss (by decide) (ax_up_rowmiss (by decide) (ax_up_rowmiss (by decide) rfl))))))))) ▸ (hg5 2 (by decide) (by decide)).2.2.2) (f_cht_ls _ (f_lw_gl hg2.2.2 ⟨by decide, by decide⟩)) (by decide)) (pc' := 165) rfl (fun vv M_162 hq co162 hcm162 => ?_)
          obtain ⟨rfl, frM_162⟩ := hq
          refine ax_reS (st2 := [.inl (f_crun (f_up (f_up (f_up (f_up (f_up (f_up (f_up (f_up (M 72) 0 1) 1 (w (2564 + f_P w r p 0))) 2 (w (2570 + f_P w r p 0))) 3 (ax_div (ax_wr ((w 0) - (f_R w r 3))) 365)) 4 p) 5 (f_R w r 1)) 6 (f_R w r 4)) 7 (f_habs w r p)) (f_enLs 2 (Ls 2)) [] 90)]) rfl ?_
          have cc162 : -2147483648 ≤ f_crun (f_up (f_up (f_up (f_up (f_up (f_up (f_up (f_up (M 72) 0 1) 1 (w (2564 + f_P w r p 0))) 2 (w (2570 + f_P w r p 0))) 3 (ax_div (ax_wr ((w 0) - (f_R w r 3))) 365)) 4 p) 5 (f_R w r 1)) 6 (f_R w r 4)) 7 (f_habs w r p)) (f_enLs 2 (Ls 2)) [] 90 ∧ f_crun (f_up (f_up (f_up (f_up (f_up (f_up (f_up (f_up (M 72) 0 1) 1 (w (2564 + f_P w r p 0))) 2 (w (2570 + f_P w r p 0))) 3 (ax_div (ax_wr ((w 0) - (f_R w r 3))) 365)) 4 p) 5 (f_R w r 1)) 6 (f_R w r 4)) 7 (f_habs w r p)) (f_enLs 2 (Ls 2)) [] 90 < 2147483648 := co162 _ rfl
          refine ax_sipush dX2_strengthOf_165 (by decide) (pc' := 168) rfl ?_
          refine ax_insG [.inl (f_crun (f_up (f_up (f_up (f_up (f_up (f_up (f_up (f_up (M 72) 0 1) 1 (w (2564 + f_P w r p 0))) 2 (w (2570 + f_P w r p 0))) 3 (ax_div (ax_wr ((w 0) - (f_R w r 3))) 365)) 4 p) 5 (f_R w r 1)) 6 (f_R w r 4)) 7 (f_habs w r p)) (f_enLs 2 (Ls 2)) [] 90), .inl 999] [] dX2_strengthOf_168 mlX2_69 rfl rfl (Nat.le_of_ble_eq_true rfl) (s_X2_held E l _ (by omega) _ (f_crun (f_up (f_up (f_up (f_up (f_up (f_up (f_up (f_up (M 72) 0 1) 1 (w (2564 + f_P w r p 0))) 2 (w (2570 + f_P w r p 0))) 3 (ax_div (ax_wr ((w 0) - (f_R w r 3))) 365)) 4 p) 5 (f_R w r 1)) 6 (f_R w r 4)) 7 (f_habs w r p)) (f_enLs 2 (Ls 2)) [] 90) 999 (by decide)) (pc' := 171) rfl (fun vv M_168 hq co168 hcm168 => ?_)
          obtain ⟨rfl, rfl⟩ := hq
          refine ax_reS (st2 := [.inl (max 0 (min 999 (f_crun (f_up (f_up (f_up (f_up (f_up (f_up (f_up (f_up (M 72) 0 1) 1 (w (2564 + f_P w r p 0))) 2 (w (2570 + f_P w r p 0))) 3 (ax_div (ax_wr ((w 0) - (f_R w r 3))) 365)) 4 p) 5 (f_R w r 1)) 6 (f_R w r 4)) 7 (f_habs w r p)) (f_enLs 2 (Ls 2)) [] 90)))]) rfl ?_
          have cc168 : -2147483648 ≤ max 0 (min 999 (f_crun (f_up (f_up (f_up (f_up (f_up (f_up (f_up (f_up (M 72) 0 1) 1 (w (2564 + f_P w r p 0))) 2 (w (2570 + f_P w r p 0))) 3 (ax_div (ax_wr ((w 0) - (f_R w r 3))) 365)) 4 p) 5 (f_R w r 1)) 6 (f_R w r 4)) 7 (f_habs w r p)) (f_enLs 2 (Ls 2)) [] 90)) ∧ max 0 (min 999 (f_crun (f_up (f_up (f_up (f_up (f_up (f_up (f_up (f_up (M 72) 0 1) 1 (w (2564 + f_P w r p 0))) 2 (w (2570 + f_P w r p 0))) 3 (ax_div (ax_wr ((w 0) - (f_R w r 3))) 365)) 4 p) 5 (f_R w r 1)) 6 (f_R w r 4)) 7 (f_habs w r p)) (f_enLs 2 (Ls 2)) [] 90)) < 2147483648 := co168 _ rfl
          refine ax_iret dX2_strengthOf_171 rfl ?_
          refine ⟨rfl, ?_, ?_⟩
          · refine congrArg (fun z => some (Sum.inl z)) ?_
            unfold f_str
            rw [← f_crun_ls qA (Ls 2) _ (f_lw_gl hg2.2.2 ⟨by decide, by decide⟩)]
          · intro x0 i0 hai
            exact ((frM_162 x0 i0 (fun h => hai (Or.inr h))).trans (ax_up_miss (fun h => hai (Or.inl h.1)) (ax_up_miss (fun h => hai (Or.inl h.1)) (ax_up_miss (fun h => hai (Or.inl h.1)) (ax_up_miss (fun h => hai (Or.inl h.1)) (ax_up_miss (fun h => hai (Or.inl h.1)) (ax_up_miss (fun h => hai (Or.inl h.1)) (ax_up_miss (fun h => hai (Or.inl h.1)) (ax_up_miss (fun h => hai (Or.inl h.1)) rfl)))))))))
        · exfalso
          omega
      · exfalso
        omega
    · have qz := h29
      refine ax_iconst dX2_strengthOf_32 (by decide) (pc' := 33) rfl ?_
      refine ax_goto dX2_strengthOf_33 (pc' := 37) (by decide) ?_
      refine ax_iast dX2_strengthOf_37 sh_72 rfl (by omega) (by omega) (pc' := 38) rfl ?_
      refine ax_aload_n dX2_strengthOf_38 rfl rfl (pc' := 39) rfl ?_
      refine ax_getr (v := 72) dX2_strengthOf_39 flX2_11 rfl sh_71 rfl (pc' := 42) rfl ?_
      refine ax_iconst dX2_strengthOf_42 (by decide) (pc' := 43) rfl ?_
      refine ax_iload dX2_strengthOf_43 rfl (pc' := 45) rfl ?_
      refine ax_iconst dX2_strengthOf_45 (by decide) (pc' := 46) rfl ?_
      refine ax_icmp_ne (tgt := 53) dX2_strengthOf_46 (by decide) (pc' := 49) rfl (fun h46 => ?_) (fun h46 => ?_)
      · exfalso
        omega
      · refine ax_iconst dX2_strengthOf_49 (by decide) (pc' := 50) rfl ?_
        refine ax_goto dX2_strengthOf_50 (pc' := 60) (by decide) ?_
        refine ax_reS (st2 := [.inl 0, .inl 1, .inr 72]) (congrArg (fun z => Sum.inl z :: _) (by rfl)) ?_
        refine ax_iast dX2_strengthOf_60 sh_72 rfl (by omega) (by omega) (pc' := 61) rfl ?_
        refine ax_aload_n dX2_strengthOf_61 rfl rfl (pc' := 62) rfl ?_
        refine ax_getr (v := 72) dX2_strengthOf_62 flX2_11 rfl sh_71 rfl (pc' := 65) rfl ?_
        refine ax_iconst dX2_strengthOf_65 (by decide) (pc' := 66) rfl ?_
        refine ax_iload dX2_strengthOf_66 rfl (pc' := 68) rfl ?_
        refine ax_iconst dX2_strengthOf_68 (by decide) (pc' := 69) rfl ?_
        refine ax_icmp_ne (tgt := 76) dX2_strengthOf_69 (by decide) (pc' := 72) rfl (fun h69 => ?_) (fun h69 => ?_)
        · exfalso
          omega
        · refine ax_iconst dX2_strengthOf_72 (by decide) (pc' := 73) rfl ?_
          refine ax_goto dX2_strengthOf_73 (pc' := 83) (by decide) ?_
          refine ax_reS (st2 := [.inl 0, .inl 2, .inr 72]) (congrArg (fun z => Sum.inl z :: _) (by rfl)) ?_
          refine ax_iast dX2_strengthOf_83 sh_72 rfl (by omega) (by omega) (pc' := 84) rfl ?_
          refine ax_aload_n dX2_strengthOf_84 rfl rfl (pc' := 85) rfl ?_
          refine ax_getr (v := 72) dX2_strengthOf_85 flX2_11 rfl sh_71 rfl (pc' := 88) rfl ?_
          refine ax_iconst dX2_strengthOf_88 (by decide) (pc' := 89) rfl ?_
          refine ax_aload_n dX2_strengthOf_89 rfl rfl (pc' := 90) rfl ?_
          refine ax_geti (v := M 1 0) dX2_strengthOf_90 flX2_32 rfl sh_1 (show (ax_up (ax_up (ax_up M 72 0 0) 72 1 0) 72 2 0) 1 0 = M 1 0 from (ax_up_miss (fun h => absurd h.1 (by decide)) (ax_up_miss (fun h => absurd h.1 (by decide)) (ax_up_miss (fun h => absurd h.1 (by decide)) rfl)))) rfl (pc' := 93) rfl ?_
          refine ax_reS (st2 := [.inl (w 0), .inl 3, .inr 72]) (congrArg (fun z => Sum.inl z :: _) (by exact hg4.1)) ?_
          refine ax_aload_n dX2_strengthOf_93 rfl rfl (pc' := 94) rfl ?_
          refine ax_geti (v := M a 3) dX2_strengthOf_94 flX2_86 rfl hg0.1 (show (ax_up (ax_up (ax_up M 72 0 0) 72 1 0) 72 2 0) a 3 = M a 3 from (ax_up_miss (by omega) (ax_up_miss (by omega) (ax_up_miss (by omega) rfl)))) rfl (pc' := 97) rfl ?_
          refine ax_reS (st2 := [.inl (f_R w r 3), .inl (w 0), .inl 3, .inr 72]) (congrArg (fun z => Sum.inl z :: _) (by exact qb3)) ?_
          refine ax_isubw dX2_strengthOf_97 (pc' := 98) rfl ?_
          refine ax_sipush dX2_strengthOf_98 (by decide) (pc' := 101) rfl ?_
          refine ax_idivw dX2_strengthOf_101 (by decide) (pc' := 102) rfl ?_
          refine ax_iast dX2_strengthOf_102 sh_72 rfl (by omega) (by omega) (pc' := 103) rfl ?_
          refine ax_aload_n dX2_strengthOf_103 rfl rfl (pc' := 104) rfl ?_
          refine ax_getr (v := 72) dX2_strengthOf_104 flX2_11 rfl sh_71 rfl (pc' := 107) rfl ?_
          refine ax_iconst dX2_strengthOf_107 (by decide) (pc' := 108) rfl ?_
          refine ax_iload_n dX2_strengthOf_108 rfl rfl (pc' := 109) rfl ?_
          refine ax_iast dX2_strengthOf_109 sh_72 rfl (by omega) (by omega) (pc' := 110) rfl ?_
          refine ax_aload_n dX2_strengthOf_110 rfl rfl (pc' := 111) rfl ?_
          refine ax_getr (v := 72) dX2_strengthOf_111 flX2_11 rfl sh_71 rfl (pc' := 114) rfl ?_
          refine ax_iconst dX2_strengthOf_114 (by decide) (pc' := 115) rfl ?_
          refine ax_aload_n dX2_strengthOf_115 rfl rfl (pc' := 116) rfl ?_
          refine ax_geti (v := M a 1) dX2_strengthOf_116 flX2_73 rfl hg0.1 (show (ax_up (ax_up (ax_up (ax_up (ax_up M 72 0 0) 72 1 0) 72 2 0) 72 3 (ax_div (ax_wr ((w 0) - (f_R w r 3))) 365)) 72 4 p) a 1 = M a 1 from (ax_up_miss (by omega) (ax_up_miss (by omega) (ax_up_miss (by omega) (ax_up_miss (by omega) (ax_up_miss (by omega) rfl)))))) rfl (pc' := 119) rfl ?_
          refine ax_reS (st2 := [.inl (f_R w r 1), .inl 5, .inr 72]) (congrArg (fun z => Sum.inl z :: _) (by exact ql)) ?_
          refine ax_iast dX2_strengthOf_119 sh_72 rfl (by omega) (by omega) (pc' := 120) rfl ?_
          refine ax_aload_n dX2_strengthOf_120 rfl rfl (pc' := 121) rfl ?_
          refine ax_getr (v := 72) dX2_strengthOf_121 flX2_11 rfl sh_71 rfl (pc' := 124) rfl ?_
          refine ax_bipush dX2_strengthOf_124 (by decide) (pc' := 126) rfl ?_
          refine ax_aload_n dX2_strengthOf_126 rfl rfl (pc' := 127) rfl ?_
          refine ax_geti (v := M a 4) dX2_strengthOf_127 flX2_44 rfl hg0.1 (show (ax_up (ax_up (ax_up (ax_up (ax_up (ax_up M 72 0 0) 72 1 0) 72 2 0) 72 3 (ax_div (ax_wr ((w 0) - (f_R w r 3))) 365)) 72 4 p) 72 5 (f_R w r 1)) a 4 = M a 4 from (ax_up_miss (by omega) (ax_up_miss (by omega) (ax_up_miss (by omega) (ax_up_miss (by omega) (ax_up_miss (by omega) (ax_up_miss (by omega) rfl))))))) rfl (pc' := 130) rfl ?_
          refine ax_reS (st2 := [.inl (f_R w r 4), .inl 6, .inr 72]) (congrArg (fun z => Sum.inl z :: _) (by exact qw4)) ?_
          refine ax_iast dX2_strengthOf_130 sh_72 rfl (by omega) (by omega) (pc' := 131) rfl ?_
          refine ax_aload_n dX2_strengthOf_131 rfl rfl (pc' := 132) rfl ?_
          refine ax_getr (v := 72) dX2_strengthOf_132 flX2_11 rfl sh_71 rfl (pc' := 135) rfl ?_
          refine ax_bipush dX2_strengthOf_135 (by decide) (pc' := 137) rfl ?_
          refine ax_aload_n dX2_strengthOf_137 rfl rfl (pc' := 138) rfl ?_
          refine ax_iload_n dX2_strengthOf_138 rfl rfl (pc' := 139) rfl ?_
          refine ax_invG [.inl p] [.inl 7, .inr 72] dX2_strengthOf_139 mlX2_89 hg0.1 rfl rfl rfl (Nat.le_of_ble_eq_true rfl) (s_X7_habitsAt E l _ (by omega) _ a p w r hg0 (f_rm_fr (M := M) (fun x0 i0 hx => (ax_up_miss (by omega) (ax_up_miss (by omega) (ax_up_miss (by omega) (ax_up_miss (by omega) (ax_up_miss (by omega) (ax_up_miss (by omega) (ax_up_miss (by omega) rfl)))))))) hg1) hg2.1 hg3 hg7) (pc' := 142) rfl (fun vv M_139 hq co139 hcm139 => ?_)
          obtain ⟨rfl, rfl, fa139_0⟩ := hq
          refine ax_reS (st2 := [.inl (f_habs w r p), .inl 7, .inr 72]) rfl ?_
          have cc139 : -2147483648 ≤ f_habs w r p ∧ f_habs w r p < 2147483648 := co139 _ rfl
          refine ax_iast dX2_strengthOf_142 sh_72 rfl (by omega) (by omega) (pc' := 143) rfl ?_
          refine ax_aload_n dX2_strengthOf_143 rfl rfl (pc' := 144) rfl ?_
          refine ax_getr (v := 39) dX2_strengthOf_144 flX2_23 rfl sh_71 rfl (pc' := 147) rfl ?_
          refine ax_getr (v := 40) dX2_strengthOf_147 flX2_59 rfl sh_39 rfl (pc' := 150) rfl ?_
          refine ax_iconst dX2_strengthOf_150 (by decide) (pc' := 151) rfl ?_
          refine ax_aald (v := 56) dX2_strengthOf_151 sh_40 (by decide) (by decide) (by decide) rfl (pc' := 152) rfl ?_
          refine ax_aload_n dX2_strengthOf_152 rfl rfl (pc' := 153) rfl ?_
          refine ax_getr (v := 72) dX2_strengthOf_153 flX2_11 rfl sh_71 rfl (pc' := 156) rfl ?_
          refine ax_aload_n dX2_strengthOf_156 rfl rfl (pc' := 157) rfl ?_
          refine ax_getr (v := 73) dX2_strengthOf_157 flX2_17 rfl sh_71 rfl (pc' := 160) rfl ?_
          refine ax_bipush dX2_strengthOf_160 (by decide) (pc' := 162) rfl ?_
          have qA : ∀ i, f_al 2 i → (f_up (f_up (f_up (f_up (f_up (f_up (f_up (f_up (M 72) 0 0) 1 0) 2 0) 3 (ax_div (ax_wr ((w 0) - (f_R w r 3))) 365)) 4 p) 5 (f_R w r 1)) 6 (f_R w r 4)) 7 (f_habs w r p)) (f_ix 2 i) = f_Fs w r p i := by
            intro i hi
            unfold f_al at hi
            rcases (by omega : i = 3 ∨ i = 5 ∨ i = 6 ∨ i = 9 ∨ i = 10 ∨ i = 11 ∨ i = 12 ∨ i = 13) with rfl | rfl | rfl | rfl | rfl | rfl | rfl | rfl
            · simp [f_up, f_ix, f_Fs, qz]
            · simp [f_up, f_ix, f_Fs, qz]
            · simp [f_up, f_ix, f_Fs, qz]
            · simp [f_up, f_ix, f_Fs, qz]
            · simp [f_up, f_ix, f_Fs, qz]
            · simp [f_up, f_ix, f_Fs, qz]
            · simp [f_up, f_ix, f_Fs, qz]
            · simp [f_up, f_ix, f_Fs, qz]
          refine ax_invG [.inr 72, .inr 73, .inl 90] [] dX2_strengthOf_162 mlX2_65 sh_56 rfl rfl rfl (Nat.le_of_ble_eq_true rfl) (s_X3_answer E l _ (by omega) _ 56 90 (f_enLs 2 (Ls 2)) (ax_up_rowhit (ax_up_rowhit (ax_up_rowhit (ax_up_rowhit (ax_up_rowhit (ax_up_rowhit (ax_up_rowhit (ax_up_rowhit rfl)))))))) f_lp_0.2.2 ⟨Eq.trans (ax_up_miss (fun h => absurd h.1 (by decide)) (ax_up_miss (fun h => absurd h.1 (by decide)) (ax_up_miss (fun h => absurd h.1 (by decide)) (ax_up_miss (fun h => absurd h.1 (by decide)) (ax_up_miss (fun h => absurd h.1 (by decide)) (ax_up_miss (fun h => absurd h.1 (by decide)) (ax_up_miss (fun h => absurd h.1 (by decide)) (ax_up_miss (fun h => absurd h.1 (by decide)) rfl)))))))) (hg5 2 (by decide) (by decide)).2.1, (hg5 2 (by decide) (by decide)).2.2.1⟩ ((show (ax_up (ax_up (ax_up (ax_up (ax_up (ax_up (ax_up (ax_up M 72 0 0) 72 1 0) 72 2 0) 72 3 (ax_div (ax_wr ((w 0) - (f_R w r 3))) 365)) 72 4 p) 72 5 (f_R w r 1)) 72 6 (f_R w r 4)) 72 7 (f_habs w r p)) 57 = M 57 from (ax_up_rowmiss (by decide) (ax_up_rowmiss (by decide) (ax_up_rowmiss (by decide) (ax_up_rowmiss (by decide) (ax_up_rowmiss (by decide) (ax_up_rowmiss (by decide) (ax_up_rowmiss (by decide) (ax_up_rowmiss (by decide) rfl))))))))) ▸ (hg5 2 (by decide) (by decide)).2.2.2) (f_cht_ls _ (f_lw_gl hg2.2.2 ⟨by decide, by decide⟩)) (by decide)) (pc' := 165) rfl (fun vv M_162 hq co162 hcm162 => ?_)
          obtain ⟨rfl, frM_162⟩ := hq
          refine ax_reS (st2 := [.inl (f_crun (f_up (f_up (f_up (f_up (f_up (f_up (f_up (f_up (M 72) 0 0) 1 0) 2 0) 3 (ax_div (ax_wr ((w 0) - (f_R w r 3))) 365)) 4 p) 5 (f_R w r 1)) 6 (f_R w r 4)) 7 (f_habs w r p)) (f_enLs 2 (Ls 2)) [] 90)]) rfl ?_
          have cc162 : -2147483648 ≤ f_crun (f_up (f_up (f_up (f_up (f_up (f_up (f_up (f_up (M 72) 0 0) 1 0) 2 0) 3 (ax_div (ax_wr ((w 0) - (f_R w r 3))) 365)) 4 p) 5 (f_R w r 1)) 6 (f_R w r 4)) 7 (f_habs w r p)) (f_enLs 2 (Ls 2)) [] 90 ∧ f_crun (f_up (f_up (f_up (f_up (f_up (f_up (f_up (f_up (M 72) 0 0) 1 0) 2 0) 3 (ax_div (ax_wr ((w 0) - (f_R w r 3))) 365)) 4 p) 5 (f_R w r 1)) 6 (f_R w r 4)) 7 (f_habs w r p)) (f_enLs 2 (Ls 2)) [] 90 < 2147483648 := co162 _ rfl
          refine ax_sipush dX2_strengthOf_165 (by decide) (pc' := 168) rfl ?_
          refine ax_insG [.inl (f_crun (f_up (f_up (f_up (f_up (f_up (f_up (f_up (f_up (M 72) 0 0) 1 0) 2 0) 3 (ax_div (ax_wr ((w 0) - (f_R w r 3))) 365)) 4 p) 5 (f_R w r 1)) 6 (f_R w r 4)) 7 (f_habs w r p)) (f_enLs 2 (Ls 2)) [] 90), .inl 999] [] dX2_strengthOf_168 mlX2_69 rfl rfl (Nat.le_of_ble_eq_true rfl) (s_X2_held E l _ (by omega) _ (f_crun (f_up (f_up (f_up (f_up (f_up (f_up (f_up (f_up (M 72) 0 0) 1 0) 2 0) 3 (ax_div (ax_wr ((w 0) - (f_R w r 3))) 365)) 4 p) 5 (f_R w r 1)) 6 (f_R w r 4)) 7 (f_habs w r p)) (f_enLs 2 (Ls 2)) [] 90) 999 (by decide)) (pc' := 171) rfl (fun vv M_168 hq co168 hcm168 => ?_)
          obtain ⟨rfl, rfl⟩ := hq
          refine ax_reS (st2 := [.inl (max 0 (min 999 (f_crun (f_up (f_up (f_up (f_up (f_up (f_up (f_up (f_up (M 72) 0 0) 1 0) 2 0) 3 (ax_div (ax_wr ((w 0) - (f_R w r 3))) 365)) 4 p) 5 (f_R w r 1)) 6 (f_R w r 4)) 7 (f_habs w r p)) (f_enLs 2 (Ls 2)) [] 90)))]) rfl ?_
          have cc168 : -2147483648 ≤ max 0 (min 999 (f_crun (f_up (f_up (f_up (f_up (f_up (f_up (f_up (f_up (M 72) 0 0) 1 0) 2 0) 3 (ax_div (ax_wr ((w 0) - (f_R w r 3))) 365)) 4 p) 5 (f_R w r 1)) 6 (f_R w r 4)) 7 (f_habs w r p)) (f_enLs 2 (Ls 2)) [] 90)) ∧ max 0 (min 999 (f_crun (f_up (f_up (f_up (f_up (f_up (f_up (f_up (f_up (M 72) 0 0) 1 0) 2 0) 3 (ax_div (ax_wr ((w 0) - (f_R w r 3))) 365)) 4 p) 5 (f_R w r 1)) 6 (f_R w r 4)) 7 (f_habs w r p)) (f_enLs 2 (Ls 2)) [] 90)) < 2147483648 := co168 _ rfl
          refine ax_iret dX2_strengthOf_171 rfl ?_
          refine ⟨rfl, ?_, ?_⟩
          · refine congrArg (fun z => some (Sum.inl z)) ?_
            unfold f_str
            rw [← f_crun_ls qA (Ls 2) _ (f_lw_gl hg2.2.2 ⟨by decide, by decide⟩)]
          · intro x0 i0 hai
            exact ((frM_162 x0 i0 (fun h => hai (Or.inr h))).trans (ax_up_miss (fun h => hai (Or.inl h.1)) (ax_up_miss (fun h => hai (Or.inl h.1)) (ax_up_miss (fun h => hai (Or.inl h.1)) (ax_up_miss (fun h => hai (Or.inl h.1)) (ax_up_miss (fun h => hai (Or.inl h.1)) (ax_up_miss (fun h => hai (Or.inl h.1)) (ax_up_miss (fun h => hai (Or.inl h.1)) (ax_up_miss (fun h => hai (Or.inl h.1)) rfl)))))))))
  · replace h8 := f_b_0 h8
    exfalso
    exact h8 ⟨by omega, by omega⟩
set_option maxRecDepth 20000 in
theorem s_X2_strength_no (E : ax_Env) (l : Launch) (d : Nat) (hd : 1 ≤ d) (M : ax_Mem) (a p : Int) (Ls : Int → List f_Ln) (w : Int → Int) (r : Int) (hg0 : f_rp a) (hg1 : f_rm M a w r) (hg2 : f_jv Ls w) (hg3 : 0 ≤ r ∧ r < 8) (hg4 : f_hm M w) (hg5 : f_lrn M 52 Ls) (hg6 : 4 < a ∧ a < 37 ∨ a = 78) (hg7 : ¬ (0 ≤ p ∧ p < f_R w r 1)) : ax_G E l d iX2_strengthOf [.inr 71, .inr 1, .inr a, .inl p] M (fun z0 M2 => z0 = some (.inl (-1)) ∧ M = M2) := by
  obtain ⟨d, rfl⟩ : ∃ d0, d = d0 + 1 := ⟨d - 1, by omega⟩
  refine ax_start rfl (Nat.le_of_ble_eq_true rfl) (ls := [some (.inr 71), some (.inr 1), some (.inr a), some (.inl p), none]) rfl (fun hav hcm => ?_)
  have hc3 : -2147483648 ≤ p ∧ p < 2147483648 := hav (.inl p) (by simp)
  clear hav
  have ql : M a 1 = f_R w r 1 := hg1.1
  have qlr := (hg2.1.1 r hg3.1 hg3.2).2
  have qp := hg1.2.2.2.2
  have qw4 : M a 4 = f_R w r 4 := hg1.2.2.2.1
  refine ax_iload_n dX2_strengthOf_0 rfl rfl (pc' := 1) rfl ?_
  refine ax_aload_n dX2_strengthOf_1 rfl rfl (pc' := 2) rfl ?_
  refine ax_geti (v := M a 1) dX2_strengthOf_2 flX2_73 rfl hg0.1 rfl rfl (pc' := 5) rfl ?_
  refine ax_insG [.inl p, .inl (M a 1)] [] dX2_strengthOf_5 mlX2_76 rfl rfl (Nat.le_of_ble_eq_true rfl) (s_X11_isIn E l _ (by omega) _ p (M a 1)) (pc' := 8) rfl (fun vv M_5 hq co5 hcm5 => ?_)
  obtain ⟨rfl, rfl⟩ := hq
  refine ax_reS (st2 := [.inl (f_b (0 ≤ p ∧ p < (M a 1)))]) rfl ?_
  refine ax_if_ne (tgt := 13) dX2_strengthOf_8 (by decide) (pc' := 11) rfl (fun h8 => ?_) (fun h8 => ?_)
  · replace h8 := f_b_1 h8
    exfalso
    exact hg7 ⟨h8.1, by omega⟩
  · replace h8 := f_b_0 h8
    refine ax_iconst dX2_strengthOf_11 (by decide) (pc' := 12) rfl ?_
    refine ax_iret dX2_strengthOf_12 rfl ?_
    refine ⟨rfl, ?_, ?_⟩
    · rfl
    · rfl
set_option maxRecDepth 20000 in
theorem s_X2_weakestBelow (E : ax_Env) (l : Launch) (d : Nat) (hd : 2 ≤ d) (M : ax_Mem) (a bl : Int) (Ls : Int → List f_Ln) (w : Int → Int) (r : Int) (hg0 : f_rp a) (hg1 : f_rm M a w r) (hg2 : f_jv Ls w) (hg3 : 0 ≤ r ∧ r < 8) (hg4 : f_hm M w) (hg5 : f_lrn M 52 Ls) (hg6 : 4 < a ∧ a < 37 ∨ a = 78) (hg7 : 1 ≤ f_R w r 1) : ax_G E l d iX2_weakestBelow [.inr 71, .inr 1, .inr a, .inl bl] M (fun z0 M2 => z0 = some (.inl (if f_str Ls w r (f_wk Ls w r) < bl then f_wk Ls w r else -1)) ∧ (∀ x0 i0 : Int, ¬ (x0 = 72 ∨ x0 = 73) → M2 x0 i0 = M x0 i0)) := by
  obtain ⟨d, rfl⟩ : ∃ d0, d = d0 + 1 := ⟨d - 1, by omega⟩
  refine ax_start rfl (Nat.le_of_ble_eq_true rfl) (ls := [some (.inr 71), some (.inr 1), some (.inr a), some (.inl bl), none, none, none, none]) rfl (fun hav hcm => ?_)
  have hc3 : -2147483648 ≤ bl ∧ bl < 2147483648 := hav (.inl bl) (by simp)
  clear hav
  have ql : M a 1 = f_R w r 1 := hg1.1
  have qlr := (hg2.1.1 r hg3.1 hg3.2).2
  have qp := hg1.2.2.2.2
  have qw4 : M a 4 = f_R w r 4 := hg1.2.2.2.1
  refine ax_iconst dX2_weakestBelow_0 (by decide) (pc' := 1) rfl ?_
  refine ax_istore dX2_weakestBelow_1 (by decide) (ls' := [some (.inr 71), some (.inr 1), some (.inr a), some (.inl bl), some (.inl (-1)), none, none, none]) rfl (pc' := 3) rfl ?_
  refine ax_iload_n dX2_weakestBelow_3 rfl rfl (pc' := 4) rfl ?_
  refine ax_istore dX2_weakestBelow_4 (by decide) (ls' := [some (.inr 71), some (.inr 1), some (.inr a), some (.inl bl), some (.inl (-1)), some (.inl bl), none, none]) rfl (pc' := 6) rfl ?_
  refine ax_iconst dX2_weakestBelow_6 (by decide) (pc' := 7) rfl ?_
  refine ax_istore dX2_weakestBelow_7 (by decide) (ls' := [some (.inr 71), some (.inr 1), some (.inr a), some (.inl bl), some (.inl (-1)), some (.inl bl), some (.inl 0), none]) rfl (pc' := 9) rfl ?_
  have LP1 : ∀ (kq2 : Nat) (p wk ls : Int) (M1 : ax_Mem) (hm1 : f_R w r 1 - p < (kq2 : Nat)) (fr1 : ∀ x0 i0 : Int, ¬ (x0 = 72 ∨ x0 = 73) → M1 x0 i0 = M x0 i0) (iv1_0 : 0 ≤ p ∧ p ≤ f_R w r 1) (iv1_1 : p = 0 → wk = -1 ∧ ls = bl) (iv1_2 : 1 ≤ p → (f_str Ls w r (f_loop (f_wkS Ls w r) 1 p 0) < bl → wk = f_loop (f_wkS Ls w r) 1 p 0 ∧ ls = f_str Ls w r (f_loop (f_wkS Ls w r) 1 p 0)) ∧ (¬ f_str Ls w r (f_loop (f_wkS Ls w r) 1 p 0) < bl → wk = -1 ∧ ls = bl)), ax_W E l (d + 1) 0 0 iX2_weakestBelow 9 [some (.inr 71), some (.inr 1), some (.inr a), some (.inl bl), some (.inl wk), some (.inl ls), some (.inl p), none] [] SH M1 (ax_P (fun z0 M2 => z0 = some (.inl (if f_str Ls w r (f_wk Ls w r) < bl then f_wk Ls w r else -1)) ∧ (∀ x0 i0 : Int, ¬ (x0 = 72 ∨ x0 = 73) → M2 x0 i0 = M x0 i0))) := by
    intro kq2
    induction kq2 with
    | zero =>
      intro p wk ls M1 hm1 fr1 iv1_0 iv1_1 iv1_2
      exfalso
      omega
    | succ kq2 ih3 =>
      intro p wk ls M1 hm1 fr1 iv1_0 iv1_1 iv1_2
      refine ax_iload dX2_weakestBelow_9 rfl (pc' := 11) rfl ?_
      refine ax_aload_n dX2_weakestBelow_11 rfl rfl (pc' := 12) rfl ?_
      refine ax_geti (v := M a 1) dX2_weakestBelow_12 flX2_73 rfl hg0.1 ((fr1 a 1 (by omega)).trans rfl) rfl (pc' := 15) rfl ?_
      refine ax_icmp_ge (tgt := 49) dX2_weakestBelow_15 (by decide) (pc' := 18) rfl (fun h15 => ?_) (fun h15 => ?_)
      · refine ax_iload dX2_weakestBelow_49 rfl (pc' := 51) rfl ?_
        refine ax_iret dX2_weakestBelow_51 rfl ?_
        refine ⟨rfl, ?_, ?_⟩
        · refine congrArg (fun z => some (Sum.inl z)) ?_
          have q := iv1_2 (by omega)
          have qe : f_wk Ls w r = f_loop (f_wkS Ls w r) 1 p 0 := by
            unfold f_wk
            rw [show f_R w r 1 = p by omega]
          rw [qe]
          split
          · exact (q.1 (by assumption)).1
          · exact (q.2 (by assumption)).1
        · intro x0 i0 hai
          exact ((fr1 x0 i0 (fun h => h.elim (fun h => hai (Or.inl h)) (fun h => hai (Or.inr h)))).trans rfl)
      · refine ax_aload_n dX2_weakestBelow_18 rfl rfl (pc' := 19) rfl ?_
        refine ax_aload_n dX2_weakestBelow_19 rfl rfl (pc' := 20) rfl ?_
        refine ax_aload_n dX2_weakestBelow_20 rfl rfl (pc' := 21) rfl ?_
        refine ax_iload dX2_weakestBelow_21 rfl (pc' := 23) rfl ?_
        refine ax_invG [.inr 1, .inr a, .inl p] [] dX2_weakestBelow_23 mlX2_92 sh_71 rfl rfl rfl (Nat.le_of_ble_eq_true rfl) (s_X2_strengthOf E l _ (by omega) _ a p Ls w r hg0 (f_rm_fr (M := M) (fun x0 i0 hx => ((fr1 x0 i0 (by omega)).trans rfl)) hg1) hg2 hg3 (f_hm_fr (M := M) (fun x0 i0 hx => ((fr1 x0 i0 (by omega)).trans rfl)) hg4) (f_lrn_fr (M := M) (fun x0 i0 hx => ((fr1 x0 i0 (by omega)).trans rfl)) hg5) hg6 ⟨by omega, by omega⟩) (pc' := 26) rfl (fun vv M_23 hq co23 hcm23 => ?_)
        obtain ⟨rfl, frM_23⟩ := hq
        refine ax_reS (st2 := [.inl (f_str Ls w r p)]) rfl ?_
        have cc23 : -2147483648 ≤ f_str Ls w r p ∧ f_str Ls w r p < 2147483648 := co23 _ rfl
        refine ax_istore dX2_weakestBelow_26 (by decide) (ls' := [some (.inr 71), some (.inr 1), some (.inr a), some (.inl bl), some (.inl wk), some (.inl ls), some (.inl p), some (.inl (f_str Ls w r p))]) rfl (pc' := 28) rfl ?_
        refine ax_iload dX2_weakestBelow_28 rfl (pc' := 30) rfl ?_
        refine ax_iload dX2_weakestBelow_30 rfl (pc' := 32) rfl ?_
        refine ax_icmp_ge (tgt := 43) dX2_weakestBelow_32 (by decide) (pc' := 35) rfl (fun h32 => ?_) (fun h32 => ?_)
        · have qb : 1 ≤ p + 1 → (f_str Ls w r (f_loop (f_wkS Ls w r) 1 (p + 1) 0) < bl → wk = f_loop (f_wkS Ls w r) 1 (p + 1) 0 ∧ ls = f_str Ls w r (f_loop (f_wkS Ls w r) 1 (p + 1) 0)) ∧ (¬ f_str Ls w r (f_loop (f_wkS Ls w r) 1 (p + 1) 0) < bl → wk = -1 ∧ ls = bl) := by
            intro _
            by_cases h0 : p = 0
            · have q := iv1_1 h0
              rw [f_loop_done (by omega), ← h0]
              omega
            · have q := iv1_2 (by omega)
              rw [f_loop_last (by omega)]
              obtain ⟨bb, qbb⟩ : ∃ z, z = f_loop (f_wkS Ls w r) 1 p 0 := ⟨_, rfl⟩
              rw [← qbb] at q ⊢
              have e : f_wkS Ls w r p bb = if f_str Ls w r p < f_str Ls w r bb then p else bb := rfl
              rw [e]
              split <;> omega
          refine ax_iinc dX2_weakestBelow_43 rfl (by decide) (by omega) (ls' := [some (.inr 71), some (.inr 1), some (.inr a), some (.inl bl), some (.inl wk), some (.inl ls), some (.inl (p + 1)), some (.inl (f_str Ls w r p))]) rfl (pc' := 46) rfl ?_
          refine ax_goto dX2_weakestBelow_46 (pc' := 9) (by decide) ?_
          refine ax_less (ls2 := [some (.inr 71), some (.inr 1), some (.inr a), some (.inl bl), some (.inl wk), some (.inl ls), some (.inl (p + 1)), none]) [true, true, true, true, true, true, true, false] rfl ?_
          refine ih3 (p + 1) wk ls M_23 ?_ ?_ ?_ ?_ ?_
          · omega
          · intro x0 i0 hai
            exact ((frM_23 x0 i0 (fun h => h.elim (fun h => hai (Or.inl h)) (fun h => hai (Or.inr h)))).trans ((fr1 x0 i0 (fun h => h.elim (fun h => hai (Or.inl h)) (fun h => hai (Or.inr h)))).trans rfl))
          · omega
          · intro q
            omega
          · exact qb
        · refine ax_iload dX2_weakestBelow_35 rfl (pc' := 37) rfl ?_
          refine ax_istore dX2_weakestBelow_37 (by decide) (ls' := [some (.inr 71), some (.inr 1), some (.inr a), some (.inl bl), some (.inl p), some (.inl ls), some (.inl p), some (.inl (f_str Ls w r p))]) rfl (pc' := 39) rfl ?_
          refine ax_iload dX2_weakestBelow_39 rfl (pc' := 41) rfl ?_
          refine ax_istore dX2_weakestBelow_41 (by decide) (ls' := [some (.inr 71), some (.inr 1), some (.inr a), some (.inl bl), some (.inl p), some (.inl (f_str Ls w r p)), some (.inl p), some (.inl (f_str Ls w r p))]) rfl (pc' := 43) rfl ?_
          have qb : 1 ≤ p + 1 → (f_str Ls w r (f_loop (f_wkS Ls w r) 1 (p + 1) 0) < bl → p = f_loop (f_wkS Ls w r) 1 (p + 1) 0 ∧ f_str Ls w r p = f_str Ls w r (f_loop (f_wkS Ls w r) 1 (p + 1) 0)) ∧ (¬ f_str Ls w r (f_loop (f_wkS Ls w r) 1 (p + 1) 0) < bl → p = -1 ∧ f_str Ls w r p = bl) := by
            intro _
            by_cases h0 : p = 0
            · have q := iv1_1 h0
              rw [f_loop_done (by omega), ← h0]
              omega
            · have q := iv1_2 (by omega)
              rw [f_loop_last (by omega)]
              obtain ⟨bb, qbb⟩ : ∃ z, z = f_loop (f_wkS Ls w r) 1 p 0 := ⟨_, rfl⟩
              rw [← qbb] at q ⊢
              have e : f_wkS Ls w r p bb = if f_str Ls w r p < f_str Ls w r bb then p else bb := rfl
              rw [e]
              split <;> omega
          refine ax_iinc dX2_weakestBelow_43 rfl (by decide) (by omega) (ls' := [some (.inr 71), some (.inr 1), some (.inr a), some (.inl bl), some (.inl p), some (.inl (f_str Ls w r p)), some (.inl (p + 1)), some (.inl (f_str Ls w r p))]) rfl (pc' := 46) rfl ?_
          refine ax_goto dX2_weakestBelow_46 (pc' := 9) (by decide) ?_
          refine ax_less (ls2 := [some (.inr 71), some (.inr 1), some (.inr a), some (.inl bl), some (.inl p), some (.inl (f_str Ls w r p)), some (.inl (p + 1)), none]) [true, true, true, true, true, true, true, false] rfl ?_
          refine ih3 (p + 1) p (f_str Ls w r p) M_23 ?_ ?_ ?_ ?_ ?_
          · omega
          · intro x0 i0 hai
            exact ((frM_23 x0 i0 (fun h => h.elim (fun h => hai (Or.inl h)) (fun h => hai (Or.inr h)))).trans ((fr1 x0 i0 (fun h => h.elim (fun h => hai (Or.inl h)) (fun h => hai (Or.inr h)))).trans rfl))
          · omega
          · intro q
            omega
          · exact qb
  refine LP1 (f_R w r 1 - 0 : Int).toNat.succ 0 (-1) bl M ?_ ?_ ?_ ?_ ?_
  · omega
  · exact fun a i _ => rfl
  · omega
  · exact fun _ => ⟨rfl, rfl⟩
  · intro q
    omega
