/-! what is told of the world -/
set_option maxRecDepth 20000 in
theorem s_X11_of (E : ax_Env) (l : Launch) (d : Nat) (hd : 2 ≤ d) (M : ax_Mem) (r what : Int) (Ls : Int → List f_Ln) (w : Int → Int) (hg0 : f_nb M w) (hg1 : f_jv Ls w) (hg2 : f_lrn M 52 Ls) : ax_G E l d iX11_of [.inr 0, .inl r, .inl what] M (fun z0 M2 => z0 = some (.inl (if f_isR w r then F_of w r what else -1)) ∧ M = M2) := by
  obtain ⟨d, rfl⟩ : ∃ d0, d = d0 + 1 := ⟨d - 1, by omega⟩
  refine ax_start rfl (Nat.le_of_ble_eq_true rfl) (ls := [some (.inr 0), some (.inl r), some (.inl what), none]) rfl (fun hav hcm => ?_)
  have hc1 : -2147483648 ≤ r ∧ r < 2147483648 := hav (.inl r) (by simp)
  have hc2 : -2147483648 ≤ what ∧ what < 2147483648 := hav (.inl what) (by simp)
  clear hav
  have qlo := hg1.1.2.2.1
  have qlb := hg1.1.2.2.2.1
  refine ax_aload_n dX11_of_0 rfl rfl (pc' := 1) rfl ?_
  refine ax_getr (v := 1) dX11_of_1 flX11_10 rfl sh_0 rfl (pc' := 4) rfl ?_
  refine ax_iload_n dX11_of_4 rfl rfl (pc' := 5) rfl ?_
  by_cases hir : f_isR w r
  · refine ax_invG [.inl r] [] dX11_of_5 mlX11_139 sh_1 rfl rfl rfl (Nat.le_of_ble_eq_true rfl) (s_X9_ropeAt_ok E l _ (by omega) _ r w hg0.1 hg1.1.1 hir) (pc' := 8) rfl (fun vv M_5 hq co5 hcm5 => ?_)
    obtain ⟨rfl, rfl⟩ := hq
    refine ax_reS (st2 := [.inr (5 + 4 * r)]) rfl ?_
    have hgr : 0 ≤ r ∧ r < 8 := ⟨hir.1, by omega⟩
    have qrm := f_wm_rm hg0.1 hir
    have ql : M (5 + 4 * r) 1 = f_R w r 1 := qrm.1
    have qlr := (hg1.1.1 r hgr.1 hgr.2).2
    have qow : M (5 + 4 * r) 2 = f_R w r 2 := qrm.2.1
    have qbo : M (5 + 4 * r) 3 = f_R w r 3 := qrm.2.2.1
    have qwe : M (5 + 4 * r) 4 = f_R w r 4 := qrm.2.2.2.1
    have qlen := (hg1.2.1 r hgr.1 hgr.2).2 hir.2.2
    refine ax_astore_n dX11_of_8 rfl (by decide) (ls' := [some (.inr 0), some (.inl r), some (.inl what), some (.inr (5 + 4 * r))]) rfl (pc' := 9) rfl ?_
    refine ax_aload_n dX11_of_9 rfl rfl (pc' := 10) rfl ?_
    refine ax_ifnonnull (tgt := 15) dX11_of_10 (by omega) (by decide) (pc' := 13) rfl (fun h10 => ?_) (fun h10 => ?_)
    · refine ax_iload_n dX11_of_15 rfl rfl (pc' := 16) rfl ?_
      by_cases h16_0 : what = 0
      · refine ax_reS (st2 := [.inl 0]) (by rw [h16_0]) ?_
        refine ax_tabIn (tgt := 56) dX11_of_16 (by decide) (by decide) rfl (by decide) ?_
        refine ax_aload_n dX11_of_56 rfl rfl (pc' := 57) rfl ?_
        refine ax_geti (v := M (5 + 4 * r) 1) dX11_of_57 flX11_170 rfl (f_rp_now ⟨by omega, by omega⟩).1 rfl rfl (pc' := 60) rfl ?_
        refine ax_iret dX11_of_60 rfl ?_
        refine ⟨rfl, ?_, ?_⟩
        · refine congrArg (fun z => some (Sum.inl z)) ?_
          first
            | rw [if_neg hir]
            | (rw [if_pos hir]
               unfold F_of
               repeat' split
               all_goals first | rfl | assumption | omega | (exfalso; omega))
        · rfl
      by_cases h16_1 : what = 1
      · refine ax_reS (st2 := [.inl 1]) (by rw [h16_1]) ?_
        refine ax_tabIn (tgt := 61) dX11_of_16 (by decide) (by decide) rfl (by decide) ?_
        refine ax_aload_n dX11_of_61 rfl rfl (pc' := 62) rfl ?_
        refine ax_geti (v := M (5 + 4 * r) 2) dX11_of_62 flX11_189 rfl (f_rp_now ⟨by omega, by omega⟩).1 rfl rfl (pc' := 65) rfl ?_
        refine ax_iret dX11_of_65 rfl ?_
        refine ⟨rfl, ?_, ?_⟩
        · refine congrArg (fun z => some (Sum.inl z)) ?_
          first
            | rw [if_neg hir]
            | (rw [if_pos hir]
               unfold F_of
               repeat' split
               all_goals first | rfl | assumption | omega | (exfalso; omega))
        · rfl
      by_cases h16_2 : what = 2
      · refine ax_reS (st2 := [.inl 2]) (by rw [h16_2]) ?_
        refine ax_tabIn (tgt := 66) dX11_of_16 (by decide) (by decide) rfl (by decide) ?_
        refine ax_aload_n dX11_of_66 rfl rfl (pc' := 67) rfl ?_
        refine ax_geti (v := M (5 + 4 * r) 3) dX11_of_67 flX11_254 rfl (f_rp_now ⟨by omega, by omega⟩).1 rfl rfl (pc' := 70) rfl ?_
        refine ax_iret dX11_of_70 rfl ?_
        refine ⟨rfl, ?_, ?_⟩
        · refine congrArg (fun z => some (Sum.inl z)) ?_
          first
            | rw [if_neg hir]
            | (rw [if_pos hir]
               unfold F_of
               repeat' split
               all_goals first | rfl | assumption | omega | (exfalso; omega))
        · rfl
      by_cases h16_3 : what = 3
      · refine ax_reS (st2 := [.inl 3]) (by rw [h16_3]) ?_
        refine ax_tabIn (tgt := 71) dX11_of_16 (by decide) (by decide) rfl (by decide) ?_
        refine ax_aload_n dX11_of_71 rfl rfl (pc' := 72) rfl ?_
        refine ax_geti (v := M (5 + 4 * r) 4) dX11_of_72 flX11_257 rfl (f_rp_now ⟨by omega, by omega⟩).1 rfl rfl (pc' := 75) rfl ?_
        refine ax_iret dX11_of_75 rfl ?_
        refine ⟨rfl, ?_, ?_⟩
        · refine congrArg (fun z => some (Sum.inl z)) ?_
          first
            | rw [if_neg hir]
            | (rw [if_pos hir]
               unfold F_of
               repeat' split
               all_goals first | rfl | assumption | omega | (exfalso; omega))
        · rfl
      by_cases h16_4 : what = 4
      · refine ax_reS (st2 := [.inl 4]) (by rw [h16_4]) ?_
        refine ax_tabIn (tgt := 76) dX11_of_16 (by decide) (by decide) rfl (by decide) ?_
        refine ax_aload_n dX11_of_76 rfl rfl (pc' := 77) rfl ?_
        refine ax_invG [] [] dX11_of_77 mlX11_260 (f_rp_now ⟨by omega, by omega⟩).1 rfl rfl rfl (Nat.le_of_ble_eq_true rfl) (s_X7_tiesInAll E l _ (by omega) _ (5 + 4 * r) w r (f_rp_now hgr) qrm hg1.1 hgr) (pc' := 80) rfl (fun vv M_77 hq co77 hcm77 => ?_)
        obtain ⟨rfl, rfl⟩ := hq
        refine ax_reS (st2 := [.inl (f_tied w r)]) rfl ?_
        have cc77 : -2147483648 ≤ f_tied w r ∧ f_tied w r < 2147483648 := co77 _ rfl
        refine ax_iret dX11_of_80 rfl ?_
        refine ⟨rfl, ?_, ?_⟩
        · refine congrArg (fun z => some (Sum.inl z)) ?_
          first
            | rw [if_neg hir]
            | (rw [if_pos hir]
               unfold F_of
               repeat' split
               all_goals first | rfl | assumption | omega | (exfalso; omega))
        · rfl
      by_cases h16_5 : what = 5
      · refine ax_reS (st2 := [.inl 5]) (by rw [h16_5]) ?_
        refine ax_tabIn (tgt := 81) dX11_of_16 (by decide) (by decide) rfl (by decide) ?_
        refine ax_aload_n dX11_of_81 rfl rfl (pc' := 82) rfl ?_
        refine ax_invG [] [] dX11_of_82 mlX11_263 (f_rp_now ⟨by omega, by omega⟩).1 rfl rfl rfl (Nat.le_of_ble_eq_true rfl) (s_X7_habitsInAll E l _ (by omega) _ (5 + 4 * r) w r (f_rp_now hgr) qrm hg1.1 hgr) (pc' := 85) rfl (fun vv M_82 hq co82 hcm82 => ?_)
        obtain ⟨rfl, rfl⟩ := hq
        refine ax_reS (st2 := [.inl (f_all w r)]) rfl ?_
        have cc82 : -2147483648 ≤ f_all w r ∧ f_all w r < 2147483648 := co82 _ rfl
        refine ax_iret dX11_of_85 rfl ?_
        refine ⟨rfl, ?_, ?_⟩
        · refine congrArg (fun z => some (Sum.inl z)) ?_
          first
            | rw [if_neg hir]
            | (rw [if_pos hir]
               unfold F_of
               repeat' split
               all_goals first | rfl | assumption | omega | (exfalso; omega))
        · rfl
      refine ax_tabOut (tgt := 86) dX11_of_16 (by omega) (by decide) ?_
      refine ax_iconst dX11_of_86 (by decide) (pc' := 87) rfl ?_
      refine ax_iret dX11_of_87 rfl ?_
      refine ⟨rfl, ?_, ?_⟩
      · refine congrArg (fun z => some (Sum.inl z)) ?_
        first
          | rw [if_neg hir]
          | (rw [if_pos hir]
             unfold F_of
             repeat' split
             all_goals first | rfl | assumption | omega | (exfalso; omega))
      · rfl
    · exfalso
      omega
  · refine ax_invG [.inl r] [] dX11_of_5 mlX11_139 sh_1 rfl rfl rfl (Nat.le_of_ble_eq_true rfl) (s_X9_ropeAt_no E l _ (by omega) _ r w hg0.1 hg1.1.1 hir) (pc' := 8) rfl (fun vv M_5 hq co5 hcm5 => ?_)
    obtain ⟨rfl, rfl⟩ := hq
    refine ax_reS (st2 := [.inr (-1)]) rfl ?_
    refine ax_astore_n dX11_of_8 rfl (by decide) (ls' := [some (.inr 0), some (.inl r), some (.inl what), some (.inr (-1))]) rfl (pc' := 9) rfl ?_
    refine ax_aload_n dX11_of_9 rfl rfl (pc' := 10) rfl ?_
    refine ax_ifnonnull (tgt := 15) dX11_of_10 (by decide) (by decide) (pc' := 13) rfl (fun h10 => ?_) (fun h10 => ?_)
    · exfalso
      omega
    · refine ax_iconst dX11_of_13 (by decide) (pc' := 14) rfl ?_
      refine ax_iret dX11_of_14 rfl ?_
      refine ⟨rfl, ?_, ?_⟩
      · refine congrArg (fun z => some (Sum.inl z)) ?_
        first
          | rw [if_neg hir]
          | (rw [if_pos hir]
             unfold F_of
             repeat' split
             all_goals first | rfl | assumption | omega | (exfalso; omega))
      · rfl
set_option maxRecDepth 20000 in
theorem s_X11_at (E : ax_Env) (l : Launch) (d : Nat) (hd : 3 ≤ d) (M : ax_Mem) (r p what : Int) (Ls : Int → List f_Ln) (w : Int → Int) (hg0 : f_nb M w) (hg1 : f_jv Ls w) (hg2 : f_lrn M 52 Ls) : ax_G E l d iX11_at [.inr 0, .inl r, .inl p, .inl what] M (fun z0 M2 => z0 = some (.inl (F_at Ls w r p what)) ∧ (∀ x0 i0 : Int, ¬ (x0 = 72 ∨ x0 = 73) → M2 x0 i0 = M x0 i0)) := by
  obtain ⟨d, rfl⟩ : ∃ d0, d = d0 + 1 := ⟨d - 1, by omega⟩
  refine ax_start rfl (Nat.le_of_ble_eq_true rfl) (ls := [some (.inr 0), some (.inl r), some (.inl p), some (.inl what), none, none]) rfl (fun hav hcm => ?_)
  have hc1 : -2147483648 ≤ r ∧ r < 2147483648 := hav (.inl r) (by simp)
  have hc2 : -2147483648 ≤ p ∧ p < 2147483648 := hav (.inl p) (by simp)
  have hc3 : -2147483648 ≤ what ∧ what < 2147483648 := hav (.inl what) (by simp)
  clear hav
  have qlo := hg1.1.2.2.1
  have qlb := hg1.1.2.2.2.1
  refine ax_aload_n dX11_at_0 rfl rfl (pc' := 1) rfl ?_
  refine ax_getr (v := 1) dX11_at_1 flX11_10 rfl sh_0 rfl (pc' := 4) rfl ?_
  refine ax_iload_n dX11_at_4 rfl rfl (pc' := 5) rfl ?_
  by_cases hir : f_isR w r
  · refine ax_invG [.inl r] [] dX11_at_5 mlX11_139 sh_1 rfl rfl rfl (Nat.le_of_ble_eq_true rfl) (s_X9_ropeAt_ok E l _ (by omega) _ r w hg0.1 hg1.1.1 hir) (pc' := 8) rfl (fun vv M_5 hq co5 hcm5 => ?_)
    obtain ⟨rfl, rfl⟩ := hq
    refine ax_reS (st2 := [.inr (5 + 4 * r)]) rfl ?_
    have hgr : 0 ≤ r ∧ r < 8 := ⟨hir.1, by omega⟩
    have qrm := f_wm_rm hg0.1 hir
    have ql : M (5 + 4 * r) 1 = f_R w r 1 := qrm.1
    have qlr := (hg1.1.1 r hgr.1 hgr.2).2
    have qow : M (5 + 4 * r) 2 = f_R w r 2 := qrm.2.1
    have qbo : M (5 + 4 * r) 3 = f_R w r 3 := qrm.2.2.1
    have qwe : M (5 + 4 * r) 4 = f_R w r 4 := qrm.2.2.2.1
    have qlen := (hg1.2.1 r hgr.1 hgr.2).2 hir.2.2
    refine ax_astore dX11_at_8 (by decide) (ls' := [some (.inr 0), some (.inl r), some (.inl p), some (.inl what), some (.inr (5 + 4 * r)), none]) rfl (pc' := 10) rfl ?_
    refine ax_aload dX11_at_10 rfl (pc' := 12) rfl ?_
    refine ax_ifnull (tgt := 27) dX11_at_12 (by omega) (by decide) (pc' := 15) rfl (fun h12 => ?_) (fun h12 => ?_)
    · exfalso
      omega
    · refine ax_iload_n dX11_at_15 rfl rfl (pc' := 16) rfl ?_
      refine ax_aload dX11_at_16 rfl (pc' := 18) rfl ?_
      refine ax_geti (v := M (5 + 4 * r) 1) dX11_at_18 flX11_170 rfl (f_rp_now ⟨by omega, by omega⟩).1 rfl rfl (pc' := 21) rfl ?_
      refine ax_insG [.inl p, .inl (M (5 + 4 * r) 1)] [] dX11_at_21 mlX11_114 rfl rfl (Nat.le_of_ble_eq_true rfl) (s_X11_isIn E l _ (by omega) _ p (M (5 + 4 * r) 1)) (pc' := 24) rfl (fun vv M_21 hq co21 hcm21 => ?_)
      obtain ⟨rfl, rfl⟩ := hq
      refine ax_reS (st2 := [.inl (f_b (0 ≤ p ∧ p < (M (5 + 4 * r) 1)))]) rfl ?_
      refine ax_if_ne (tgt := 30) dX11_at_24 (by decide) (pc' := 27) rfl (fun h24 => ?_) (fun h24 => ?_)
      · replace h24 := f_b_1 h24
        have qis : f_isP w r p := ⟨hir, by omega, by omega⟩
        have qt := (qrm.2.2.2.2 p (by omega) (by omega)).1
        refine ax_aload dX11_at_30 rfl (pc' := 32) rfl ?_
        refine ax_getr (v := 5 + 4 * r + 1) dX11_at_32 flX11_157 rfl (f_rp_now ⟨by omega, by omega⟩).1 rfl (pc' := 35) rfl ?_
        refine ax_iload_n dX11_at_35 rfl rfl (pc' := 36) rfl ?_
        refine ax_iald (v := (M (5 + 4 * r + 1)) p) dX11_at_36 (f_rp_now ⟨by omega, by omega⟩).2.1 rfl (by omega) (by omega) ((congrFun rfl p).trans rfl) (pc' := 37) rfl ?_
        refine ax_iconst dX11_at_37 (by decide) (pc' := 38) rfl ?_
        refine ax_icmp_ne (tgt := 50) dX11_at_38 (by decide) (pc' := 41) rfl (fun h38 => ?_) (fun h38 => ?_)
        · refine ax_iconst dX11_at_50 (by decide) (pc' := 51) rfl ?_
          refine ax_istore dX11_at_51 (by decide) (ls' := [some (.inr 0), some (.inl r), some (.inl p), some (.inl what), some (.inr (5 + 4 * r)), some (.inl (-1))]) rfl (pc' := 53) rfl ?_
          refine ax_iload_n dX11_at_53 rfl rfl (pc' := 54) rfl ?_
          by_cases h54_0 : what = 0
          · refine ax_reS (st2 := [.inl 0]) (by rw [h54_0]) ?_
            refine ax_tabIn (tgt := 84) dX11_at_54 (by decide) (by decide) rfl (by decide) ?_
            refine ax_aload dX11_at_84 rfl (pc' := 86) rfl ?_
            refine ax_getr (v := 5 + 4 * r + 1) dX11_at_86 flX11_157 rfl (f_rp_now ⟨by omega, by omega⟩).1 rfl (pc' := 89) rfl ?_
            refine ax_iload_n dX11_at_89 rfl rfl (pc' := 90) rfl ?_
            refine ax_iald (v := (M (5 + 4 * r + 1)) p) dX11_at_90 (f_rp_now ⟨by omega, by omega⟩).2.1 rfl (by omega) (by omega) ((congrFun rfl p).trans rfl) (pc' := 91) rfl ?_
            refine ax_iret dX11_at_91 rfl ?_
            refine ⟨rfl, ?_, ?_⟩
            · refine congrArg (fun z => some (Sum.inl z)) ?_
              unfold F_at
              rw [if_neg (fun h => h qis)]
              repeat' split
              all_goals first | rfl | assumption | omega | (exfalso; omega)
            · intro x0 i0 hai
              exact rfl
          by_cases h54_1 : what = 1
          · refine ax_reS (st2 := [.inl 1]) (by rw [h54_1]) ?_
            refine ax_tabIn (tgt := 92) dX11_at_54 (by decide) (by decide) rfl (by decide) ?_
            refine ax_iload dX11_at_92 rfl (pc' := 94) rfl ?_
            refine ax_iret dX11_at_94 rfl ?_
            refine ⟨rfl, ?_, ?_⟩
            · refine congrArg (fun z => some (Sum.inl z)) ?_
              unfold F_at
              rw [if_neg (fun h => h qis)]
              repeat' split
              all_goals first | rfl | assumption | omega | (exfalso; omega)
            · intro x0 i0 hai
              exact rfl
          by_cases h54_2 : what = 2
          · refine ax_reS (st2 := [.inl 2]) (by rw [h54_2]) ?_
            refine ax_tabIn (tgt := 95) dX11_at_54 (by decide) (by decide) rfl (by decide) ?_
            refine ax_iload dX11_at_95 rfl (pc' := 97) rfl ?_
            refine ax_iconst dX11_at_97 (by decide) (pc' := 98) rfl ?_
            refine ax_icmp_ne (tgt := 105) dX11_at_98 (by decide) (pc' := 101) rfl (fun h98 => ?_) (fun h98 => ?_)
            · exfalso
              omega
            · refine ax_iconst dX11_at_101 (by decide) (pc' := 102) rfl ?_
              refine ax_goto dX11_at_102 (pc' := 121) (by decide) ?_
              refine ax_iret dX11_at_121 rfl ?_
              refine ⟨rfl, ?_, ?_⟩
              · refine congrArg (fun z => some (Sum.inl z)) ?_
                unfold F_at
                rw [if_neg (fun h => h qis)]
                repeat' split
                all_goals first | rfl | assumption | omega | (exfalso; omega)
              · intro x0 i0 hai
                exact rfl
          by_cases h54_3 : what = 3
          · refine ax_reS (st2 := [.inl 3]) (by rw [h54_3]) ?_
            refine ax_tabIn (tgt := 122) dX11_at_54 (by decide) (by decide) rfl (by decide) ?_
            refine ax_aload_n dX11_at_122 rfl rfl (pc' := 123) rfl ?_
            refine ax_getr (v := 71) dX11_at_123 flX11_56 rfl sh_0 rfl (pc' := 126) rfl ?_
            refine ax_aload_n dX11_at_126 rfl rfl (pc' := 127) rfl ?_
            refine ax_getr (v := 1) dX11_at_127 flX11_10 rfl sh_0 rfl (pc' := 130) rfl ?_
            refine ax_aload dX11_at_130 rfl (pc' := 132) rfl ?_
            refine ax_iload_n dX11_at_132 rfl rfl (pc' := 133) rfl ?_
            refine ax_invG [.inr 1, .inr (5 + 4 * r), .inl p] [] dX11_at_133 mlX11_274 sh_71 rfl rfl rfl (Nat.le_of_ble_eq_true rfl) (s_X2_strengthOf E l _ (by omega) _ (5 + 4 * r) p Ls w r (f_rp_now hgr) qrm hg1 hgr (f_wm_hm hg0.1) hg2 (Or.inl ⟨by omega, by omega⟩) ⟨by omega, by omega⟩) (pc' := 136) rfl (fun vv M_133 hq co133 hcm133 => ?_)
            obtain ⟨rfl, frM_133⟩ := hq
            refine ax_reS (st2 := [.inl (f_str Ls w r p)]) rfl ?_
            have cc133 : -2147483648 ≤ f_str Ls w r p ∧ f_str Ls w r p < 2147483648 := co133 _ rfl
            refine ax_iret dX11_at_136 rfl ?_
            refine ⟨rfl, ?_, ?_⟩
            · refine congrArg (fun z => some (Sum.inl z)) ?_
              unfold F_at
              rw [if_neg (fun h => h qis)]
              repeat' split
              all_goals first | rfl | assumption | omega | (exfalso; omega)
            · intro x0 i0 hai
              exact ((frM_133 x0 i0 (fun h => h.elim (fun h => hai (Or.inl h)) (fun h => hai (Or.inr h)))).trans rfl)
          refine ax_tabOut (tgt := 137) dX11_at_54 (by omega) (by decide) ?_
          refine ax_bipush dX11_at_137 (by decide) (pc' := 139) rfl ?_
          refine ax_iret dX11_at_139 rfl ?_
          refine ⟨rfl, ?_, ?_⟩
          · refine congrArg (fun z => some (Sum.inl z)) ?_
            unfold F_at
            rw [if_neg (fun h => h qis)]
            repeat' split
            all_goals first | rfl | assumption | omega | (exfalso; omega)
          · intro x0 i0 hai
            exact rfl
        · refine ax_aload dX11_at_41 rfl (pc' := 43) rfl ?_
          refine ax_iload_n dX11_at_43 rfl rfl (pc' := 44) rfl ?_
          refine ax_invG [.inl p] [] dX11_at_44 mlX11_266 (f_rp_now ⟨by omega, by omega⟩).1 rfl rfl rfl (Nat.le_of_ble_eq_true rfl) (s_X7_callAt E l _ (by omega) _ (5 + 4 * r) p w r (f_rp_now hgr) qrm hg1.1 hgr ⟨by omega, by omega⟩) (pc' := 47) rfl (fun vv M_44 hq co44 hcm44 => ?_)
          obtain ⟨rfl, rfl, fa44_0⟩ := hq
          refine ax_reS (st2 := [.inl (f_call w r p)]) rfl ?_
          have cc44 : -2147483648 ≤ f_call w r p ∧ f_call w r p < 2147483648 := co44 _ rfl
          refine ax_goto dX11_at_47 (pc' := 51) (by decide) ?_
          refine ax_istore dX11_at_51 (by decide) (ls' := [some (.inr 0), some (.inl r), some (.inl p), some (.inl what), some (.inr (5 + 4 * r)), some (.inl (f_call w r p))]) rfl (pc' := 53) rfl ?_
          refine ax_iload_n dX11_at_53 rfl rfl (pc' := 54) rfl ?_
          by_cases h54_0 : what = 0
          · refine ax_reS (st2 := [.inl 0]) (by rw [h54_0]) ?_
            refine ax_tabIn (tgt := 84) dX11_at_54 (by decide) (by decide) rfl (by decide) ?_
            refine ax_aload dX11_at_84 rfl (pc' := 86) rfl ?_
            refine ax_getr (v := 5 + 4 * r + 1) dX11_at_86 flX11_157 rfl (f_rp_now ⟨by omega, by omega⟩).1 rfl (pc' := 89) rfl ?_
            refine ax_iload_n dX11_at_89 rfl rfl (pc' := 90) rfl ?_
            refine ax_iald (v := (M (5 + 4 * r + 1)) p) dX11_at_90 (f_rp_now ⟨by omega, by omega⟩).2.1 rfl (by omega) (by omega) ((congrFun rfl p).trans rfl) (pc' := 91) rfl ?_
            refine ax_iret dX11_at_91 rfl ?_
            refine ⟨rfl, ?_, ?_⟩
            · refine congrArg (fun z => some (Sum.inl z)) ?_
              unfold F_at
              rw [if_neg (fun h => h qis)]
              repeat' split
              all_goals first | rfl | assumption | omega | (exfalso; omega)
            · intro x0 i0 hai
              exact rfl
          by_cases h54_1 : what = 1
          · refine ax_reS (st2 := [.inl 1]) (by rw [h54_1]) ?_
            refine ax_tabIn (tgt := 92) dX11_at_54 (by decide) (by decide) rfl (by decide) ?_
            refine ax_iload dX11_at_92 rfl (pc' := 94) rfl ?_
            refine ax_iret dX11_at_94 rfl ?_
            refine ⟨rfl, ?_, ?_⟩
            · refine congrArg (fun z => some (Sum.inl z)) ?_
              unfold F_at
              rw [if_neg (fun h => h qis)]
              repeat' split
              all_goals first | rfl | assumption | omega | (exfalso; omega)
            · intro x0 i0 hai
              exact rfl
          by_cases h54_2 : what = 2
          · refine ax_reS (st2 := [.inl 2]) (by rw [h54_2]) ?_
            refine ax_tabIn (tgt := 95) dX11_at_54 (by decide) (by decide) rfl (by decide) ?_
            refine ax_iload dX11_at_95 rfl (pc' := 97) rfl ?_
            refine ax_iconst dX11_at_97 (by decide) (pc' := 98) rfl ?_
            refine ax_icmp_ne (tgt := 105) dX11_at_98 (by decide) (pc' := 101) rfl (fun h98 => ?_) (fun h98 => ?_)
            · refine ax_aload_n dX11_at_105 rfl rfl (pc' := 106) rfl ?_
              refine ax_getr (v := 71) dX11_at_106 flX11_56 rfl sh_0 rfl (pc' := 109) rfl ?_
              refine ax_aload_n dX11_at_109 rfl rfl (pc' := 110) rfl ?_
              refine ax_getr (v := 1) dX11_at_110 flX11_10 rfl sh_0 rfl (pc' := 113) rfl ?_
              refine ax_aload dX11_at_113 rfl (pc' := 115) rfl ?_
              refine ax_iload_n dX11_at_115 rfl rfl (pc' := 116) rfl ?_
              refine ax_iload dX11_at_116 rfl (pc' := 118) rfl ?_
              refine ax_invG [.inr 1, .inr (5 + 4 * r), .inl p, .inl (f_call w r p)] [] dX11_at_118 mlX11_270 sh_71 rfl rfl rfl (Nat.le_of_ble_eq_true rfl) (s_X2_needOf E l _ (by omega) _ (5 + 4 * r) p (f_call w r p) Ls w r (f_rp_now hgr) qrm hg1 hgr (f_wm_hm hg0.1) hg2 (Or.inl ⟨by omega, by omega⟩) ⟨by omega, by omega⟩ ⟨by omega, by omega⟩ (by omega)) (pc' := 121) rfl (fun vv M_118 hq co118 hcm118 => ?_)
              obtain ⟨rfl, frM_118⟩ := hq
              refine ax_reS (st2 := [.inl (f_need Ls w r p (f_call w r p))]) rfl ?_
              have cc118 : -2147483648 ≤ f_need Ls w r p (f_call w r p) ∧ f_need Ls w r p (f_call w r p) < 2147483648 := co118 _ rfl
              refine ax_iret dX11_at_121 rfl ?_
              refine ⟨rfl, ?_, ?_⟩
              · refine congrArg (fun z => some (Sum.inl z)) ?_
                unfold F_at
                rw [if_neg (fun h => h qis)]
                repeat' split
                all_goals first | rfl | assumption | omega | (exfalso; omega)
              · intro x0 i0 hai
                exact ((frM_118 x0 i0 (fun h => h.elim (fun h => hai (Or.inl h)) (fun h => hai (Or.inr h)))).trans rfl)
            · refine ax_iconst dX11_at_101 (by decide) (pc' := 102) rfl ?_
              refine ax_goto dX11_at_102 (pc' := 121) (by decide) ?_
              refine ax_iret dX11_at_121 rfl ?_
              refine ⟨rfl, ?_, ?_⟩
              · refine congrArg (fun z => some (Sum.inl z)) ?_
                unfold F_at
                rw [if_neg (fun h => h qis)]
                repeat' split
                all_goals first | rfl | assumption | omega | (exfalso; omega)
              · intro x0 i0 hai
                exact rfl
          by_cases h54_3 : what = 3
          · refine ax_reS (st2 := [.inl 3]) (by rw [h54_3]) ?_
            refine ax_tabIn (tgt := 122) dX11_at_54 (by decide) (by decide) rfl (by decide) ?_
            refine ax_aload_n dX11_at_122 rfl rfl (pc' := 123) rfl ?_
            refine ax_getr (v := 71) dX11_at_123 flX11_56 rfl sh_0 rfl (pc' := 126) rfl ?_
            refine ax_aload_n dX11_at_126 rfl rfl (pc' := 127) rfl ?_
            refine ax_getr (v := 1) dX11_at_127 flX11_10 rfl sh_0 rfl (pc' := 130) rfl ?_
            refine ax_aload dX11_at_130 rfl (pc' := 132) rfl ?_
            refine ax_iload_n dX11_at_132 rfl rfl (pc' := 133) rfl ?_
            refine ax_invG [.inr 1, .inr (5 + 4 * r), .inl p] [] dX11_at_133 mlX11_274 sh_71 rfl rfl rfl (Nat.le_of_ble_eq_true rfl) (s_X2_strengthOf E l _ (by omega) _ (5 + 4 * r) p Ls w r (f_rp_now hgr) qrm hg1 hgr (f_wm_hm hg0.1) hg2 (Or.inl ⟨by omega, by omega⟩) ⟨by omega, by omega⟩) (pc' := 136) rfl (fun vv M_133 hq co133 hcm133 => ?_)
            obtain ⟨rfl, frM_133⟩ := hq
            refine ax_reS (st2 := [.inl (f_str Ls w r p)]) rfl ?_
            have cc133 : -2147483648 ≤ f_str Ls w r p ∧ f_str Ls w r p < 2147483648 := co133 _ rfl
            refine ax_iret dX11_at_136 rfl ?_
            refine ⟨rfl, ?_, ?_⟩
            · refine congrArg (fun z => some (Sum.inl z)) ?_
              unfold F_at
              rw [if_neg (fun h => h qis)]
              repeat' split
              all_goals first | rfl | assumption | omega | (exfalso; omega)
            · intro x0 i0 hai
              exact ((frM_133 x0 i0 (fun h => h.elim (fun h => hai (Or.inl h)) (fun h => hai (Or.inr h)))).trans rfl)
          refine ax_tabOut (tgt := 137) dX11_at_54 (by omega) (by decide) ?_
          refine ax_bipush dX11_at_137 (by decide) (pc' := 139) rfl ?_
          refine ax_iret dX11_at_139 rfl ?_
          refine ⟨rfl, ?_, ?_⟩
          · refine congrArg (fun z => some (Sum.inl z)) ?_
            unfold F_at
            rw [if_neg (fun h => h qis)]
            repeat' split
            all_goals first | rfl | assumption | omega | (exfalso; omega)
          · intro x0 i0 hai
            exact rfl
      · replace h24 := f_b_0 h24
        refine ax_bipush dX11_at_27 (by decide) (pc' := 29) rfl ?_
        refine ax_iret dX11_at_29 rfl ?_
        refine ⟨rfl, ?_, ?_⟩
        · refine congrArg (fun z => some (Sum.inl z)) ?_
          unfold F_at
          rw [if_pos (fun hh => by first | exact hir hh.1 | exact h24 ⟨hh.2.1, by omega⟩)]
        · intro x0 i0 hai
          exact rfl
  · refine ax_invG [.inl r] [] dX11_at_5 mlX11_139 sh_1 rfl rfl rfl (Nat.le_of_ble_eq_true rfl) (s_X9_ropeAt_no E l _ (by omega) _ r w hg0.1 hg1.1.1 hir) (pc' := 8) rfl (fun vv M_5 hq co5 hcm5 => ?_)
    obtain ⟨rfl, rfl⟩ := hq
    refine ax_reS (st2 := [.inr (-1)]) rfl ?_
    refine ax_astore dX11_at_8 (by decide) (ls' := [some (.inr 0), some (.inl r), some (.inl p), some (.inl what), some (.inr (-1)), none]) rfl (pc' := 10) rfl ?_
    refine ax_aload dX11_at_10 rfl (pc' := 12) rfl ?_
    refine ax_ifnull (tgt := 27) dX11_at_12 (by decide) (by decide) (pc' := 15) rfl (fun h12 => ?_) (fun h12 => ?_)
    · refine ax_bipush dX11_at_27 (by decide) (pc' := 29) rfl ?_
      refine ax_iret dX11_at_29 rfl ?_
      refine ⟨rfl, ?_, ?_⟩
      · refine congrArg (fun z => some (Sum.inl z)) ?_
        unfold F_at
        rw [if_pos (fun hh => by first | exact hir hh.1 | exact h24 ⟨hh.2.1, by omega⟩)]
      · intro x0 i0 hai
        exact rfl
    · exfalso
      omega
set_option maxRecDepth 20000 in
theorem s_X11_habit (E : ax_Env) (l : Launch) (d : Nat) (hd : 2 ≤ d) (M : ax_Mem) (r p k what : Int) (Ls : Int → List f_Ln) (w : Int → Int) (hg0 : f_nb M w) (hg1 : f_jv Ls w) (hg2 : f_lrn M 52 Ls) : ax_G E l d iX11_habit [.inr 0, .inl r, .inl p, .inl k, .inl what] M (fun z0 M2 => z0 = some (.inl (F_habit Ls w r p k what)) ∧ (∀ x0 i0 : Int, ¬ (x0 = 72 ∨ x0 = 73) → M2 x0 i0 = M x0 i0)) := by
  obtain ⟨d, rfl⟩ : ∃ d0, d = d0 + 1 := ⟨d - 1, by omega⟩
  refine ax_start rfl (Nat.le_of_ble_eq_true rfl) (ls := [some (.inr 0), some (.inl r), some (.inl p), some (.inl k), some (.inl what), none, none, none]) rfl (fun hav hcm => ?_)
  have hc1 : -2147483648 ≤ r ∧ r < 2147483648 := hav (.inl r) (by simp)
  have hc2 : -2147483648 ≤ p ∧ p < 2147483648 := hav (.inl p) (by simp)
  have hc3 : -2147483648 ≤ k ∧ k < 2147483648 := hav (.inl k) (by simp)
  have hc4 : -2147483648 ≤ what ∧ what < 2147483648 := hav (.inl what) (by simp)
  clear hav
  have qlo := hg1.1.2.2.1
  have qlb := hg1.1.2.2.2.1
  refine ax_aload_n dX11_habit_0 rfl rfl (pc' := 1) rfl ?_
  refine ax_getr (v := 1) dX11_habit_1 flX11_10 rfl sh_0 rfl (pc' := 4) rfl ?_
  refine ax_iload_n dX11_habit_4 rfl rfl (pc' := 5) rfl ?_
  by_cases hir : f_isR w r
  · refine ax_invG [.inl r] [] dX11_habit_5 mlX11_139 sh_1 rfl rfl rfl (Nat.le_of_ble_eq_true rfl) (s_X9_ropeAt_ok E l _ (by omega) _ r w hg0.1 hg1.1.1 hir) (pc' := 8) rfl (fun vv M_5 hq co5 hcm5 => ?_)
    obtain ⟨rfl, rfl⟩ := hq
    refine ax_reS (st2 := [.inr (5 + 4 * r)]) rfl ?_
    have hgr : 0 ≤ r ∧ r < 8 := ⟨hir.1, by omega⟩
    have qrm := f_wm_rm hg0.1 hir
    have ql : M (5 + 4 * r) 1 = f_R w r 1 := qrm.1
    have qlr := (hg1.1.1 r hgr.1 hgr.2).2
    have qow : M (5 + 4 * r) 2 = f_R w r 2 := qrm.2.1
    have qbo : M (5 + 4 * r) 3 = f_R w r 3 := qrm.2.2.1
    have qwe : M (5 + 4 * r) 4 = f_R w r 4 := qrm.2.2.2.1
    have qlen := (hg1.2.1 r hgr.1 hgr.2).2 hir.2.2
    refine ax_astore dX11_habit_8 (by decide) (ls' := [some (.inr 0), some (.inl r), some (.inl p), some (.inl k), some (.inl what), some (.inr (5 + 4 * r)), none, none]) rfl (pc' := 10) rfl ?_
    refine ax_aload dX11_habit_10 rfl (pc' := 12) rfl ?_
    refine ax_ifnull (tgt := 36) dX11_habit_12 (by omega) (by decide) (pc' := 15) rfl (fun h12 => ?_) (fun h12 => ?_)
    · exfalso
      omega
    · refine ax_iload_n dX11_habit_15 rfl rfl (pc' := 16) rfl ?_
      refine ax_aload dX11_habit_16 rfl (pc' := 18) rfl ?_
      refine ax_geti (v := M (5 + 4 * r) 1) dX11_habit_18 flX11_170 rfl (f_rp_now ⟨by omega, by omega⟩).1 rfl rfl (pc' := 21) rfl ?_
      refine ax_insG [.inl p, .inl (M (5 + 4 * r) 1)] [] dX11_habit_21 mlX11_114 rfl rfl (Nat.le_of_ble_eq_true rfl) (s_X11_isIn E l _ (by omega) _ p (M (5 + 4 * r) 1)) (pc' := 24) rfl (fun vv M_21 hq co21 hcm21 => ?_)
      obtain ⟨rfl, rfl⟩ := hq
      refine ax_reS (st2 := [.inl (f_b (0 ≤ p ∧ p < (M (5 + 4 * r) 1)))]) rfl ?_
      refine ax_if_eq (tgt := 36) dX11_habit_24 (by decide) (pc' := 27) rfl (fun h24 => ?_) (fun h24 => ?_)
      · replace h24 := f_b_0 h24
        refine ax_bipush dX11_habit_36 (by decide) (pc' := 38) rfl ?_
        refine ax_iret dX11_habit_38 rfl ?_
        refine ⟨rfl, ?_, ?_⟩
        · refine congrArg (fun z => some (Sum.inl z)) ?_
          unfold F_habit
          rw [if_pos (fun hh => by first | exact hir hh.1.1 | exact h24 ⟨hh.1.2.1, by omega⟩ | exact h33 ⟨hh.2.1.1, by omega⟩)]
        · intro x0 i0 hai
          exact rfl
      · replace h24 := f_b_1 h24
        refine ax_iload_n dX11_habit_27 rfl rfl (pc' := 28) rfl ?_
        refine ax_bipush dX11_habit_28 (by decide) (pc' := 30) rfl ?_
        refine ax_insG [.inl k, .inl 6] [] dX11_habit_30 mlX11_114 rfl rfl (Nat.le_of_ble_eq_true rfl) (s_X11_isIn E l _ (by omega) _ k 6) (pc' := 33) rfl (fun vv M_30 hq co30 hcm30 => ?_)
        obtain ⟨rfl, rfl⟩ := hq
        refine ax_reS (st2 := [.inl (f_b (0 ≤ k ∧ k < 6))]) rfl ?_
        refine ax_if_ne (tgt := 39) dX11_habit_33 (by decide) (pc' := 36) rfl (fun h33 => ?_) (fun h33 => ?_)
        · replace h33 := f_b_1 h33
          have q1 := (qrm.2.2.2.2 p (by omega) (by omega)).2 k (by omega) (by omega)
          have q1r := f_rg_h hg1.1 hgr (p := p) (k := k) ⟨by omega, by omega⟩ ⟨by omega, by omega⟩
          refine ax_iload_n dX11_habit_39 rfl rfl (pc' := 40) rfl ?_
          refine ax_bipush dX11_habit_40 (by decide) (pc' := 42) rfl ?_
          refine ax_imul dX11_habit_42 (by omega) (pc' := 43) rfl ?_
          refine ax_iload_n dX11_habit_43 rfl rfl (pc' := 44) rfl ?_
          refine ax_iadd dX11_habit_44 (by omega) (pc' := 45) rfl ?_
          refine ax_istore dX11_habit_45 (by decide) (ls' := [some (.inr 0), some (.inl r), some (.inl p), some (.inl k), some (.inl what), some (.inr (5 + 4 * r)), some (.inl (p * 6 + k)), none]) rfl (pc' := 47) rfl ?_
          refine ax_aload dX11_habit_47 rfl (pc' := 49) rfl ?_
          refine ax_getr (v := 5 + 4 * r + 2) dX11_habit_49 flX11_278 rfl (f_rp_now ⟨by omega, by omega⟩).1 rfl (pc' := 52) rfl ?_
          refine ax_iload dX11_habit_52 rfl (pc' := 54) rfl ?_
          refine ax_iald (v := (M (5 + 4 * r + 2)) (p * 6 + k)) dX11_habit_54 (f_rp_now ⟨by omega, by omega⟩).2.2.1 rfl (by omega) (by omega) ((congrFun rfl (p * 6 + k)).trans rfl) (pc' := 55) rfl ?_
          refine ax_if_le (tgt := 62) dX11_habit_55 (by decide) (pc' := 58) rfl (fun h55 => ?_) (fun h55 => ?_)
          · refine ax_iconst dX11_habit_62 (by decide) (pc' := 63) rfl ?_
            refine ax_istore dX11_habit_63 (by decide) (ls' := [some (.inr 0), some (.inl r), some (.inl p), some (.inl k), some (.inl what), some (.inr (5 + 4 * r)), some (.inl (p * 6 + k)), some (.inl 0)]) rfl (pc' := 65) rfl ?_
            refine ax_iload dX11_habit_65 rfl (pc' := 67) rfl ?_
            by_cases h67_0 : what = 0
            · refine ax_reS (st2 := [.inl 0]) (by rw [h67_0]) ?_
              refine ax_tabIn (tgt := 92) dX11_habit_67 (by decide) (by decide) rfl (by decide) ?_
              refine ax_aload dX11_habit_92 rfl (pc' := 94) rfl ?_
              refine ax_getr (v := 5 + 4 * r + 2) dX11_habit_94 flX11_278 rfl (f_rp_now ⟨by omega, by omega⟩).1 rfl (pc' := 97) rfl ?_
              refine ax_iload dX11_habit_97 rfl (pc' := 99) rfl ?_
              refine ax_iald (v := (M (5 + 4 * r + 2)) (p * 6 + k)) dX11_habit_99 (f_rp_now ⟨by omega, by omega⟩).2.2.1 rfl (by omega) (by omega) ((congrFun rfl (p * 6 + k)).trans rfl) (pc' := 100) rfl ?_
              refine ax_iret dX11_habit_100 rfl ?_
              refine ⟨rfl, ?_, ?_⟩
              · refine congrArg (fun z => some (Sum.inl z)) ?_
                unfold F_habit
                rw [if_neg (fun h => h ⟨⟨hir, by omega, by omega⟩, ⟨by omega, by omega⟩, by omega, by omega⟩)]
                repeat' split
                all_goals first | rfl | assumption | omega | (exfalso; omega)
              · intro x0 i0 hai
                exact rfl
            by_cases h67_1 : what = 1
            · refine ax_reS (st2 := [.inl 1]) (by rw [h67_1]) ?_
              refine ax_tabIn (tgt := 101) dX11_habit_67 (by decide) (by decide) rfl (by decide) ?_
              refine ax_iload dX11_habit_101 rfl (pc' := 103) rfl ?_
              refine ax_if_eq (tgt := 117) dX11_habit_103 (by decide) (pc' := 106) rfl (fun h103 => ?_) (fun h103 => ?_)
              · refine ax_iconst dX11_habit_117 (by decide) (pc' := 118) rfl ?_
                refine ax_iret dX11_habit_118 rfl ?_
                refine ⟨rfl, ?_, ?_⟩
                · refine congrArg (fun z => some (Sum.inl z)) ?_
                  unfold F_habit
                  rw [if_neg (fun h => h ⟨⟨hir, by omega, by omega⟩, ⟨by omega, by omega⟩, by omega, by omega⟩)]
                  repeat' split
                  all_goals first | rfl | assumption | omega | (exfalso; omega)
                · intro x0 i0 hai
                  exact rfl
              · exfalso
                omega
            by_cases h67_2 : what = 2
            · refine ax_reS (st2 := [.inl 2]) (by rw [h67_2]) ?_
              refine ax_tabIn (tgt := 119) dX11_habit_67 (by decide) (by decide) rfl (by decide) ?_
              refine ax_iload dX11_habit_119 rfl (pc' := 121) rfl ?_
              refine ax_if_eq (tgt := 142) dX11_habit_121 (by decide) (pc' := 124) rfl (fun h121 => ?_) (fun h121 => ?_)
              · refine ax_iconst dX11_habit_142 (by decide) (pc' := 143) rfl ?_
                refine ax_iret dX11_habit_143 rfl ?_
                refine ⟨rfl, ?_, ?_⟩
                · refine congrArg (fun z => some (Sum.inl z)) ?_
                  unfold F_habit
                  rw [if_neg (fun h => h ⟨⟨hir, by omega, by omega⟩, ⟨by omega, by omega⟩, by omega, by omega⟩)]
                  repeat' split
                  all_goals first | rfl | assumption | omega | (exfalso; omega)
                · intro x0 i0 hai
                  exact rfl
              · exfalso
                omega
            refine ax_tabOut (tgt := 144) dX11_habit_67 (by omega) (by decide) ?_
            refine ax_bipush dX11_habit_144 (by decide) (pc' := 146) rfl ?_
            refine ax_iret dX11_habit_146 rfl ?_
            refine ⟨rfl, ?_, ?_⟩
            · refine congrArg (fun z => some (Sum.inl z)) ?_
              unfold F_habit
              rw [if_pos (fun hh => by omega)]
            · intro x0 i0 hai
              exact rfl
          · have q2 := q1.2 (by omega)
            refine ax_iconst dX11_habit_58 (by decide) (pc' := 59) rfl ?_
            refine ax_goto dX11_habit_59 (pc' := 63) (by decide) ?_
            refine ax_istore dX11_habit_63 (by decide) (ls' := [some (.inr 0), some (.inl r), some (.inl p), some (.inl k), some (.inl what), some (.inr (5 + 4 * r)), some (.inl (p * 6 + k)), some (.inl 1)]) rfl (pc' := 65) rfl ?_
            refine ax_iload dX11_habit_65 rfl (pc' := 67) rfl ?_
            by_cases h67_0 : what = 0
            · refine ax_reS (st2 := [.inl 0]) (by rw [h67_0]) ?_
              refine ax_tabIn (tgt := 92) dX11_habit_67 (by decide) (by decide) rfl (by decide) ?_
              refine ax_aload dX11_habit_92 rfl (pc' := 94) rfl ?_
              refine ax_getr (v := 5 + 4 * r + 2) dX11_habit_94 flX11_278 rfl (f_rp_now ⟨by omega, by omega⟩).1 rfl (pc' := 97) rfl ?_
              refine ax_iload dX11_habit_97 rfl (pc' := 99) rfl ?_
              refine ax_iald (v := (M (5 + 4 * r + 2)) (p * 6 + k)) dX11_habit_99 (f_rp_now ⟨by omega, by omega⟩).2.2.1 rfl (by omega) (by omega) ((congrFun rfl (p * 6 + k)).trans rfl) (pc' := 100) rfl ?_
              refine ax_iret dX11_habit_100 rfl ?_
              refine ⟨rfl, ?_, ?_⟩
              · refine congrArg (fun z => some (Sum.inl z)) ?_
                unfold F_habit
                rw [if_neg (fun h => h ⟨⟨hir, by omega, by omega⟩, ⟨by omega, by omega⟩, by omega, by omega⟩)]
                repeat' split
                all_goals first | rfl | assumption | omega | (exfalso; omega)
              · intro x0 i0 hai
                exact rfl
            by_cases h67_1 : what = 1
            · refine ax_reS (st2 := [.inl 1]) (by rw [h67_1]) ?_
              refine ax_tabIn (tgt := 101) dX11_habit_67 (by decide) (by decide) rfl (by decide) ?_
              refine ax_iload dX11_habit_101 rfl (pc' := 103) rfl ?_
              refine ax_if_eq (tgt := 117) dX11_habit_103 (by decide) (pc' := 106) rfl (fun h103 => ?_) (fun h103 => ?_)
              · exfalso
                omega
              · refine ax_aload dX11_habit_106 rfl (pc' := 108) rfl ?_
                refine ax_getr (v := 5 + 4 * r + 3) dX11_habit_108 flX11_281 rfl (f_rp_now ⟨by omega, by omega⟩).1 rfl (pc' := 111) rfl ?_
                refine ax_iload dX11_habit_111 rfl (pc' := 113) rfl ?_
                refine ax_iald (v := (M (5 + 4 * r + 3)) (p * 6 + k)) dX11_habit_113 (f_rp_now ⟨by omega, by omega⟩).2.2.2 rfl (by omega) (by omega) ((congrFun rfl (p * 6 + k)).trans rfl) (pc' := 114) rfl ?_
                refine ax_goto dX11_habit_114 (pc' := 118) (by decide) ?_
                refine ax_iret dX11_habit_118 rfl ?_
                refine ⟨rfl, ?_, ?_⟩
                · refine congrArg (fun z => some (Sum.inl z)) ?_
                  unfold F_habit
                  rw [if_neg (fun h => h ⟨⟨hir, by omega, by omega⟩, ⟨by omega, by omega⟩, by omega, by omega⟩)]
                  repeat' split
                  all_goals first | rfl | assumption | omega | (exfalso; omega)
                · intro x0 i0 hai
                  exact rfl
            by_cases h67_2 : what = 2
            · refine ax_reS (st2 := [.inl 2]) (by rw [h67_2]) ?_
              refine ax_tabIn (tgt := 119) dX11_habit_67 (by decide) (by decide) rfl (by decide) ?_
              refine ax_iload dX11_habit_119 rfl (pc' := 121) rfl ?_
              refine ax_if_eq (tgt := 142) dX11_habit_121 (by decide) (pc' := 124) rfl (fun h121 => ?_) (fun h121 => ?_)
              · exfalso
                omega
              · refine ax_aload_n dX11_habit_124 rfl rfl (pc' := 125) rfl ?_
                refine ax_getr (v := 71) dX11_habit_125 flX11_56 rfl sh_0 rfl (pc' := 128) rfl ?_
                refine ax_aload_n dX11_habit_128 rfl rfl (pc' := 129) rfl ?_
                refine ax_getr (v := 1) dX11_habit_129 flX11_10 rfl sh_0 rfl (pc' := 132) rfl ?_
                refine ax_aload dX11_habit_132 rfl (pc' := 134) rfl ?_
                refine ax_iload_n dX11_habit_134 rfl rfl (pc' := 135) rfl ?_
                refine ax_iload_n dX11_habit_135 rfl rfl (pc' := 136) rfl ?_
                refine ax_invG [.inr 1, .inr (5 + 4 * r), .inl p, .inl k] [] dX11_habit_136 mlX11_284 sh_71 rfl rfl rfl (Nat.le_of_ble_eq_true rfl) (s_X2_lossOf E l _ (by omega) _ (5 + 4 * r) p k Ls w r (f_rp_now hgr) qrm hg1 hgr (f_wm_hm hg0.1) hg2 (Or.inl ⟨by omega, by omega⟩) ⟨by omega, by omega⟩ ⟨by omega, by omega⟩ (by omega)) (pc' := 139) rfl (fun vv M_136 hq co136 hcm136 => ?_)
                obtain ⟨rfl, frM_136⟩ := hq
                refine ax_reS (st2 := [.inl (f_loss Ls w r p k)]) rfl ?_
                have cc136 : -2147483648 ≤ f_loss Ls w r p k ∧ f_loss Ls w r p k < 2147483648 := co136 _ rfl
                refine ax_goto dX11_habit_139 (pc' := 143) (by decide) ?_
                refine ax_iret dX11_habit_143 rfl ?_
                refine ⟨rfl, ?_, ?_⟩
                · refine congrArg (fun z => some (Sum.inl z)) ?_
                  unfold F_habit
                  rw [if_neg (fun h => h ⟨⟨hir, by omega, by omega⟩, ⟨by omega, by omega⟩, by omega, by omega⟩)]
                  repeat' split
                  all_goals first | rfl | assumption | omega | (exfalso; omega)
                · intro x0 i0 hai
                  exact ((frM_136 x0 i0 (fun h => h.elim (fun h => hai (Or.inl h)) (fun h => hai (Or.inr h)))).trans rfl)
            refine ax_tabOut (tgt := 144) dX11_habit_67 (by omega) (by decide) ?_
            refine ax_bipush dX11_habit_144 (by decide) (pc' := 146) rfl ?_
            refine ax_iret dX11_habit_146 rfl ?_
            refine ⟨rfl, ?_, ?_⟩
            · refine congrArg (fun z => some (Sum.inl z)) ?_
              unfold F_habit
              rw [if_pos (fun hh => by omega)]
            · intro x0 i0 hai
              exact rfl
        · replace h33 := f_b_0 h33
          refine ax_bipush dX11_habit_36 (by decide) (pc' := 38) rfl ?_
          refine ax_iret dX11_habit_38 rfl ?_
          refine ⟨rfl, ?_, ?_⟩
          · refine congrArg (fun z => some (Sum.inl z)) ?_
            unfold F_habit
            rw [if_pos (fun hh => by first | exact hir hh.1.1 | exact h24 ⟨hh.1.2.1, by omega⟩ | exact h33 ⟨hh.2.1.1, by omega⟩)]
          · intro x0 i0 hai
            exact rfl
  · refine ax_invG [.inl r] [] dX11_habit_5 mlX11_139 sh_1 rfl rfl rfl (Nat.le_of_ble_eq_true rfl) (s_X9_ropeAt_no E l _ (by omega) _ r w hg0.1 hg1.1.1 hir) (pc' := 8) rfl (fun vv M_5 hq co5 hcm5 => ?_)
    obtain ⟨rfl, rfl⟩ := hq
    refine ax_reS (st2 := [.inr (-1)]) rfl ?_
    refine ax_astore dX11_habit_8 (by decide) (ls' := [some (.inr 0), some (.inl r), some (.inl p), some (.inl k), some (.inl what), some (.inr (-1)), none, none]) rfl (pc' := 10) rfl ?_
    refine ax_aload dX11_habit_10 rfl (pc' := 12) rfl ?_
    refine ax_ifnull (tgt := 36) dX11_habit_12 (by decide) (by decide) (pc' := 15) rfl (fun h12 => ?_) (fun h12 => ?_)
    · refine ax_bipush dX11_habit_36 (by decide) (pc' := 38) rfl ?_
      refine ax_iret dX11_habit_38 rfl ?_
      refine ⟨rfl, ?_, ?_⟩
      · refine congrArg (fun z => some (Sum.inl z)) ?_
        unfold F_habit
        rw [if_pos (fun hh => by first | exact hir hh.1.1 | exact h24 ⟨hh.1.2.1, by omega⟩ | exact h33 ⟨hh.2.1.1, by omega⟩)]
      · intro x0 i0 hai
        exact rfl
    · exfalso
      omega
set_option maxRecDepth 20000 in
theorem s_X11_book (E : ax_Env) (l : Launch) (d : Nat) (hd : 1 ≤ d) (M : ax_Mem) (x what : Int) (Ls : Int → List f_Ln) (w : Int → Int) (hg0 : f_nb M w) (hg1 : f_jv Ls w) (hg2 : f_lrn M 52 Ls) : ax_G E l d iX11_book [.inr 0, .inl x, .inl what] M (fun z0 M2 => z0 = some (.inl (F_book w x what)) ∧ M = M2) := by
  obtain ⟨d, rfl⟩ : ∃ d0, d = d0 + 1 := ⟨d - 1, by omega⟩
  refine ax_start rfl (Nat.le_of_ble_eq_true rfl) (ls := [some (.inr 0), some (.inl x), some (.inl what)]) rfl (fun hav hcm => ?_)
  have hc1 : -2147483648 ≤ x ∧ x < 2147483648 := hav (.inl x) (by simp)
  have hc2 : -2147483648 ≤ what ∧ what < 2147483648 := hav (.inl what) (by simp)
  clear hav
  have qlo := hg1.1.2.2.1
  have qlb := hg1.1.2.2.2.1
  have ql3 : M 1 3 = w 1 := hg0.1.1.2.2.2
  refine ax_iload_n dX11_book_0 rfl rfl (pc' := 1) rfl ?_
  refine ax_aload_n dX11_book_1 rfl rfl (pc' := 2) rfl ?_
  refine ax_getr (v := 1) dX11_book_2 flX11_10 rfl sh_0 rfl (pc' := 5) rfl ?_
  refine ax_geti (v := M 1 3) dX11_book_5 flX11_287 rfl sh_1 rfl rfl (pc' := 8) rfl ?_
  refine ax_insG [.inl x, .inl (M 1 3)] [] dX11_book_8 mlX11_114 rfl rfl (Nat.le_of_ble_eq_true rfl) (s_X11_isIn E l _ (by omega) _ x (M 1 3)) (pc' := 11) rfl (fun vv M_8 hq co8 hcm8 => ?_)
  obtain ⟨rfl, rfl⟩ := hq
  refine ax_reS (st2 := [.inl (f_b (0 ≤ x ∧ x < (M 1 3)))]) rfl ?_
  refine ax_if_eq (tgt := 23) dX11_book_11 (by decide) (pc' := 14) rfl (fun h11 => ?_) (fun h11 => ?_)
  · replace h11 := f_b_0 h11
    refine ax_bipush dX11_book_23 (by decide) (pc' := 25) rfl ?_
    refine ax_iret dX11_book_25 rfl ?_
    refine ⟨rfl, ?_, ?_⟩
    · refine congrArg (fun z => some (Sum.inl z)) ?_
      unfold F_book
      rw [if_neg (fun hh => by first | exact h11 ⟨by omega, by omega⟩ | exact h20 ⟨by omega, by omega⟩)]
    · rfl
  · replace h11 := f_b_1 h11
    refine ax_iload_n dX11_book_14 rfl rfl (pc' := 15) rfl ?_
    refine ax_bipush dX11_book_15 (by decide) (pc' := 17) rfl ?_
    refine ax_insG [.inl what, .inl 6] [] dX11_book_17 mlX11_114 rfl rfl (Nat.le_of_ble_eq_true rfl) (s_X11_isIn E l _ (by omega) _ what 6) (pc' := 20) rfl (fun vv M_17 hq co17 hcm17 => ?_)
    obtain ⟨rfl, rfl⟩ := hq
    refine ax_reS (st2 := [.inl (f_b (0 ≤ what ∧ what < 6))]) rfl ?_
    refine ax_if_ne (tgt := 26) dX11_book_20 (by decide) (pc' := 23) rfl (fun h20 => ?_) (fun h20 => ?_)
    · replace h20 := f_b_1 h20
      refine ax_aload_n dX11_book_26 rfl rfl (pc' := 27) rfl ?_
      refine ax_getr (v := 37) dX11_book_27 flX11_19 rfl sh_0 rfl (pc' := 30) rfl ?_
      refine ax_iload_n dX11_book_30 rfl rfl (pc' := 31) rfl ?_
      refine ax_iload_n dX11_book_31 rfl rfl (pc' := 32) rfl ?_
      refine ax_invG [.inl x, .inl what] [] dX11_book_32 mlX11_288 sh_37 rfl rfl rfl (Nat.le_of_ble_eq_true rfl) (s_X0_entry E l _ (by omega) _ x what rfl ⟨by omega, by omega⟩ ⟨by omega, by omega⟩) (pc' := 35) rfl (fun vv M_32 hq co32 hcm32 => ?_)
      obtain ⟨rfl, rfl⟩ := hq
      refine ax_reS (st2 := [.inl ((M 38) (x * 6 + what))]) rfl ?_
      have cc32 : -2147483648 ≤ (M 38) (x * 6 + what) ∧ (M 38) (x * 6 + what) < 2147483648 := co32 _ rfl
      refine ax_iret dX11_book_35 rfl ?_
      refine ⟨rfl, ?_, ?_⟩
      · refine congrArg (fun z => some (Sum.inl z)) ?_
        unfold F_book
        rw [if_pos ⟨⟨by omega, by omega⟩, by omega, by omega⟩, hg0.2 (x * 6 + what) (by omega) (by omega), show 2640 + (x * 6 + what) = 2640 + 6 * x + what by omega]
      · rfl
    · replace h20 := f_b_0 h20
      refine ax_bipush dX11_book_23 (by decide) (pc' := 25) rfl ?_
      refine ax_iret dX11_book_25 rfl ?_
      refine ⟨rfl, ?_, ?_⟩
      · refine congrArg (fun z => some (Sum.inl z)) ?_
        unfold F_book
        rw [if_neg (fun hh => by first | exact h11 ⟨by omega, by omega⟩ | exact h20 ⟨by omega, by omega⟩)]
      · rfl
set_option maxRecDepth 20000 in
theorem s_X11_weak (E : ax_Env) (l : Launch) (d : Nat) (hd : 3 ≤ d) (M : ax_Mem) (r what : Int) (Ls : Int → List f_Ln) (w : Int → Int) (hg0 : f_nb M w) (hg1 : f_jv Ls w) (hg2 : f_lrn M 52 Ls) : ax_G E l d iX11_weak [.inr 0, .inl r, .inl what] M (fun z0 M2 => z0 = some (.inl (F_weak Ls w r what)) ∧ (∀ x0 i0 : Int, ¬ (x0 = 72 ∨ x0 = 73) → M2 x0 i0 = M x0 i0)) := by
  obtain ⟨d, rfl⟩ : ∃ d0, d = d0 + 1 := ⟨d - 1, by omega⟩
  refine ax_start rfl (Nat.le_of_ble_eq_true rfl) (ls := [some (.inr 0), some (.inl r), some (.inl what), none, none]) rfl (fun hav hcm => ?_)
  have hc1 : -2147483648 ≤ r ∧ r < 2147483648 := hav (.inl r) (by simp)
  have hc2 : -2147483648 ≤ what ∧ what < 2147483648 := hav (.inl what) (by simp)
  clear hav
  have qlo := hg1.1.2.2.1
  have qlb := hg1.1.2.2.2.1
  refine ax_aload_n dX11_weak_0 rfl rfl (pc' := 1) rfl ?_
  refine ax_getr (v := 1) dX11_weak_1 flX11_10 rfl sh_0 rfl (pc' := 4) rfl ?_
  refine ax_iload_n dX11_weak_4 rfl rfl (pc' := 5) rfl ?_
  by_cases hir : f_isR w r
  · refine ax_invG [.inl r] [] dX11_weak_5 mlX11_139 sh_1 rfl rfl rfl (Nat.le_of_ble_eq_true rfl) (s_X9_ropeAt_ok E l _ (by omega) _ r w hg0.1 hg1.1.1 hir) (pc' := 8) rfl (fun vv M_5 hq co5 hcm5 => ?_)
    obtain ⟨rfl, rfl⟩ := hq
    refine ax_reS (st2 := [.inr (5 + 4 * r)]) rfl ?_
    have hgr : 0 ≤ r ∧ r < 8 := ⟨hir.1, by omega⟩
    have qrm := f_wm_rm hg0.1 hir
    have ql : M (5 + 4 * r) 1 = f_R w r 1 := qrm.1
    have qlr := (hg1.1.1 r hgr.1 hgr.2).2
    have qow : M (5 + 4 * r) 2 = f_R w r 2 := qrm.2.1
    have qbo : M (5 + 4 * r) 3 = f_R w r 3 := qrm.2.2.1
    have qwe : M (5 + 4 * r) 4 = f_R w r 4 := qrm.2.2.2.1
    have qlen := (hg1.2.1 r hgr.1 hgr.2).2 hir.2.2
    refine ax_astore_n dX11_weak_8 rfl (by decide) (ls' := [some (.inr 0), some (.inl r), some (.inl what), some (.inr (5 + 4 * r)), none]) rfl (pc' := 9) rfl ?_
    refine ax_aload_n dX11_weak_9 rfl rfl (pc' := 10) rfl ?_
    refine ax_ifnull (tgt := 22) dX11_weak_10 (by omega) (by decide) (pc' := 13) rfl (fun h10 => ?_) (fun h10 => ?_)
    · exfalso
      omega
    · refine ax_iload_n dX11_weak_13 rfl rfl (pc' := 14) rfl ?_
      refine ax_if_lt (tgt := 22) dX11_weak_14 (by decide) (pc' := 17) rfl (fun h14 => ?_) (fun h14 => ?_)
      · refine ax_iconst dX11_weak_22 (by decide) (pc' := 23) rfl ?_
        refine ax_iret dX11_weak_23 rfl ?_
        refine ⟨rfl, ?_, ?_⟩
        · refine congrArg (fun z => some (Sum.inl z)) ?_
          unfold F_weak
          rw [if_pos (fun hh => by first | exact hir hh.1 | omega)]
        · intro x0 i0 hai
          exact rfl
      · refine ax_iload_n dX11_weak_17 rfl rfl (pc' := 18) rfl ?_
        refine ax_iconst dX11_weak_18 (by decide) (pc' := 19) rfl ?_
        refine ax_icmp_le (tgt := 24) dX11_weak_19 (by decide) (pc' := 22) rfl (fun h19 => ?_) (fun h19 => ?_)
        · refine ax_aload_n dX11_weak_24 rfl rfl (pc' := 25) rfl ?_
          refine ax_getr (v := 71) dX11_weak_25 flX11_56 rfl sh_0 rfl (pc' := 28) rfl ?_
          refine ax_aload_n dX11_weak_28 rfl rfl (pc' := 29) rfl ?_
          refine ax_getr (v := 1) dX11_weak_29 flX11_10 rfl sh_0 rfl (pc' := 32) rfl ?_
          refine ax_aload_n dX11_weak_32 rfl rfl (pc' := 33) rfl ?_
          refine ax_sipush dX11_weak_33 (by decide) (pc' := 36) rfl ?_
          refine ax_invG [.inr 1, .inr (5 + 4 * r), .inl 1000] [] dX11_weak_36 mlX11_303 sh_71 rfl rfl rfl (Nat.le_of_ble_eq_true rfl) (s_X2_weakestBelow E l _ (by omega) _ (5 + 4 * r) 1000 Ls w r (f_rp_now hgr) qrm hg1 hgr (f_wm_hm hg0.1) hg2 (Or.inl ⟨by omega, by omega⟩) (by omega)) (pc' := 39) rfl (fun vv M_36 hq co36 hcm36 => ?_)
          obtain ⟨rfl, frM_36⟩ := hq
          refine ax_reS (st2 := [.inl (if f_str Ls w r (f_wk Ls w r) < 1000 then f_wk Ls w r else -1)]) rfl ?_
          have cc36 : -2147483648 ≤ (if f_str Ls w r (f_wk Ls w r) < 1000 then f_wk Ls w r else -1) ∧ (if f_str Ls w r (f_wk Ls w r) < 1000 then f_wk Ls w r else -1) < 2147483648 := co36 _ rfl
          have qwk := f_wk_rg (Ls := Ls) (w := w) (r := r)
          have qsr : f_str Ls w r (f_wk Ls w r) < 1000 := by
            unfold f_str
            omega
          have qif : (if f_str Ls w r (f_wk Ls w r) < 1000 then f_wk Ls w r else -1) = f_wk Ls w r := if_pos qsr
          refine ax_reS (st2 := [.inl (f_wk Ls w r)]) (congrArg (fun z => Sum.inl z :: _) (by exact qif)) ?_
          refine ax_istore dX11_weak_39 (by decide) (ls' := [some (.inr 0), some (.inl r), some (.inl what), some (.inr (5 + 4 * r)), some (.inl (f_wk Ls w r))]) rfl (pc' := 41) rfl ?_
          refine ax_iload_n dX11_weak_41 rfl rfl (pc' := 42) rfl ?_
          refine ax_iconst dX11_weak_42 (by decide) (pc' := 43) rfl ?_
          refine ax_icmp_ne (tgt := 51) dX11_weak_43 (by decide) (pc' := 46) rfl (fun h43 => ?_) (fun h43 => ?_)
          · refine ax_aload_n dX11_weak_51 rfl rfl (pc' := 52) rfl ?_
            refine ax_getr (v := 71) dX11_weak_52 flX11_56 rfl sh_0 rfl (pc' := 55) rfl ?_
            refine ax_aload_n dX11_weak_55 rfl rfl (pc' := 56) rfl ?_
            refine ax_getr (v := 1) dX11_weak_56 flX11_10 rfl sh_0 rfl (pc' := 59) rfl ?_
            refine ax_aload_n dX11_weak_59 rfl rfl (pc' := 60) rfl ?_
            refine ax_iload dX11_weak_60 rfl (pc' := 62) rfl ?_
            refine ax_invG [.inr 1, .inr (5 + 4 * r), .inl (f_wk Ls w r)] [] dX11_weak_62 mlX11_274 sh_71 rfl rfl rfl (Nat.le_of_ble_eq_true rfl) (s_X2_strengthOf E l _ (by omega) _ (5 + 4 * r) (f_wk Ls w r) Ls w r (f_rp_now hgr) (f_rm_fr (M := M) (fun x0 i0 hx => ((frM_36 x0 i0 (by omega)).trans rfl)) qrm) hg1 hgr (f_hm_fr (M := M) (fun x0 i0 hx => ((frM_36 x0 i0 (by omega)).trans rfl)) (f_wm_hm hg0.1)) (f_lrn_fr (M := M) (fun x0 i0 hx => ((frM_36 x0 i0 (by omega)).trans rfl)) hg2) (Or.inl ⟨by omega, by omega⟩) ⟨by omega, by omega⟩) (pc' := 65) rfl (fun vv M_62 hq co62 hcm62 => ?_)
            obtain ⟨rfl, frM_62⟩ := hq
            refine ax_reS (st2 := [.inl (f_str Ls w r (f_wk Ls w r))]) rfl ?_
            have cc62 : -2147483648 ≤ f_str Ls w r (f_wk Ls w r) ∧ f_str Ls w r (f_wk Ls w r) < 2147483648 := co62 _ rfl
            refine ax_iret dX11_weak_65 rfl ?_
            refine ⟨rfl, ?_, ?_⟩
            · refine congrArg (fun z => some (Sum.inl z)) ?_
              unfold F_weak
              rw [if_neg (fun h => h ⟨hir, by omega, by omega⟩)]
              repeat' split
              all_goals first | rfl | assumption | omega | (exfalso; omega)
            · intro x0 i0 hai
              exact ((frM_62 x0 i0 (fun h => h.elim (fun h => hai (Or.inl h)) (fun h => hai (Or.inr h)))).trans ((frM_36 x0 i0 (fun h => h.elim (fun h => hai (Or.inl h)) (fun h => hai (Or.inr h)))).trans rfl))
          · refine ax_iload dX11_weak_46 rfl (pc' := 48) rfl ?_
            refine ax_goto dX11_weak_48 (pc' := 65) (by decide) ?_
            refine ax_iret dX11_weak_65 rfl ?_
            refine ⟨rfl, ?_, ?_⟩
            · refine congrArg (fun z => some (Sum.inl z)) ?_
              unfold F_weak
              rw [if_neg (fun h => h ⟨hir, by omega, by omega⟩)]
              repeat' split
              all_goals first | rfl | assumption | omega | (exfalso; omega)
            · intro x0 i0 hai
              exact ((frM_36 x0 i0 (fun h => h.elim (fun h => hai (Or.inl h)) (fun h => hai (Or.inr h)))).trans rfl)
        · refine ax_iconst dX11_weak_22 (by decide) (pc' := 23) rfl ?_
          refine ax_iret dX11_weak_23 rfl ?_
          refine ⟨rfl, ?_, ?_⟩
          · refine congrArg (fun z => some (Sum.inl z)) ?_
            unfold F_weak
            rw [if_pos (fun hh => by first | exact hir hh.1 | omega)]
          · intro x0 i0 hai
            exact rfl
  · refine ax_invG [.inl r] [] dX11_weak_5 mlX11_139 sh_1 rfl rfl rfl (Nat.le_of_ble_eq_true rfl) (s_X9_ropeAt_no E l _ (by omega) _ r w hg0.1 hg1.1.1 hir) (pc' := 8) rfl (fun vv M_5 hq co5 hcm5 => ?_)
    obtain ⟨rfl, rfl⟩ := hq
    refine ax_reS (st2 := [.inr (-1)]) rfl ?_
    refine ax_astore_n dX11_weak_8 rfl (by decide) (ls' := [some (.inr 0), some (.inl r), some (.inl what), some (.inr (-1)), none]) rfl (pc' := 9) rfl ?_
    refine ax_aload_n dX11_weak_9 rfl rfl (pc' := 10) rfl ?_
    refine ax_ifnull (tgt := 22) dX11_weak_10 (by decide) (by decide) (pc' := 13) rfl (fun h10 => ?_) (fun h10 => ?_)
    · refine ax_iconst dX11_weak_22 (by decide) (pc' := 23) rfl ?_
      refine ax_iret dX11_weak_23 rfl ?_
      refine ⟨rfl, ?_, ?_⟩
      · refine congrArg (fun z => some (Sum.inl z)) ?_
        unfold F_weak
        rw [if_pos (fun hh => by first | exact hir hh.1 | omega)]
      · intro x0 i0 hai
        exact rfl
    · exfalso
      omega
set_option maxRecDepth 20000 in
theorem s_X11_whose (E : ax_Env) (l : Launch) (d : Nat) (hd : 2 ≤ d) (M : ax_Mem) (r p what : Int) (Ls : Int → List f_Ln) (w : Int → Int) (hg0 : f_nb M w) (hg1 : f_jv Ls w) (hg2 : f_lrn M 52 Ls) : ax_G E l d iX11_whose [.inr 0, .inl r, .inl p, .inl what] M (fun z0 M2 => z0 = some (.inl (F_whose w r p what)) ∧ M = M2) := by
  obtain ⟨d, rfl⟩ : ∃ d0, d = d0 + 1 := ⟨d - 1, by omega⟩
  refine ax_start rfl (Nat.le_of_ble_eq_true rfl) (ls := [some (.inr 0), some (.inl r), some (.inl p), some (.inl what)]) rfl (fun hav hcm => ?_)
  have hc1 : -2147483648 ≤ r ∧ r < 2147483648 := hav (.inl r) (by simp)
  have hc2 : -2147483648 ≤ p ∧ p < 2147483648 := hav (.inl p) (by simp)
  have hc3 : -2147483648 ≤ what ∧ what < 2147483648 := hav (.inl what) (by simp)
  clear hav
  have qlo := hg1.1.2.2.1
  have qlb := hg1.1.2.2.2.1
  have ql3 : M 1 3 = w 1 := hg0.1.1.2.2.2
  refine ax_iload_n dX11_whose_0 rfl rfl (pc' := 1) rfl ?_
  refine ax_bipush dX11_whose_1 (by decide) (pc' := 3) rfl ?_
  refine ax_insG [.inl r, .inl 8] [] dX11_whose_3 mlX11_114 rfl rfl (Nat.le_of_ble_eq_true rfl) (s_X11_isIn E l _ (by omega) _ r 8) (pc' := 6) rfl (fun vv M_3 hq co3 hcm3 => ?_)
  obtain ⟨rfl, rfl⟩ := hq
  refine ax_reS (st2 := [.inl (f_b (0 ≤ r ∧ r < 8))]) rfl ?_
  refine ax_if_ne (tgt := 12) dX11_whose_6 (by decide) (pc' := 9) rfl (fun h6 => ?_) (fun h6 => ?_)
  · replace h6 := f_b_1 h6
    refine ax_iload_n dX11_whose_12 rfl rfl (pc' := 13) rfl ?_
    refine ax_iconst dX11_whose_13 (by decide) (pc' := 14) rfl ?_
    refine ax_icmp_ne (tgt := 33) dX11_whose_14 (by decide) (pc' := 17) rfl (fun h14 => ?_) (fun h14 => ?_)
    · refine ax_iload_n dX11_whose_33 rfl rfl (pc' := 34) rfl ?_
      refine ax_if_ne (tgt := 46) dX11_whose_34 (by decide) (pc' := 37) rfl (fun h34 => ?_) (fun h34 => ?_)
      · refine ax_bipush dX11_whose_46 (by decide) (pc' := 48) rfl ?_
        refine ax_iret dX11_whose_48 rfl ?_
        refine ⟨rfl, ?_, ?_⟩
        · refine congrArg (fun z => some (Sum.inl z)) ?_
          unfold F_whose
          rw [if_neg (fun hh => by first | omega | exact h43 ⟨(hh.2.2 (by omega)).1, by have := (hh.2.2 (by omega)).2; omega⟩)]
        · rfl
      · refine ax_iload_n dX11_whose_37 rfl rfl (pc' := 38) rfl ?_
        refine ax_bipush dX11_whose_38 (by decide) (pc' := 40) rfl ?_
        refine ax_insG [.inl p, .inl 24] [] dX11_whose_40 mlX11_114 rfl rfl (Nat.le_of_ble_eq_true rfl) (s_X11_isIn E l _ (by omega) _ p 24) (pc' := 43) rfl (fun vv M_40 hq co40 hcm40 => ?_)
        obtain ⟨rfl, rfl⟩ := hq
        refine ax_reS (st2 := [.inl (f_b (0 ≤ p ∧ p < 24))]) rfl ?_
        refine ax_if_ne (tgt := 49) dX11_whose_43 (by decide) (pc' := 46) rfl (fun h43 => ?_) (fun h43 => ?_)
        · replace h43 := f_b_1 h43
          refine ax_aload_n dX11_whose_49 rfl rfl (pc' := 50) rfl ?_
          refine ax_getr (v := 37) dX11_whose_50 flX11_19 rfl sh_0 rfl (pc' := 53) rfl ?_
          refine ax_aload_n dX11_whose_53 rfl rfl (pc' := 54) rfl ?_
          refine ax_getr (v := 1) dX11_whose_54 flX11_10 rfl sh_0 rfl (pc' := 57) rfl ?_
          refine ax_geti (v := M 1 3) dX11_whose_57 flX11_287 rfl sh_1 rfl rfl (pc' := 60) rfl ?_
          refine ax_iload_n dX11_whose_60 rfl rfl (pc' := 61) rfl ?_
          refine ax_iload_n dX11_whose_61 rfl rfl (pc' := 62) rfl ?_
          refine ax_invG [.inl (M 1 3), .inl r, .inl p] [] dX11_whose_62 mlX11_376 sh_37 rfl rfl rfl (Nat.le_of_ble_eq_true rfl) (s_X0_latestHand E l _ (by omega) _ (M 1 3) r p w hg0.2 qlb ql3) (pc' := 65) rfl (fun vv M_62 hq co62 hcm62 => ?_)
          obtain ⟨rfl, rfl⟩ := hq
          refine ax_reS (st2 := [.inl (f_loop (f_whH w r p) 0 (w 1) (-1))]) rfl ?_
          have cc62 : -2147483648 ≤ f_loop (f_whH w r p) 0 (w 1) (-1) ∧ f_loop (f_whH w r p) 0 (w 1) (-1) < 2147483648 := co62 _ rfl
          refine ax_iret dX11_whose_65 rfl ?_
          refine ⟨rfl, ?_, ?_⟩
          · refine congrArg (fun z => some (Sum.inl z)) ?_
            unfold F_whose
            rw [if_pos ⟨⟨by omega, by omega⟩, ⟨by omega, by omega⟩, fun z => by omega⟩, if_pos (by omega)]
          · rfl
        · replace h43 := f_b_0 h43
          refine ax_bipush dX11_whose_46 (by decide) (pc' := 48) rfl ?_
          refine ax_iret dX11_whose_48 rfl ?_
          refine ⟨rfl, ?_, ?_⟩
          · refine congrArg (fun z => some (Sum.inl z)) ?_
            unfold F_whose
            rw [if_neg (fun hh => by first | omega | exact h43 ⟨(hh.2.2 (by omega)).1, by have := (hh.2.2 (by omega)).2; omega⟩)]
          · rfl
    · refine ax_aload_n dX11_whose_17 rfl rfl (pc' := 18) rfl ?_
      refine ax_getr (v := 37) dX11_whose_18 flX11_19 rfl sh_0 rfl (pc' := 21) rfl ?_
      refine ax_aload_n dX11_whose_21 rfl rfl (pc' := 22) rfl ?_
      refine ax_getr (v := 1) dX11_whose_22 flX11_10 rfl sh_0 rfl (pc' := 25) rfl ?_
      refine ax_geti (v := M 1 3) dX11_whose_25 flX11_287 rfl sh_1 rfl rfl (pc' := 28) rfl ?_
      refine ax_iload_n dX11_whose_28 rfl rfl (pc' := 29) rfl ?_
      refine ax_invG [.inl (M 1 3), .inl r] [] dX11_whose_29 mlX11_373 sh_37 rfl rfl rfl (Nat.le_of_ble_eq_true rfl) (s_X0_salesOf E l _ (by omega) _ (M 1 3) r w hg0.2 qlb ql3) (pc' := 32) rfl (fun vv M_29 hq co29 hcm29 => ?_)
      obtain ⟨rfl, rfl⟩ := hq
      refine ax_reS (st2 := [.inl (f_loop (f_whS w r) 0 (w 1) 0)]) rfl ?_
      have cc29 : -2147483648 ≤ f_loop (f_whS w r) 0 (w 1) 0 ∧ f_loop (f_whS w r) 0 (w 1) 0 < 2147483648 := co29 _ rfl
      refine ax_iret dX11_whose_32 rfl ?_
      refine ⟨rfl, ?_, ?_⟩
      · refine congrArg (fun z => some (Sum.inl z)) ?_
        unfold F_whose
        rw [if_pos ⟨⟨by omega, by omega⟩, ⟨by omega, by omega⟩, fun z => by omega⟩, if_neg (by omega)]
      · rfl
  · replace h6 := f_b_0 h6
    refine ax_bipush dX11_whose_9 (by decide) (pc' := 11) rfl ?_
    refine ax_iret dX11_whose_11 rfl ?_
    refine ⟨rfl, ?_, ?_⟩
    · refine congrArg (fun z => some (Sum.inl z)) ?_
      unfold F_whose
      rw [if_neg (fun hh => h6 ⟨hh.1.1, by omega⟩)]
    · rfl
set_option maxRecDepth 20000 in
theorem s_X11_undo_ok (E : ax_Env) (l : Launch) (d : Nat) (hd : 3 ≤ d) (M : ax_Mem) (Ls : Int → List f_Ln) (w bk : Int → Int) (m : Int) (hg0 : f_nb M w) (hg1 : f_jv Ls w) (hg2 : f_pr M bk m w) (hg3 : 0 < m) (hg4 : f_mno bk m w) (hg5 : f_ok (f_bw bk (m - 1) w)) : ax_G E l d iX11_undo [.inr 0] M (fun z0 M2 => z0 = some (.inl 1) ∧ (∀ x0 i0 : Int, ¬ ((1 ≤ x0 ∧ x0 < 39) ∨ (92 ≤ x0 ∧ x0 < 273) ∨ (x0 = 0 ∧ i0 = 12) ∨ x0 = 72 ∨ x0 = 73 ∨ x0 = 76 ∨ x0 = 77 ∨ (x0 = 75 ∧ i0 = 3) ∨ (x0 = 75 ∧ i0 = 4)) → M2 x0 i0 = M x0 i0) ∧ (f_nb M2 (f_bw bk (m - 1) w)) ∧ (f_pr M2 bk (m - 1) (f_bw bk (m - 1) w))) := by
  obtain ⟨d, rfl⟩ : ∃ d0, d = d0 + 1 := ⟨d - 1, by omega⟩
  refine ax_start rfl (Nat.le_of_ble_eq_true rfl) (ls := [some (.inr 0)]) rfl (fun hav hcm => ?_)
  clear hav
  have qlo := hg1.1.2.2.1
  have qlb := hg1.1.2.2.2.1
  have qm := hg2.1
  have qw1 := f_pw_rg (hg2.2.1.1 (M 0 12 - 1) (by omega) (by omega))
  have qwm := (hg2.2.2 (M 0 12 - 1) (by omega) (by omega)).1
  rw [show M 0 12 - 1 = m - 1 by omega] at qwm
  have qlast := hg4.1 (m - 1) (by omega) (by omega)
  refine ax_aload_n dX11_undo_0 rfl rfl (pc' := 1) rfl ?_
  refine ax_geti (v := M 0 12) dX11_undo_1 flX11_107 rfl sh_0 rfl rfl (pc' := 4) rfl ?_
  refine ax_if_gt (tgt := 9) dX11_undo_4 (by decide) (pc' := 7) rfl (fun h4 => ?_) (fun h4 => ?_)
  · refine ax_aload_n dX11_undo_9 rfl rfl (pc' := 10) rfl ?_
    refine ax_dup dX11_undo_10 (pc' := 11) rfl ?_
    refine ax_geti (v := M 0 12) dX11_undo_11 flX11_107 rfl sh_0 rfl rfl (pc' := 14) rfl ?_
    refine ax_iconst dX11_undo_14 (by decide) (pc' := 15) rfl ?_
    refine ax_isub dX11_undo_15 (by omega) (pc' := 16) rfl ?_
    refine ax_puti dX11_undo_16 flX11_107 (Or.inl rfl) sh_0 rfl (pc' := 19) rfl ?_
    refine ax_aload_n dX11_undo_19 rfl rfl (pc' := 20) rfl ?_
    refine ax_getr (v := 1) dX11_undo_20 flX11_10 rfl sh_0 rfl (pc' := 23) rfl ?_
    refine ax_aload_n dX11_undo_23 rfl rfl (pc' := 24) rfl ?_
    refine ax_getr (v := 92) dX11_undo_24 flX11_90 rfl sh_0 rfl (pc' := 27) rfl ?_
    refine ax_aload_n dX11_undo_27 rfl rfl (pc' := 28) rfl ?_
    refine ax_geti (v := M 0 12 - 1) dX11_undo_28 flX11_107 rfl sh_0 (show (ax_up M 0 12 (M 0 12 - 1)) 0 12 = M 0 12 - 1 from (ax_up_hit _ _ _ _)) rfl (pc' := 31) rfl ?_
    refine ax_aald (v := (M 92) (M 0 12 - 1)) dX11_undo_31 sh_92 (by decide) (by omega) (by omega) ((f_av_p _ (by omega)).trans ((congrFun (ax_up_rowmiss (by decide) rfl) (M 0 12 - 1)).trans rfl)) (pc' := 32) rfl ?_
    refine ax_invG [.inr ((M 92) (M 0 12 - 1))] [] dX11_undo_32 mlX11_380 sh_1 rfl rfl rfl (Nat.le_of_ble_eq_true rfl) (s_X9_copyFrom E l _ (by omega) _ 1 ((M 92) (M 0 12 - 1)) (f_bw bk (m - 1) w) f_wp_1 (f_wp_pw (hg2.2.1.1 (M 0 12 - 1) (by omega) (by omega))) (by omega) (f_wm_fr (M := M) (fun x0 i0 x1 x2 => (ax_up_miss (by omega) rfl)) (by rw [show M 0 12 - 1 = m - 1 by omega]; exact qwm)) hg5) (pc' := 35) rfl (fun vv M_32 hq co32 hcm32 => ?_)
    obtain ⟨rfl, frM_32, fa32_0⟩ := hq
    refine ax_reS (st2 := []) rfl ?_
    refine ax_iconst dX11_undo_35 (by decide) (pc' := 36) rfl ?_
    refine ax_zret dX11_undo_36 rfl (by decide) ?_
    refine ⟨rfl, ?_, ?_, ?_, ?_⟩
    · rfl
    · intro x0 i0 hai
      exact ((frM_32 x0 i0 (by omega)).trans (ax_up_miss (fun h => hai (Or.inr (Or.inr (Or.inl h)))) rfl))
    · refine ⟨fa32_0, fun x x1 x2 => ?_⟩
      have x3 : x < 6 * bk (2564 * (m - 1) + 1) := by
        rw [f_bw_lo (by decide)] at x2
        exact x2
      rw [f_bw_hi (by omega), show M_32 38 = M 38 from ((funext fun i0 => frM_32 38 i0 (by omega)).trans (ax_up_rowmiss (by decide) rfl))]
      exact hg0.2 x x1 (by omega)
    · have q92 : M_32 92 = M 92 := ((funext fun i0 => frM_32 92 i0 (by omega)).trans (ax_up_rowmiss (by decide) rfl))
      have q12 : M_32 0 12 = M 0 12 - 1 := ((frM_32 0 12 (fun h => absurd h.1 (by decide))).trans (ax_up_hit _ _ _ _))
      refine ⟨⟨by omega, by omega, by omega⟩, by rw [q92]; exact hg2.2.1, fun k k1 k2 => ?_⟩
      have h1 := hg2.2.2 k k1 (by omega)
      have h2 := f_pw_rg (hg2.2.1.1 k k1 (by omega))
      rw [q92, f_bw_bw]
      exact ⟨f_wm_fr (M := M) (fun x0 i0 x1 x2 => ((frM_32 x0 i0 (by omega)).trans (ax_up_miss (by omega) rfl))) h1.1, h1.2⟩
  · exfalso
    omega
set_option maxRecDepth 20000 in
theorem s_X11_undo_no (E : ax_Env) (l : Launch) (d : Nat) (hd : 3 ≤ d) (M : ax_Mem) (Ls : Int → List f_Ln) (w bk : Int → Int) (m : Int) (hg0 : f_nb M w) (hg1 : f_jv Ls w) (hg2 : f_pr M bk m w) (hg3 : m = 0) : ax_G E l d iX11_undo [.inr 0] M (fun z0 M2 => z0 = some (.inl 0) ∧ M = M2) := by
  obtain ⟨d, rfl⟩ : ∃ d0, d = d0 + 1 := ⟨d - 1, by omega⟩
  refine ax_start rfl (Nat.le_of_ble_eq_true rfl) (ls := [some (.inr 0)]) rfl (fun hav hcm => ?_)
  clear hav
  have qlo := hg1.1.2.2.1
  have qlb := hg1.1.2.2.2.1
  have qm := hg2.1
  refine ax_aload_n dX11_undo_0 rfl rfl (pc' := 1) rfl ?_
  refine ax_geti (v := M 0 12) dX11_undo_1 flX11_107 rfl sh_0 rfl rfl (pc' := 4) rfl ?_
  refine ax_if_gt (tgt := 9) dX11_undo_4 (by decide) (pc' := 7) rfl (fun h4 => ?_) (fun h4 => ?_)
  · exfalso
    omega
  · refine ax_iconst dX11_undo_7 (by decide) (pc' := 8) rfl ?_
    refine ax_zret dX11_undo_8 rfl (by decide) ?_
    refine ⟨rfl, ?_, ?_⟩
    · rfl
    · rfl
