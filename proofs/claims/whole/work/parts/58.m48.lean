/-! a day -/
theorem f_onl_fg {Ls : Int → List f_Ln} {w : Int → Int} {r : Int} (hr : 0 ≤ r ∧ r < 8) (hl : f_R w r 1 ≤ 24) : f_onl r w (f_fg Ls w r) := f_onl_tr (f_onl_lp (fun p x p1 p2 => f_onl_lp (fun k y k1 k2 => f_onl_fgS ⟨p1, by omega⟩ ⟨k1, k2⟩))) (f_onl_sR (by omega))
theorem f_fg_0 {Ls : Int → List f_Ln} {w : Int → Int} {r : Int} (hr : 0 ≤ r ∧ r < 8) (hl : f_R w r 1 ≤ 24) : f_R (f_fg Ls w r) r 0 = f_R w r 0 := by
  unfold f_fg
  rw [f_R_sR ⟨hr.1, hr.2, by decide, by decide⟩ ⟨hr.1, hr.2, by decide, by decide⟩, if_neg (by omega)]
  have key : f_sm w (f_fg1 Ls w r) := f_loop_inv (P := fun x => f_sm w x) f_sm_refl (fun p x p1 p2 hx => f_loop_inv (P := fun y => f_sm w y) hx (fun k y k1 k2 hy => f_sm_trans hy (f_sm_fgS hr ⟨p1, by omega⟩ ⟨k1, k2⟩)))
  exact key.2.2.2.2 r 0 ⟨hr.1, hr.2, by decide, by decide⟩
theorem f_bit_0 {q : Int} (h : 0 ≤ q ∧ q < 8) : f_bit 0 q = 0 := by
  rcases (by omega : q = 0 ∨ q = 1 ∨ q = 2 ∨ q = 3 ∨ q = 4 ∨ q = 5 ∨ q = 6 ∨ q = 7) with rfl | rfl | rfl | rfl | rfl | rfl | rfl | rfl <;> decide +kernel
theorem f_stm_0 {Ls : Int → List f_Ln} {s : f_Dy} : f_loop (f_stmS Ls 0) 0 8 s = s := f_loop_inv (P := fun x => x = s) rfl (fun i x i1 i2 hx => by
  unfold f_stmS
  rw [if_pos (f_bit_0 ⟨i1, i2⟩)]
  exact hx)
theorem f_stI_z {Ls : Int → List f_Ln} {w : Int → Int} (h : f_jv Ls w) : f_stI Ls w 0 0 (w, 0) := ⟨h, f_k0_refl, ⟨Int.le_refl 0, Int.le_refl 0⟩, fun q a b c => absurd (f_bit_0 ⟨a, b⟩) c⟩
theorem f_nb_drw {M N : ax_Mem} {w : Int → Int} (h1 : w 1 ≤ 200) (hr : N 38 = M 38) (h : f_nb M w) (h2 : f_wm N 1 (f_drw w)) : f_nb N (f_drw w) := ⟨h2, f_bk_of hr (f_up_o (by decide)) (fun i i1 i2 => f_up_o (by omega)) h1 h.2⟩
set_option maxRecDepth 20000 in
theorem s_X11_passDay (E : ax_Env) (l : Launch) (d : Nat) (hd : 5 ≤ d) (M : ax_Mem) (Ls : Int → List f_Ln) (w : Int → Int) (hg0 : f_nb M w) (hg1 : f_jv Ls w) (hg2 : f_lrn M 52 Ls) : ax_G E l d iX11_passDay [.inr 0] M (fun z0 M2 => z0 = some (.inl ((f_day Ls w).2)) ∧ (∀ x0 i0 : Int, ¬ ((1 ≤ x0 ∧ x0 < 39) ∨ x0 = 72 ∨ x0 = 73 ∨ x0 = 76 ∨ x0 = 77 ∨ (x0 = 75 ∧ i0 = 3) ∨ (x0 = 75 ∧ i0 = 4)) → M2 x0 i0 = M x0 i0) ∧ (f_nb M2 (f_day Ls w).1)) := by
  obtain ⟨d, rfl⟩ : ∃ d0, d = d0 + 1 := ⟨d - 1, by omega⟩
  refine ax_start rfl (Nat.le_of_ble_eq_true rfl) (ls := [some (.inr 0), none, none, none, none]) rfl (fun hav hcm => ?_)
  clear hav
  have qlo := hg1.1.2.2.1
  have qlb := hg1.1.2.2.2.1
  refine ax_iconst dX11_passDay_0 (by decide) (pc' := 1) rfl ?_
  refine ax_istore_n dX11_passDay_1 rfl (by decide) (ls' := [some (.inr 0), some (.inl 0), none, none, none]) rfl (pc' := 2) rfl ?_
  have LP1 : ∀ (kq2 : Nat) (i : Int) (x : Int → Int) (M1 : ax_Mem) (hm1 : 8 - i < (kq2 : Nat)) (fr1 : ∀ x0 i0 : Int, ¬ ((1 ≤ x0 ∧ x0 < 37) ∨ x0 = 72 ∨ x0 = 73) → M1 x0 i0 = M x0 i0) (iv1_0 : 0 ≤ i ∧ i ≤ 8) (iv1_1 : f_loop (f_fgR Ls) i 8 x = f_fgA Ls w) (iv1_2 : f_nb M1 x) (iv1_3 : f_jv Ls x) (iv1_4 : f_k0 w x), ax_W E l (d + 1) 0 0 iX11_passDay 2 [some (.inr 0), some (.inl i), none, none, none] [] SH M1 (ax_P (fun z0 M2 => z0 = some (.inl ((f_day Ls w).2)) ∧ (∀ x0 i0 : Int, ¬ ((1 ≤ x0 ∧ x0 < 39) ∨ x0 = 72 ∨ x0 = 73 ∨ x0 = 76 ∨ x0 = 77 ∨ (x0 = 75 ∧ i0 = 3) ∨ (x0 = 75 ∧ i0 = 4)) → M2 x0 i0 = M x0 i0) ∧ (f_nb M2 (f_day Ls w).1))) := by
    intro kq2
    induction kq2 with
    | zero =>
      intro i x M1 hm1 fr1 iv1_0 iv1_1 iv1_2 iv1_3 iv1_4
      exfalso
      omega
    | succ kq2 ih3 =>
      intro i x M1 hm1 fr1 iv1_0 iv1_1 iv1_2 iv1_3 iv1_4
      refine ax_iload_n dX11_passDay_2 rfl rfl (pc' := 3) rfl ?_
      refine ax_bipush dX11_passDay_3 (by decide) (pc' := 5) rfl ?_
      refine ax_icmp_ge (tgt := 49) dX11_passDay_5 (by decide) (pc' := 8) rfl (fun h5 => ?_) (fun h5 => ?_)
      · have qx : x = f_fgA Ls w := by
          rw [← iv1_1, f_loop_done (by omega)]
        have qsm : x 2576 = w 2576 := iv1_4.2 2576 (by decide) (by decide)
        have qxs := iv1_2.1.1.2.1
        have qxb := iv1_3.1.2.2.2.1
        refine ax_aload_n dX11_passDay_49 rfl rfl (pc' := 50) rfl ?_
        refine ax_getr (v := 1) dX11_passDay_50 flX11_10 rfl sh_0 rfl (pc' := 53) rfl ?_
        refine ax_geti (v := M1 1 1) dX11_passDay_53 flX11_129 rfl sh_1 rfl rfl (pc' := 56) rfl ?_
        refine ax_if_le (tgt := 83) dX11_passDay_56 (by decide) (pc' := 59) rfl (fun h56 => ?_) (fun h56 => ?_)
        · obtain ⟨y0, qy0⟩ : ∃ z, z = x := ⟨_, rfl⟩
          have qsz : f_stm Ls (f_fgA Ls w) = (y0, 0) := by
            unfold f_stm
            rw [← qx, if_neg (by omega), qy0]
          refine ax_iconst dX11_passDay_83 (by decide) (pc' := 84) rfl ?_
          refine ax_istore_n dX11_passDay_84 rfl (by decide) (ls' := [some (.inr 0), some (.inl 0), none, none, none]) rfl (pc' := 85) rfl ?_
          refine ax_iload_n dX11_passDay_85 rfl rfl (pc' := 86) rfl ?_
          refine ax_if_eq (tgt := 99) dX11_passDay_86 (by decide) (pc' := 89) rfl (fun h86 => ?_) (fun h86 => ?_)
          · refine ax_iconst dX11_passDay_99 (by decide) (pc' := 100) rfl ?_
            refine ax_istore_n dX11_passDay_100 rfl (by decide) (ls' := [some (.inr 0), some (.inl 0), some (.inl 0), none, none]) rfl (pc' := 101) rfl ?_
            have qn0 : f_nb M1 y0 := by
              rw [qy0]
              exact iv1_2
            have qen : f_loop (f_stmS Ls 0) 0 8 (y0, 0) = f_stm Ls (f_fgA Ls w) := f_stm_0.trans qsz.symm
            have qsI : f_stI Ls y0 0 0 (y0, 0) := f_stI_z (by rw [qy0]; exact iv1_3)
            refine ax_iconst dX11_passDay_101 (by decide) (pc' := 102) rfl ?_
            refine ax_istore_n dX11_passDay_102 rfl (by decide) (ls' := [some (.inr 0), some (.inl 0), some (.inl 0), some (.inl 0), none]) rfl (pc' := 103) rfl ?_
            refine ax_iconst dX11_passDay_103 (by decide) (pc' := 104) rfl ?_
            refine ax_istore dX11_passDay_104 (by decide) (ls' := [some (.inr 0), some (.inl 0), some (.inl 0), some (.inl 0), some (.inl 0)]) rfl (pc' := 106) rfl ?_
            have LP4 : ∀ (kq5 : Nat) (i n : Int) (y : Int → Int) (M4 : ax_Mem) (hm4 : 8 - i < (kq5 : Nat)) (fr4 : ∀ x0 i0 : Int, ¬ ((1 ≤ x0 ∧ x0 < 39) ∨ x0 = 72 ∨ x0 = 73 ∨ x0 = 76 ∨ x0 = 77 ∨ (x0 = 75 ∧ i0 = 3) ∨ (x0 = 75 ∧ i0 = 4)) → M4 x0 i0 = M1 x0 i0) (iv4_0 : 0 ≤ i ∧ i ≤ 8) (iv4_1 : f_loop (f_stmS Ls 0) i 8 (y, n) = f_stm Ls (f_fgA Ls w)) (iv4_2 : f_nb M4 y) (iv4_3 : f_stI Ls y0 0 i (y, n)), ax_W E l (d + 1) 0 0 iX11_passDay 106 [some (.inr 0), some (.inl 0), some (.inl 0), some (.inl n), some (.inl i)] [] SH M4 (ax_P (fun z0 M2 => z0 = some (.inl ((f_day Ls w).2)) ∧ (∀ x0 i0 : Int, ¬ ((1 ≤ x0 ∧ x0 < 39) ∨ x0 = 72 ∨ x0 = 73 ∨ x0 = 76 ∨ x0 = 77 ∨ (x0 = 75 ∧ i0 = 3) ∨ (x0 = 75 ∧ i0 = 4)) → M2 x0 i0 = M x0 i0) ∧ (f_nb M2 (f_day Ls w).1))) := by
              intro kq5
              induction kq5 with
              | zero =>
                intro i n y M4 hm4 fr4 iv4_0 iv4_1 iv4_2 iv4_3
                exfalso
                omega
              | succ kq5 ih6 =>
                intro i n y M4 hm4 fr4 iv4_0 iv4_1 iv4_2 iv4_3
                refine ax_iload dX11_passDay_106 rfl (pc' := 108) rfl ?_
                refine ax_bipush dX11_passDay_108 (by decide) (pc' := 110) rfl ?_
                refine ax_icmp_ge (tgt := 150) dX11_passDay_110 (by decide) (pc' := 113) rfl (fun h110 => ?_) (fun h110 => ?_)
                · have qyd := iv4_2.1.1.1
                  have qyr : 0 ≤ y 0 ∧ y 0 ≤ 9999 := iv4_3.1.1.2.2.1
                  have qz : f_stm Ls (f_fgA Ls w) = (y, n) := by
                    rw [← iv4_1, f_loop_done (by omega)]
                  refine ax_aload_n dX11_passDay_150 rfl rfl (pc' := 151) rfl ?_
                  refine ax_getr (v := 1) dX11_passDay_151 flX11_10 rfl sh_0 rfl (pc' := 154) rfl ?_
                  refine ax_dup dX11_passDay_154 (pc' := 155) rfl ?_
                  refine ax_geti (v := M4 1 0) dX11_passDay_155 flX11_122 rfl sh_1 rfl rfl (pc' := 158) rfl ?_
                  refine ax_iconst dX11_passDay_158 (by decide) (pc' := 159) rfl ?_
                  refine ax_iadd dX11_passDay_159 (by omega) (pc' := 160) rfl ?_
                  refine ax_puti dX11_passDay_160 flX11_122 (Or.inl rfl) sh_1 rfl (pc' := 163) rfl ?_
                  refine ax_iload_n dX11_passDay_163 rfl rfl (pc' := 164) rfl ?_
                  refine ax_iret dX11_passDay_164 rfl ?_
                  refine ⟨rfl, ?_, ?_, ?_⟩
                  · refine congrArg (fun z => some (Sum.inl z)) ?_
                    unfold f_day
                    rw [qz]
                  · intro x0 i0 hai
                    exact (ax_up_miss (fun h => hai (Or.inl (by rw [h.1]; decide))) ((fr4 x0 i0 (fun h => h.elim (fun h => hai (Or.inl h)) (fun h => h.elim (fun h => hai (Or.inr (Or.inl h))) (fun h => h.elim (fun h => hai (Or.inr (Or.inr (Or.inl h)))) (fun h => h.elim (fun h => hai (Or.inr (Or.inr (Or.inr (Or.inl h))))) (fun h => h.elim (fun h => hai (Or.inr (Or.inr (Or.inr (Or.inr (Or.inl h)))))) (fun h => h.elim (fun h => hai (Or.inr (Or.inr (Or.inr (Or.inr (Or.inr (Or.inl h))))))) (fun h => hai (Or.inr (Or.inr (Or.inr (Or.inr (Or.inr (Or.inr h)))))))))))))).trans ((fr1 x0 i0 (fun h => h.elim (fun h => hai (Or.inl ⟨Int.le_trans (by decide) h.1, Int.lt_of_lt_of_le h.2 (by decide)⟩)) (fun h => h.elim (fun h => hai (Or.inr (Or.inl h))) (fun h => hai (Or.inr (Or.inr (Or.inl h))))))).trans rfl)))
                  · have q0 : (ax_up M4 1 0 (M4 1 0 + 1)) 1 0 = y 0 + 1 := Eq.trans (ax_up_hit _ _ _ _) (congrArg (· + 1) iv4_2.1.1.1)
                    have qd1 : (f_day Ls w).1 = f_up y 0 (y 0 + 1) := by
                      unfold f_day
                      rw [qz]
                    rw [qd1]
                    exact ⟨f_wm_hd iv4_3.1.1.1 iv4_2.1 (fun i i1 i2 => f_up_o (by omega)) (fun x0 i0 x1 x2 => (ax_up_miss (by omega) rfl)) ⟨q0.trans (f_up_same _ _ _).symm, Eq.trans (ax_up_miss (by decide) rfl) (iv4_2.1.1.2.1.trans (f_up_o (by decide)).symm), Eq.trans (ax_up_miss (by decide) rfl) (iv4_2.1.1.2.2.1.trans (f_up_o (by decide)).symm), Eq.trans (ax_up_miss (by decide) rfl) (iv4_2.1.1.2.2.2.trans (f_up_o (by decide)).symm)⟩, f_bk_of (ax_up_rowmiss (by decide) rfl) (f_up_o (by decide)) (fun i i1 i2 => f_up_o (by omega)) iv4_3.1.1.2.2.2.1.2 iv4_2.2⟩
                · have qnr : 0 ≤ n ∧ n ≤ i := iv4_3.2.2.1
                  refine ax_iload_n dX11_passDay_113 rfl rfl (pc' := 114) rfl ?_
                  refine ax_iload dX11_passDay_114 rfl (pc' := 116) rfl ?_
                  refine ax_ishr dX11_passDay_116 (pc' := 117) rfl ?_
                  refine ax_iconst dX11_passDay_117 (by decide) (pc' := 118) rfl ?_
                  refine ax_iand dX11_passDay_118 (pc' := 119) rfl ?_
                  refine ax_iconst dX11_passDay_119 (by decide) (pc' := 120) rfl ?_
                  refine ax_icmp_ne (tgt := 144) dX11_passDay_120 (by decide) (pc' := 123) rfl (fun h120 => ?_) (fun h120 => ?_)
                  · have qbt : f_bit 0 i = 0 := by
                      have q : 0 ≤ f_bit 0 i ∧ f_bit 0 i ≤ 1 := ax_and_one _
                      have q2 : f_bit 0 i ≠ 1 := h120
                      omega
                    have qss : f_stmS Ls 0 i (y, n) = (y, n) := if_pos qbt
                    have qc1 : f_loop (f_stmS Ls 0) (i + 1) 8 ((f_stmS Ls 0 i (y, n)).1, n) = f_stm Ls (f_fgA Ls w) := by
                      rw [qss]
                      have q := iv4_1
                      rw [f_loop_step (by omega), qss] at q
                      exact q
                    have qc2 : f_nb M4 (f_stmS Ls 0 i (y, n)).1 := by
                      rw [qss]
                      exact iv4_2
                    have qc3 : f_stI Ls y0 0 (i + 1) ((f_stmS Ls 0 i (y, n)).1, n) := by
                      have q := f_stmS_ok ⟨by omega, by omega⟩ iv4_3
                      rw [qss] at q ⊢
                      exact q
                    refine ax_iinc dX11_passDay_144 rfl (by decide) (by omega) (ls' := [some (.inr 0), some (.inl 0), some (.inl 0), some (.inl n), some (.inl (i + 1))]) rfl (pc' := 147) rfl ?_
                    refine ax_goto dX11_passDay_147 (pc' := 106) (by decide) ?_
                    refine ih6 (i + 1) n ((f_stmS Ls 0 i (y, n)).1) M4 ?_ ?_ ?_ ?_ ?_ ?_
                    · omega
                    · intro x0 i0 hai
                      exact ((fr4 x0 i0 (fun h => h.elim (fun h => hai (Or.inl h)) (fun h => h.elim (fun h => hai (Or.inr (Or.inl h))) (fun h => h.elim (fun h => hai (Or.inr (Or.inr (Or.inl h)))) (fun h => h.elim (fun h => hai (Or.inr (Or.inr (Or.inr (Or.inl h))))) (fun h => h.elim (fun h => hai (Or.inr (Or.inr (Or.inr (Or.inr (Or.inl h)))))) (fun h => h.elim (fun h => hai (Or.inr (Or.inr (Or.inr (Or.inr (Or.inr (Or.inl h))))))) (fun h => hai (Or.inr (Or.inr (Or.inr (Or.inr (Or.inr (Or.inr h)))))))))))))).trans rfl)
                    · omega
                    · exact qc1
                    · exact qc2
                    · exact qc3
                  · have qb1 := h120
                    refine ax_aload_n dX11_passDay_123 rfl rfl (pc' := 124) rfl ?_
                    refine ax_iload dX11_passDay_124 rfl (pc' := 126) rfl ?_
                    refine ax_aload_n dX11_passDay_126 rfl rfl (pc' := 127) rfl ?_
                    refine ax_getr (v := 1) dX11_passDay_127 flX11_10 rfl sh_0 rfl (pc' := 130) rfl ?_
                    refine ax_bipush dX11_passDay_130 (by decide) (pc' := 132) rfl ?_
                    refine ax_invG [.inl 100] [.inl i, .inr 0] dX11_passDay_132 mlX11_401 sh_1 rfl rfl rfl (Nat.le_of_ble_eq_true rfl) (s_X9_drawBelow E l _ (by omega) _ 100 y iv4_2.1 iv4_3.1.1.1 (by decide)) (pc' := 135) rfl (fun vv M_132 hq co132 hcm132 => ?_)
                    obtain ⟨rfl, frM_132, fa132_0⟩ := hq
                    refine ax_reS (st2 := [.inl (f_rnd y 100), .inl i, .inr 0]) rfl ?_
                    have cc132 : -2147483648 ≤ f_rnd y 100 ∧ f_rnd y 100 < 2147483648 := co132 _ rfl
                    have qnd : f_nb M_132 (f_drw y) := f_nb_drw iv4_3.1.1.2.2.2.1.2 (funext fun i0 => frM_132 38 i0 (by omega)) iv4_2 fa132_0
                    have qiy : f_isR (f_drw y) i := ⟨by omega, by omega, (f_R_drw ⟨by omega, by omega, by decide, by decide⟩).trans (iv4_3.2.2.2 i (by omega) (by omega) (fun z => absurd ((show f_bit 0 i = 1 from h120).symm.trans z) (by decide)))⟩
                    refine ax_invG [.inl i, .inl (f_rnd y 100)] [] dX11_passDay_135 mlX11_160 sh_0 rfl rfl rfl (Nat.le_of_ble_eq_true rfl) (s_X11_pullNow E l _ (by omega) _ i (f_rnd y 100) Ls (f_drw y) qnd (f_jv_drw iv4_3.1) qiy (f_lrn_fr (M := M) (fun x0 i0 hx => ((frM_132 x0 i0 (by omega)).trans ((fr4 x0 i0 (by omega)).trans ((fr1 x0 i0 (by omega)).trans rfl)))) hg2)) (pc' := 138) rfl (fun vv M_135 hq co135 hcm135 => ?_)
                    obtain ⟨rfl, frM_135, fa135_0, fa135_1⟩ := hq
                    refine ax_reS (st2 := [.inl (f_b (f_brk Ls (f_stch Ls (f_drw y) i (f_rnd y 100)).1 i (f_rnd y 100) ≠ -1))]) rfl ?_
                    refine ax_if_eq (tgt := 144) dX11_passDay_138 (by decide) (pc' := 141) rfl (fun h138 => ?_) (fun h138 => ?_)
                    · replace h138 := f_b_0 h138
                      have qss : f_stmS Ls 0 i (y, n) = (f_puls Ls (f_drw y) i (f_rnd y 100), n + 0) := by
                        unfold f_stmS
                        rw [if_neg (fun z => absurd ((show f_bit 0 i = 1 from h120).symm.trans z) (by decide)), if_pos (Decidable.not_not.mp h138)]
                      have qc1 : f_loop (f_stmS Ls 0) (i + 1) 8 ((f_stmS Ls 0 i (y, n)).1, n) = f_stm Ls (f_fgA Ls w) := by
                        have q := iv4_1
                        rw [f_loop_step (by omega), qss] at q
                        rw [qss]
                        first | exact q | (rw [Int.add_zero] at q; exact q)
                      have qc2 : f_nb M_135 (f_stmS Ls 0 i (y, n)).1 := by
                        rw [qss]
                        exact fa135_0
                      have qc3 : f_stI Ls y0 0 (i + 1) ((f_stmS Ls 0 i (y, n)).1, n) := by
                        have q := f_stmS_ok ⟨by omega, by omega⟩ iv4_3
                        rw [qss] at q ⊢
                        first | exact q | (rw [Int.add_zero] at q; exact q)
                      refine ax_iinc dX11_passDay_144 rfl (by decide) (by omega) (ls' := [some (.inr 0), some (.inl 0), some (.inl 0), some (.inl n), some (.inl (i + 1))]) rfl (pc' := 147) rfl ?_
                      refine ax_goto dX11_passDay_147 (pc' := 106) (by decide) ?_
                      refine ih6 (i + 1) n ((f_stmS Ls 0 i (y, n)).1) M_135 ?_ ?_ ?_ ?_ ?_ ?_
                      · omega
                      · intro x0 i0 hai
                        exact ((frM_135 x0 i0 (fun h => h.elim (fun h => hai (Or.inl h)) (fun h => h.elim (fun h => hai (Or.inr (Or.inl h))) (fun h => h.elim (fun h => hai (Or.inr (Or.inr (Or.inl h)))) (fun h => h.elim (fun h => hai (Or.inr (Or.inr (Or.inr (Or.inl h))))) (fun h => h.elim (fun h => hai (Or.inr (Or.inr (Or.inr (Or.inr (Or.inl h)))))) (fun h => h.elim (fun h => hai (Or.inr (Or.inr (Or.inr (Or.inr (Or.inr (Or.inl h))))))) (fun h => hai (Or.inr (Or.inr (Or.inr (Or.inr (Or.inr (Or.inr h)))))))))))))).trans ((frM_132 x0 i0 (fun h => hai (Or.inl (by rw [h.1]; decide)))).trans ((fr4 x0 i0 (fun h => h.elim (fun h => hai (Or.inl h)) (fun h => h.elim (fun h => hai (Or.inr (Or.inl h))) (fun h => h.elim (fun h => hai (Or.inr (Or.inr (Or.inl h)))) (fun h => h.elim (fun h => hai (Or.inr (Or.inr (Or.inr (Or.inl h))))) (fun h => h.elim (fun h => hai (Or.inr (Or.inr (Or.inr (Or.inr (Or.inl h)))))) (fun h => h.elim (fun h => hai (Or.inr (Or.inr (Or.inr (Or.inr (Or.inr (Or.inl h))))))) (fun h => hai (Or.inr (Or.inr (Or.inr (Or.inr (Or.inr (Or.inr h)))))))))))))).trans rfl)))
                      · omega
                      · exact qc1
                      · exact qc2
                      · exact qc3
                    · replace h138 := f_b_1 h138
                      refine ax_iinc dX11_passDay_141 rfl (by decide) (by omega) (ls' := [some (.inr 0), some (.inl 0), some (.inl 0), some (.inl (n + 1)), some (.inl i)]) rfl (pc' := 144) rfl ?_
                      have qss : f_stmS Ls 0 i (y, n) = (f_puls Ls (f_drw y) i (f_rnd y 100), n + 1) := by
                        unfold f_stmS
                        rw [if_neg (fun z => absurd ((show f_bit 0 i = 1 from h120).symm.trans z) (by decide)), if_neg h138]
                      have qc1 : f_loop (f_stmS Ls 0) (i + 1) 8 ((f_stmS Ls 0 i (y, n)).1, n + 1) = f_stm Ls (f_fgA Ls w) := by
                        have q := iv4_1
                        rw [f_loop_step (by omega), qss] at q
                        rw [qss]
                        first | exact q | (rw [Int.add_zero] at q; exact q)
                      have qc2 : f_nb M_135 (f_stmS Ls 0 i (y, n)).1 := by
                        rw [qss]
                        exact fa135_0
                      have qc3 : f_stI Ls y0 0 (i + 1) ((f_stmS Ls 0 i (y, n)).1, n + 1) := by
                        have q := f_stmS_ok ⟨by omega, by omega⟩ iv4_3
                        rw [qss] at q ⊢
                        first | exact q | (rw [Int.add_zero] at q; exact q)
                      refine ax_iinc dX11_passDay_144 rfl (by decide) (by omega) (ls' := [some (.inr 0), some (.inl 0), some (.inl 0), some (.inl (n + 1)), some (.inl (i + 1))]) rfl (pc' := 147) rfl ?_
                      refine ax_goto dX11_passDay_147 (pc' := 106) (by decide) ?_
                      refine ih6 (i + 1) (n + 1) ((f_stmS Ls 0 i (y, n)).1) M_135 ?_ ?_ ?_ ?_ ?_ ?_
                      · omega
                      · intro x0 i0 hai
                        exact ((frM_135 x0 i0 (fun h => h.elim (fun h => hai (Or.inl h)) (fun h => h.elim (fun h => hai (Or.inr (Or.inl h))) (fun h => h.elim (fun h => hai (Or.inr (Or.inr (Or.inl h)))) (fun h => h.elim (fun h => hai (Or.inr (Or.inr (Or.inr (Or.inl h))))) (fun h => h.elim (fun h => hai (Or.inr (Or.inr (Or.inr (Or.inr (Or.inl h)))))) (fun h => h.elim (fun h => hai (Or.inr (Or.inr (Or.inr (Or.inr (Or.inr (Or.inl h))))))) (fun h => hai (Or.inr (Or.inr (Or.inr (Or.inr (Or.inr (Or.inr h)))))))))))))).trans ((frM_132 x0 i0 (fun h => hai (Or.inl (by rw [h.1]; decide)))).trans ((fr4 x0 i0 (fun h => h.elim (fun h => hai (Or.inl h)) (fun h => h.elim (fun h => hai (Or.inr (Or.inl h))) (fun h => h.elim (fun h => hai (Or.inr (Or.inr (Or.inl h)))) (fun h => h.elim (fun h => hai (Or.inr (Or.inr (Or.inr (Or.inl h))))) (fun h => h.elim (fun h => hai (Or.inr (Or.inr (Or.inr (Or.inr (Or.inl h)))))) (fun h => h.elim (fun h => hai (Or.inr (Or.inr (Or.inr (Or.inr (Or.inr (Or.inl h))))))) (fun h => hai (Or.inr (Or.inr (Or.inr (Or.inr (Or.inr (Or.inr h)))))))))))))).trans rfl)))
                      · omega
                      · exact qc1
                      · exact qc2
                      · exact qc3
            refine LP4 (8 - 0 : Int).toNat.succ 0 0 y0 M1 ?_ ?_ ?_ ?_ ?_ ?_
            · omega
            · exact fun a i _ => rfl
            · omega
            · exact qen
            · exact qn0
            · exact qsI
          · exfalso
            omega
        · refine ax_aload_n dX11_passDay_59 rfl rfl (pc' := 60) rfl ?_
          refine ax_getr (v := 1) dX11_passDay_60 flX11_10 rfl sh_0 rfl (pc' := 63) rfl ?_
          refine ax_sipush dX11_passDay_63 (by decide) (pc' := 66) rfl ?_
          refine ax_invG [.inl 1000] [] dX11_passDay_66 mlX11_401 sh_1 rfl rfl rfl (Nat.le_of_ble_eq_true rfl) (s_X9_drawBelow E l _ (by omega) _ 1000 x iv1_2.1 iv1_3.1.1 (by decide)) (pc' := 69) rfl (fun vv M_66 hq co66 hcm66 => ?_)
          obtain ⟨rfl, frM_66, fa66_0⟩ := hq
          refine ax_reS (st2 := [.inl (f_rnd x 1000)]) rfl ?_
          have cc66 : -2147483648 ≤ f_rnd x 1000 ∧ f_rnd x 1000 < 2147483648 := co66 _ rfl
          have qds : f_drw x 2576 = x 2576 := f_up_o (by decide)
          have qnd0 : f_nb M_66 (f_drw x) := f_nb_drw iv1_3.1.2.2.2.1.2 (funext fun i0 => frM_66 38 i0 (by omega)) iv1_2 fa66_0
          refine ax_aload_n dX11_passDay_69 rfl rfl (pc' := 70) rfl ?_
          refine ax_getr (v := 1) dX11_passDay_70 flX11_10 rfl sh_0 rfl (pc' := 73) rfl ?_
          refine ax_geti (v := M1 1 1) dX11_passDay_73 flX11_129 rfl sh_1 ((frM_66 1 1 (fun h => absurd h.2 (by decide))).trans rfl) rfl (pc' := 76) rfl ?_
          refine ax_icmp_ge (tgt := 83) dX11_passDay_76 (by decide) (pc' := 79) rfl (fun h76 => ?_) (fun h76 => ?_)
          · obtain ⟨y0, qy0⟩ : ∃ z, z = f_drw x := ⟨_, rfl⟩
            have qsz : f_stm Ls (f_fgA Ls w) = (y0, 0) := by
              unfold f_stm
              rw [← qx, if_pos (by omega), if_neg (by rw [qds]; omega), qy0]
            refine ax_iconst dX11_passDay_83 (by decide) (pc' := 84) rfl ?_
            refine ax_istore_n dX11_passDay_84 rfl (by decide) (ls' := [some (.inr 0), some (.inl 0), none, none, none]) rfl (pc' := 85) rfl ?_
            refine ax_iload_n dX11_passDay_85 rfl rfl (pc' := 86) rfl ?_
            refine ax_if_eq (tgt := 99) dX11_passDay_86 (by decide) (pc' := 89) rfl (fun h86 => ?_) (fun h86 => ?_)
            · refine ax_iconst dX11_passDay_99 (by decide) (pc' := 100) rfl ?_
              refine ax_istore_n dX11_passDay_100 rfl (by decide) (ls' := [some (.inr 0), some (.inl 0), some (.inl 0), none, none]) rfl (pc' := 101) rfl ?_
              have qn0 : f_nb M_66 y0 := by
                rw [qy0]
                exact qnd0
              have qen : f_loop (f_stmS Ls 0) 0 8 (y0, 0) = f_stm Ls (f_fgA Ls w) := f_stm_0.trans qsz.symm
              have qsI : f_stI Ls y0 0 0 (y0, 0) := f_stI_z (by rw [qy0]; exact f_jv_drw iv1_3)
              refine ax_iconst dX11_passDay_101 (by decide) (pc' := 102) rfl ?_
              refine ax_istore_n dX11_passDay_102 rfl (by decide) (ls' := [some (.inr 0), some (.inl 0), some (.inl 0), some (.inl 0), none]) rfl (pc' := 103) rfl ?_
              refine ax_iconst dX11_passDay_103 (by decide) (pc' := 104) rfl ?_
              refine ax_istore dX11_passDay_104 (by decide) (ls' := [some (.inr 0), some (.inl 0), some (.inl 0), some (.inl 0), some (.inl 0)]) rfl (pc' := 106) rfl ?_
              have LP7 : ∀ (kq8 : Nat) (i n : Int) (y : Int → Int) (M7 : ax_Mem) (hm7 : 8 - i < (kq8 : Nat)) (fr7 : ∀ x0 i0 : Int, ¬ ((1 ≤ x0 ∧ x0 < 39) ∨ x0 = 72 ∨ x0 = 73 ∨ x0 = 76 ∨ x0 = 77 ∨ (x0 = 75 ∧ i0 = 3) ∨ (x0 = 75 ∧ i0 = 4)) → M7 x0 i0 = M_66 x0 i0) (iv7_0 : 0 ≤ i ∧ i ≤ 8) (iv7_1 : f_loop (f_stmS Ls 0) i 8 (y, n) = f_stm Ls (f_fgA Ls w)) (iv7_2 : f_nb M7 y) (iv7_3 : f_stI Ls y0 0 i (y, n)), ax_W E l (d + 1) 0 0 iX11_passDay 106 [some (.inr 0), some (.inl 0), some (.inl 0), some (.inl n), some (.inl i)] [] SH M7 (ax_P (fun z0 M2 => z0 = some (.inl ((f_day Ls w).2)) ∧ (∀ x0 i0 : Int, ¬ ((1 ≤ x0 ∧ x0 < 39) ∨ x0 = 72 ∨ x0 = 73 ∨ x0 = 76 ∨ x0 = 77 ∨ (x0 = 75 ∧ i0 = 3) ∨ (x0 = 75 ∧ i0 = 4)) → M2 x0 i0 = M x0 i0) ∧ (f_nb M2 (f_day Ls w).1))) := by
                intro kq8
                induction kq8 with
                | zero =>
                  intro i n y M7 hm7 fr7 iv7_0 iv7_1 iv7_2 iv7_3
                  exfalso
                  omega
                | succ kq8 ih9 =>
                  intro i n y M7 hm7 fr7 iv7_0 iv7_1 iv7_2 iv7_3
                  refine ax_iload dX11_passDay_106 rfl (pc' := 108) rfl ?_
                  refine ax_bipush dX11_passDay_108 (by decide) (pc' := 110) rfl ?_
                  refine ax_icmp_ge (tgt := 150) dX11_passDay_110 (by decide) (pc' := 113) rfl (fun h110 => ?_) (fun h110 => ?_)
                  · have qyd := iv7_2.1.1.1
                    have qyr : 0 ≤ y 0 ∧ y 0 ≤ 9999 := iv7_3.1.1.2.2.1
                    have qz : f_stm Ls (f_fgA Ls w) = (y, n) := by
                      rw [← iv7_1, f_loop_done (by omega)]
                    refine ax_aload_n dX11_passDay_150 rfl rfl (pc' := 151) rfl ?_
                    refine ax_getr (v := 1) dX11_passDay_151 flX11_10 rfl sh_0 rfl (pc' := 154) rfl ?_
                    refine ax_dup dX11_passDay_154 (pc' := 155) rfl ?_
                    refine ax_geti (v := M7 1 0) dX11_passDay_155 flX11_122 rfl sh_1 rfl rfl (pc' := 158) rfl ?_
                    refine ax_iconst dX11_passDay_158 (by decide) (pc' := 159) rfl ?_
                    refine ax_iadd dX11_passDay_159 (by omega) (pc' := 160) rfl ?_
                    refine ax_puti dX11_passDay_160 flX11_122 (Or.inl rfl) sh_1 rfl (pc' := 163) rfl ?_
                    refine ax_iload_n dX11_passDay_163 rfl rfl (pc' := 164) rfl ?_
                    refine ax_iret dX11_passDay_164 rfl ?_
                    refine ⟨rfl, ?_, ?_, ?_⟩
                    · refine congrArg (fun z => some (Sum.inl z)) ?_
                      unfold f_day
                      rw [qz]
                    · intro x0 i0 hai
                      exact (ax_up_miss (fun h => hai (Or.inl (by rw [h.1]; decide))) ((fr7 x0 i0 (fun h => h.elim (fun h => hai (Or.inl h)) (fun h => h.elim (fun h => hai (Or.inr (Or.inl h))) (fun h => h.elim (fun h => hai (Or.inr (Or.inr (Or.inl h)))) (fun h => h.elim (fun h => hai (Or.inr (Or.inr (Or.inr (Or.inl h))))) (fun h => h.elim (fun h => hai (Or.inr (Or.inr (Or.inr (Or.inr (Or.inl h)))))) (fun h => h.elim (fun h => hai (Or.inr (Or.inr (Or.inr (Or.inr (Or.inr (Or.inl h))))))) (fun h => hai (Or.inr (Or.inr (Or.inr (Or.inr (Or.inr (Or.inr h)))))))))))))).trans ((frM_66 x0 i0 (fun h => hai (Or.inl (by rw [h.1]; decide)))).trans ((fr1 x0 i0 (fun h => h.elim (fun h => hai (Or.inl ⟨Int.le_trans (by decide) h.1, Int.lt_of_lt_of_le h.2 (by decide)⟩)) (fun h => h.elim (fun h => hai (Or.inr (Or.inl h))) (fun h => hai (Or.inr (Or.inr (Or.inl h))))))).trans rfl))))
                    · have q0 : (ax_up M7 1 0 (M7 1 0 + 1)) 1 0 = y 0 + 1 := Eq.trans (ax_up_hit _ _ _ _) (congrArg (· + 1) iv7_2.1.1.1)
                      have qd1 : (f_day Ls w).1 = f_up y 0 (y 0 + 1) := by
                        unfold f_day
                        rw [qz]
                      rw [qd1]
                      exact ⟨f_wm_hd iv7_3.1.1.1 iv7_2.1 (fun i i1 i2 => f_up_o (by omega)) (fun x0 i0 x1 x2 => (ax_up_miss (by omega) rfl)) ⟨q0.trans (f_up_same _ _ _).symm, Eq.trans (ax_up_miss (by decide) rfl) (iv7_2.1.1.2.1.trans (f_up_o (by decide)).symm), Eq.trans (ax_up_miss (by decide) rfl) (iv7_2.1.1.2.2.1.trans (f_up_o (by decide)).symm), Eq.trans (ax_up_miss (by decide) rfl) (iv7_2.1.1.2.2.2.trans (f_up_o (by decide)).symm)⟩, f_bk_of (ax_up_rowmiss (by decide) rfl) (f_up_o (by decide)) (fun i i1 i2 => f_up_o (by omega)) iv7_3.1.1.2.2.2.1.2 iv7_2.2⟩
                  · have qnr : 0 ≤ n ∧ n ≤ i := iv7_3.2.2.1
                    refine ax_iload_n dX11_passDay_113 rfl rfl (pc' := 114) rfl ?_
                    refine ax_iload dX11_passDay_114 rfl (pc' := 116) rfl ?_
                    refine ax_ishr dX11_passDay_116 (pc' := 117) rfl ?_
                    refine ax_iconst dX11_passDay_117 (by decide) (pc' := 118) rfl ?_
                    refine ax_iand dX11_passDay_118 (pc' := 119) rfl ?_
                    refine ax_iconst dX11_passDay_119 (by decide) (pc' := 120) rfl ?_
                    refine ax_icmp_ne (tgt := 144) dX11_passDay_120 (by decide) (pc' := 123) rfl (fun h120 => ?_) (fun h120 => ?_)
                    · have qbt : f_bit 0 i = 0 := by
                        have q : 0 ≤ f_bit 0 i ∧ f_bit 0 i ≤ 1 := ax_and_one _
                        have q2 : f_bit 0 i ≠ 1 := h120
                        omega
                      have qss : f_stmS Ls 0 i (y, n) = (y, n) := if_pos qbt
                      have qc1 : f_loop (f_stmS Ls 0) (i + 1) 8 ((f_stmS Ls 0 i (y, n)).1, n) = f_stm Ls (f_fgA Ls w) := by
                        rw [qss]
                        have q := iv7_1
                        rw [f_loop_step (by omega), qss] at q
                        exact q
                      have qc2 : f_nb M7 (f_stmS Ls 0 i (y, n)).1 := by
                        rw [qss]
                        exact iv7_2
                      have qc3 : f_stI Ls y0 0 (i + 1) ((f_stmS Ls 0 i (y, n)).1, n) := by
                        have q := f_stmS_ok ⟨by omega, by omega⟩ iv7_3
                        rw [qss] at q ⊢
                        exact q
                      refine ax_iinc dX11_passDay_144 rfl (by decide) (by omega) (ls' := [some (.inr 0), some (.inl 0), some (.inl 0), some (.inl n), some (.inl (i + 1))]) rfl (pc' := 147) rfl ?_
                      refine ax_goto dX11_passDay_147 (pc' := 106) (by decide) ?_
                      refine ih9 (i + 1) n ((f_stmS Ls 0 i (y, n)).1) M7 ?_ ?_ ?_ ?_ ?_ ?_
                      · omega
                      · intro x0 i0 hai
                        exact ((fr7 x0 i0 (fun h => h.elim (fun h => hai (Or.inl h)) (fun h => h.elim (fun h => hai (Or.inr (Or.inl h))) (fun h => h.elim (fun h => hai (Or.inr (Or.inr (Or.inl h)))) (fun h => h.elim (fun h => hai (Or.inr (Or.inr (Or.inr (Or.inl h))))) (fun h => h.elim (fun h => hai (Or.inr (Or.inr (Or.inr (Or.inr (Or.inl h)))))) (fun h => h.elim (fun h => hai (Or.inr (Or.inr (Or.inr (Or.inr (Or.inr (Or.inl h))))))) (fun h => hai (Or.inr (Or.inr (Or.inr (Or.inr (Or.inr (Or.inr h)))))))))))))).trans rfl)
                      · omega
                      · exact qc1
                      · exact qc2
                      · exact qc3
                    · have qb1 := h120
                      refine ax_aload_n dX11_passDay_123 rfl rfl (pc' := 124) rfl ?_
                      refine ax_iload dX11_passDay_124 rfl (pc' := 126) rfl ?_
                      refine ax_aload_n dX11_passDay_126 rfl rfl (pc' := 127) rfl ?_
                      refine ax_getr (v := 1) dX11_passDay_127 flX11_10 rfl sh_0 rfl (pc' := 130) rfl ?_
                      refine ax_bipush dX11_passDay_130 (by decide) (pc' := 132) rfl ?_
                      refine ax_invG [.inl 100] [.inl i, .inr 0] dX11_passDay_132 mlX11_401 sh_1 rfl rfl rfl (Nat.le_of_ble_eq_true rfl) (s_X9_drawBelow E l _ (by omega) _ 100 y iv7_2.1 iv7_3.1.1.1 (by decide)) (pc' := 135) rfl (fun vv M_132 hq co132 hcm132 => ?_)
                      obtain ⟨rfl, frM_132, fa132_0⟩ := hq
                      refine ax_reS (st2 := [.inl (f_rnd y 100), .inl i, .inr 0]) rfl ?_
                      have cc132 : -2147483648 ≤ f_rnd y 100 ∧ f_rnd y 100 < 2147483648 := co132 _ rfl
                      have qnd : f_nb M_132 (f_drw y) := f_nb_drw iv7_3.1.1.2.2.2.1.2 (funext fun i0 => frM_132 38 i0 (by omega)) iv7_2 fa132_0
                      have qiy : f_isR (f_drw y) i := ⟨by omega, by omega, (f_R_drw ⟨by omega, by omega, by decide, by decide⟩).trans (iv7_3.2.2.2 i (by omega) (by omega) (fun z => absurd ((show f_bit 0 i = 1 from h120).symm.trans z) (by decide)))⟩
                      refine ax_invG [.inl i, .inl (f_rnd y 100)] [] dX11_passDay_135 mlX11_160 sh_0 rfl rfl rfl (Nat.le_of_ble_eq_true rfl) (s_X11_pullNow E l _ (by omega) _ i (f_rnd y 100) Ls (f_drw y) qnd (f_jv_drw iv7_3.1) qiy (f_lrn_fr (M := M) (fun x0 i0 hx => ((frM_132 x0 i0 (by omega)).trans ((fr7 x0 i0 (by omega)).trans ((frM_66 x0 i0 (by omega)).trans ((fr1 x0 i0 (by omega)).trans rfl))))) hg2)) (pc' := 138) rfl (fun vv M_135 hq co135 hcm135 => ?_)
                      obtain ⟨rfl, frM_135, fa135_0, fa135_1⟩ := hq
                      refine ax_reS (st2 := [.inl (f_b (f_brk Ls (f_stch Ls (f_drw y) i (f_rnd y 100)).1 i (f_rnd y 100) ≠ -1))]) rfl ?_
                      refine ax_if_eq (tgt := 144) dX11_passDay_138 (by decide) (pc' := 141) rfl (fun h138 => ?_) (fun h138 => ?_)
                      · replace h138 := f_b_0 h138
                        have qss : f_stmS Ls 0 i (y, n) = (f_puls Ls (f_drw y) i (f_rnd y 100), n + 0) := by
                          unfold f_stmS
                          rw [if_neg (fun z => absurd ((show f_bit 0 i = 1 from h120).symm.trans z) (by decide)), if_pos (Decidable.not_not.mp h138)]
                        have qc1 : f_loop (f_stmS Ls 0) (i + 1) 8 ((f_stmS Ls 0 i (y, n)).1, n) = f_stm Ls (f_fgA Ls w) := by
                          have q := iv7_1
                          rw [f_loop_step (by omega), qss] at q
                          rw [qss]
                          first | exact q | (rw [Int.add_zero] at q; exact q)
                        have qc2 : f_nb M_135 (f_stmS Ls 0 i (y, n)).1 := by
                          rw [qss]
                          exact fa135_0
                        have qc3 : f_stI Ls y0 0 (i + 1) ((f_stmS Ls 0 i (y, n)).1, n) := by
                          have q := f_stmS_ok ⟨by omega, by omega⟩ iv7_3
                          rw [qss] at q ⊢
                          first | exact q | (rw [Int.add_zero] at q; exact q)
                        refine ax_iinc dX11_passDay_144 rfl (by decide) (by omega) (ls' := [some (.inr 0), some (.inl 0), some (.inl 0), some (.inl n), some (.inl (i + 1))]) rfl (pc' := 147) rfl ?_
                        refine ax_goto dX11_passDay_147 (pc' := 106) (by decide) ?_
                        refine ih9 (i + 1) n ((f_stmS Ls 0 i (y, n)).1) M_135 ?_ ?_ ?_ ?_ ?_ ?_
                        · omega
                        · intro x0 i0 hai
                          exact ((frM_135 x0 i0 (fun h => h.elim (fun h => hai (Or.inl h)) (fun h => h.elim (fun h => hai (Or.inr (Or.inl h))) (fun h => h.elim (fun h => hai (Or.inr (Or.inr (Or.inl h)))) (fun h => h.elim (fun h => hai (Or.inr (Or.inr (Or.inr (Or.inl h))))) (fun h => h.elim (fun h => hai (Or.inr (Or.inr (Or.inr (Or.inr (Or.inl h)))))) (fun h => h.elim (fun h => hai (Or.inr (Or.inr (Or.inr (Or.inr (Or.inr (Or.inl h))))))) (fun h => hai (Or.inr (Or.inr (Or.inr (Or.inr (Or.inr (Or.inr h)))))))))))))).trans ((frM_132 x0 i0 (fun h => hai (Or.inl (by rw [h.1]; decide)))).trans ((fr7 x0 i0 (fun h => h.elim (fun h => hai (Or.inl h)) (fun h => h.elim (fun h => hai (Or.inr (Or.inl h))) (fun h => h.elim (fun h => hai (Or.inr (Or.inr (Or.inl h)))) (fun h => h.elim (fun h => hai (Or.inr (Or.inr (Or.inr (Or.inl h))))) (fun h => h.elim (fun h => hai (Or.inr (Or.inr (Or.inr (Or.inr (Or.inl h)))))) (fun h => h.elim (fun h => hai (Or.inr (Or.inr (Or.inr (Or.inr (Or.inr (Or.inl h))))))) (fun h => hai (Or.inr (Or.inr (Or.inr (Or.inr (Or.inr (Or.inr h)))))))))))))).trans rfl)))
                        · omega
                        · exact qc1
                        · exact qc2
                        · exact qc3
                      · replace h138 := f_b_1 h138
                        refine ax_iinc dX11_passDay_141 rfl (by decide) (by omega) (ls' := [some (.inr 0), some (.inl 0), some (.inl 0), some (.inl (n + 1)), some (.inl i)]) rfl (pc' := 144) rfl ?_
                        have qss : f_stmS Ls 0 i (y, n) = (f_puls Ls (f_drw y) i (f_rnd y 100), n + 1) := by
                          unfold f_stmS
                          rw [if_neg (fun z => absurd ((show f_bit 0 i = 1 from h120).symm.trans z) (by decide)), if_neg h138]
                        have qc1 : f_loop (f_stmS Ls 0) (i + 1) 8 ((f_stmS Ls 0 i (y, n)).1, n + 1) = f_stm Ls (f_fgA Ls w) := by
                          have q := iv7_1
                          rw [f_loop_step (by omega), qss] at q
                          rw [qss]
                          first | exact q | (rw [Int.add_zero] at q; exact q)
                        have qc2 : f_nb M_135 (f_stmS Ls 0 i (y, n)).1 := by
                          rw [qss]
                          exact fa135_0
                        have qc3 : f_stI Ls y0 0 (i + 1) ((f_stmS Ls 0 i (y, n)).1, n + 1) := by
                          have q := f_stmS_ok ⟨by omega, by omega⟩ iv7_3
                          rw [qss] at q ⊢
                          first | exact q | (rw [Int.add_zero] at q; exact q)
                        refine ax_iinc dX11_passDay_144 rfl (by decide) (by omega) (ls' := [some (.inr 0), some (.inl 0), some (.inl 0), some (.inl (n + 1)), some (.inl (i + 1))]) rfl (pc' := 147) rfl ?_
                        refine ax_goto dX11_passDay_147 (pc' := 106) (by decide) ?_
                        refine ih9 (i + 1) (n + 1) ((f_stmS Ls 0 i (y, n)).1) M_135 ?_ ?_ ?_ ?_ ?_ ?_
                        · omega
                        · intro x0 i0 hai
                          exact ((frM_135 x0 i0 (fun h => h.elim (fun h => hai (Or.inl h)) (fun h => h.elim (fun h => hai (Or.inr (Or.inl h))) (fun h => h.elim (fun h => hai (Or.inr (Or.inr (Or.inl h)))) (fun h => h.elim (fun h => hai (Or.inr (Or.inr (Or.inr (Or.inl h))))) (fun h => h.elim (fun h => hai (Or.inr (Or.inr (Or.inr (Or.inr (Or.inl h)))))) (fun h => h.elim (fun h => hai (Or.inr (Or.inr (Or.inr (Or.inr (Or.inr (Or.inl h))))))) (fun h => hai (Or.inr (Or.inr (Or.inr (Or.inr (Or.inr (Or.inr h)))))))))))))).trans ((frM_132 x0 i0 (fun h => hai (Or.inl (by rw [h.1]; decide)))).trans ((fr7 x0 i0 (fun h => h.elim (fun h => hai (Or.inl h)) (fun h => h.elim (fun h => hai (Or.inr (Or.inl h))) (fun h => h.elim (fun h => hai (Or.inr (Or.inr (Or.inl h)))) (fun h => h.elim (fun h => hai (Or.inr (Or.inr (Or.inr (Or.inl h))))) (fun h => h.elim (fun h => hai (Or.inr (Or.inr (Or.inr (Or.inr (Or.inl h)))))) (fun h => h.elim (fun h => hai (Or.inr (Or.inr (Or.inr (Or.inr (Or.inr (Or.inl h))))))) (fun h => hai (Or.inr (Or.inr (Or.inr (Or.inr (Or.inr (Or.inr h)))))))))))))).trans rfl)))
                        · omega
                        · exact qc1
                        · exact qc2
                        · exact qc3
              refine LP7 (8 - 0 : Int).toNat.succ 0 0 y0 M_66 ?_ ?_ ?_ ?_ ?_ ?_
              · omega
              · exact fun a i _ => rfl
              · omega
              · exact qen
              · exact qn0
              · exact qsI
            · exfalso
              omega
          · obtain ⟨y0, qy0⟩ : ∃ z, z = f_drw x := ⟨_, rfl⟩
            have qsz : f_stm Ls (f_fgA Ls w) = f_loop (f_stmS Ls (f_set (f_drw x))) 0 8 (y0, 0) := by
              unfold f_stm
              rw [← qx, if_pos (by omega), if_pos (by rw [qds]; omega), qy0]
            refine ax_iconst dX11_passDay_79 (by decide) (pc' := 80) rfl ?_
            refine ax_goto dX11_passDay_80 (pc' := 84) (by decide) ?_
            refine ax_istore_n dX11_passDay_84 rfl (by decide) (ls' := [some (.inr 0), some (.inl 1), none, none, none]) rfl (pc' := 85) rfl ?_
            refine ax_iload_n dX11_passDay_85 rfl rfl (pc' := 86) rfl ?_
            refine ax_if_eq (tgt := 99) dX11_passDay_86 (by decide) (pc' := 89) rfl (fun h86 => ?_) (fun h86 => ?_)
            · exfalso
              omega
            · refine ax_aload_n dX11_passDay_89 rfl rfl (pc' := 90) rfl ?_
              refine ax_getr (v := 1) dX11_passDay_90 flX11_10 rfl sh_0 rfl (pc' := 93) rfl ?_
              refine ax_invG [] [] dX11_passDay_93 mlX11_391 sh_1 rfl rfl rfl (Nat.le_of_ble_eq_true rfl) (s_X9_ropeSet E l _ (by omega) _ (f_drw x) fa66_0 (f_jv_drw iv1_3).1.1) (pc' := 96) rfl (fun vv M_93 hq co93 hcm93 => ?_)
              obtain ⟨rfl, rfl⟩ := hq
              refine ax_reS (st2 := [.inl (f_set (f_drw x))]) rfl ?_
              have cc93 : -2147483648 ≤ f_set (f_drw x) ∧ f_set (f_drw x) < 2147483648 := co93 _ rfl
              refine ax_goto dX11_passDay_96 (pc' := 100) (by decide) ?_
              refine ax_istore_n dX11_passDay_100 rfl (by decide) (ls' := [some (.inr 0), some (.inl 1), some (.inl (f_set (f_drw x))), none, none]) rfl (pc' := 101) rfl ?_
              have qn0 : f_nb M_66 y0 := by
                rw [qy0]
                exact qnd0
              have qen : f_loop (f_stmS Ls (f_set (f_drw x))) 0 8 (y0, 0) = f_stm Ls (f_fgA Ls w) := qsz.symm
              have qsI : f_stI Ls y0 (f_set (f_drw x)) 0 (y0, 0) := by
                rw [qy0]
                exact ⟨(f_stI_0 iv1_3).1, f_k0_refl, (f_stI_0 iv1_3).2.2.1, (f_stI_0 iv1_3).2.2.2⟩
              refine ax_iconst dX11_passDay_101 (by decide) (pc' := 102) rfl ?_
              refine ax_istore_n dX11_passDay_102 rfl (by decide) (ls' := [some (.inr 0), some (.inl 1), some (.inl (f_set (f_drw x))), some (.inl 0), none]) rfl (pc' := 103) rfl ?_
              refine ax_iconst dX11_passDay_103 (by decide) (pc' := 104) rfl ?_
              refine ax_istore dX11_passDay_104 (by decide) (ls' := [some (.inr 0), some (.inl 1), some (.inl (f_set (f_drw x))), some (.inl 0), some (.inl 0)]) rfl (pc' := 106) rfl ?_
              have LP10 : ∀ (kq11 : Nat) (i n : Int) (y : Int → Int) (M10 : ax_Mem) (hm10 : 8 - i < (kq11 : Nat)) (fr10 : ∀ x0 i0 : Int, ¬ ((1 ≤ x0 ∧ x0 < 39) ∨ x0 = 72 ∨ x0 = 73 ∨ x0 = 76 ∨ x0 = 77 ∨ (x0 = 75 ∧ i0 = 3) ∨ (x0 = 75 ∧ i0 = 4)) → M10 x0 i0 = M_66 x0 i0) (iv10_0 : 0 ≤ i ∧ i ≤ 8) (iv10_1 : f_loop (f_stmS Ls (f_set (f_drw x))) i 8 (y, n) = f_stm Ls (f_fgA Ls w)) (iv10_2 : f_nb M10 y) (iv10_3 : f_stI Ls y0 (f_set (f_drw x)) i (y, n)), ax_W E l (d + 1) 0 0 iX11_passDay 106 [some (.inr 0), some (.inl 1), some (.inl (f_set (f_drw x))), some (.inl n), some (.inl i)] [] SH M10 (ax_P (fun z0 M2 => z0 = some (.inl ((f_day Ls w).2)) ∧ (∀ x0 i0 : Int, ¬ ((1 ≤ x0 ∧ x0 < 39) ∨ x0 = 72 ∨ x0 = 73 ∨ x0 = 76 ∨ x0 = 77 ∨ (x0 = 75 ∧ i0 = 3) ∨ (x0 = 75 ∧ i0 = 4)) → M2 x0 i0 = M x0 i0) ∧ (f_nb M2 (f_day Ls w).1))) := by
                intro kq11
                induction kq11 with
                | zero =>
                  intro i n y M10 hm10 fr10 iv10_0 iv10_1 iv10_2 iv10_3
                  exfalso
                  omega
                | succ kq11 ih12 =>
                  intro i n y M10 hm10 fr10 iv10_0 iv10_1 iv10_2 iv10_3
                  refine ax_iload dX11_passDay_106 rfl (pc' := 108) rfl ?_
                  refine ax_bipush dX11_passDay_108 (by decide) (pc' := 110) rfl ?_
                  refine ax_icmp_ge (tgt := 150) dX11_passDay_110 (by decide) (pc' := 113) rfl (fun h110 => ?_) (fun h110 => ?_)
                  · have qyd := iv10_2.1.1.1
                    have qyr : 0 ≤ y 0 ∧ y 0 ≤ 9999 := iv10_3.1.1.2.2.1
                    have qz : f_stm Ls (f_fgA Ls w) = (y, n) := by
                      rw [← iv10_1, f_loop_done (by omega)]
                    refine ax_aload_n dX11_passDay_150 rfl rfl (pc' := 151) rfl ?_
                    refine ax_getr (v := 1) dX11_passDay_151 flX11_10 rfl sh_0 rfl (pc' := 154) rfl ?_
                    refine ax_dup dX11_passDay_154 (pc' := 155) rfl ?_
                    refine ax_geti (v := M10 1 0) dX11_passDay_155 flX11_122 rfl sh_1 rfl rfl (pc' := 158) rfl ?_
                    refine ax_iconst dX11_passDay_158 (by decide) (pc' := 159) rfl ?_
                    refine ax_iadd dX11_passDay_159 (by omega) (pc' := 160) rfl ?_
                    refine ax_puti dX11_passDay_160 flX11_122 (Or.inl rfl) sh_1 rfl (pc' := 163) rfl ?_
                    refine ax_iload_n dX11_passDay_163 rfl rfl (pc' := 164) rfl ?_
                    refine ax_iret dX11_passDay_164 rfl ?_
                    refine ⟨rfl, ?_, ?_, ?_⟩
                    · refine congrArg (fun z => some (Sum.inl z)) ?_
                      unfold f_day
                      rw [qz]
                    · intro x0 i0 hai
                      exact (ax_up_miss (fun h => hai (Or.inl (by rw [h.1]; decide))) ((fr10 x0 i0 (fun h => h.elim (fun h => hai (Or.inl h)) (fun h => h.elim (fun h => hai (Or.inr (Or.inl h))) (fun h => h.elim (fun h => hai (Or.inr (Or.inr (Or.inl h)))) (fun h => h.elim (fun h => hai (Or.inr (Or.inr (Or.inr (Or.inl h))))) (fun h => h.elim (fun h => hai (Or.inr (Or.inr (Or.inr (Or.inr (Or.inl h)))))) (fun h => h.elim (fun h => hai (Or.inr (Or.inr (Or.inr (Or.inr (Or.inr (Or.inl h))))))) (fun h => hai (Or.inr (Or.inr (Or.inr (Or.inr (Or.inr (Or.inr h)))))))))))))).trans ((frM_66 x0 i0 (fun h => hai (Or.inl (by rw [h.1]; decide)))).trans ((fr1 x0 i0 (fun h => h.elim (fun h => hai (Or.inl ⟨Int.le_trans (by decide) h.1, Int.lt_of_lt_of_le h.2 (by decide)⟩)) (fun h => h.elim (fun h => hai (Or.inr (Or.inl h))) (fun h => hai (Or.inr (Or.inr (Or.inl h))))))).trans rfl))))
                    · have q0 : (ax_up M10 1 0 (M10 1 0 + 1)) 1 0 = y 0 + 1 := Eq.trans (ax_up_hit _ _ _ _) (congrArg (· + 1) iv10_2.1.1.1)
                      have qd1 : (f_day Ls w).1 = f_up y 0 (y 0 + 1) := by
                        unfold f_day
                        rw [qz]
                      rw [qd1]
                      exact ⟨f_wm_hd iv10_3.1.1.1 iv10_2.1 (fun i i1 i2 => f_up_o (by omega)) (fun x0 i0 x1 x2 => (ax_up_miss (by omega) rfl)) ⟨q0.trans (f_up_same _ _ _).symm, Eq.trans (ax_up_miss (by decide) rfl) (iv10_2.1.1.2.1.trans (f_up_o (by decide)).symm), Eq.trans (ax_up_miss (by decide) rfl) (iv10_2.1.1.2.2.1.trans (f_up_o (by decide)).symm), Eq.trans (ax_up_miss (by decide) rfl) (iv10_2.1.1.2.2.2.trans (f_up_o (by decide)).symm)⟩, f_bk_of (ax_up_rowmiss (by decide) rfl) (f_up_o (by decide)) (fun i i1 i2 => f_up_o (by omega)) iv10_3.1.1.2.2.2.1.2 iv10_2.2⟩
                  · have qnr : 0 ≤ n ∧ n ≤ i := iv10_3.2.2.1
                    refine ax_iload_n dX11_passDay_113 rfl rfl (pc' := 114) rfl ?_
                    refine ax_iload dX11_passDay_114 rfl (pc' := 116) rfl ?_
                    refine ax_ishr dX11_passDay_116 (pc' := 117) rfl ?_
                    refine ax_iconst dX11_passDay_117 (by decide) (pc' := 118) rfl ?_
                    refine ax_iand dX11_passDay_118 (pc' := 119) rfl ?_
                    refine ax_iconst dX11_passDay_119 (by decide) (pc' := 120) rfl ?_
                    refine ax_icmp_ne (tgt := 144) dX11_passDay_120 (by decide) (pc' := 123) rfl (fun h120 => ?_) (fun h120 => ?_)
                    · have qbt : f_bit (f_set (f_drw x)) i = 0 := by
                        have q : 0 ≤ f_bit (f_set (f_drw x)) i ∧ f_bit (f_set (f_drw x)) i ≤ 1 := ax_and_one _
                        have q2 : f_bit (f_set (f_drw x)) i ≠ 1 := h120
                        omega
                      have qss : f_stmS Ls (f_set (f_drw x)) i (y, n) = (y, n) := if_pos qbt
                      have qc1 : f_loop (f_stmS Ls (f_set (f_drw x))) (i + 1) 8 ((f_stmS Ls (f_set (f_drw x)) i (y, n)).1, n) = f_stm Ls (f_fgA Ls w) := by
                        rw [qss]
                        have q := iv10_1
                        rw [f_loop_step (by omega), qss] at q
                        exact q
                      have qc2 : f_nb M10 (f_stmS Ls (f_set (f_drw x)) i (y, n)).1 := by
                        rw [qss]
                        exact iv10_2
                      have qc3 : f_stI Ls y0 (f_set (f_drw x)) (i + 1) ((f_stmS Ls (f_set (f_drw x)) i (y, n)).1, n) := by
                        have q := f_stmS_ok ⟨by omega, by omega⟩ iv10_3
                        rw [qss] at q ⊢
                        exact q
                      refine ax_iinc dX11_passDay_144 rfl (by decide) (by omega) (ls' := [some (.inr 0), some (.inl 1), some (.inl (f_set (f_drw x))), some (.inl n), some (.inl (i + 1))]) rfl (pc' := 147) rfl ?_
                      refine ax_goto dX11_passDay_147 (pc' := 106) (by decide) ?_
                      refine ih12 (i + 1) n ((f_stmS Ls (f_set (f_drw x)) i (y, n)).1) M10 ?_ ?_ ?_ ?_ ?_ ?_
                      · omega
                      · intro x0 i0 hai
                        exact ((fr10 x0 i0 (fun h => h.elim (fun h => hai (Or.inl h)) (fun h => h.elim (fun h => hai (Or.inr (Or.inl h))) (fun h => h.elim (fun h => hai (Or.inr (Or.inr (Or.inl h)))) (fun h => h.elim (fun h => hai (Or.inr (Or.inr (Or.inr (Or.inl h))))) (fun h => h.elim (fun h => hai (Or.inr (Or.inr (Or.inr (Or.inr (Or.inl h)))))) (fun h => h.elim (fun h => hai (Or.inr (Or.inr (Or.inr (Or.inr (Or.inr (Or.inl h))))))) (fun h => hai (Or.inr (Or.inr (Or.inr (Or.inr (Or.inr (Or.inr h)))))))))))))).trans rfl)
                      · omega
                      · exact qc1
                      · exact qc2
                      · exact qc3
                    · have qb1 := h120
                      refine ax_aload_n dX11_passDay_123 rfl rfl (pc' := 124) rfl ?_
                      refine ax_iload dX11_passDay_124 rfl (pc' := 126) rfl ?_
                      refine ax_aload_n dX11_passDay_126 rfl rfl (pc' := 127) rfl ?_
                      refine ax_getr (v := 1) dX11_passDay_127 flX11_10 rfl sh_0 rfl (pc' := 130) rfl ?_
                      refine ax_bipush dX11_passDay_130 (by decide) (pc' := 132) rfl ?_
                      refine ax_invG [.inl 100] [.inl i, .inr 0] dX11_passDay_132 mlX11_401 sh_1 rfl rfl rfl (Nat.le_of_ble_eq_true rfl) (s_X9_drawBelow E l _ (by omega) _ 100 y iv10_2.1 iv10_3.1.1.1 (by decide)) (pc' := 135) rfl (fun vv M_132 hq co132 hcm132 => ?_)
                      obtain ⟨rfl, frM_132, fa132_0⟩ := hq
                      refine ax_reS (st2 := [.inl (f_rnd y 100), .inl i, .inr 0]) rfl ?_
                      have cc132 : -2147483648 ≤ f_rnd y 100 ∧ f_rnd y 100 < 2147483648 := co132 _ rfl
                      have qnd : f_nb M_132 (f_drw y) := f_nb_drw iv10_3.1.1.2.2.2.1.2 (funext fun i0 => frM_132 38 i0 (by omega)) iv10_2 fa132_0
                      have qiy : f_isR (f_drw y) i := ⟨by omega, by omega, (f_R_drw ⟨by omega, by omega, by decide, by decide⟩).trans (iv10_3.2.2.2 i (by omega) (by omega) (fun z => absurd ((show f_bit (f_set (f_drw x)) i = 1 from h120).symm.trans z) (by decide)))⟩
                      refine ax_invG [.inl i, .inl (f_rnd y 100)] [] dX11_passDay_135 mlX11_160 sh_0 rfl rfl rfl (Nat.le_of_ble_eq_true rfl) (s_X11_pullNow E l _ (by omega) _ i (f_rnd y 100) Ls (f_drw y) qnd (f_jv_drw iv10_3.1) qiy (f_lrn_fr (M := M) (fun x0 i0 hx => ((frM_132 x0 i0 (by omega)).trans ((fr10 x0 i0 (by omega)).trans ((frM_66 x0 i0 (by omega)).trans ((fr1 x0 i0 (by omega)).trans rfl))))) hg2)) (pc' := 138) rfl (fun vv M_135 hq co135 hcm135 => ?_)
                      obtain ⟨rfl, frM_135, fa135_0, fa135_1⟩ := hq
                      refine ax_reS (st2 := [.inl (f_b (f_brk Ls (f_stch Ls (f_drw y) i (f_rnd y 100)).1 i (f_rnd y 100) ≠ -1))]) rfl ?_
                      refine ax_if_eq (tgt := 144) dX11_passDay_138 (by decide) (pc' := 141) rfl (fun h138 => ?_) (fun h138 => ?_)
                      · replace h138 := f_b_0 h138
                        have qss : f_stmS Ls (f_set (f_drw x)) i (y, n) = (f_puls Ls (f_drw y) i (f_rnd y 100), n + 0) := by
                          unfold f_stmS
                          rw [if_neg (fun z => absurd ((show f_bit (f_set (f_drw x)) i = 1 from h120).symm.trans z) (by decide)), if_pos (Decidable.not_not.mp h138)]
                        have qc1 : f_loop (f_stmS Ls (f_set (f_drw x))) (i + 1) 8 ((f_stmS Ls (f_set (f_drw x)) i (y, n)).1, n) = f_stm Ls (f_fgA Ls w) := by
                          have q := iv10_1
                          rw [f_loop_step (by omega), qss] at q
                          rw [qss]
                          first | exact q | (rw [Int.add_zero] at q; exact q)
                        have qc2 : f_nb M_135 (f_stmS Ls (f_set (f_drw x)) i (y, n)).1 := by
                          rw [qss]
                          exact fa135_0
                        have qc3 : f_stI Ls y0 (f_set (f_drw x)) (i + 1) ((f_stmS Ls (f_set (f_drw x)) i (y, n)).1, n) := by
                          have q := f_stmS_ok ⟨by omega, by omega⟩ iv10_3
                          rw [qss] at q ⊢
                          first | exact q | (rw [Int.add_zero] at q; exact q)
                        refine ax_iinc dX11_passDay_144 rfl (by decide) (by omega) (ls' := [some (.inr 0), some (.inl 1), some (.inl (f_set (f_drw x))), some (.inl n), some (.inl (i + 1))]) rfl (pc' := 147) rfl ?_
                        refine ax_goto dX11_passDay_147 (pc' := 106) (by decide) ?_
                        refine ih12 (i + 1) n ((f_stmS Ls (f_set (f_drw x)) i (y, n)).1) M_135 ?_ ?_ ?_ ?_ ?_ ?_
                        · omega
                        · intro x0 i0 hai
                          exact ((frM_135 x0 i0 (fun h => h.elim (fun h => hai (Or.inl h)) (fun h => h.elim (fun h => hai (Or.inr (Or.inl h))) (fun h => h.elim (fun h => hai (Or.inr (Or.inr (Or.inl h)))) (fun h => h.elim (fun h => hai (Or.inr (Or.inr (Or.inr (Or.inl h))))) (fun h => h.elim (fun h => hai (Or.inr (Or.inr (Or.inr (Or.inr (Or.inl h)))))) (fun h => h.elim (fun h => hai (Or.inr (Or.inr (Or.inr (Or.inr (Or.inr (Or.inl h))))))) (fun h => hai (Or.inr (Or.inr (Or.inr (Or.inr (Or.inr (Or.inr h)))))))))))))).trans ((frM_132 x0 i0 (fun h => hai (Or.inl (by rw [h.1]; decide)))).trans ((fr10 x0 i0 (fun h => h.elim (fun h => hai (Or.inl h)) (fun h => h.elim (fun h => hai (Or.inr (Or.inl h))) (fun h => h.elim (fun h => hai (Or.inr (Or.inr (Or.inl h)))) (fun h => h.elim (fun h => hai (Or.inr (Or.inr (Or.inr (Or.inl h))))) (fun h => h.elim (fun h => hai (Or.inr (Or.inr (Or.inr (Or.inr (Or.inl h)))))) (fun h => h.elim (fun h => hai (Or.inr (Or.inr (Or.inr (Or.inr (Or.inr (Or.inl h))))))) (fun h => hai (Or.inr (Or.inr (Or.inr (Or.inr (Or.inr (Or.inr h)))))))))))))).trans rfl)))
                        · omega
                        · exact qc1
                        · exact qc2
                        · exact qc3
                      · replace h138 := f_b_1 h138
                        refine ax_iinc dX11_passDay_141 rfl (by decide) (by omega) (ls' := [some (.inr 0), some (.inl 1), some (.inl (f_set (f_drw x))), some (.inl (n + 1)), some (.inl i)]) rfl (pc' := 144) rfl ?_
                        have qss : f_stmS Ls (f_set (f_drw x)) i (y, n) = (f_puls Ls (f_drw y) i (f_rnd y 100), n + 1) := by
                          unfold f_stmS
                          rw [if_neg (fun z => absurd ((show f_bit (f_set (f_drw x)) i = 1 from h120).symm.trans z) (by decide)), if_neg h138]
                        have qc1 : f_loop (f_stmS Ls (f_set (f_drw x))) (i + 1) 8 ((f_stmS Ls (f_set (f_drw x)) i (y, n)).1, n + 1) = f_stm Ls (f_fgA Ls w) := by
                          have q := iv10_1
                          rw [f_loop_step (by omega), qss] at q
                          rw [qss]
                          first | exact q | (rw [Int.add_zero] at q; exact q)
                        have qc2 : f_nb M_135 (f_stmS Ls (f_set (f_drw x)) i (y, n)).1 := by
                          rw [qss]
                          exact fa135_0
                        have qc3 : f_stI Ls y0 (f_set (f_drw x)) (i + 1) ((f_stmS Ls (f_set (f_drw x)) i (y, n)).1, n + 1) := by
                          have q := f_stmS_ok ⟨by omega, by omega⟩ iv10_3
                          rw [qss] at q ⊢
                          first | exact q | (rw [Int.add_zero] at q; exact q)
                        refine ax_iinc dX11_passDay_144 rfl (by decide) (by omega) (ls' := [some (.inr 0), some (.inl 1), some (.inl (f_set (f_drw x))), some (.inl (n + 1)), some (.inl (i + 1))]) rfl (pc' := 147) rfl ?_
                        refine ax_goto dX11_passDay_147 (pc' := 106) (by decide) ?_
                        refine ih12 (i + 1) (n + 1) ((f_stmS Ls (f_set (f_drw x)) i (y, n)).1) M_135 ?_ ?_ ?_ ?_ ?_ ?_
                        · omega
                        · intro x0 i0 hai
                          exact ((frM_135 x0 i0 (fun h => h.elim (fun h => hai (Or.inl h)) (fun h => h.elim (fun h => hai (Or.inr (Or.inl h))) (fun h => h.elim (fun h => hai (Or.inr (Or.inr (Or.inl h)))) (fun h => h.elim (fun h => hai (Or.inr (Or.inr (Or.inr (Or.inl h))))) (fun h => h.elim (fun h => hai (Or.inr (Or.inr (Or.inr (Or.inr (Or.inl h)))))) (fun h => h.elim (fun h => hai (Or.inr (Or.inr (Or.inr (Or.inr (Or.inr (Or.inl h))))))) (fun h => hai (Or.inr (Or.inr (Or.inr (Or.inr (Or.inr (Or.inr h)))))))))))))).trans ((frM_132 x0 i0 (fun h => hai (Or.inl (by rw [h.1]; decide)))).trans ((fr10 x0 i0 (fun h => h.elim (fun h => hai (Or.inl h)) (fun h => h.elim (fun h => hai (Or.inr (Or.inl h))) (fun h => h.elim (fun h => hai (Or.inr (Or.inr (Or.inl h)))) (fun h => h.elim (fun h => hai (Or.inr (Or.inr (Or.inr (Or.inl h))))) (fun h => h.elim (fun h => hai (Or.inr (Or.inr (Or.inr (Or.inr (Or.inl h)))))) (fun h => h.elim (fun h => hai (Or.inr (Or.inr (Or.inr (Or.inr (Or.inr (Or.inl h))))))) (fun h => hai (Or.inr (Or.inr (Or.inr (Or.inr (Or.inr (Or.inr h)))))))))))))).trans rfl)))
                        · omega
                        · exact qc1
                        · exact qc2
                        · exact qc3
              refine LP10 (8 - 0 : Int).toNat.succ 0 0 y0 M_66 ?_ ?_ ?_ ?_ ?_ ?_
              · omega
              · exact fun a i _ => rfl
              · omega
              · exact qen
              · exact qn0
              · exact qsI
      · have qt := f_wm_th iv1_2.1 (i := i) ⟨by omega, by omega⟩
        have qk := (iv1_3.1.1 i (by omega) (by omega)).1
        refine ax_aload_n dX11_passDay_8 rfl rfl (pc' := 9) rfl ?_
        refine ax_getr (v := 1) dX11_passDay_9 flX11_10 rfl sh_0 rfl (pc' := 12) rfl ?_
        refine ax_getr (v := 4) dX11_passDay_12 flX11_118 rfl sh_1 rfl (pc' := 15) rfl ?_
        refine ax_iload_n dX11_passDay_15 rfl rfl (pc' := 16) rfl ?_
        refine ax_aald (v := 5 + 4 * i) dX11_passDay_16 sh_4 (by decide) (by omega) (by omega) (f_av_now _ ⟨by omega, by omega⟩) (pc' := 17) rfl ?_
        refine ax_geti (v := M1 (5 + 4 * i) 0) dX11_passDay_17 flX11_185 rfl (f_rp_now ⟨by omega, by omega⟩).1 rfl rfl (pc' := 20) rfl ?_
        refine ax_if_eq (tgt := 43) dX11_passDay_20 (by decide) (pc' := 23) rfl (fun h20 => ?_) (fun h20 => ?_)
        · have qn2 : f_nb M1 (f_fgR Ls i x) := by
            rw [show f_fgR Ls i x = x from if_neg (fun z => by omega)]
            exact iv1_2
          refine ax_iinc dX11_passDay_43 rfl (by decide) (by omega) (ls' := [some (.inr 0), some (.inl (i + 1)), none, none, none]) rfl (pc' := 46) rfl ?_
          refine ax_goto dX11_passDay_46 (pc' := 2) (by decide) ?_
          refine ih3 (i + 1) (f_fgR Ls i x) M1 ?_ ?_ ?_ ?_ ?_ ?_ ?_
          · omega
          · intro x0 i0 hai
            exact ((fr1 x0 i0 (fun h => h.elim (fun h => hai (Or.inl h)) (fun h => h.elim (fun h => hai (Or.inr (Or.inl h))) (fun h => hai (Or.inr (Or.inr h)))))).trans rfl)
          · omega
          · exact (f_loop_step (by omega)).symm.trans iv1_1
          · exact qn2
          · exact (f_fgR_ok ⟨by omega, by omega⟩ ⟨iv1_3, iv1_4⟩).1
          · exact (f_fgR_ok ⟨by omega, by omega⟩ ⟨iv1_3, iv1_4⟩).2
        · have qir : f_isR x i := ⟨by omega, by omega, by omega⟩
          refine ax_aload_n dX11_passDay_23 rfl rfl (pc' := 24) rfl ?_
          refine ax_getr (v := 71) dX11_passDay_24 flX11_56 rfl sh_0 rfl (pc' := 27) rfl ?_
          refine ax_aload_n dX11_passDay_27 rfl rfl (pc' := 28) rfl ?_
          refine ax_getr (v := 1) dX11_passDay_28 flX11_10 rfl sh_0 rfl (pc' := 31) rfl ?_
          refine ax_aload_n dX11_passDay_31 rfl rfl (pc' := 32) rfl ?_
          refine ax_getr (v := 1) dX11_passDay_32 flX11_10 rfl sh_0 rfl (pc' := 35) rfl ?_
          refine ax_getr (v := 4) dX11_passDay_35 flX11_118 rfl sh_1 rfl (pc' := 38) rfl ?_
          refine ax_iload_n dX11_passDay_38 rfl rfl (pc' := 39) rfl ?_
          refine ax_aald (v := 5 + 4 * i) dX11_passDay_39 sh_4 (by decide) (by omega) (by omega) (f_av_now _ ⟨by omega, by omega⟩) (pc' := 40) rfl ?_
          refine ax_invG [.inr 1, .inr (5 + 4 * i)] [] dX11_passDay_40 mlX11_397 sh_71 rfl rfl rfl (Nat.le_of_ble_eq_true rfl) (s_X2_forget E l _ (by omega) _ (5 + 4 * i) Ls x i (f_rp_now ⟨by omega, by omega⟩) (f_wm_rm iv1_2.1 qir) iv1_3 ⟨by omega, by omega⟩ (f_wm_hm iv1_2.1) (f_lrn_fr (M := M) (fun x0 i0 hx => ((fr1 x0 i0 (by omega)).trans rfl)) hg2) (Or.inl ⟨by omega, by omega⟩)) (pc' := 43) rfl (fun vv M_40 hq co40 hcm40 => ?_)
          obtain ⟨rfl, frM_40, fa40_0⟩ := hq
          refine ax_reS (st2 := []) rfl ?_
          have qon := f_onl_fg (Ls := Ls) (w := x) (r := i) ⟨by omega, by omega⟩ (iv1_3.1.1 i (by omega) (by omega)).2.2
          have qn2 : f_nb M_40 (f_fgR Ls i x) := by
            rw [show f_fgR Ls i x = f_fg Ls x i from if_pos qir]
            exact ⟨f_wm_1 ⟨by omega, by omega⟩ iv1_3.1.1 iv1_2.1 qon (fun x0 i0 x1 x2 x3 => frM_40 x0 i0 (by omega)) ((frM_40 (1 + 4 + 4 * i) 0 (by omega)).trans ((f_wm_th iv1_2.1 ⟨by omega, by omega⟩).trans (f_fg_0 ⟨by omega, by omega⟩ (iv1_3.1.1 i (by omega) (by omega)).2.2).symm)) (fun _ => fa40_0), f_bk_onl (funext fun i0 => frM_40 38 i0 (by omega)) ⟨by omega, by omega⟩ qon iv1_3.1.2.2.2.1.2 iv1_2.2⟩
          refine ax_iinc dX11_passDay_43 rfl (by decide) (by omega) (ls' := [some (.inr 0), some (.inl (i + 1)), none, none, none]) rfl (pc' := 46) rfl ?_
          refine ax_goto dX11_passDay_46 (pc' := 2) (by decide) ?_
          refine ih3 (i + 1) (f_fgR Ls i x) M_40 ?_ ?_ ?_ ?_ ?_ ?_ ?_
          · omega
          · intro x0 i0 hai
            exact ((frM_40 x0 i0 (by omega)).trans ((fr1 x0 i0 (fun h => h.elim (fun h => hai (Or.inl h)) (fun h => h.elim (fun h => hai (Or.inr (Or.inl h))) (fun h => hai (Or.inr (Or.inr h)))))).trans rfl))
          · omega
          · exact (f_loop_step (by omega)).symm.trans iv1_1
          · exact qn2
          · exact (f_fgR_ok ⟨by omega, by omega⟩ ⟨iv1_3, iv1_4⟩).1
          · exact (f_fgR_ok ⟨by omega, by omega⟩ ⟨iv1_3, iv1_4⟩).2
  refine LP1 (8 - 0 : Int).toNat.succ 0 w M ?_ ?_ ?_ ?_ ?_ ?_ ?_
  · omega
  · exact fun a i _ => rfl
  · omega
  · rfl
  · exact hg0
  · exact hg1
  · exact f_k0_refl
