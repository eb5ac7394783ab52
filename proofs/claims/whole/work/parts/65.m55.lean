/-! a drill, whole -/
theorem f_dm_fr {M N : ax_Mem} {c : Int} {w : Int → Int} (h0 : ∀ x i, c ≤ x ∧ x < c + 4 → N x i = M x i) (h : f_dm M c w) : f_dm N c w := by
  refine ⟨(h0 c 0 (by omega)).trans h.1, fun i i1 i2 => ?_⟩
  rw [h0 (c + 1) i (by omega), h0 (c + 2) i (by omega), h0 (c + 3) i (by omega)]
  exact h.2 i i1 i2
set_option maxRecDepth 20000 in
theorem s_X11_drill_no (E : ax_Env) (l : Launch) (d : Nat) (hd : 7 ≤ d) (M : ax_Mem) (r hand : Int) (Ls : Int → List f_Ln) (w : Int → Int) (hg0 : f_nb M w) (hg1 : f_jv Ls w) (hg2 : f_dm M 41 w) (hg3 : f_dr w) (hg4 : ¬ (f_isR w r ∧ (0 ≤ hand ∧ hand ≤ 9) ∧ w 0 + f_rs w ≤ 9999)) : ax_G E l d iX11_drill [.inr 0, .inl r, .inl hand] M (fun z0 M2 => z0 = some (.inl (-1)) ∧ M = M2) := by
  obtain ⟨d, rfl⟩ : ∃ d0, d = d0 + 1 := ⟨d - 1, by omega⟩
  refine ax_start rfl (Nat.le_of_ble_eq_true rfl) (ls := [some (.inr 0), some (.inl r), some (.inl hand), none, none]) rfl (fun hav hcm => ?_)
  have hc1 : -2147483648 ≤ r ∧ r < 2147483648 := hav (.inl r) (by simp)
  have hc2 : -2147483648 ≤ hand ∧ hand < 2147483648 := hav (.inl hand) (by simp)
  clear hav
  have qlo := hg1.1.2.2.1
  have qlb := hg1.1.2.2.2.1
  have qd : M 1 0 = w 0 := hg0.1.1.1
  refine ax_aload_n dX11_drill_0 rfl rfl (pc' := 1) rfl ?_
  refine ax_getr (v := 1) dX11_drill_1 flX11_10 rfl sh_0 rfl (pc' := 4) rfl ?_
  refine ax_iload_n dX11_drill_4 rfl rfl (pc' := 5) rfl ?_
  by_cases hir : f_isR w r
  · refine ax_invG [.inl r] [] dX11_drill_5 mlX11_139 sh_1 rfl rfl rfl (Nat.le_of_ble_eq_true rfl) (s_X9_ropeAt_ok E l _ (by omega) _ r w hg0.1 hg1.1.1 hir) (pc' := 8) rfl (fun vv M_5 hq co5 hcm5 => ?_)
    obtain ⟨rfl, rfl⟩ := hq
    refine ax_reS (st2 := [.inr (5 + 4 * r)]) rfl ?_
    have hgr : 0 ≤ r ∧ r < 8 := ⟨hir.1, by omega⟩
    have qrm := f_wm_rm hg0.1 hir
    have ql : M (5 + 4 * r) 1 = f_R w r 1 := qrm.1
    have qlr := (hg1.1.1 r hgr.1 hgr.2).2
    refine ax_ifnull (tgt := 44) dX11_drill_8 (by omega) (by decide) (pc' := 11) rfl (fun h8 => ?_) (fun h8 => ?_)
    · exfalso
      omega
    · refine ax_iload_n dX11_drill_11 rfl rfl (pc' := 12) rfl ?_
      refine ax_bipush dX11_drill_12 (by decide) (pc' := 14) rfl ?_
      refine ax_insG [.inl hand, .inl 10] [] dX11_drill_14 mlX11_114 rfl rfl (Nat.le_of_ble_eq_true rfl) (s_X11_isIn E l _ (by omega) _ hand 10) (pc' := 17) rfl (fun vv M_14 hq co14 hcm14 => ?_)
      obtain ⟨rfl, rfl⟩ := hq
      refine ax_reS (st2 := [.inl (f_b (0 ≤ hand ∧ hand < 10))]) rfl ?_
      refine ax_if_eq (tgt := 44) dX11_drill_17 (by decide) (pc' := 20) rfl (fun h17 => ?_) (fun h17 => ?_)
      · replace h17 := f_b_0 h17
        refine ax_iconst dX11_drill_44 (by decide) (pc' := 45) rfl ?_
        refine ax_iret dX11_drill_45 rfl ?_
        refine ⟨rfl, ?_, ?_⟩
        · rfl
        · rfl
      · replace h17 := f_b_1 h17
        refine ax_aload_n dX11_drill_20 rfl rfl (pc' := 21) rfl ?_
        refine ax_getr (v := 1) dX11_drill_21 flX11_10 rfl sh_0 rfl (pc' := 24) rfl ?_
        refine ax_geti (v := M 1 0) dX11_drill_24 flX11_122 rfl sh_1 rfl rfl (pc' := 27) rfl ?_
        refine ax_aload_n dX11_drill_27 rfl rfl (pc' := 28) rfl ?_
        refine ax_getr (v := 39) dX11_drill_28 flX11_26 rfl sh_0 rfl (pc' := 31) rfl ?_
        refine ax_getr (v := 41) dX11_drill_31 flX11_234 rfl sh_39 rfl (pc' := 34) rfl ?_
        refine ax_invG [] [.inl (M 1 0)] dX11_drill_34 mlX11_247 sh_41 rfl rfl rfl (Nat.le_of_ble_eq_true rfl) (s_X1_restDays E l _ (by omega) _ w hg2 hg3) (pc' := 37) rfl (fun vv M_34 hq co34 hcm34 => ?_)
        obtain ⟨rfl, rfl, fa34_0⟩ := hq
        refine ax_reS (st2 := [.inl (f_rs w), .inl (M 1 0)]) rfl ?_
        have cc34 : -2147483648 ≤ f_rs w ∧ f_rs w < 2147483648 := co34 _ rfl
        refine ax_iadd dX11_drill_37 (by omega) (pc' := 38) rfl ?_
        refine ax_sipush dX11_drill_38 (by decide) (pc' := 41) rfl ?_
        refine ax_icmp_le (tgt := 46) dX11_drill_41 (by decide) (pc' := 44) rfl (fun h41 => ?_) (fun h41 => ?_)
        · exfalso
          exact hg4 ⟨hir, ⟨by omega, by omega⟩, by omega⟩
        · refine ax_iconst dX11_drill_44 (by decide) (pc' := 45) rfl ?_
          refine ax_iret dX11_drill_45 rfl ?_
          refine ⟨rfl, ?_, ?_⟩
          · rfl
          · rfl
  · refine ax_invG [.inl r] [] dX11_drill_5 mlX11_139 sh_1 rfl rfl rfl (Nat.le_of_ble_eq_true rfl) (s_X9_ropeAt_no E l _ (by omega) _ r w hg0.1 hg1.1.1 hir) (pc' := 8) rfl (fun vv M_5 hq co5 hcm5 => ?_)
    obtain ⟨rfl, rfl⟩ := hq
    refine ax_reS (st2 := [.inr (-1)]) rfl ?_
    refine ax_ifnull (tgt := 44) dX11_drill_8 (by decide) (by decide) (pc' := 11) rfl (fun h8 => ?_) (fun h8 => ?_)
    · refine ax_iconst dX11_drill_44 (by decide) (pc' := 45) rfl ?_
      refine ax_iret dX11_drill_45 rfl ?_
      refine ⟨rfl, ?_, ?_⟩
      · rfl
      · rfl
    · exfalso
      omega
set_option maxRecDepth 20000 in
theorem s_X11_drill_ok (E : ax_Env) (l : Launch) (d : Nat) (hd : 7 ≤ d) (M : ax_Mem) (r hand : Int) (Ls : Int → List f_Ln) (w bk : Int → Int) (m : Int) (hg0 : f_nb M w) (hg1 : f_jv Ls w) (hg2 : f_pr M bk m w) (hg3 : f_lrn M 52 Ls) (hg4 : f_dm M 41 w) (hg5 : f_dr w) (hg6 : f_dr2 w) (hg7 : f_isR w r ∧ (0 ≤ hand ∧ hand ≤ 9) ∧ w 0 + f_rs w ≤ 9999) : ax_G E l d iX11_drill [.inr 0, .inl r, .inl hand] M (fun z0 M2 => z0 = some (.inl ((f_dl Ls w r hand).2)) ∧ (∀ x0 i0 : Int, ¬ ((1 ≤ x0 ∧ x0 < 39) ∨ (92 ≤ x0 ∧ x0 < 273) ∨ (x0 = 0 ∧ i0 = 12) ∨ x0 = 72 ∨ x0 = 73 ∨ x0 = 76 ∨ x0 = 77 ∨ (x0 = 75 ∧ i0 = 3) ∨ (x0 = 75 ∧ i0 = 4)) → M2 x0 i0 = M x0 i0) ∧ (f_nb M2 (f_dl Ls w r hand).1) ∧ (f_pr M2 (f_keep bk w m) (f_keepN m) (f_dl Ls w r hand).1)) := by
  obtain ⟨d, rfl⟩ : ∃ d0, d = d0 + 1 := ⟨d - 1, by omega⟩
  refine ax_start rfl (Nat.le_of_ble_eq_true rfl) (ls := [some (.inr 0), some (.inl r), some (.inl hand), none, none]) rfl (fun hav hcm => ?_)
  have hc1 : -2147483648 ≤ r ∧ r < 2147483648 := hav (.inl r) (by simp)
  have hc2 : -2147483648 ≤ hand ∧ hand < 2147483648 := hav (.inl hand) (by simp)
  clear hav
  have qlo := hg1.1.2.2.1
  have qlb := hg1.1.2.2.2.1
  have hir := hg7.1
  have hgr : 0 ≤ r ∧ r < 8 := ⟨hir.1, by omega⟩
  have qd : M 1 0 = w 0 := hg0.1.1.1
  have qc : M 41 0 = w 2600 := hg4.1
  have qd1 := hg5.1
  refine ax_aload_n dX11_drill_0 rfl rfl (pc' := 1) rfl ?_
  refine ax_getr (v := 1) dX11_drill_1 flX11_10 rfl sh_0 rfl (pc' := 4) rfl ?_
  refine ax_iload_n dX11_drill_4 rfl rfl (pc' := 5) rfl ?_
  refine ax_invG [.inl r] [] dX11_drill_5 mlX11_139 sh_1 rfl rfl rfl (Nat.le_of_ble_eq_true rfl) (s_X9_ropeAt_ok E l _ (by omega) _ r w hg0.1 hg1.1.1 hir) (pc' := 8) rfl (fun vv M_5 hq co5 hcm5 => ?_)
  obtain ⟨rfl, rfl⟩ := hq
  refine ax_reS (st2 := [.inr (5 + 4 * r)]) rfl ?_
  refine ax_ifnull (tgt := 44) dX11_drill_8 (by omega) (by decide) (pc' := 11) rfl (fun h8 => ?_) (fun h8 => ?_)
  · exfalso
    omega
  · refine ax_iload_n dX11_drill_11 rfl rfl (pc' := 12) rfl ?_
    refine ax_bipush dX11_drill_12 (by decide) (pc' := 14) rfl ?_
    refine ax_insG [.inl hand, .inl 10] [] dX11_drill_14 mlX11_114 rfl rfl (Nat.le_of_ble_eq_true rfl) (s_X11_isIn E l _ (by omega) _ hand 10) (pc' := 17) rfl (fun vv M_14 hq co14 hcm14 => ?_)
    obtain ⟨rfl, rfl⟩ := hq
    refine ax_reS (st2 := [.inl (f_b (0 ≤ hand ∧ hand < 10))]) rfl ?_
    refine ax_if_eq (tgt := 44) dX11_drill_17 (by decide) (pc' := 20) rfl (fun h17 => ?_) (fun h17 => ?_)
    · replace h17 := f_b_0 h17
      exfalso
      exact h17 ⟨by omega, by omega⟩
    · replace h17 := f_b_1 h17
      refine ax_aload_n dX11_drill_20 rfl rfl (pc' := 21) rfl ?_
      refine ax_getr (v := 1) dX11_drill_21 flX11_10 rfl sh_0 rfl (pc' := 24) rfl ?_
      refine ax_geti (v := M 1 0) dX11_drill_24 flX11_122 rfl sh_1 rfl rfl (pc' := 27) rfl ?_
      refine ax_aload_n dX11_drill_27 rfl rfl (pc' := 28) rfl ?_
      refine ax_getr (v := 39) dX11_drill_28 flX11_26 rfl sh_0 rfl (pc' := 31) rfl ?_
      refine ax_getr (v := 41) dX11_drill_31 flX11_234 rfl sh_39 rfl (pc' := 34) rfl ?_
      refine ax_invG [] [.inl (M 1 0)] dX11_drill_34 mlX11_247 sh_41 rfl rfl rfl (Nat.le_of_ble_eq_true rfl) (s_X1_restDays E l _ (by omega) _ w hg4 hg5) (pc' := 37) rfl (fun vv M_34 hq co34 hcm34 => ?_)
      obtain ⟨rfl, rfl, fa34_0⟩ := hq
      refine ax_reS (st2 := [.inl (f_rs w), .inl (M 1 0)]) rfl ?_
      have cc34 : -2147483648 ≤ f_rs w ∧ f_rs w < 2147483648 := co34 _ rfl
      refine ax_iadd dX11_drill_37 (by omega) (pc' := 38) rfl ?_
      refine ax_sipush dX11_drill_38 (by decide) (pc' := 41) rfl ?_
      refine ax_icmp_le (tgt := 46) dX11_drill_41 (by decide) (pc' := 44) rfl (fun h41 => ?_) (fun h41 => ?_)
      · refine ax_aload_n dX11_drill_46 rfl rfl (pc' := 47) rfl ?_
        refine ax_invG [] [] dX11_drill_47 mlX11_147 sh_0 rfl rfl rfl (Nat.le_of_ble_eq_true rfl) (s_X11_keepPast E l _ (by omega) _ w bk m hg0 hg1.1.1 hg2) (pc' := 50) rfl (fun vv M_47 hq co47 hcm47 => ?_)
        obtain ⟨rfl, frM_47, fa47_0⟩ := hq
        refine ax_reS (st2 := []) rfl ?_
        refine ax_iconst dX11_drill_50 (by decide) (pc' := 51) rfl ?_
        refine ax_istore_n dX11_drill_51 rfl (by decide) (ls' := [some (.inr 0), some (.inl r), some (.inl hand), some (.inl 0), none]) rfl (pc' := 52) rfl ?_
        refine ax_iconst dX11_drill_52 (by decide) (pc' := 53) rfl ?_
        refine ax_istore dX11_drill_53 (by decide) (ls' := [some (.inr 0), some (.inl r), some (.inl hand), some (.inl 0), some (.inl 0)]) rfl (pc' := 55) rfl ?_
        have LP1 : ∀ (kq2 : Nat) (i n : Int) (y : Int → Int) (M1 : ax_Mem) (hm1 : w 2600 - i < (kq2 : Nat)) (fr1 : ∀ x0 i0 : Int, ¬ ((1 ≤ x0 ∧ x0 < 39) ∨ x0 = 72 ∨ x0 = 73 ∨ x0 = 76 ∨ x0 = 77 ∨ (x0 = 75 ∧ i0 = 3) ∨ (x0 = 75 ∧ i0 = 4)) → M1 x0 i0 = M_47 x0 i0) (iv1_0 : 0 ≤ i ∧ i ≤ w 2600) (iv1_1 : f_loop (f_dlS Ls w r hand) i (w 2600) (y, n) = f_dl Ls w r hand) (iv1_2 : f_nb M1 y) (iv1_3 : f_jv Ls y ∧ f_ag w y) (iv1_4 : y 0 + f_loop (f_rsS w) i (w 2600) 0 ≤ 9999) (iv1_5 : 0 ≤ n ∧ n ≤ i), ax_W E l (d + 1) 0 0 iX11_drill 55 [some (.inr 0), some (.inl r), some (.inl hand), some (.inl n), some (.inl i)] [] SH M1 (ax_P (fun z0 M2 => z0 = some (.inl ((f_dl Ls w r hand).2)) ∧ (∀ x0 i0 : Int, ¬ ((1 ≤ x0 ∧ x0 < 39) ∨ (92 ≤ x0 ∧ x0 < 273) ∨ (x0 = 0 ∧ i0 = 12) ∨ x0 = 72 ∨ x0 = 73 ∨ x0 = 76 ∨ x0 = 77 ∨ (x0 = 75 ∧ i0 = 3) ∨ (x0 = 75 ∧ i0 = 4)) → M2 x0 i0 = M x0 i0) ∧ (f_nb M2 (f_dl Ls w r hand).1) ∧ (f_pr M2 (f_keep bk w m) (f_keepN m) (f_dl Ls w r hand).1))) := by
          intro kq2
          induction kq2 with
          | zero =>
            intro i n y M1 hm1 fr1 iv1_0 iv1_1 iv1_2 iv1_3 iv1_4 iv1_5
            exfalso
            omega
          | succ kq2 ih3 =>
            intro i n y M1 hm1 fr1 iv1_0 iv1_1 iv1_2 iv1_3 iv1_4 iv1_5
            refine ax_iload dX11_drill_55 rfl (pc' := 57) rfl ?_
            refine ax_aload_n dX11_drill_57 rfl rfl (pc' := 58) rfl ?_
            refine ax_getr (v := 39) dX11_drill_58 flX11_26 rfl sh_0 rfl (pc' := 61) rfl ?_
            refine ax_getr (v := 41) dX11_drill_61 flX11_234 rfl sh_39 rfl (pc' := 64) rfl ?_
            refine ax_geti (v := M 41 0) dX11_drill_64 flX11_240 rfl sh_41 ((fr1 41 0 (fun h => h.elim (fun h => absurd h.2 (by decide)) (fun h => h.elim (fun h => absurd h (by decide)) (fun h => h.elim (fun h => absurd h (by decide)) (fun h => h.elim (fun h => absurd h (by decide)) (fun h => h.elim (fun h => absurd h (by decide)) (fun h => h.elim (fun h => absurd h.1 (by decide)) (fun h => absurd h.1 (by decide))))))))).trans ((frM_47 41 0 (fun h => h.elim (fun h => absurd h.1 (by decide)) (fun h => absurd h.1 (by decide)))).trans rfl)) rfl (pc' := 67) rfl ?_
            refine ax_icmp_ge (tgt := 90) dX11_drill_67 (by decide) (pc' := 70) rfl (fun h67 => ?_) (fun h67 => ?_)
            · have qz : (y, n) = f_dl Ls w r hand := (f_loop_done (by omega)).symm.trans iv1_1
              refine ax_iload_n dX11_drill_90 rfl rfl (pc' := 91) rfl ?_
              refine ax_iret dX11_drill_91 rfl ?_
              refine ⟨rfl, ?_, ?_, ?_, ?_⟩
              · refine congrArg (fun z => some (Sum.inl z)) ?_
                rw [← qz]
              · intro x0 i0 hai
                exact ((fr1 x0 i0 (fun h => h.elim (fun h => hai (Or.inl h)) (fun h => h.elim (fun h => hai (Or.inr (Or.inr (Or.inr (Or.inl h))))) (fun h => h.elim (fun h => hai (Or.inr (Or.inr (Or.inr (Or.inr (Or.inl h)))))) (fun h => h.elim (fun h => hai (Or.inr (Or.inr (Or.inr (Or.inr (Or.inr (Or.inl h))))))) (fun h => h.elim (fun h => hai (Or.inr (Or.inr (Or.inr (Or.inr (Or.inr (Or.inr (Or.inl h)))))))) (fun h => h.elim (fun h => hai (Or.inr (Or.inr (Or.inr (Or.inr (Or.inr (Or.inr (Or.inr (Or.inl h))))))))) (fun h => hai (Or.inr (Or.inr (Or.inr (Or.inr (Or.inr (Or.inr (Or.inr (Or.inr h)))))))))))))))).trans ((frM_47 x0 i0 (fun h => h.elim (fun h => hai (Or.inr (Or.inl h))) (fun h => hai (Or.inr (Or.inr (Or.inl h)))))).trans rfl))
              · rw [← qz]
                exact iv1_2
              · rw [← qz]
                exact f_pr_w (fun i0 i1 i2 => iv1_3.2 i0 i1 (by omega)) (f_pr_fr (M := M_47) (fun x0 i0 x1 x2 => ((fr1 x0 i0 (by omega)).trans rfl)) ((fr1 0 12 (fun h => h.elim (fun h => absurd h.1 (by decide)) (fun h => h.elim (fun h => absurd h (by decide)) (fun h => h.elim (fun h => absurd h (by decide)) (fun h => h.elim (fun h => absurd h (by decide)) (fun h => h.elim (fun h => absurd h (by decide)) (fun h => h.elim (fun h => absurd h.1 (by decide)) (fun h => absurd h.1 (by decide))))))))).trans rfl) fa47_0)
            · have qd3 := hg5.2 i (by omega) (by omega)
              have qg1 := f_rs_step (w := w) (N := w 2600) (x := i) (by omega)
              have qg2 := f_rs_pos hg5 (w 2600 - (i + 1)).toNat (i + 1) (by omega) (by omega)
              have qg3 : 0 ≤ (if w (3984 + 3 * i) = 14 then w (3984 + 3 * i + 1) else 0) := by
                split
                · exact (qd3.2.2.2 (by assumption)).1
                · omega
              have qh : f_dnH y (w (3984 + 3 * i)) (w (3984 + 3 * i + 1)) := by
                refine ⟨qd3.1, qd3.2.1, qd3.2.2.1, fun hk => ?_⟩
                have qq := qd3.2.2.2 hk
                rw [if_pos hk] at qg1
                omega
              refine ax_aload_n dX11_drill_70 rfl rfl (pc' := 71) rfl ?_
              refine ax_iload_n dX11_drill_71 rfl rfl (pc' := 72) rfl ?_
              refine ax_iload_n dX11_drill_72 rfl rfl (pc' := 73) rfl ?_
              refine ax_iload dX11_drill_73 rfl (pc' := 75) rfl ?_
              refine ax_invG [.inl r, .inl hand, .inl i] [] dX11_drill_75 mlX11_250 sh_0 rfl rfl rfl (Nat.le_of_ble_eq_true rfl) (s_X11_doStep E l _ (by omega) _ r hand i Ls y (w (3984 + 3 * i)) (w (3984 + 3 * i + 1)) (w (3984 + 3 * i + 2)) iv1_2 iv1_3.1 (f_lrn_fr (M := M) (fun x0 i0 hx => ((fr1 x0 i0 (by omega)).trans ((frM_47 x0 i0 (by omega)).trans rfl))) hg3) ((f_dm_fr (M := M) (fun x0 i0 hx => ((fr1 x0 i0 (by omega)).trans ((frM_47 x0 i0 (by omega)).trans rfl))) hg4).2 i (by omega) (by omega)) ⟨by omega, by omega⟩ qh (hg6 i (by omega) (by omega))) (pc' := 78) rfl (fun vv M_75 hq co75 hcm75 => ?_)
              obtain ⟨rfl, frM_75, fa75_0⟩ := hq
              refine ax_reS (st2 := [.inl (if f_isR y r then f_b (f_dnP y r (w (3984 + 3 * i)) (w (3984 + 3 * i + 1)) (w (3984 + 3 * i + 2))) else 0)]) rfl ?_
              have cc75 : -2147483648 ≤ (if f_isR y r then f_b (f_dnP y r (w (3984 + 3 * i)) (w (3984 + 3 * i + 1)) (w (3984 + 3 * i + 2))) else 0) ∧ (if f_isR y r then f_b (f_dnP y r (w (3984 + 3 * i)) (w (3984 + 3 * i + 1)) (w (3984 + 3 * i + 2))) else 0) < 2147483648 := co75 _ rfl
              have qW1 : (f_dlS Ls w r hand i (y, n)).1 = if f_isR y r then f_dnW Ls y r hand (w (3984 + 3 * i)) (w (3984 + 3 * i + 1)) (w (3984 + 3 * i + 2)) else y := by
                unfold f_dlS
                split <;> rfl
              have qW2 : (f_dlS Ls w r hand i (y, n)).2 = n + (if f_isR y r then f_b (f_dnP y r (w (3984 + 3 * i)) (w (3984 + 3 * i + 1)) (w (3984 + 3 * i + 2))) else 0) := by
                unfold f_dlS
                split
                · rfl
                · exact (Int.add_zero n).symm
              have qok : f_jv Ls (f_dlS Ls w r hand i (y, n)).1 ∧ f_ag w (f_dlS Ls w r hand i (y, n)).1 ∧ (f_dlS Ls w r hand i (y, n)).1 0 ≤ y 0 + (if w (3984 + 3 * i) = 14 then w (3984 + 3 * i + 1) else 0) := by
                rw [qW1]
                split
                · rename_i hz
                  have qf := f_dnW_ok (hand := hand) (y := w (3984 + 3 * i + 2)) hz qh iv1_3.1
                  exact ⟨qf.1, fun j u v => (qf.2.1 j u v).trans (iv1_3.2 j u v), Int.le_of_eq qf.2.2⟩
                · exact ⟨iv1_3.1, iv1_3.2, by omega⟩
              refine ax_if_eq (tgt := 84) dX11_drill_78 (by decide) (pc' := 81) rfl (fun h78 => ?_) (fun h78 => ?_)
              · have qe : f_dlS Ls w r hand i (y, n) = ((f_dlS Ls w r hand i (y, n)).1, n) := Prod.ext rfl (by rw [qW2, h78]; exact Int.add_zero n)
                refine ax_iinc dX11_drill_84 rfl (by decide) (by omega) (ls' := [some (.inr 0), some (.inl r), some (.inl hand), some (.inl n), some (.inl (i + 1))]) rfl (pc' := 87) rfl ?_
                refine ax_goto dX11_drill_87 (pc' := 55) (by decide) ?_
                refine ih3 (i + 1) n ((f_dlS Ls w r hand i (y, n)).1) M_75 ?_ ?_ ?_ ?_ ?_ ?_ ?_ ?_
                · omega
                · intro x0 i0 hai
                  exact ((frM_75 x0 i0 (fun h => h.elim (fun h => hai (Or.inl h)) (fun h => h.elim (fun h => hai (Or.inr (Or.inl h))) (fun h => h.elim (fun h => hai (Or.inr (Or.inr (Or.inl h)))) (fun h => h.elim (fun h => hai (Or.inr (Or.inr (Or.inr (Or.inl h))))) (fun h => h.elim (fun h => hai (Or.inr (Or.inr (Or.inr (Or.inr (Or.inl h)))))) (fun h => h.elim (fun h => hai (Or.inr (Or.inr (Or.inr (Or.inr (Or.inr (Or.inl h))))))) (fun h => hai (Or.inr (Or.inr (Or.inr (Or.inr (Or.inr (Or.inr h)))))))))))))).trans ((fr1 x0 i0 (fun h => h.elim (fun h => hai (Or.inl h)) (fun h => h.elim (fun h => hai (Or.inr (Or.inl h))) (fun h => h.elim (fun h => hai (Or.inr (Or.inr (Or.inl h)))) (fun h => h.elim (fun h => hai (Or.inr (Or.inr (Or.inr (Or.inl h))))) (fun h => h.elim (fun h => hai (Or.inr (Or.inr (Or.inr (Or.inr (Or.inl h)))))) (fun h => h.elim (fun h => hai (Or.inr (Or.inr (Or.inr (Or.inr (Or.inr (Or.inl h))))))) (fun h => hai (Or.inr (Or.inr (Or.inr (Or.inr (Or.inr (Or.inr h)))))))))))))).trans rfl))
                · omega
                · rw [← iv1_1, f_loop_step (lo := i) (by omega), qe]
                · rw [qW1]
                  exact fa75_0
                · exact ⟨qok.1, qok.2.1⟩
                · omega
                · omega
              · have qv1 : (if f_isR y r then f_b (f_dnP y r (w (3984 + 3 * i)) (w (3984 + 3 * i + 1)) (w (3984 + 3 * i + 2))) else 0) = 1 := by
                  by_cases hz : f_isR y r
                  · rw [if_pos hz] at h78 ⊢
                    rcases f_b_01 (f_dnP y r (w (3984 + 3 * i)) (w (3984 + 3 * i + 1)) (w (3984 + 3 * i + 2))) with q | q
                    · exact absurd q h78
                    · exact q
                  · rw [if_neg hz] at h78
                    exact absurd rfl h78
                have qe : f_dlS Ls w r hand i (y, n) = ((f_dlS Ls w r hand i (y, n)).1, n + 1) := Prod.ext rfl (by rw [qW2, qv1])
                refine ax_iinc dX11_drill_81 rfl (by decide) (by omega) (ls' := [some (.inr 0), some (.inl r), some (.inl hand), some (.inl (n + 1)), some (.inl i)]) rfl (pc' := 84) rfl ?_
                refine ax_iinc dX11_drill_84 rfl (by decide) (by omega) (ls' := [some (.inr 0), some (.inl r), some (.inl hand), some (.inl (n + 1)), some (.inl (i + 1))]) rfl (pc' := 87) rfl ?_
                refine ax_goto dX11_drill_87 (pc' := 55) (by decide) ?_
                refine ih3 (i + 1) (n + 1) ((f_dlS Ls w r hand i (y, n)).1) M_75 ?_ ?_ ?_ ?_ ?_ ?_ ?_ ?_
                · omega
                · intro x0 i0 hai
                  exact ((frM_75 x0 i0 (fun h => h.elim (fun h => hai (Or.inl h)) (fun h => h.elim (fun h => hai (Or.inr (Or.inl h))) (fun h => h.elim (fun h => hai (Or.inr (Or.inr (Or.inl h)))) (fun h => h.elim (fun h => hai (Or.inr (Or.inr (Or.inr (Or.inl h))))) (fun h => h.elim (fun h => hai (Or.inr (Or.inr (Or.inr (Or.inr (Or.inl h)))))) (fun h => h.elim (fun h => hai (Or.inr (Or.inr (Or.inr (Or.inr (Or.inr (Or.inl h))))))) (fun h => hai (Or.inr (Or.inr (Or.inr (Or.inr (Or.inr (Or.inr h)))))))))))))).trans ((fr1 x0 i0 (fun h => h.elim (fun h => hai (Or.inl h)) (fun h => h.elim (fun h => hai (Or.inr (Or.inl h))) (fun h => h.elim (fun h => hai (Or.inr (Or.inr (Or.inl h)))) (fun h => h.elim (fun h => hai (Or.inr (Or.inr (Or.inr (Or.inl h))))) (fun h => h.elim (fun h => hai (Or.inr (Or.inr (Or.inr (Or.inr (Or.inl h)))))) (fun h => h.elim (fun h => hai (Or.inr (Or.inr (Or.inr (Or.inr (Or.inr (Or.inl h))))))) (fun h => hai (Or.inr (Or.inr (Or.inr (Or.inr (Or.inr (Or.inr h)))))))))))))).trans rfl))
                · omega
                · rw [← iv1_1, f_loop_step (lo := i) (by omega), qe]
                · rw [qW1]
                  exact fa75_0
                · exact ⟨qok.1, qok.2.1⟩
                · omega
                · omega
        refine LP1 (w 2600 - 0 : Int).toNat.succ 0 0 w M_47 ?_ ?_ ?_ ?_ ?_ ?_ ?_ ?_
        · omega
        · exact fun a i _ => rfl
        · omega
        · rfl
        · exact f_nb_fr (fun x0 i0 x1 x2 => frM_47 x0 i0 (by omega)) hg0
        · exact ⟨hg1, fun _ _ _ => rfl⟩
        · exact hg7.2.2
        · omega
      · exfalso
        omega
