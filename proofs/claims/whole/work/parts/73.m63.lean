/-! splice, whole -/
theorem f_spl_out {w : Int → Int} {a b i : Int} (ha : 0 ≤ a ∧ a < 8) (hb : 0 ≤ b ∧ b < 8) (hn : a ≠ b) (hp : 1 ≤ f_R w a 1 ∧ f_R w a 1 + f_R w b 1 ≤ 24) (hl : 0 ≤ f_R w b 1) (h1 : 0 ≤ w 1) (hi : i < 4 ∨ 2564 ≤ i) : f_splice w a b i = f_note w a (f_R w a 1) b 4 (-1) i := by
  have hI := f_sp1_I (w := w) (n := f_R w a 1) ha hb hn ⟨hp.1, by omega⟩
  have h2 := f_sp2_I (w := w) (n := f_R w a 1) ha hb hn hp hl
  unfold f_splice f_sp4 f_sp3
  rw [f_onl_sR (r := b) (by omega) i (by omega), f_onl_sR (r := a) (by omega) i (by omega), f_onl_sR (r := a) (by omega) i (by omega), h2.1 i (by omega)]
  exact hI.2.2.2 i hi
theorem f_spl_oth {w : Int → Int} {a b i : Int} (ha : 0 ≤ a ∧ a < 8) (hb : 0 ≤ b ∧ b < 8) (hn : a ≠ b) (hp : 1 ≤ f_R w a 1 ∧ f_R w a 1 + f_R w b 1 ≤ 24) (hl : 0 ≤ f_R w b 1) (h1 : 0 ≤ w 1) (hi1 : ¬ (4 + 320 * a ≤ i ∧ i < 324 + 320 * a)) (hi2 : ¬ (4 + 320 * b ≤ i ∧ i < 324 + 320 * b)) : f_splice w a b i = f_note w a (f_R w a 1) b 4 (-1) i := by
  have h2 := f_sp2_I (w := w) (n := f_R w a 1) ha hb hn hp hl
  have e1 : f_sp1 w a (f_R w a 1) b i = f_note w a (f_R w a 1) b 4 (-1) i := by
    unfold f_sp1
    refine f_loop_inv (P := fun (x : Int → Int) => x i = f_note w a (f_R w a 1) b 4 (-1) i) rfl (fun k x k1 k2 hx => ?_)
    unfold f_spS
    rw [f_onl_hab (r := b) (by omega) ⟨k1, k2⟩ i (by omega), f_onl_hab (r := a) ⟨by omega, by omega⟩ ⟨k1, k2⟩ i (by omega)]
    exact hx
  unfold f_splice f_sp4 f_sp3
  rw [f_onl_sR (r := b) (by omega) i (by omega), f_onl_sR (r := a) (by omega) i (by omega), f_onl_sR (r := a) (by omega) i (by omega), h2.1 i (by omega)]
  exact e1
set_option maxRecDepth 20000 in
theorem s_X11_splice_no (E : ax_Env) (l : Launch) (d : Nat) (hd : 4 ≤ d) (M : ax_Mem) (ra rb : Int) (Ls : Int → List f_Ln) (w : Int → Int) (hg0 : f_nb M w) (hg1 : f_jv Ls w) (hg2 : ¬ (f_isR w ra ∧ f_isR w rb ∧ ra ≠ rb ∧ f_R w ra 1 + f_R w rb 1 ≤ 24)) : ax_G E l d iX11_splice [.inr 0, .inl ra, .inl rb] M (fun z0 M2 => z0 = some (.inl (-1)) ∧ M = M2) := by
  obtain ⟨d, rfl⟩ : ∃ d0, d = d0 + 1 := ⟨d - 1, by omega⟩
  refine ax_start rfl (Nat.le_of_ble_eq_true rfl) (ls := [some (.inr 0), some (.inl ra), some (.inl rb), none, none]) rfl (fun hav hcm => ?_)
  have hc1 : -2147483648 ≤ ra ∧ ra < 2147483648 := hav (.inl ra) (by simp)
  have hc2 : -2147483648 ≤ rb ∧ rb < 2147483648 := hav (.inl rb) (by simp)
  clear hav
  have qlo := hg1.1.2.2.1
  have qlb := hg1.1.2.2.2.1
  refine ax_aload_n dX11_splice_0 rfl rfl (pc' := 1) rfl ?_
  refine ax_getr (v := 1) dX11_splice_1 flX11_10 rfl sh_0 rfl (pc' := 4) rfl ?_
  refine ax_iload_n dX11_splice_4 rfl rfl (pc' := 5) rfl ?_
  by_cases hia : f_isR w ra
  · refine ax_invG [.inl ra] [] dX11_splice_5 mlX11_139 sh_1 rfl rfl rfl (Nat.le_of_ble_eq_true rfl) (s_X9_ropeAt_ok E l _ (by omega) _ ra w hg0.1 hg1.1.1 hia) (pc' := 8) rfl (fun vv M_5 hq co5 hcm5 => ?_)
    obtain ⟨rfl, rfl⟩ := hq
    refine ax_reS (st2 := [.inr (5 + 4 * ra)]) rfl ?_
    have hgr : 0 ≤ ra ∧ ra < 8 := ⟨hia.1, by omega⟩
    have qrm := f_wm_rm hg0.1 hia
    have ql : M (5 + 4 * ra) 1 = f_R w ra 1 := qrm.1
    have qlr := (hg1.1.1 ra hgr.1 hgr.2).2
    refine ax_astore_n dX11_splice_8 rfl (by decide) (ls' := [some (.inr 0), some (.inl ra), some (.inl rb), some (.inr (5 + 4 * ra)), none]) rfl (pc' := 9) rfl ?_
    refine ax_aload_n dX11_splice_9 rfl rfl (pc' := 10) rfl ?_
    refine ax_getr (v := 1) dX11_splice_10 flX11_10 rfl sh_0 rfl (pc' := 13) rfl ?_
    refine ax_iload_n dX11_splice_13 rfl rfl (pc' := 14) rfl ?_
    by_cases hib : f_isR w rb
    · refine ax_invG [.inl rb] [] dX11_splice_14 mlX11_139 sh_1 rfl rfl rfl (Nat.le_of_ble_eq_true rfl) (s_X9_ropeAt_ok E l _ (by omega) _ rb w hg0.1 hg1.1.1 hib) (pc' := 17) rfl (fun vv M_14 hq co14 hcm14 => ?_)
      obtain ⟨rfl, rfl⟩ := hq
      refine ax_reS (st2 := [.inr (5 + 4 * rb)]) rfl ?_
      have hgr2 : 0 ≤ rb ∧ rb < 8 := ⟨hib.1, by omega⟩
      have qrm2 := f_wm_rm hg0.1 hib
      have ql2 : M (5 + 4 * rb) 1 = f_R w rb 1 := qrm2.1
      have qlr2 := (hg1.1.1 rb hgr2.1 hgr2.2).2
      refine ax_astore dX11_splice_17 (by decide) (ls' := [some (.inr 0), some (.inl ra), some (.inl rb), some (.inr (5 + 4 * ra)), some (.inr (5 + 4 * rb))]) rfl (pc' := 19) rfl ?_
      refine ax_aload_n dX11_splice_19 rfl rfl (pc' := 20) rfl ?_
      refine ax_ifnull (tgt := 48) dX11_splice_20 (by omega) (by decide) (pc' := 23) rfl (fun h20 => ?_) (fun h20 => ?_)
      · exfalso
        omega
      · refine ax_aload dX11_splice_23 rfl (pc' := 25) rfl ?_
        refine ax_ifnull (tgt := 48) dX11_splice_25 (by omega) (by decide) (pc' := 28) rfl (fun h25 => ?_) (fun h25 => ?_)
        · exfalso
          omega
        · refine ax_iload_n dX11_splice_28 rfl rfl (pc' := 29) rfl ?_
          refine ax_iload_n dX11_splice_29 rfl rfl (pc' := 30) rfl ?_
          refine ax_icmp_eq (tgt := 48) dX11_splice_30 (by decide) (pc' := 33) rfl (fun h30 => ?_) (fun h30 => ?_)
          · refine ax_iconst dX11_splice_48 (by decide) (pc' := 49) rfl ?_
            refine ax_iret dX11_splice_49 rfl ?_
            refine ⟨rfl, ?_, ?_⟩
            · rfl
            · rfl
          · refine ax_aload_n dX11_splice_33 rfl rfl (pc' := 34) rfl ?_
            refine ax_geti (v := M (5 + 4 * ra) 1) dX11_splice_34 flX11_170 rfl (f_rp_now ⟨by omega, by omega⟩).1 rfl rfl (pc' := 37) rfl ?_
            refine ax_aload dX11_splice_37 rfl (pc' := 39) rfl ?_
            refine ax_geti (v := M (5 + 4 * rb) 1) dX11_splice_39 flX11_170 rfl (f_rp_now ⟨by omega, by omega⟩).1 rfl rfl (pc' := 42) rfl ?_
            refine ax_iadd dX11_splice_42 (by omega) (pc' := 43) rfl ?_
            refine ax_bipush dX11_splice_43 (by decide) (pc' := 45) rfl ?_
            refine ax_icmp_le (tgt := 50) dX11_splice_45 (by decide) (pc' := 48) rfl (fun h45 => ?_) (fun h45 => ?_)
            · exfalso
              exact hg2 ⟨hia, hib, by omega, by omega⟩
            · refine ax_iconst dX11_splice_48 (by decide) (pc' := 49) rfl ?_
              refine ax_iret dX11_splice_49 rfl ?_
              refine ⟨rfl, ?_, ?_⟩
              · rfl
              · rfl
    · refine ax_invG [.inl rb] [] dX11_splice_14 mlX11_139 sh_1 rfl rfl rfl (Nat.le_of_ble_eq_true rfl) (s_X9_ropeAt_no E l _ (by omega) _ rb w hg0.1 hg1.1.1 hib) (pc' := 17) rfl (fun vv M_14 hq co14 hcm14 => ?_)
      obtain ⟨rfl, rfl⟩ := hq
      refine ax_reS (st2 := [.inr (-1)]) rfl ?_
      refine ax_astore dX11_splice_17 (by decide) (ls' := [some (.inr 0), some (.inl ra), some (.inl rb), some (.inr (5 + 4 * ra)), some (.inr (-1))]) rfl (pc' := 19) rfl ?_
      refine ax_aload_n dX11_splice_19 rfl rfl (pc' := 20) rfl ?_
      refine ax_ifnull (tgt := 48) dX11_splice_20 (by omega) (by decide) (pc' := 23) rfl (fun h20 => ?_) (fun h20 => ?_)
      · exfalso
        omega
      · refine ax_aload dX11_splice_23 rfl (pc' := 25) rfl ?_
        refine ax_ifnull (tgt := 48) dX11_splice_25 (by decide) (by decide) (pc' := 28) rfl (fun h25 => ?_) (fun h25 => ?_)
        · refine ax_iconst dX11_splice_48 (by decide) (pc' := 49) rfl ?_
          refine ax_iret dX11_splice_49 rfl ?_
          refine ⟨rfl, ?_, ?_⟩
          · rfl
          · rfl
        · exfalso
          omega
  · refine ax_invG [.inl ra] [] dX11_splice_5 mlX11_139 sh_1 rfl rfl rfl (Nat.le_of_ble_eq_true rfl) (s_X9_ropeAt_no E l _ (by omega) _ ra w hg0.1 hg1.1.1 hia) (pc' := 8) rfl (fun vv M_5 hq co5 hcm5 => ?_)
    obtain ⟨rfl, rfl⟩ := hq
    refine ax_reS (st2 := [.inr (-1)]) rfl ?_
    refine ax_astore_n dX11_splice_8 rfl (by decide) (ls' := [some (.inr 0), some (.inl ra), some (.inl rb), some (.inr (-1)), none]) rfl (pc' := 9) rfl ?_
    refine ax_aload_n dX11_splice_9 rfl rfl (pc' := 10) rfl ?_
    refine ax_getr (v := 1) dX11_splice_10 flX11_10 rfl sh_0 rfl (pc' := 13) rfl ?_
    refine ax_iload_n dX11_splice_13 rfl rfl (pc' := 14) rfl ?_
    by_cases hib : f_isR w rb
    · refine ax_invG [.inl rb] [] dX11_splice_14 mlX11_139 sh_1 rfl rfl rfl (Nat.le_of_ble_eq_true rfl) (s_X9_ropeAt_ok E l _ (by omega) _ rb w hg0.1 hg1.1.1 hib) (pc' := 17) rfl (fun vv M_14 hq co14 hcm14 => ?_)
      obtain ⟨rfl, rfl⟩ := hq
      refine ax_reS (st2 := [.inr (5 + 4 * rb)]) rfl ?_
      have hgr2 : 0 ≤ rb ∧ rb < 8 := ⟨hib.1, by omega⟩
      have qrm2 := f_wm_rm hg0.1 hib
      have ql2 : M (5 + 4 * rb) 1 = f_R w rb 1 := qrm2.1
      have qlr2 := (hg1.1.1 rb hgr2.1 hgr2.2).2
      refine ax_astore dX11_splice_17 (by decide) (ls' := [some (.inr 0), some (.inl ra), some (.inl rb), some (.inr (-1)), some (.inr (5 + 4 * rb))]) rfl (pc' := 19) rfl ?_
      refine ax_aload_n dX11_splice_19 rfl rfl (pc' := 20) rfl ?_
      refine ax_ifnull (tgt := 48) dX11_splice_20 (by decide) (by decide) (pc' := 23) rfl (fun h20 => ?_) (fun h20 => ?_)
      · refine ax_iconst dX11_splice_48 (by decide) (pc' := 49) rfl ?_
        refine ax_iret dX11_splice_49 rfl ?_
        refine ⟨rfl, ?_, ?_⟩
        · rfl
        · rfl
      · exfalso
        omega
    · refine ax_invG [.inl rb] [] dX11_splice_14 mlX11_139 sh_1 rfl rfl rfl (Nat.le_of_ble_eq_true rfl) (s_X9_ropeAt_no E l _ (by omega) _ rb w hg0.1 hg1.1.1 hib) (pc' := 17) rfl (fun vv M_14 hq co14 hcm14 => ?_)
      obtain ⟨rfl, rfl⟩ := hq
      refine ax_reS (st2 := [.inr (-1)]) rfl ?_
      refine ax_astore dX11_splice_17 (by decide) (ls' := [some (.inr 0), some (.inl ra), some (.inl rb), some (.inr (-1)), some (.inr (-1))]) rfl (pc' := 19) rfl ?_
      refine ax_aload_n dX11_splice_19 rfl rfl (pc' := 20) rfl ?_
      refine ax_ifnull (tgt := 48) dX11_splice_20 (by decide) (by decide) (pc' := 23) rfl (fun h20 => ?_) (fun h20 => ?_)
      · refine ax_iconst dX11_splice_48 (by decide) (pc' := 49) rfl ?_
        refine ax_iret dX11_splice_49 rfl ?_
        refine ⟨rfl, ?_, ?_⟩
        · rfl
        · rfl
      · exfalso
        omega
set_option maxRecDepth 20000 in
theorem s_X11_splice_ok (E : ax_Env) (l : Launch) (d : Nat) (hd : 4 ≤ d) (M : ax_Mem) (ra rb : Int) (Ls : Int → List f_Ln) (w bk : Int → Int) (m : Int) (hg0 : f_nb M w) (hg1 : f_jv Ls w) (hg2 : f_pr M bk m w) (hg3 : f_isR w ra ∧ f_isR w rb ∧ ra ≠ rb ∧ f_R w ra 1 + f_R w rb 1 ≤ 24) : ax_G E l d iX11_splice [.inr 0, .inl ra, .inl rb] M (fun z0 M2 => z0 = some (.inl (f_R (f_splice w ra rb) ra 1)) ∧ (∀ x0 i0 : Int, ¬ ((1 ≤ x0 ∧ x0 < 39) ∨ (92 ≤ x0 ∧ x0 < 273) ∨ (x0 = 0 ∧ i0 = 12) ∨ x0 = 72 ∨ x0 = 73 ∨ x0 = 76 ∨ x0 = 77 ∨ (x0 = 75 ∧ i0 = 3) ∨ (x0 = 75 ∧ i0 = 4)) → M2 x0 i0 = M x0 i0) ∧ (f_nb M2 (f_splice w ra rb)) ∧ (f_pr M2 (f_keep bk w m) (f_keepN m) (f_splice w ra rb))) := by
  obtain ⟨d, rfl⟩ : ∃ d0, d = d0 + 1 := ⟨d - 1, by omega⟩
  refine ax_start rfl (Nat.le_of_ble_eq_true rfl) (ls := [some (.inr 0), some (.inl ra), some (.inl rb), none, none]) rfl (fun hav hcm => ?_)
  have hc1 : -2147483648 ≤ ra ∧ ra < 2147483648 := hav (.inl ra) (by simp)
  have hc2 : -2147483648 ≤ rb ∧ rb < 2147483648 := hav (.inl rb) (by simp)
  clear hav
  have qlo := hg1.1.2.2.1
  have qlb := hg1.1.2.2.2.1
  have hia := hg3.1
  have hib := hg3.2.1
  have hne := hg3.2.2.1
  have hgr : 0 ≤ ra ∧ ra < 8 := ⟨hia.1, by omega⟩
  have qrm := f_wm_rm hg0.1 hia
  have ql : M (5 + 4 * ra) 1 = f_R w ra 1 := qrm.1
  have qwe : M (5 + 4 * ra) 4 = f_R w ra 4 := qrm.2.2.2.1
  have qlr := (hg1.1.1 ra hgr.1 hgr.2).2
  have qln := (hg1.2.1 ra hgr.1 hgr.2).2 hia.2.2
  have hgr2 : 0 ≤ rb ∧ rb < 8 := ⟨hib.1, by omega⟩
  have qrm2 := f_wm_rm hg0.1 hib
  have ql2 : M (5 + 4 * rb) 1 = f_R w rb 1 := qrm2.1
  have qwe2 : M (5 + 4 * rb) 4 = f_R w rb 4 := qrm2.2.2.2.1
  have qlr2 := (hg1.1.1 rb hgr2.1 hgr2.2).2
  have qln2 := (hg1.2.1 rb hgr2.1 hgr2.2).2 hib.2.2
  have qhp : 1 ≤ f_R w ra 1 ∧ f_R w ra 1 + f_R w rb 1 ≤ 24 := ⟨by omega, hg3.2.2.2⟩
  have qSR := f_spl_R (w := w) hgr hgr2 hne qhp (by omega) qlb.1
  refine ax_aload_n dX11_splice_0 rfl rfl (pc' := 1) rfl ?_
  refine ax_getr (v := 1) dX11_splice_1 flX11_10 rfl sh_0 rfl (pc' := 4) rfl ?_
  refine ax_iload_n dX11_splice_4 rfl rfl (pc' := 5) rfl ?_
  refine ax_invG [.inl ra] [] dX11_splice_5 mlX11_139 sh_1 rfl rfl rfl (Nat.le_of_ble_eq_true rfl) (s_X9_ropeAt_ok E l _ (by omega) _ ra w hg0.1 hg1.1.1 hia) (pc' := 8) rfl (fun vv M_5 hq co5 hcm5 => ?_)
  obtain ⟨rfl, rfl⟩ := hq
  refine ax_reS (st2 := [.inr (5 + 4 * ra)]) rfl ?_
  refine ax_astore_n dX11_splice_8 rfl (by decide) (ls' := [some (.inr 0), some (.inl ra), some (.inl rb), some (.inr (5 + 4 * ra)), none]) rfl (pc' := 9) rfl ?_
  refine ax_aload_n dX11_splice_9 rfl rfl (pc' := 10) rfl ?_
  refine ax_getr (v := 1) dX11_splice_10 flX11_10 rfl sh_0 rfl (pc' := 13) rfl ?_
  refine ax_iload_n dX11_splice_13 rfl rfl (pc' := 14) rfl ?_
  refine ax_invG [.inl rb] [] dX11_splice_14 mlX11_139 sh_1 rfl rfl rfl (Nat.le_of_ble_eq_true rfl) (s_X9_ropeAt_ok E l _ (by omega) _ rb w hg0.1 hg1.1.1 hib) (pc' := 17) rfl (fun vv M_14 hq co14 hcm14 => ?_)
  obtain ⟨rfl, rfl⟩ := hq
  refine ax_reS (st2 := [.inr (5 + 4 * rb)]) rfl ?_
  refine ax_astore dX11_splice_17 (by decide) (ls' := [some (.inr 0), some (.inl ra), some (.inl rb), some (.inr (5 + 4 * ra)), some (.inr (5 + 4 * rb))]) rfl (pc' := 19) rfl ?_
  refine ax_aload_n dX11_splice_19 rfl rfl (pc' := 20) rfl ?_
  refine ax_ifnull (tgt := 48) dX11_splice_20 (by omega) (by decide) (pc' := 23) rfl (fun h20 => ?_) (fun h20 => ?_)
  · exfalso
    omega
  · refine ax_aload dX11_splice_23 rfl (pc' := 25) rfl ?_
    refine ax_ifnull (tgt := 48) dX11_splice_25 (by omega) (by decide) (pc' := 28) rfl (fun h25 => ?_) (fun h25 => ?_)
    · exfalso
      omega
    · refine ax_iload_n dX11_splice_28 rfl rfl (pc' := 29) rfl ?_
      refine ax_iload_n dX11_splice_29 rfl rfl (pc' := 30) rfl ?_
      refine ax_icmp_eq (tgt := 48) dX11_splice_30 (by decide) (pc' := 33) rfl (fun h30 => ?_) (fun h30 => ?_)
      · exfalso
        omega
      · refine ax_aload_n dX11_splice_33 rfl rfl (pc' := 34) rfl ?_
        refine ax_geti (v := M (5 + 4 * ra) 1) dX11_splice_34 flX11_170 rfl (f_rp_now ⟨by omega, by omega⟩).1 rfl rfl (pc' := 37) rfl ?_
        refine ax_aload dX11_splice_37 rfl (pc' := 39) rfl ?_
        refine ax_geti (v := M (5 + 4 * rb) 1) dX11_splice_39 flX11_170 rfl (f_rp_now ⟨by omega, by omega⟩).1 rfl rfl (pc' := 42) rfl ?_
        refine ax_iadd dX11_splice_42 (by omega) (pc' := 43) rfl ?_
        refine ax_bipush dX11_splice_43 (by decide) (pc' := 45) rfl ?_
        refine ax_icmp_le (tgt := 50) dX11_splice_45 (by decide) (pc' := 48) rfl (fun h45 => ?_) (fun h45 => ?_)
        · refine ax_aload_n dX11_splice_50 rfl rfl (pc' := 51) rfl ?_
          refine ax_invG [] [] dX11_splice_51 mlX11_147 sh_0 rfl rfl rfl (Nat.le_of_ble_eq_true rfl) (s_X11_keepPast E l _ (by omega) _ w bk m hg0 hg1.1.1 hg2) (pc' := 54) rfl (fun vv M_51 hq co51 hcm51 => ?_)
          obtain ⟨rfl, frM_51, fa51_0⟩ := hq
          refine ax_reS (st2 := []) rfl ?_
          refine ax_aload_n dX11_splice_54 rfl rfl (pc' := 55) rfl ?_
          refine ax_getr (v := 37) dX11_splice_55 flX11_19 rfl sh_0 rfl (pc' := 58) rfl ?_
          refine ax_aload_n dX11_splice_58 rfl rfl (pc' := 59) rfl ?_
          refine ax_getr (v := 1) dX11_splice_59 flX11_10 rfl sh_0 rfl (pc' := 62) rfl ?_
          refine ax_iload_n dX11_splice_62 rfl rfl (pc' := 63) rfl ?_
          refine ax_aload_n dX11_splice_63 rfl rfl (pc' := 64) rfl ?_
          refine ax_geti (v := M (5 + 4 * ra) 1) dX11_splice_64 flX11_170 rfl (f_rp_now ⟨by omega, by omega⟩).1 ((frM_51 (5 + 4 * ra) 1 (by omega)).trans rfl) rfl (pc' := 67) rfl ?_
          refine ax_reS (st2 := [.inl (f_R w ra 1), .inl ra, .inr 1, .inr 37]) (congrArg (fun z => Sum.inl z :: _) (by exact ql)) ?_
          refine ax_iload_n dX11_splice_67 rfl rfl (pc' := 68) rfl ?_
          refine ax_iconst dX11_splice_68 (by decide) (pc' := 69) rfl ?_
          refine ax_iconst dX11_splice_69 (by decide) (pc' := 70) rfl ?_
          refine ax_invG [.inr 1, .inl ra, .inl (f_R w ra 1), .inl rb, .inl 4, .inl (-1)] [] dX11_splice_70 mlX11_177 sh_37 rfl rfl rfl (Nat.le_of_ble_eq_true rfl) (s_X0_write E l _ (by omega) _ ra (f_R w ra 1) rb 4 (-1) w (f_nb_fr (M := M) (fun x0 i0 x1 x2 => ((frM_51 x0 i0 (by omega)).trans rfl)) hg0).1 (f_nb_fr (M := M) (fun x0 i0 x1 x2 => ((frM_51 x0 i0 (by omega)).trans rfl)) hg0).2 qlb hg1.1.1) (pc' := 73) rfl (fun vv M_70 hq co70 hcm70 => ?_)
          obtain ⟨rfl, frM_70, fa70_0, fa70_1⟩ := hq
          refine ax_reS (st2 := []) rfl ?_
          refine ax_aload_n dX11_splice_73 rfl rfl (pc' := 74) rfl ?_
          refine ax_aload dX11_splice_74 rfl (pc' := 76) rfl ?_
          refine ax_invG [.inr (5 + 4 * rb)] [] dX11_splice_76 mlX11_181 (f_rp_now ⟨by omega, by omega⟩).1 rfl rfl rfl (Nat.le_of_ble_eq_true rfl) (s_X7_append E l _ (by omega) _ (5 + 4 * ra) (5 + 4 * rb) ((funext fun i0 => frM_70 ((5 + 4 * ra) + 1) i0 (by omega)).trans ((funext fun i0 => frM_51 ((5 + 4 * ra) + 1) i0 (by omega)).trans rfl)) ((funext fun i0 => frM_70 ((5 + 4 * ra) + 2) i0 (by omega)).trans ((funext fun i0 => frM_51 ((5 + 4 * ra) + 2) i0 (by omega)).trans rfl)) ((funext fun i0 => frM_70 ((5 + 4 * ra) + 3) i0 (by omega)).trans ((funext fun i0 => frM_51 ((5 + 4 * ra) + 3) i0 (by omega)).trans rfl)) ((funext fun i0 => frM_70 ((5 + 4 * rb) + 1) i0 (by omega)).trans ((funext fun i0 => frM_51 ((5 + 4 * rb) + 1) i0 (by omega)).trans rfl)) ((funext fun i0 => frM_70 ((5 + 4 * rb) + 2) i0 (by omega)).trans ((funext fun i0 => frM_51 ((5 + 4 * rb) + 2) i0 (by omega)).trans rfl)) ((funext fun i0 => frM_70 ((5 + 4 * rb) + 3) i0 (by omega)).trans ((funext fun i0 => frM_51 ((5 + 4 * rb) + 3) i0 (by omega)).trans rfl)) ((frM_70 (5 + 4 * ra) 1 (by omega)).trans ((frM_51 (5 + 4 * ra) 1 (by omega)).trans rfl)) ((frM_70 (5 + 4 * ra) 4 (by omega)).trans ((frM_51 (5 + 4 * ra) 4 (by omega)).trans rfl)) ((frM_70 (5 + 4 * rb) 1 (by omega)).trans ((frM_51 (5 + 4 * rb) 1 (by omega)).trans rfl)) ((frM_70 (5 + 4 * rb) 4 (by omega)).trans ((frM_51 (5 + 4 * rb) 4 (by omega)).trans rfl)) (f_rp_now hgr) (f_rp_now hgr2) (by omega) ⟨by omega, by omega, by omega⟩) (pc' := 79) rfl (fun vv M_76 hq co76 hcm76 => ?_)
          obtain ⟨rfl, frM_76, mrM_76_0, mrM_76_1, mrM_76_2, msM_76_0, msM_76_1⟩ := hq
          refine ax_reS (st2 := []) rfl ?_
          refine ax_aload dX11_splice_79 rfl (pc' := 81) rfl ?_
          refine ax_iconst dX11_splice_81 (by decide) (pc' := 82) rfl ?_
          refine ax_puti dX11_splice_82 flX11_185 (Or.inr ⟨rfl, by first | exact Or.inl rfl | exact Or.inr rfl | omega⟩) (f_rp_now ⟨by omega, by omega⟩).1 rfl (pc' := 85) rfl ?_
          refine ax_aload_n dX11_splice_85 rfl rfl (pc' := 86) rfl ?_
          refine ax_geti (v := (M (5 + 4 * ra) 1) + (M (5 + 4 * rb) 1)) dX11_splice_86 flX11_170 rfl (f_rp_now ⟨by omega, by omega⟩).1 (show (ax_up M_76 (5 + 4 * rb) 0 0) (5 + 4 * ra) 1 = (M (5 + 4 * ra) 1) + (M (5 + 4 * rb) 1) from (ax_up_miss (by omega) msM_76_0)) rfl (pc' := 89) rfl ?_
          refine ax_iret dX11_splice_89 rfl ?_
          refine ⟨rfl, ?_, ?_, ?_, ?_⟩
          · refine congrArg (fun z => some (Sum.inl z)) ?_
            rw [qSR.1.2, ql, ql2]
          · intro x0 i0 hai
            exact (ax_up_miss (by omega) ((frM_76 x0 i0 (by omega)).trans ((frM_70 x0 i0 (fun h => h.elim (fun h => hai (Or.inl (by rw [h]; decide))) (fun h => hai (Or.inl (by rw [h.1]; decide))))).trans ((frM_51 x0 i0 (fun h => h.elim (fun h => hai (Or.inr (Or.inl h))) (fun h => hai (Or.inr (Or.inr (Or.inl h)))))).trans rfl))))
          · have qsa : f_rm (ax_up M_76 (5 + 4 * rb) 0 0) (5 + 4 * ra) (f_splice w ra rb) ra := by
              refine f_rr_eq (show (ax_up M_76 (5 + 4 * rb) 0 0) (5 + 4 * ra) 1 = (M (5 + 4 * ra) 1) + (M (5 + 4 * rb) 1) from (ax_up_miss (by omega) msM_76_0)) (show (ax_up M_76 (5 + 4 * rb) 0 0) (5 + 4 * ra) 2 = M (5 + 4 * ra) 2 from (ax_up_miss (by omega) ((frM_76 (5 + 4 * ra) 2 (by omega)).trans ((frM_70 (5 + 4 * ra) 2 (by omega)).trans ((frM_51 (5 + 4 * ra) 2 (by omega)).trans rfl))))) (show (ax_up M_76 (5 + 4 * rb) 0 0) (5 + 4 * ra) 3 = M (5 + 4 * ra) 3 from (ax_up_miss (by omega) ((frM_76 (5 + 4 * ra) 3 (by omega)).trans ((frM_70 (5 + 4 * ra) 3 (by omega)).trans ((frM_51 (5 + 4 * ra) 3 (by omega)).trans rfl))))) (show (ax_up M_76 (5 + 4 * rb) 0 0) (5 + 4 * ra) 4 = max (M (5 + 4 * ra) 4) (M (5 + 4 * rb) 4) from (ax_up_miss (by omega) msM_76_1)) (show (ax_up M_76 (5 + 4 * rb) 0 0) (5 + 4 * ra + 1) = f_cp (M ((5 + 4 * rb) + 1)) 0 (M ((5 + 4 * ra) + 1)) (M (5 + 4 * ra) 1) (M (5 + 4 * rb) 1) from (ax_up_rowmiss (by omega) mrM_76_0)) (show (ax_up M_76 (5 + 4 * rb) 0 0) (5 + 4 * ra + 2) = f_hM (f_cp (M ((5 + 4 * rb) + 2)) (0 * 6) (M ((5 + 4 * ra) + 2)) ((M (5 + 4 * ra) 1) * 6) ((M (5 + 4 * rb) 1) * 6)) (M (5 + 4 * ra) 1) 6 from (ax_up_rowmiss (by omega) mrM_76_1)) (show (ax_up M_76 (5 + 4 * rb) 0 0) (5 + 4 * ra + 3) = f_sM (f_cp (M ((5 + 4 * rb) + 2)) (0 * 6) (M ((5 + 4 * ra) + 2)) ((M (5 + 4 * ra) 1) * 6) ((M (5 + 4 * rb) 1) * 6)) (f_cp (M ((5 + 4 * rb) + 3)) (0 * 6) (M ((5 + 4 * ra) + 3)) ((M (5 + 4 * ra) 1) * 6) ((M (5 + 4 * rb) 1) * 6)) (M (5 + 4 * ra) 1) 6 from (ax_up_rowmiss (by omega) mrM_76_2)) ?_
              exact f_rr_splice hgr hgr2 hne qhp (by omega) hg1.1 qrm qrm2
            refine ⟨f_wm_2 (M := M_70) hgr hgr2 (f_iv_note hg1.1).1 fa70_0 (fun i i1 i2 => f_spl_oth hgr hgr2 hne qhp (by omega) qlb.1 i1 i2) (fun x0 i0 x1 x2 x3 x4 => (ax_up_miss (by omega) ((frM_76 x0 i0 (by omega)).trans rfl))) ⟨Eq.trans (ax_up_miss (by omega) ((frM_76 (5 + 4 * ra) 0 (by omega)).trans ((frM_70 (5 + 4 * ra) 0 (by omega)).trans ((frM_51 (5 + 4 * ra) 0 (by omega)).trans rfl)))) ((f_wm_th hg0.1 hgr).trans qSR.1.1.symm), fun _ => qsa⟩ ⟨Eq.trans (ax_up_hit _ _ _ _) qSR.2.2.2.symm, fun z => absurd (qSR.2.2.2.symm.trans z) (by decide)⟩, ?_⟩
            have qn1 : f_splice w ra rb 1 = f_note w ra (f_R w ra 1) rb 4 (-1) 1 := f_spl_out hgr hgr2 hne qhp (by omega) qlb.1 (by omega)
            exact f_bk_of (M := M_70) (ax_up_rowmiss (by omega) ((funext fun i0 => frM_76 38 i0 (by omega)).trans rfl)) qn1 (fun i i1 i2 => f_spl_out hgr hgr2 hne qhp (by omega) qlb.1 (by omega)) (f_iv_note hg1.1).2.2.2.1.2 fa70_1
          · exact f_pr_w (fun i i1 i2 => (f_spl_out hgr hgr2 hne qhp (by omega) qlb.1 (by omega)).trans (f_note_at (by omega) (by omega))) (f_pr_fr (M := M_51) (fun x0 i0 x1 x2 => (ax_up_miss (by omega) ((frM_76 x0 i0 (by omega)).trans ((frM_70 x0 i0 (by omega)).trans rfl)))) (ax_up_miss (by omega) ((frM_76 0 12 (by omega)).trans ((frM_70 0 12 (fun h => h.elim (fun h => absurd h (by decide)) (fun h => absurd h.1 (by decide)))).trans rfl))) fa51_0)
        · exfalso
          omega
