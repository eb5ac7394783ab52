/-! acts of the class -/
theorem f_nb_fr {M N : ax_Mem} {w : Int → Int} (hf : ∀ x i, 1 ≤ x → x < 39 → N x i = M x i) (h : f_nb M w) : f_nb N w := ⟨f_wm_fr (fun x i x1 x2 => hf x i (by omega) (by omega)) h.1, fun x x1 x2 => (hf 38 x (by decide) (by decide)).trans (h.2 x x1 x2)⟩
theorem f_nb_onl {M N : ax_Mem} {w v : Int → Int} {r : Int} (hr : 0 ≤ r ∧ r < 8) (hw : f_iv w) (h : f_nb M w) (ho : f_onl r w v) (hf : ∀ x j, 1 ≤ x → x < 39 → ¬ (5 + 4 * r ≤ x ∧ x < 9 + 4 * r) → N x j = M x j) (h1 : N (5 + 4 * r) 0 = f_R v r 0) (h2 : f_R v r 0 = 1 → f_rm N (5 + 4 * r) v r) : f_nb N v := ⟨f_wm_1 hr hw.1 h.1 ho (fun x j x1 x2 x3 => hf x j x1 (by omega) (by omega)) h1 h2, f_bk_onl (funext fun i => hf 38 i (by decide) (by decide) (by omega)) hr ho hw.2.2.2.1.2 h.2⟩
theorem f_ag_tie {w : Int → Int} {r p k hand : Int} (hr : 0 ≤ r ∧ r < 8) (hp : 0 ≤ p ∧ p < 24) (hk : 0 ≤ k ∧ k < 6) (hw : f_iv w) : f_ag w (f_tie w r p k hand) := by
  have ht := hw.2.2.2.2 k hk.1 hk.2
  have e : f_sP w r p 0 k (2564 + k) = w (2564 + k) := f_sP_out ⟨hr.1, hr.2, hp.1, hp.2, by decide, by decide⟩ (by omega)
  have h1 : f_iv (f_more (f_sP w r p 0 k) r p k (f_sP w r p 0 k (2564 + k))) := f_iv_more hr hp hk (by rw [e]; omega) (f_iv_tied hr hp (by omega) hw)
  have h2 : f_sm w (f_tie w r p k hand) := f_sm_trans (f_sm_trans (f_sm_sP ⟨hr.1, hr.2, hp.1, hp.2, by decide, by decide⟩) (f_sm_hab ⟨hr.1, hr.2, hp.1, hp.2, hk.1, hk.2⟩)) (f_sm_note h1.2.2.2.1)
  exact h2.1
theorem f_pr_onl {M : ax_Mem} {bk w v : Int → Int} {m r : Int} (hr : 0 ≤ r ∧ r < 8) (ho : f_onl r w v) (h : f_pr M bk m w) : f_pr M bk m v := f_pr_w (fun i i1 i2 => ho i (by omega)) h
theorem f_wets_0 {w : Int → Int} {r v : Int} (hr : 0 ≤ r ∧ r < 8) (hl : f_R w r 1 ≤ 24) : f_R (f_wets w r v) r 0 = f_R w r 0 := by
  have e : f_R (f_sR w r 4 v) r 0 = f_R w r 0 := by
    rw [f_R_sR ⟨hr.1, hr.2, by decide, by decide⟩ ⟨hr.1, hr.2, by decide, by decide⟩, if_neg (by omega)]
  unfold f_wets
  split
  · exact f_loop_inv (P := fun x => f_R x r 0 = f_R w r 0) e (fun i x i1 i2 hx => (f_R_wetS ⟨hr.1, hr.2, i1, by omega⟩ ⟨hr.1, hr.2, by decide, by decide⟩).trans hx)
  · exact e
set_option maxRecDepth 20000 in
theorem s_X11_tie_no (E : ax_Env) (l : Launch) (d : Nat) (hd : 4 ≤ d) (M : ax_Mem) (r p k hand : Int) (Ls : Int → List f_Ln) (w : Int → Int) (hg0 : f_nb M w) (hg1 : f_jv Ls w) (hg2 : ¬ (f_isP w r p ∧ f_P w r p 0 = -1 ∧ 0 ≤ k ∧ k ≤ 5 ∧ 0 ≤ hand ∧ hand ≤ 9)) : ax_G E l d iX11_tie [.inr 0, .inl r, .inl p, .inl k, .inl hand] M (fun z0 M2 => z0 = some (.inl 0) ∧ M = M2) := by
  obtain ⟨d, rfl⟩ : ∃ d0, d = d0 + 1 := ⟨d - 1, by omega⟩
  refine ax_start rfl (Nat.le_of_ble_eq_true rfl) (ls := [some (.inr 0), some (.inl r), some (.inl p), some (.inl k), some (.inl hand), none]) rfl (fun hav hcm => ?_)
  have hc1 : -2147483648 ≤ r ∧ r < 2147483648 := hav (.inl r) (by simp)
  have hc2 : -2147483648 ≤ p ∧ p < 2147483648 := hav (.inl p) (by simp)
  have hc3 : -2147483648 ≤ k ∧ k < 2147483648 := hav (.inl k) (by simp)
  have hc4 : -2147483648 ≤ hand ∧ hand < 2147483648 := hav (.inl hand) (by simp)
  clear hav
  have qlo := hg1.1.2.2.1
  have qlb := hg1.1.2.2.2.1
  refine ax_aload_n dX11_tie_0 rfl rfl (pc' := 1) rfl ?_
  refine ax_getr (v := 1) dX11_tie_1 flX11_10 rfl sh_0 rfl (pc' := 4) rfl ?_
  refine ax_iload_n dX11_tie_4 rfl rfl (pc' := 5) rfl ?_
  by_cases hir : f_isR w r
  · refine ax_invG [.inl r] [] dX11_tie_5 mlX11_139 sh_1 rfl rfl rfl (Nat.le_of_ble_eq_true rfl) (s_X9_ropeAt_ok E l _ (by omega) _ r w hg0.1 hg1.1.1 hir) (pc' := 8) rfl (fun vv M_5 hq co5 hcm5 => ?_)
    obtain ⟨rfl, rfl⟩ := hq
    refine ax_reS (st2 := [.inr (5 + 4 * r)]) rfl ?_
    have hgr : 0 ≤ r ∧ r < 8 := ⟨hir.1, by omega⟩
    have qrm := f_wm_rm hg0.1 hir
    have ql : M (5 + 4 * r) 1 = f_R w r 1 := qrm.1
    have qlr := (hg1.1.1 r hgr.1 hgr.2).2
    refine ax_astore dX11_tie_8 (by decide) (ls' := [some (.inr 0), some (.inl r), some (.inl p), some (.inl k), some (.inl hand), some (.inr (5 + 4 * r))]) rfl (pc' := 10) rfl ?_
    refine ax_aload dX11_tie_10 rfl (pc' := 12) rfl ?_
    refine ax_ifnull (tgt := 43) dX11_tie_12 (by omega) (by decide) (pc' := 15) rfl (fun h12 => ?_) (fun h12 => ?_)
    · exfalso
      omega
    · refine ax_aload dX11_tie_15 rfl (pc' := 17) rfl ?_
      refine ax_iload_n dX11_tie_17 rfl rfl (pc' := 18) rfl ?_
      refine ax_invG [.inl p] [] dX11_tie_18 mlX11_143 (f_rp_now ⟨by omega, by omega⟩).1 rfl rfl rfl (Nat.le_of_ble_eq_true rfl) (s_X7_isUntied E l _ (by omega) _ (5 + 4 * r) p w r (f_rp_now hgr) qrm hg1.1 hgr) (pc' := 21) rfl (fun vv M_18 hq co18 hcm18 => ?_)
      obtain ⟨rfl, rfl⟩ := hq
      refine ax_reS (st2 := [.inl (f_b (0 ≤ p ∧ p < f_R w r 1 ∧ f_P w r p 0 = -1))]) rfl ?_
      refine ax_if_eq (tgt := 43) dX11_tie_21 (by decide) (pc' := 24) rfl (fun h21 => ?_) (fun h21 => ?_)
      · replace h21 := f_b_0 h21
        refine ax_iconst dX11_tie_43 (by decide) (pc' := 44) rfl ?_
        refine ax_zret dX11_tie_44 rfl (by decide) ?_
        refine ⟨rfl, ?_, ?_⟩
        · rfl
        · rfl
      · replace h21 := f_b_1 h21
        refine ax_iload_n dX11_tie_24 rfl rfl (pc' := 25) rfl ?_
        refine ax_bipush dX11_tie_25 (by decide) (pc' := 27) rfl ?_
        refine ax_insG [.inl k, .inl 6] [] dX11_tie_27 mlX11_114 rfl rfl (Nat.le_of_ble_eq_true rfl) (s_X11_isIn E l _ (by omega) _ k 6) (pc' := 30) rfl (fun vv M_27 hq co27 hcm27 => ?_)
        obtain ⟨rfl, rfl⟩ := hq
        refine ax_reS (st2 := [.inl (f_b (0 ≤ k ∧ k < 6))]) rfl ?_
        refine ax_if_eq (tgt := 43) dX11_tie_30 (by decide) (pc' := 33) rfl (fun h30 => ?_) (fun h30 => ?_)
        · replace h30 := f_b_0 h30
          refine ax_iconst dX11_tie_43 (by decide) (pc' := 44) rfl ?_
          refine ax_zret dX11_tie_44 rfl (by decide) ?_
          refine ⟨rfl, ?_, ?_⟩
          · rfl
          · rfl
        · replace h30 := f_b_1 h30
          refine ax_iload dX11_tie_33 rfl (pc' := 35) rfl ?_
          refine ax_bipush dX11_tie_35 (by decide) (pc' := 37) rfl ?_
          refine ax_insG [.inl hand, .inl 10] [] dX11_tie_37 mlX11_114 rfl rfl (Nat.le_of_ble_eq_true rfl) (s_X11_isIn E l _ (by omega) _ hand 10) (pc' := 40) rfl (fun vv M_37 hq co37 hcm37 => ?_)
          obtain ⟨rfl, rfl⟩ := hq
          refine ax_reS (st2 := [.inl (f_b (0 ≤ hand ∧ hand < 10))]) rfl ?_
          refine ax_if_ne (tgt := 45) dX11_tie_40 (by decide) (pc' := 43) rfl (fun h40 => ?_) (fun h40 => ?_)
          · replace h40 := f_b_1 h40
            exfalso
            exact hg2 ⟨⟨hir, by omega, by omega⟩, by omega, by omega, by omega, by omega, by omega⟩
          · replace h40 := f_b_0 h40
            refine ax_iconst dX11_tie_43 (by decide) (pc' := 44) rfl ?_
            refine ax_zret dX11_tie_44 rfl (by decide) ?_
            refine ⟨rfl, ?_, ?_⟩
            · rfl
            · rfl
  · refine ax_invG [.inl r] [] dX11_tie_5 mlX11_139 sh_1 rfl rfl rfl (Nat.le_of_ble_eq_true rfl) (s_X9_ropeAt_no E l _ (by omega) _ r w hg0.1 hg1.1.1 hir) (pc' := 8) rfl (fun vv M_5 hq co5 hcm5 => ?_)
    obtain ⟨rfl, rfl⟩ := hq
    refine ax_reS (st2 := [.inr (-1)]) rfl ?_
    refine ax_astore dX11_tie_8 (by decide) (ls' := [some (.inr 0), some (.inl r), some (.inl p), some (.inl k), some (.inl hand), some (.inr (-1))]) rfl (pc' := 10) rfl ?_
    refine ax_aload dX11_tie_10 rfl (pc' := 12) rfl ?_
    refine ax_ifnull (tgt := 43) dX11_tie_12 (by decide) (by decide) (pc' := 15) rfl (fun h12 => ?_) (fun h12 => ?_)
    · refine ax_iconst dX11_tie_43 (by decide) (pc' := 44) rfl ?_
      refine ax_zret dX11_tie_44 rfl (by decide) ?_
      refine ⟨rfl, ?_, ?_⟩
      · rfl
      · rfl
    · exfalso
      omega
set_option maxRecDepth 20000 in
theorem s_X11_tie_ok (E : ax_Env) (l : Launch) (d : Nat) (hd : 4 ≤ d) (M : ax_Mem) (r p k hand : Int) (Ls : Int → List f_Ln) (w bk : Int → Int) (m : Int) (hg0 : f_nb M w) (hg1 : f_jv Ls w) (hg2 : f_pr M bk m w) (hg3 : f_isP w r p ∧ f_P w r p 0 = -1 ∧ 0 ≤ k ∧ k ≤ 5 ∧ 0 ≤ hand ∧ hand ≤ 9) : ax_G E l d iX11_tie [.inr 0, .inl r, .inl p, .inl k, .inl hand] M (fun z0 M2 => z0 = some (.inl 1) ∧ (∀ x0 i0 : Int, ¬ ((1 ≤ x0 ∧ x0 < 39) ∨ (92 ≤ x0 ∧ x0 < 273) ∨ (x0 = 0 ∧ i0 = 12) ∨ x0 = 72 ∨ x0 = 73 ∨ x0 = 76 ∨ x0 = 77 ∨ (x0 = 75 ∧ i0 = 3) ∨ (x0 = 75 ∧ i0 = 4)) → M2 x0 i0 = M x0 i0) ∧ (f_nb M2 (f_tie w r p k hand)) ∧ (f_pr M2 (f_keep bk w m) (f_keepN m) (f_tie w r p k hand))) := by
  obtain ⟨d, rfl⟩ : ∃ d0, d = d0 + 1 := ⟨d - 1, by omega⟩
  refine ax_start rfl (Nat.le_of_ble_eq_true rfl) (ls := [some (.inr 0), some (.inl r), some (.inl p), some (.inl k), some (.inl hand), none]) rfl (fun hav hcm => ?_)
  have hc1 : -2147483648 ≤ r ∧ r < 2147483648 := hav (.inl r) (by simp)
  have hc2 : -2147483648 ≤ p ∧ p < 2147483648 := hav (.inl p) (by simp)
  have hc3 : -2147483648 ≤ k ∧ k < 2147483648 := hav (.inl k) (by simp)
  have hc4 : -2147483648 ≤ hand ∧ hand < 2147483648 := hav (.inl hand) (by simp)
  clear hav
  have qlo := hg1.1.2.2.1
  have qlb := hg1.1.2.2.2.1
  have hir := hg3.1.1
  have hgr : 0 ≤ r ∧ r < 8 := ⟨hir.1, by omega⟩
  have qrm := f_wm_rm hg0.1 hir
  have ql : M (5 + 4 * r) 1 = f_R w r 1 := qrm.1
  have qlr := (hg1.1.1 r hgr.1 hgr.2).2
  have qd3 := hg3.1.2
  have qd4 := hg3.2
  refine ax_aload_n dX11_tie_0 rfl rfl (pc' := 1) rfl ?_
  refine ax_getr (v := 1) dX11_tie_1 flX11_10 rfl sh_0 rfl (pc' := 4) rfl ?_
  refine ax_iload_n dX11_tie_4 rfl rfl (pc' := 5) rfl ?_
  refine ax_invG [.inl r] [] dX11_tie_5 mlX11_139 sh_1 rfl rfl rfl (Nat.le_of_ble_eq_true rfl) (s_X9_ropeAt_ok E l _ (by omega) _ r w hg0.1 hg1.1.1 hir) (pc' := 8) rfl (fun vv M_5 hq co5 hcm5 => ?_)
  obtain ⟨rfl, rfl⟩ := hq
  refine ax_reS (st2 := [.inr (5 + 4 * r)]) rfl ?_
  refine ax_astore dX11_tie_8 (by decide) (ls' := [some (.inr 0), some (.inl r), some (.inl p), some (.inl k), some (.inl hand), some (.inr (5 + 4 * r))]) rfl (pc' := 10) rfl ?_
  refine ax_aload dX11_tie_10 rfl (pc' := 12) rfl ?_
  refine ax_ifnull (tgt := 43) dX11_tie_12 (by omega) (by decide) (pc' := 15) rfl (fun h12 => ?_) (fun h12 => ?_)
  · exfalso
    omega
  · refine ax_aload dX11_tie_15 rfl (pc' := 17) rfl ?_
    refine ax_iload_n dX11_tie_17 rfl rfl (pc' := 18) rfl ?_
    refine ax_invG [.inl p] [] dX11_tie_18 mlX11_143 (f_rp_now ⟨by omega, by omega⟩).1 rfl rfl rfl (Nat.le_of_ble_eq_true rfl) (s_X7_isUntied E l _ (by omega) _ (5 + 4 * r) p w r (f_rp_now hgr) qrm hg1.1 hgr) (pc' := 21) rfl (fun vv M_18 hq co18 hcm18 => ?_)
    obtain ⟨rfl, rfl⟩ := hq
    refine ax_reS (st2 := [.inl (f_b (0 ≤ p ∧ p < f_R w r 1 ∧ f_P w r p 0 = -1))]) rfl ?_
    refine ax_if_eq (tgt := 43) dX11_tie_21 (by decide) (pc' := 24) rfl (fun h21 => ?_) (fun h21 => ?_)
    · replace h21 := f_b_0 h21
      exfalso
      exact h21 ⟨by omega, by omega, by omega⟩
    · replace h21 := f_b_1 h21
      refine ax_iload_n dX11_tie_24 rfl rfl (pc' := 25) rfl ?_
      refine ax_bipush dX11_tie_25 (by decide) (pc' := 27) rfl ?_
      refine ax_insG [.inl k, .inl 6] [] dX11_tie_27 mlX11_114 rfl rfl (Nat.le_of_ble_eq_true rfl) (s_X11_isIn E l _ (by omega) _ k 6) (pc' := 30) rfl (fun vv M_27 hq co27 hcm27 => ?_)
      obtain ⟨rfl, rfl⟩ := hq
      refine ax_reS (st2 := [.inl (f_b (0 ≤ k ∧ k < 6))]) rfl ?_
      refine ax_if_eq (tgt := 43) dX11_tie_30 (by decide) (pc' := 33) rfl (fun h30 => ?_) (fun h30 => ?_)
      · replace h30 := f_b_0 h30
        exfalso
        exact h30 ⟨by omega, by omega⟩
      · replace h30 := f_b_1 h30
        refine ax_iload dX11_tie_33 rfl (pc' := 35) rfl ?_
        refine ax_bipush dX11_tie_35 (by decide) (pc' := 37) rfl ?_
        refine ax_insG [.inl hand, .inl 10] [] dX11_tie_37 mlX11_114 rfl rfl (Nat.le_of_ble_eq_true rfl) (s_X11_isIn E l _ (by omega) _ hand 10) (pc' := 40) rfl (fun vv M_37 hq co37 hcm37 => ?_)
        obtain ⟨rfl, rfl⟩ := hq
        refine ax_reS (st2 := [.inl (f_b (0 ≤ hand ∧ hand < 10))]) rfl ?_
        refine ax_if_ne (tgt := 45) dX11_tie_40 (by decide) (pc' := 43) rfl (fun h40 => ?_) (fun h40 => ?_)
        · replace h40 := f_b_1 h40
          refine ax_aload_n dX11_tie_45 rfl rfl (pc' := 46) rfl ?_
          refine ax_invG [] [] dX11_tie_46 mlX11_147 sh_0 rfl rfl rfl (Nat.le_of_ble_eq_true rfl) (s_X11_keepPast E l _ (by omega) _ w bk m hg0 hg1.1.1 hg2) (pc' := 49) rfl (fun vv M_46 hq co46 hcm46 => ?_)
          obtain ⟨rfl, frM_46, fa46_0⟩ := hq
          refine ax_reS (st2 := []) rfl ?_
          refine ax_aload_n dX11_tie_49 rfl rfl (pc' := 50) rfl ?_
          refine ax_iload_n dX11_tie_50 rfl rfl (pc' := 51) rfl ?_
          refine ax_iload_n dX11_tie_51 rfl rfl (pc' := 52) rfl ?_
          refine ax_iload_n dX11_tie_52 rfl rfl (pc' := 53) rfl ?_
          refine ax_iload dX11_tie_53 rfl (pc' := 55) rfl ?_
          refine ax_invG [.inl r, .inl p, .inl k, .inl hand] [] dX11_tie_55 mlX11_150 sh_0 rfl rfl rfl (Nat.le_of_ble_eq_true rfl) (s_X11_tieByHand E l _ (by omega) _ r p k hand Ls w (f_nb_fr (M := M) (fun x0 i0 x1 x2 => ((frM_46 x0 i0 (by omega)).trans rfl)) hg0) hg1 hir ⟨by omega, by omega⟩ ⟨by omega, by omega⟩) (pc' := 58) rfl (fun vv M_55 hq co55 hcm55 => ?_)
          obtain ⟨rfl, frM_55, fa55_0⟩ := hq
          refine ax_reS (st2 := []) rfl ?_
          refine ax_iconst dX11_tie_58 (by decide) (pc' := 59) rfl ?_
          refine ax_zret dX11_tie_59 rfl (by decide) ?_
          refine ⟨rfl, ?_, ?_, ?_, ?_⟩
          · rfl
          · intro x0 i0 hai
            exact ((frM_55 x0 i0 (fun h => hai (Or.inl h))).trans ((frM_46 x0 i0 (fun h => h.elim (fun h => hai (Or.inr (Or.inl h))) (fun h => hai (Or.inr (Or.inr (Or.inl h)))))).trans rfl))
          · exact fa55_0
          · exact f_pr_w (fun i i1 i2 => f_ag_tie hgr ⟨by omega, by omega⟩ ⟨by omega, by omega⟩ hg1.1 i i1 (by omega)) (f_pr_fr (M := M_46) (fun x0 i0 x1 x2 => ((frM_55 x0 i0 (by omega)).trans rfl)) ((frM_55 0 12 (fun h => absurd h.1 (by decide))).trans rfl) fa46_0)
        · replace h40 := f_b_0 h40
          exfalso
          exact h40 ⟨by omega, by omega⟩
set_option maxRecDepth 20000 in
theorem s_X11_untie_no (E : ax_Env) (l : Launch) (d : Nat) (hd : 4 ≤ d) (M : ax_Mem) (r p : Int) (Ls : Int → List f_Ln) (w : Int → Int) (hg0 : f_nb M w) (hg1 : f_jv Ls w) (hg2 : ¬ (f_isP w r p ∧ f_P w r p 0 ≠ -1)) : ax_G E l d iX11_untie [.inr 0, .inl r, .inl p] M (fun z0 M2 => z0 = some (.inl (-1)) ∧ M = M2) := by
  obtain ⟨d, rfl⟩ : ∃ d0, d = d0 + 1 := ⟨d - 1, by omega⟩
  refine ax_start rfl (Nat.le_of_ble_eq_true rfl) (ls := [some (.inr 0), some (.inl r), some (.inl p), none, none]) rfl (fun hav hcm => ?_)
  have hc1 : -2147483648 ≤ r ∧ r < 2147483648 := hav (.inl r) (by simp)
  have hc2 : -2147483648 ≤ p ∧ p < 2147483648 := hav (.inl p) (by simp)
  clear hav
  have qlo := hg1.1.2.2.1
  have qlb := hg1.1.2.2.2.1
  refine ax_aload_n dX11_untie_0 rfl rfl (pc' := 1) rfl ?_
  refine ax_getr (v := 1) dX11_untie_1 flX11_10 rfl sh_0 rfl (pc' := 4) rfl ?_
  refine ax_iload_n dX11_untie_4 rfl rfl (pc' := 5) rfl ?_
  by_cases hir : f_isR w r
  · refine ax_invG [.inl r] [] dX11_untie_5 mlX11_139 sh_1 rfl rfl rfl (Nat.le_of_ble_eq_true rfl) (s_X9_ropeAt_ok E l _ (by omega) _ r w hg0.1 hg1.1.1 hir) (pc' := 8) rfl (fun vv M_5 hq co5 hcm5 => ?_)
    obtain ⟨rfl, rfl⟩ := hq
    refine ax_reS (st2 := [.inr (5 + 4 * r)]) rfl ?_
    have hgr : 0 ≤ r ∧ r < 8 := ⟨hir.1, by omega⟩
    have qrm := f_wm_rm hg0.1 hir
    have ql : M (5 + 4 * r) 1 = f_R w r 1 := qrm.1
    have qlr := (hg1.1.1 r hgr.1 hgr.2).2
    refine ax_astore_n dX11_untie_8 rfl (by decide) (ls' := [some (.inr 0), some (.inl r), some (.inl p), some (.inr (5 + 4 * r)), none]) rfl (pc' := 9) rfl ?_
    refine ax_aload_n dX11_untie_9 rfl rfl (pc' := 10) rfl ?_
    refine ax_ifnull (tgt := 21) dX11_untie_10 (by omega) (by decide) (pc' := 13) rfl (fun h10 => ?_) (fun h10 => ?_)
    · exfalso
      omega
    · refine ax_aload_n dX11_untie_13 rfl rfl (pc' := 14) rfl ?_
      refine ax_iload_n dX11_untie_14 rfl rfl (pc' := 15) rfl ?_
      refine ax_invG [.inl p] [] dX11_untie_15 mlX11_154 (f_rp_now ⟨by omega, by omega⟩).1 rfl rfl rfl (Nat.le_of_ble_eq_true rfl) (s_X7_isTied E l _ (by omega) _ (5 + 4 * r) p w r (f_rp_now hgr) qrm hg1.1 hgr) (pc' := 18) rfl (fun vv M_15 hq co15 hcm15 => ?_)
      obtain ⟨rfl, rfl⟩ := hq
      refine ax_reS (st2 := [.inl (f_b (0 ≤ p ∧ p < f_R w r 1 ∧ f_P w r p 0 ≠ -1))]) rfl ?_
      refine ax_if_ne (tgt := 23) dX11_untie_18 (by decide) (pc' := 21) rfl (fun h18 => ?_) (fun h18 => ?_)
      · replace h18 := f_b_1 h18
        exfalso
        exact hg2 ⟨⟨hir, by omega, by omega⟩, by omega⟩
      · replace h18 := f_b_0 h18
        refine ax_iconst dX11_untie_21 (by decide) (pc' := 22) rfl ?_
        refine ax_iret dX11_untie_22 rfl ?_
        refine ⟨rfl, ?_, ?_⟩
        · rfl
        · rfl
  · refine ax_invG [.inl r] [] dX11_untie_5 mlX11_139 sh_1 rfl rfl rfl (Nat.le_of_ble_eq_true rfl) (s_X9_ropeAt_no E l _ (by omega) _ r w hg0.1 hg1.1.1 hir) (pc' := 8) rfl (fun vv M_5 hq co5 hcm5 => ?_)
    obtain ⟨rfl, rfl⟩ := hq
    refine ax_reS (st2 := [.inr (-1)]) rfl ?_
    refine ax_astore_n dX11_untie_8 rfl (by decide) (ls' := [some (.inr 0), some (.inl r), some (.inl p), some (.inr (-1)), none]) rfl (pc' := 9) rfl ?_
    refine ax_aload_n dX11_untie_9 rfl rfl (pc' := 10) rfl ?_
    refine ax_ifnull (tgt := 21) dX11_untie_10 (by decide) (by decide) (pc' := 13) rfl (fun h10 => ?_) (fun h10 => ?_)
    · refine ax_iconst dX11_untie_21 (by decide) (pc' := 22) rfl ?_
      refine ax_iret dX11_untie_22 rfl ?_
      refine ⟨rfl, ?_, ?_⟩
      · rfl
      · rfl
    · exfalso
      omega
set_option maxRecDepth 20000 in
theorem s_X11_untie_ok (E : ax_Env) (l : Launch) (d : Nat) (hd : 4 ≤ d) (M : ax_Mem) (r p : Int) (Ls : Int → List f_Ln) (w bk : Int → Int) (m : Int) (hg0 : f_nb M w) (hg1 : f_jv Ls w) (hg2 : f_pr M bk m w) (hg3 : f_isP w r p ∧ f_P w r p 0 ≠ -1) : ax_G E l d iX11_untie [.inr 0, .inl r, .inl p] M (fun z0 M2 => z0 = some (.inl (f_P w r p 0)) ∧ (∀ x0 i0 : Int, ¬ ((1 ≤ x0 ∧ x0 < 39) ∨ (92 ≤ x0 ∧ x0 < 273) ∨ (x0 = 0 ∧ i0 = 12) ∨ x0 = 72 ∨ x0 = 73 ∨ x0 = 76 ∨ x0 = 77 ∨ (x0 = 75 ∧ i0 = 3) ∨ (x0 = 75 ∧ i0 = 4)) → M2 x0 i0 = M x0 i0) ∧ (f_nb M2 (f_sP w r p 0 (-1))) ∧ (f_pr M2 (f_keep bk w m) (f_keepN m) (f_sP w r p 0 (-1)))) := by
  obtain ⟨d, rfl⟩ : ∃ d0, d = d0 + 1 := ⟨d - 1, by omega⟩
  refine ax_start rfl (Nat.le_of_ble_eq_true rfl) (ls := [some (.inr 0), some (.inl r), some (.inl p), none, none]) rfl (fun hav hcm => ?_)
  have hc1 : -2147483648 ≤ r ∧ r < 2147483648 := hav (.inl r) (by simp)
  have hc2 : -2147483648 ≤ p ∧ p < 2147483648 := hav (.inl p) (by simp)
  clear hav
  have qlo := hg1.1.2.2.1
  have qlb := hg1.1.2.2.2.1
  have hir := hg3.1.1
  have hgr : 0 ≤ r ∧ r < 8 := ⟨hir.1, by omega⟩
  have qrm := f_wm_rm hg0.1 hir
  have ql : M (5 + 4 * r) 1 = f_R w r 1 := qrm.1
  have qlr := (hg1.1.1 r hgr.1 hgr.2).2
  have qd3 := hg3.1.2
  have qon : f_onl r w (f_sP w r p 0 (-1)) := f_onl_sP ⟨by omega, by omega⟩ (by omega)
  have qtp := (qrm.2.2.2.2 p (by omega) (by omega)).1
  refine ax_aload_n dX11_untie_0 rfl rfl (pc' := 1) rfl ?_
  refine ax_getr (v := 1) dX11_untie_1 flX11_10 rfl sh_0 rfl (pc' := 4) rfl ?_
  refine ax_iload_n dX11_untie_4 rfl rfl (pc' := 5) rfl ?_
  refine ax_invG [.inl r] [] dX11_untie_5 mlX11_139 sh_1 rfl rfl rfl (Nat.le_of_ble_eq_true rfl) (s_X9_ropeAt_ok E l _ (by omega) _ r w hg0.1 hg1.1.1 hir) (pc' := 8) rfl (fun vv M_5 hq co5 hcm5 => ?_)
  obtain ⟨rfl, rfl⟩ := hq
  refine ax_reS (st2 := [.inr (5 + 4 * r)]) rfl ?_
  refine ax_astore_n dX11_untie_8 rfl (by decide) (ls' := [some (.inr 0), some (.inl r), some (.inl p), some (.inr (5 + 4 * r)), none]) rfl (pc' := 9) rfl ?_
  refine ax_aload_n dX11_untie_9 rfl rfl (pc' := 10) rfl ?_
  refine ax_ifnull (tgt := 21) dX11_untie_10 (by omega) (by decide) (pc' := 13) rfl (fun h10 => ?_) (fun h10 => ?_)
  · exfalso
    omega
  · refine ax_aload_n dX11_untie_13 rfl rfl (pc' := 14) rfl ?_
    refine ax_iload_n dX11_untie_14 rfl rfl (pc' := 15) rfl ?_
    refine ax_invG [.inl p] [] dX11_untie_15 mlX11_154 (f_rp_now ⟨by omega, by omega⟩).1 rfl rfl rfl (Nat.le_of_ble_eq_true rfl) (s_X7_isTied E l _ (by omega) _ (5 + 4 * r) p w r (f_rp_now hgr) qrm hg1.1 hgr) (pc' := 18) rfl (fun vv M_15 hq co15 hcm15 => ?_)
    obtain ⟨rfl, rfl⟩ := hq
    refine ax_reS (st2 := [.inl (f_b (0 ≤ p ∧ p < f_R w r 1 ∧ f_P w r p 0 ≠ -1))]) rfl ?_
    refine ax_if_ne (tgt := 23) dX11_untie_18 (by decide) (pc' := 21) rfl (fun h18 => ?_) (fun h18 => ?_)
    · replace h18 := f_b_1 h18
      refine ax_aload_n dX11_untie_23 rfl rfl (pc' := 24) rfl ?_
      refine ax_invG [] [] dX11_untie_24 mlX11_147 sh_0 rfl rfl rfl (Nat.le_of_ble_eq_true rfl) (s_X11_keepPast E l _ (by omega) _ w bk m hg0 hg1.1.1 hg2) (pc' := 27) rfl (fun vv M_24 hq co24 hcm24 => ?_)
      obtain ⟨rfl, frM_24, fa24_0⟩ := hq
      refine ax_reS (st2 := []) rfl ?_
      refine ax_aload_n dX11_untie_27 rfl rfl (pc' := 28) rfl ?_
      refine ax_getr (v := 5 + 4 * r + 1) dX11_untie_28 flX11_157 rfl (f_rp_now ⟨by omega, by omega⟩).1 rfl (pc' := 31) rfl ?_
      refine ax_iload_n dX11_untie_31 rfl rfl (pc' := 32) rfl ?_
      refine ax_iald (v := (M (5 + 4 * r + 1)) p) dX11_untie_32 (f_rp_now ⟨by omega, by omega⟩).2.1 rfl (by omega) (by omega) ((congrFun ((funext fun i0 => frM_24 (5 + 4 * r + 1) i0 (by omega)).trans rfl) p).trans rfl) (pc' := 33) rfl ?_
      refine ax_istore dX11_untie_33 (by decide) (ls' := [some (.inr 0), some (.inl r), some (.inl p), some (.inr (5 + 4 * r)), some (.inl ((M (5 + 4 * r + 1)) p))]) rfl (pc' := 35) rfl ?_
      refine ax_aload_n dX11_untie_35 rfl rfl (pc' := 36) rfl ?_
      refine ax_getr (v := 5 + 4 * r + 1) dX11_untie_36 flX11_157 rfl (f_rp_now ⟨by omega, by omega⟩).1 rfl (pc' := 39) rfl ?_
      refine ax_iload_n dX11_untie_39 rfl rfl (pc' := 40) rfl ?_
      refine ax_iconst dX11_untie_40 (by decide) (pc' := 41) rfl ?_
      refine ax_iast dX11_untie_41 (f_rp_now ⟨by omega, by omega⟩).2.1 rfl (by omega) (by omega) (pc' := 42) rfl ?_
      refine ax_iload dX11_untie_42 rfl (pc' := 44) rfl ?_
      refine ax_iret dX11_untie_44 rfl ?_
      refine ⟨rfl, ?_, ?_, ?_, ?_⟩
      · refine congrArg (fun z => some (Sum.inl z)) ?_
        exact qtp
      · intro x0 i0 hai
        exact (ax_up_miss (by omega) ((frM_24 x0 i0 (fun h => h.elim (fun h => hai (Or.inr (Or.inl h))) (fun h => hai (Or.inr (Or.inr (Or.inl h)))))).trans rfl))
      · refine f_nb_onl hgr hg1.1 hg0 qon (fun x0 i0 x1 x2 x3 => (ax_up_miss (by omega) ((frM_24 x0 i0 (by omega)).trans rfl))) (Eq.trans (ax_up_miss (by omega) ((frM_24 (5 + 4 * r) 0 (by omega)).trans rfl)) ((f_wm_th hg0.1 hgr).trans (f_R_sP ⟨hgr.1, hgr.2, by omega, by omega, by decide, by decide⟩ ⟨hgr.1, hgr.2, by decide, by decide⟩).symm)) (fun _ => ?_)
        refine f_rr_eq (show (ax_up M_24 (5 + 4 * r + 1) p (-1)) (5 + 4 * r) 1 = M (5 + 4 * r) 1 from (ax_up_miss (by omega) ((frM_24 (5 + 4 * r) 1 (by omega)).trans rfl))) (show (ax_up M_24 (5 + 4 * r + 1) p (-1)) (5 + 4 * r) 2 = M (5 + 4 * r) 2 from (ax_up_miss (by omega) ((frM_24 (5 + 4 * r) 2 (by omega)).trans rfl))) (show (ax_up M_24 (5 + 4 * r + 1) p (-1)) (5 + 4 * r) 3 = M (5 + 4 * r) 3 from (ax_up_miss (by omega) ((frM_24 (5 + 4 * r) 3 (by omega)).trans rfl))) (show (ax_up M_24 (5 + 4 * r + 1) p (-1)) (5 + 4 * r) 4 = M (5 + 4 * r) 4 from (ax_up_miss (by omega) ((frM_24 (5 + 4 * r) 4 (by omega)).trans rfl))) (show (ax_up M_24 (5 + 4 * r + 1) p (-1)) (5 + 4 * r + 1) = f_up (M (5 + 4 * r + 1)) p (-1) from (ax_up_rowhit ((funext fun i0 => frM_24 (5 + 4 * r + 1) i0 (by omega)).trans rfl))) (show (ax_up M_24 (5 + 4 * r + 1) p (-1)) (5 + 4 * r + 2) = M (5 + 4 * r + 2) from (ax_up_rowmiss (by omega) ((funext fun i0 => frM_24 (5 + 4 * r + 2) i0 (by omega)).trans rfl))) (show (ax_up M_24 (5 + 4 * r + 1) p (-1)) (5 + 4 * r + 3) = M (5 + 4 * r + 3) from (ax_up_rowmiss (by omega) ((funext fun i0 => frM_24 (5 + 4 * r + 3) i0 (by omega)).trans rfl))) ?_
        exact f_rr_sP0 hgr ⟨by omega, by omega⟩ (by omega) (fun x hx => f_up_o hx) (f_up_same _ _ _) qrm
      · exact f_pr_w (fun i i1 i2 => qon i (by omega)) (f_pr_fr (M := M_24) (fun x0 i0 x1 x2 => (ax_up_miss (by omega) rfl)) (ax_up_miss (by omega) rfl) fa24_0)
    · replace h18 := f_b_0 h18
      exfalso
      exact h18 ⟨by omega, by omega, hg3.2⟩
set_option maxRecDepth 20000 in
theorem s_X11_pull_no (E : ax_Env) (l : Launch) (d : Nat) (hd : 5 ≤ d) (M : ax_Mem) (r f : Int) (Ls : Int → List f_Ln) (w : Int → Int) (hg0 : f_nb M w) (hg1 : f_jv Ls w) (hg2 : ¬ (f_isR w r ∧ 0 ≤ f ∧ f ≤ 99)) : ax_G E l d iX11_pull [.inr 0, .inl r, .inl f] M (fun z0 M2 => z0 = some (.inl (-1)) ∧ M = M2) := by
  obtain ⟨d, rfl⟩ : ∃ d0, d = d0 + 1 := ⟨d - 1, by omega⟩
  refine ax_start rfl (Nat.le_of_ble_eq_true rfl) (ls := [some (.inr 0), some (.inl r), some (.inl f), none]) rfl (fun hav hcm => ?_)
  have hc1 : -2147483648 ≤ r ∧ r < 2147483648 := hav (.inl r) (by simp)
  have hc2 : -2147483648 ≤ f ∧ f < 2147483648 := hav (.inl f) (by simp)
  clear hav
  have qlo := hg1.1.2.2.1
  have qlb := hg1.1.2.2.2.1
  refine ax_aload_n dX11_pull_0 rfl rfl (pc' := 1) rfl ?_
  refine ax_getr (v := 1) dX11_pull_1 flX11_10 rfl sh_0 rfl (pc' := 4) rfl ?_
  refine ax_iload_n dX11_pull_4 rfl rfl (pc' := 5) rfl ?_
  by_cases hir : f_isR w r
  · refine ax_invG [.inl r] [] dX11_pull_5 mlX11_139 sh_1 rfl rfl rfl (Nat.le_of_ble_eq_true rfl) (s_X9_ropeAt_ok E l _ (by omega) _ r w hg0.1 hg1.1.1 hir) (pc' := 8) rfl (fun vv M_5 hq co5 hcm5 => ?_)
    obtain ⟨rfl, rfl⟩ := hq
    refine ax_reS (st2 := [.inr (5 + 4 * r)]) rfl ?_
    have hgr : 0 ≤ r ∧ r < 8 := ⟨hir.1, by omega⟩
    have qrm := f_wm_rm hg0.1 hir
    have ql : M (5 + 4 * r) 1 = f_R w r 1 := qrm.1
    have qlr := (hg1.1.1 r hgr.1 hgr.2).2
    refine ax_astore_n dX11_pull_8 rfl (by decide) (ls' := [some (.inr 0), some (.inl r), some (.inl f), some (.inr (5 + 4 * r))]) rfl (pc' := 9) rfl ?_
    refine ax_aload_n dX11_pull_9 rfl rfl (pc' := 10) rfl ?_
    refine ax_ifnull (tgt := 22) dX11_pull_10 (by omega) (by decide) (pc' := 13) rfl (fun h10 => ?_) (fun h10 => ?_)
    · exfalso
      omega
    · refine ax_iload_n dX11_pull_13 rfl rfl (pc' := 14) rfl ?_
      refine ax_bipush dX11_pull_14 (by decide) (pc' := 16) rfl ?_
      refine ax_insG [.inl f, .inl 100] [] dX11_pull_16 mlX11_114 rfl rfl (Nat.le_of_ble_eq_true rfl) (s_X11_isIn E l _ (by omega) _ f 100) (pc' := 19) rfl (fun vv M_16 hq co16 hcm16 => ?_)
      obtain ⟨rfl, rfl⟩ := hq
      refine ax_reS (st2 := [.inl (f_b (0 ≤ f ∧ f < 100))]) rfl ?_
      refine ax_if_ne (tgt := 24) dX11_pull_19 (by decide) (pc' := 22) rfl (fun h19 => ?_) (fun h19 => ?_)
      · replace h19 := f_b_1 h19
        exfalso
        exact hg2 ⟨hir, by omega, by omega⟩
      · replace h19 := f_b_0 h19
        refine ax_iconst dX11_pull_22 (by decide) (pc' := 23) rfl ?_
        refine ax_iret dX11_pull_23 rfl ?_
        refine ⟨rfl, ?_, ?_⟩
        · rfl
        · rfl
  · refine ax_invG [.inl r] [] dX11_pull_5 mlX11_139 sh_1 rfl rfl rfl (Nat.le_of_ble_eq_true rfl) (s_X9_ropeAt_no E l _ (by omega) _ r w hg0.1 hg1.1.1 hir) (pc' := 8) rfl (fun vv M_5 hq co5 hcm5 => ?_)
    obtain ⟨rfl, rfl⟩ := hq
    refine ax_reS (st2 := [.inr (-1)]) rfl ?_
    refine ax_astore_n dX11_pull_8 rfl (by decide) (ls' := [some (.inr 0), some (.inl r), some (.inl f), some (.inr (-1))]) rfl (pc' := 9) rfl ?_
    refine ax_aload_n dX11_pull_9 rfl rfl (pc' := 10) rfl ?_
    refine ax_ifnull (tgt := 22) dX11_pull_10 (by decide) (by decide) (pc' := 13) rfl (fun h10 => ?_) (fun h10 => ?_)
    · refine ax_iconst dX11_pull_22 (by decide) (pc' := 23) rfl ?_
      refine ax_iret dX11_pull_23 rfl ?_
      refine ⟨rfl, ?_, ?_⟩
      · rfl
      · rfl
    · exfalso
      omega
set_option maxRecDepth 20000 in
theorem s_X11_pull_ok (E : ax_Env) (l : Launch) (d : Nat) (hd : 5 ≤ d) (M : ax_Mem) (r f : Int) (Ls : Int → List f_Ln) (w bk : Int → Int) (m : Int) (hg0 : f_nb M w) (hg1 : f_jv Ls w) (hg2 : f_pr M bk m w) (hg3 : f_isR w r ∧ 0 ≤ f ∧ f ≤ 99) (hg4 : f_lrn M 52 Ls) : ax_G E l d iX11_pull [.inr 0, .inl r, .inl f] M (fun z0 M2 => z0 = some (.inl ((f_stch Ls w r f).2.1)) ∧ (∀ x0 i0 : Int, ¬ ((1 ≤ x0 ∧ x0 < 39) ∨ (92 ≤ x0 ∧ x0 < 273) ∨ (x0 = 0 ∧ i0 = 12) ∨ x0 = 72 ∨ x0 = 73 ∨ x0 = 76 ∨ x0 = 77 ∨ (x0 = 75 ∧ i0 = 3) ∨ (x0 = 75 ∧ i0 = 4)) → M2 x0 i0 = M x0 i0) ∧ (f_nb M2 (f_puls Ls w r f)) ∧ (f_pr M2 (f_keep bk w m) (f_keepN m) (f_puls Ls w r f))) := by
  obtain ⟨d, rfl⟩ : ∃ d0, d = d0 + 1 := ⟨d - 1, by omega⟩
  refine ax_start rfl (Nat.le_of_ble_eq_true rfl) (ls := [some (.inr 0), some (.inl r), some (.inl f), none]) rfl (fun hav hcm => ?_)
  have hc1 : -2147483648 ≤ r ∧ r < 2147483648 := hav (.inl r) (by simp)
  have hc2 : -2147483648 ≤ f ∧ f < 2147483648 := hav (.inl f) (by simp)
  clear hav
  have qlo := hg1.1.2.2.1
  have qlb := hg1.1.2.2.2.1
  have hir := hg3.1
  have hgr : 0 ≤ r ∧ r < 8 := ⟨hir.1, by omega⟩
  have qrm := f_wm_rm hg0.1 hir
  have ql : M (5 + 4 * r) 1 = f_R w r 1 := qrm.1
  have qlr := (hg1.1.1 r hgr.1 hgr.2).2
  refine ax_aload_n dX11_pull_0 rfl rfl (pc' := 1) rfl ?_
  refine ax_getr (v := 1) dX11_pull_1 flX11_10 rfl sh_0 rfl (pc' := 4) rfl ?_
  refine ax_iload_n dX11_pull_4 rfl rfl (pc' := 5) rfl ?_
  refine ax_invG [.inl r] [] dX11_pull_5 mlX11_139 sh_1 rfl rfl rfl (Nat.le_of_ble_eq_true rfl) (s_X9_ropeAt_ok E l _ (by omega) _ r w hg0.1 hg1.1.1 hir) (pc' := 8) rfl (fun vv M_5 hq co5 hcm5 => ?_)
  obtain ⟨rfl, rfl⟩ := hq
  refine ax_reS (st2 := [.inr (5 + 4 * r)]) rfl ?_
  refine ax_astore_n dX11_pull_8 rfl (by decide) (ls' := [some (.inr 0), some (.inl r), some (.inl f), some (.inr (5 + 4 * r))]) rfl (pc' := 9) rfl ?_
  refine ax_aload_n dX11_pull_9 rfl rfl (pc' := 10) rfl ?_
  refine ax_ifnull (tgt := 22) dX11_pull_10 (by omega) (by decide) (pc' := 13) rfl (fun h10 => ?_) (fun h10 => ?_)
  · exfalso
    omega
  · refine ax_iload_n dX11_pull_13 rfl rfl (pc' := 14) rfl ?_
    refine ax_bipush dX11_pull_14 (by decide) (pc' := 16) rfl ?_
    refine ax_insG [.inl f, .inl 100] [] dX11_pull_16 mlX11_114 rfl rfl (Nat.le_of_ble_eq_true rfl) (s_X11_isIn E l _ (by omega) _ f 100) (pc' := 19) rfl (fun vv M_16 hq co16 hcm16 => ?_)
    obtain ⟨rfl, rfl⟩ := hq
    refine ax_reS (st2 := [.inl (f_b (0 ≤ f ∧ f < 100))]) rfl ?_
    refine ax_if_ne (tgt := 24) dX11_pull_19 (by decide) (pc' := 22) rfl (fun h19 => ?_) (fun h19 => ?_)
    · replace h19 := f_b_1 h19
      refine ax_aload_n dX11_pull_24 rfl rfl (pc' := 25) rfl ?_
      refine ax_invG [] [] dX11_pull_25 mlX11_147 sh_0 rfl rfl rfl (Nat.le_of_ble_eq_true rfl) (s_X11_keepPast E l _ (by omega) _ w bk m hg0 hg1.1.1 hg2) (pc' := 28) rfl (fun vv M_25 hq co25 hcm25 => ?_)
      obtain ⟨rfl, frM_25, fa25_0⟩ := hq
      refine ax_reS (st2 := []) rfl ?_
      refine ax_aload_n dX11_pull_28 rfl rfl (pc' := 29) rfl ?_
      refine ax_iload_n dX11_pull_29 rfl rfl (pc' := 30) rfl ?_
      refine ax_iload_n dX11_pull_30 rfl rfl (pc' := 31) rfl ?_
      refine ax_invG [.inl r, .inl f] [] dX11_pull_31 mlX11_160 sh_0 rfl rfl rfl (Nat.le_of_ble_eq_true rfl) (s_X11_pullNow E l _ (by omega) _ r f Ls w (f_nb_fr (M := M) (fun x0 i0 x1 x2 => ((frM_25 x0 i0 (by omega)).trans rfl)) hg0) hg1 hir (f_lrn_fr (M := M) (fun x0 i0 hx => ((frM_25 x0 i0 (by omega)).trans rfl)) hg4)) (pc' := 34) rfl (fun vv M_31 hq co31 hcm31 => ?_)
      obtain ⟨rfl, frM_31, fa31_0, fa31_1⟩ := hq
      refine ax_reS (st2 := [.inl (f_b (f_brk Ls (f_stch Ls w r f).1 r f ≠ -1))]) rfl ?_
      refine ax_pop dX11_pull_34 (pc' := 35) rfl ?_
      refine ax_aload_n dX11_pull_35 rfl rfl (pc' := 36) rfl ?_
      refine ax_getr (v := 75) dX11_pull_36 flX11_65 rfl sh_0 rfl (pc' := 39) rfl ?_
      refine ax_geti (v := M_31 75 3) dX11_pull_39 flX11_163 rfl sh_75 rfl rfl (pc' := 42) rfl ?_
      refine ax_iret dX11_pull_42 rfl ?_
      refine ⟨rfl, ?_, ?_, ?_, ?_⟩
      · refine congrArg (fun z => some (Sum.inl z)) ?_
        exact fa31_1
      · intro x0 i0 hai
        exact ((frM_31 x0 i0 (fun h => h.elim (fun h => hai (Or.inl h)) (fun h => h.elim (fun h => hai (Or.inr (Or.inr (Or.inr (Or.inl h))))) (fun h => h.elim (fun h => hai (Or.inr (Or.inr (Or.inr (Or.inr (Or.inl h)))))) (fun h => h.elim (fun h => hai (Or.inr (Or.inr (Or.inr (Or.inr (Or.inr (Or.inl h))))))) (fun h => h.elim (fun h => hai (Or.inr (Or.inr (Or.inr (Or.inr (Or.inr (Or.inr (Or.inl h)))))))) (fun h => h.elim (fun h => hai (Or.inr (Or.inr (Or.inr (Or.inr (Or.inr (Or.inr (Or.inr (Or.inl h))))))))) (fun h => hai (Or.inr (Or.inr (Or.inr (Or.inr (Or.inr (Or.inr (Or.inr (Or.inr h)))))))))))))))).trans ((frM_25 x0 i0 (fun h => h.elim (fun h => hai (Or.inr (Or.inl h))) (fun h => hai (Or.inr (Or.inr (Or.inl h)))))).trans rfl))
      · exact fa31_0
      · exact f_pr_w (fun i i1 i2 => (f_puls_ok hgr (by have := (hg1.2.1 r hgr.1 hgr.2).2 hir.2.2; omega) hg1).1.2 i (by omega) (by omega)) (f_pr_fr (M := M_25) (fun x0 i0 x1 x2 => ((frM_31 x0 i0 (by omega)).trans rfl)) ((frM_31 0 12 (fun h => h.elim (fun h => absurd h.1 (by decide)) (fun h => h.elim (fun h => absurd h (by decide)) (fun h => h.elim (fun h => absurd h (by decide)) (fun h => h.elim (fun h => absurd h (by decide)) (fun h => h.elim (fun h => absurd h (by decide)) (fun h => h.elim (fun h => absurd h.1 (by decide)) (fun h => absurd h.1 (by decide))))))))).trans rfl) fa25_0)
    · replace h19 := f_b_0 h19
      exfalso
      exact h19 ⟨by omega, by omega⟩
set_option maxRecDepth 20000 in
theorem s_X11_wet_no (E : ax_Env) (l : Launch) (d : Nat) (hd : 4 ≤ d) (M : ax_Mem) (r v : Int) (Ls : Int → List f_Ln) (w : Int → Int) (hg0 : f_nb M w) (hg1 : f_jv Ls w) (hg2 : ¬ (f_isR w r ∧ 0 ≤ v ∧ v ≤ 9)) : ax_G E l d iX11_wet [.inr 0, .inl r, .inl v] M (fun z0 M2 => z0 = some (.inl 0) ∧ M = M2) := by
  obtain ⟨d, rfl⟩ : ∃ d0, d = d0 + 1 := ⟨d - 1, by omega⟩
  refine ax_start rfl (Nat.le_of_ble_eq_true rfl) (ls := [some (.inr 0), some (.inl r), some (.inl v), none]) rfl (fun hav hcm => ?_)
  have hc1 : -2147483648 ≤ r ∧ r < 2147483648 := hav (.inl r) (by simp)
  have hc2 : -2147483648 ≤ v ∧ v < 2147483648 := hav (.inl v) (by simp)
  clear hav
  have qlo := hg1.1.2.2.1
  have qlb := hg1.1.2.2.2.1
  refine ax_aload_n dX11_wet_0 rfl rfl (pc' := 1) rfl ?_
  refine ax_getr (v := 1) dX11_wet_1 flX11_10 rfl sh_0 rfl (pc' := 4) rfl ?_
  refine ax_iload_n dX11_wet_4 rfl rfl (pc' := 5) rfl ?_
  by_cases hir : f_isR w r
  · refine ax_invG [.inl r] [] dX11_wet_5 mlX11_139 sh_1 rfl rfl rfl (Nat.le_of_ble_eq_true rfl) (s_X9_ropeAt_ok E l _ (by omega) _ r w hg0.1 hg1.1.1 hir) (pc' := 8) rfl (fun vv M_5 hq co5 hcm5 => ?_)
    obtain ⟨rfl, rfl⟩ := hq
    refine ax_reS (st2 := [.inr (5 + 4 * r)]) rfl ?_
    have hgr : 0 ≤ r ∧ r < 8 := ⟨hir.1, by omega⟩
    have qrm := f_wm_rm hg0.1 hir
    have ql : M (5 + 4 * r) 1 = f_R w r 1 := qrm.1
    have qlr := (hg1.1.1 r hgr.1 hgr.2).2
    refine ax_astore_n dX11_wet_8 rfl (by decide) (ls' := [some (.inr 0), some (.inl r), some (.inl v), some (.inr (5 + 4 * r))]) rfl (pc' := 9) rfl ?_
    refine ax_aload_n dX11_wet_9 rfl rfl (pc' := 10) rfl ?_
    refine ax_ifnull (tgt := 23) dX11_wet_10 (by omega) (by decide) (pc' := 13) rfl (fun h10 => ?_) (fun h10 => ?_)
    · exfalso
      omega
    · refine ax_iload_n dX11_wet_13 rfl rfl (pc' := 14) rfl ?_
      refine ax_if_lt (tgt := 23) dX11_wet_14 (by decide) (pc' := 17) rfl (fun h14 => ?_) (fun h14 => ?_)
      · refine ax_iconst dX11_wet_23 (by decide) (pc' := 24) rfl ?_
        refine ax_zret dX11_wet_24 rfl (by decide) ?_
        refine ⟨rfl, ?_, ?_⟩
        · rfl
        · rfl
      · refine ax_iload_n dX11_wet_17 rfl rfl (pc' := 18) rfl ?_
        refine ax_bipush dX11_wet_18 (by decide) (pc' := 20) rfl ?_
        refine ax_icmp_le (tgt := 25) dX11_wet_20 (by decide) (pc' := 23) rfl (fun h20 => ?_) (fun h20 => ?_)
        · exfalso
          exact hg2 ⟨hir, by omega, by omega⟩
        · refine ax_iconst dX11_wet_23 (by decide) (pc' := 24) rfl ?_
          refine ax_zret dX11_wet_24 rfl (by decide) ?_
          refine ⟨rfl, ?_, ?_⟩
          · rfl
          · rfl
  · refine ax_invG [.inl r] [] dX11_wet_5 mlX11_139 sh_1 rfl rfl rfl (Nat.le_of_ble_eq_true rfl) (s_X9_ropeAt_no E l _ (by omega) _ r w hg0.1 hg1.1.1 hir) (pc' := 8) rfl (fun vv M_5 hq co5 hcm5 => ?_)
    obtain ⟨rfl, rfl⟩ := hq
    refine ax_reS (st2 := [.inr (-1)]) rfl ?_
    refine ax_astore_n dX11_wet_8 rfl (by decide) (ls' := [some (.inr 0), some (.inl r), some (.inl v), some (.inr (-1))]) rfl (pc' := 9) rfl ?_
    refine ax_aload_n dX11_wet_9 rfl rfl (pc' := 10) rfl ?_
    refine ax_ifnull (tgt := 23) dX11_wet_10 (by decide) (by decide) (pc' := 13) rfl (fun h10 => ?_) (fun h10 => ?_)
    · refine ax_iconst dX11_wet_23 (by decide) (pc' := 24) rfl ?_
      refine ax_zret dX11_wet_24 rfl (by decide) ?_
      refine ⟨rfl, ?_, ?_⟩
      · rfl
      · rfl
    · exfalso
      omega
set_option maxRecDepth 20000 in
theorem s_X11_wet_ok (E : ax_Env) (l : Launch) (d : Nat) (hd : 4 ≤ d) (M : ax_Mem) (r v : Int) (Ls : Int → List f_Ln) (w bk : Int → Int) (m : Int) (hg0 : f_nb M w) (hg1 : f_jv Ls w) (hg2 : f_pr M bk m w) (hg3 : f_isR w r ∧ 0 ≤ v ∧ v ≤ 9) : ax_G E l d iX11_wet [.inr 0, .inl r, .inl v] M (fun z0 M2 => z0 = some (.inl 1) ∧ (∀ x0 i0 : Int, ¬ ((1 ≤ x0 ∧ x0 < 39) ∨ (92 ≤ x0 ∧ x0 < 273) ∨ (x0 = 0 ∧ i0 = 12) ∨ x0 = 72 ∨ x0 = 73 ∨ x0 = 76 ∨ x0 = 77 ∨ (x0 = 75 ∧ i0 = 3) ∨ (x0 = 75 ∧ i0 = 4)) → M2 x0 i0 = M x0 i0) ∧ (f_nb M2 (f_wets w r v)) ∧ (f_pr M2 (f_keep bk w m) (f_keepN m) (f_wets w r v))) := by
  obtain ⟨d, rfl⟩ : ∃ d0, d = d0 + 1 := ⟨d - 1, by omega⟩
  refine ax_start rfl (Nat.le_of_ble_eq_true rfl) (ls := [some (.inr 0), some (.inl r), some (.inl v), none]) rfl (fun hav hcm => ?_)
  have hc1 : -2147483648 ≤ r ∧ r < 2147483648 := hav (.inl r) (by simp)
  have hc2 : -2147483648 ≤ v ∧ v < 2147483648 := hav (.inl v) (by simp)
  clear hav
  have qlo := hg1.1.2.2.1
  have qlb := hg1.1.2.2.2.1
  have hir := hg3.1
  have hgr : 0 ≤ r ∧ r < 8 := ⟨hir.1, by omega⟩
  have qrm := f_wm_rm hg0.1 hir
  have ql : M (5 + 4 * r) 1 = f_R w r 1 := qrm.1
  have qlr := (hg1.1.1 r hgr.1 hgr.2).2
  have qon : f_onl r w (f_wets w r v) := f_onl_wets (by omega)
  have qd := hg0.1.1.1
  have qR0 : f_R (f_wets w r v) r 0 = f_R w r 0 := f_wets_0 hgr (by omega)
  refine ax_aload_n dX11_wet_0 rfl rfl (pc' := 1) rfl ?_
  refine ax_getr (v := 1) dX11_wet_1 flX11_10 rfl sh_0 rfl (pc' := 4) rfl ?_
  refine ax_iload_n dX11_wet_4 rfl rfl (pc' := 5) rfl ?_
  refine ax_invG [.inl r] [] dX11_wet_5 mlX11_139 sh_1 rfl rfl rfl (Nat.le_of_ble_eq_true rfl) (s_X9_ropeAt_ok E l _ (by omega) _ r w hg0.1 hg1.1.1 hir) (pc' := 8) rfl (fun vv M_5 hq co5 hcm5 => ?_)
  obtain ⟨rfl, rfl⟩ := hq
  refine ax_reS (st2 := [.inr (5 + 4 * r)]) rfl ?_
  refine ax_astore_n dX11_wet_8 rfl (by decide) (ls' := [some (.inr 0), some (.inl r), some (.inl v), some (.inr (5 + 4 * r))]) rfl (pc' := 9) rfl ?_
  refine ax_aload_n dX11_wet_9 rfl rfl (pc' := 10) rfl ?_
  refine ax_ifnull (tgt := 23) dX11_wet_10 (by omega) (by decide) (pc' := 13) rfl (fun h10 => ?_) (fun h10 => ?_)
  · exfalso
    omega
  · refine ax_iload_n dX11_wet_13 rfl rfl (pc' := 14) rfl ?_
    refine ax_if_lt (tgt := 23) dX11_wet_14 (by decide) (pc' := 17) rfl (fun h14 => ?_) (fun h14 => ?_)
    · exfalso
      omega
    · refine ax_iload_n dX11_wet_17 rfl rfl (pc' := 18) rfl ?_
      refine ax_bipush dX11_wet_18 (by decide) (pc' := 20) rfl ?_
      refine ax_icmp_le (tgt := 25) dX11_wet_20 (by decide) (pc' := 23) rfl (fun h20 => ?_) (fun h20 => ?_)
      · refine ax_aload_n dX11_wet_25 rfl rfl (pc' := 26) rfl ?_
        refine ax_invG [] [] dX11_wet_26 mlX11_147 sh_0 rfl rfl rfl (Nat.le_of_ble_eq_true rfl) (s_X11_keepPast E l _ (by omega) _ w bk m hg0 hg1.1.1 hg2) (pc' := 29) rfl (fun vv M_26 hq co26 hcm26 => ?_)
        obtain ⟨rfl, frM_26, fa26_0⟩ := hq
        refine ax_reS (st2 := []) rfl ?_
        refine ax_aload_n dX11_wet_29 rfl rfl (pc' := 30) rfl ?_
        refine ax_iload_n dX11_wet_30 rfl rfl (pc' := 31) rfl ?_
        refine ax_aload_n dX11_wet_31 rfl rfl (pc' := 32) rfl ?_
        refine ax_getr (v := 1) dX11_wet_32 flX11_10 rfl sh_0 rfl (pc' := 35) rfl ?_
        refine ax_geti (v := M 1 0) dX11_wet_35 flX11_122 rfl sh_1 ((frM_26 1 0 (fun h => h.elim (fun h => absurd h.1 (by decide)) (fun h => absurd h.1 (by decide)))).trans rfl) rfl (pc' := 38) rfl ?_
        refine ax_invG [.inl v, .inl (M 1 0)] [] dX11_wet_38 mlX11_166 (f_rp_now ⟨by omega, by omega⟩).1 rfl rfl rfl (Nat.le_of_ble_eq_true rfl) (s_X7_wetTo E l _ (by omega) _ (5 + 4 * r) v (M 1 0) w r (f_rp_now hgr) (f_rm_fr (M := M) (fun x0 i0 hx => ((frM_26 x0 i0 (by omega)).trans rfl)) qrm) hg1.1 hgr qd) (pc' := 41) rfl (fun vv M_38 hq co38 hcm38 => ?_)
        obtain ⟨rfl, frM_38, fa38_0⟩ := hq
        refine ax_reS (st2 := []) rfl ?_
        refine ax_iconst dX11_wet_41 (by decide) (pc' := 42) rfl ?_
        refine ax_zret dX11_wet_42 rfl (by decide) ?_
        refine ⟨rfl, ?_, ?_, ?_, ?_⟩
        · rfl
        · intro x0 i0 hai
          exact ((frM_38 x0 i0 (by omega)).trans ((frM_26 x0 i0 (fun h => h.elim (fun h => hai (Or.inr (Or.inl h))) (fun h => hai (Or.inr (Or.inr (Or.inl h)))))).trans rfl))
        · exact f_nb_onl hgr hg1.1 hg0 qon (fun x0 i0 x1 x2 x3 => ((frM_38 x0 i0 (by omega)).trans ((frM_26 x0 i0 (by omega)).trans rfl))) (Eq.trans ((frM_38 (5 + 4 * r) 0 (by omega)).trans ((frM_26 (5 + 4 * r) 0 (by omega)).trans rfl)) ((f_wm_th hg0.1 hgr).trans qR0.symm)) (fun _ => fa38_0)
        · exact f_pr_w (fun i i1 i2 => qon i (by omega)) (f_pr_fr (M := M_26) (fun x0 i0 x1 x2 => ((frM_38 x0 i0 (by omega)).trans rfl)) ((frM_38 0 12 (by omega)).trans rfl) fa26_0)
      · exfalso
        omega
