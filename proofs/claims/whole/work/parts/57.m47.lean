/-! acts upon the world that is and its book -/
def f_nb (M : ax_Mem) (w : Int → Int) : Prop := f_wm M 1 w ∧ f_bk M 38 w
theorem f_bk_of {M N : ax_Mem} {b : Int} {w v : Int → Int} (hr : N b = M b) (h1 : v 1 = w 1) (ho : ∀ i, 2640 ≤ i → i < 3840 → v i = w i) (hw : w 1 ≤ 200) (h : f_bk M b w) : f_bk N b v := by
  intro x x1 x2
  rw [h1] at x2
  rw [hr, ho _ (by omega) (by omega)]
  exact h x x1 x2
theorem f_bk_onl {M N : ax_Mem} {b r : Int} {w v : Int → Int} (hr : N b = M b) (h0 : 0 ≤ r ∧ r < 8) (ho : f_onl r w v) (hw : w 1 ≤ 200) (h : f_bk M b w) : f_bk N b v := f_bk_of hr (ho 1 (by omega)) (fun i i1 i2 => ho i (by omega)) hw h
theorem f_out_part {w : Int → Int} {r p : Int} (hr : 0 ≤ r ∧ r < 8) (hp : 0 ≤ p ∧ p < 24) (hl : f_R w r 1 ≤ 24) (h1 : f_R w r 0 = 1) : f_out w (f_part w r p) := by
  intro i hi
  by_cases h : f_pfr w r p = -1
  · exact f_part_onl hp hr hl h1 h i (by omega)
  · have hc := f_pfr_cs w r p
    exact f_part_out hp hr hl h1 (by omega) (by omega)
theorem f_bk_out {M N : ax_Mem} {b : Int} {w v : Int → Int} (hr : N b = M b) (ho : f_out w v) (hw : w 1 ≤ 200) (h : f_bk M b w) : f_bk N b v := f_bk_of hr (ho 1 (by omega)) (fun i i1 i2 => ho i (by omega)) hw h
theorem f_wm_hm {M : ax_Mem} {w : Int → Int} (h : f_wm M 1 w) : f_hm M w := ⟨h.1.1, fun k k1 k2 => h.2.1 k k1 k2⟩
set_option maxRecDepth 20000 in
theorem s_X11_tieByHand (E : ax_Env) (l : Launch) (d : Nat) (hd : 3 ≤ d) (M : ax_Mem) (r p k hand : Int) (Ls : Int → List f_Ln) (w : Int → Int) (hg0 : f_nb M w) (hg1 : f_jv Ls w) (hg2 : f_isR w r) (hg3 : 0 ≤ p ∧ p < f_R w r 1) (hg4 : 0 ≤ k ∧ k < 6) : ax_G E l d iX11_tieByHand [.inr 0, .inl r, .inl p, .inl k, .inl hand] M (fun z0 M2 => z0 = none ∧ (∀ x0 i0 : Int, ¬ ((1 ≤ x0 ∧ x0 < 39)) → M2 x0 i0 = M x0 i0) ∧ (f_nb M2 (f_tie w r p k hand))) := by
  obtain ⟨d, rfl⟩ : ∃ d0, d = d0 + 1 := ⟨d - 1, by omega⟩
  refine ax_start rfl (Nat.le_of_ble_eq_true rfl) (ls := [some (.inr 0), some (.inl r), some (.inl p), some (.inl k), some (.inl hand)]) rfl (fun hav hcm => ?_)
  have hc1 : -2147483648 ≤ r ∧ r < 2147483648 := hav (.inl r) (by simp)
  have hc2 : -2147483648 ≤ p ∧ p < 2147483648 := hav (.inl p) (by simp)
  have hc3 : -2147483648 ≤ k ∧ k < 2147483648 := hav (.inl k) (by simp)
  have hc4 : -2147483648 ≤ hand ∧ hand < 2147483648 := hav (.inl hand) (by simp)
  clear hav
  have qlo := hg1.1.2.2.1
  have qlb := hg1.1.2.2.2.1
  have qrm := f_wm_rm hg0.1 hg2
  have ql : M (5 + 4 * r) 1 = f_R w r 1 := qrm.1
  have qlr := (hg1.1.1 r hg2.1 (by omega)).2
  have hgr : 0 ≤ r ∧ r < 8 := ⟨hg2.1, by omega⟩
  have qtk := (hg0.1.2.1 k (by omega) (by omega)).1
  have qtr := hg1.1.2.2.2.2 k (by omega) (by omega)
  have qd : M 1 0 = w 0 := hg0.1.1.1
  have qon : f_onl r w (f_more (f_sP w r p 0 k) r p k (w (2564 + k))) := f_onl_tr (f_onl_sP ⟨by omega, by omega⟩ (by omega)) (f_onl_more ⟨by omega, by omega⟩ hg4)
  have qti : f_tie w r p k hand = f_note (f_more (f_sP w r p 0 k) r p k (w (2564 + k))) r p k 0 hand := by
    unfold f_tie
    rw [f_sP_out ⟨hgr.1, hgr.2, by omega, by omega, by decide, by decide⟩ (by omega)]
  refine ax_aload_n dX11_tieByHand_0 rfl rfl (pc' := 1) rfl ?_
  refine ax_getr (v := 1) dX11_tieByHand_1 flX11_10 rfl sh_0 rfl (pc' := 4) rfl ?_
  refine ax_getr (v := 4) dX11_tieByHand_4 flX11_118 rfl sh_1 rfl (pc' := 7) rfl ?_
  refine ax_iload_n dX11_tieByHand_7 rfl rfl (pc' := 8) rfl ?_
  refine ax_aald (v := 5 + 4 * r) dX11_tieByHand_8 sh_4 (by decide) (by omega) (by omega) (f_av_now _ ⟨by omega, by omega⟩) (pc' := 9) rfl ?_
  refine ax_iload_n dX11_tieByHand_9 rfl rfl (pc' := 10) rfl ?_
  refine ax_iload_n dX11_tieByHand_10 rfl rfl (pc' := 11) rfl ?_
  refine ax_aload_n dX11_tieByHand_11 rfl rfl (pc' := 12) rfl ?_
  refine ax_getr (v := 1) dX11_tieByHand_12 flX11_10 rfl sh_0 rfl (pc' := 15) rfl ?_
  refine ax_getr (v := 2) dX11_tieByHand_15 flX11_132 rfl sh_1 rfl (pc' := 18) rfl ?_
  refine ax_iload_n dX11_tieByHand_18 rfl rfl (pc' := 19) rfl ?_
  refine ax_iald (v := (M 2) k) dX11_tieByHand_19 sh_2 rfl (by omega) (by omega) ((congrFun rfl k).trans rfl) (pc' := 20) rfl ?_
  refine ax_reS (st2 := [.inl (w (2564 + k)), .inl k, .inl p, .inr (5 + 4 * r)]) (congrArg (fun z => Sum.inl z :: _) (by exact qtk)) ?_
  refine ax_aload_n dX11_tieByHand_20 rfl rfl (pc' := 21) rfl ?_
  refine ax_getr (v := 1) dX11_tieByHand_21 flX11_10 rfl sh_0 rfl (pc' := 24) rfl ?_
  refine ax_geti (v := M 1 0) dX11_tieByHand_24 flX11_122 rfl sh_1 rfl rfl (pc' := 27) rfl ?_
  refine ax_reS (st2 := [.inl (w 0), .inl (w (2564 + k)), .inl k, .inl p, .inr (5 + 4 * r)]) (congrArg (fun z => Sum.inl z :: _) (by exact qd)) ?_
  refine ax_invG [.inl p, .inl k, .inl (w (2564 + k)), .inl (w 0)] [] dX11_tieByHand_27 mlX11_394 (f_rp_now ⟨by omega, by omega⟩).1 rfl rfl rfl (Nat.le_of_ble_eq_true rfl) (s_X7_tieKnot E l _ (by omega) _ (5 + 4 * r) p k (w (2564 + k)) (w 0) w r (f_rp_now hgr) qrm hg1.1 hgr hg3 hg4 ⟨by omega, by omega⟩ rfl) (pc' := 30) rfl (fun vv M_27 hq co27 hcm27 => ?_)
  obtain ⟨rfl, frM_27, fa27_0⟩ := hq
  refine ax_reS (st2 := []) rfl ?_
  have qR0 : f_R (f_more (f_sP w r p 0 k) r p k (w (2564 + k))) r 0 = f_R w r 0 := (f_R_more ⟨hgr.1, hgr.2, by omega, by omega, hg4.1, hg4.2⟩ ⟨hgr.1, hgr.2, by decide, by decide⟩).trans (f_R_sP ⟨hgr.1, hgr.2, by omega, by omega, by decide, by decide⟩ ⟨hgr.1, hgr.2, by decide, by decide⟩)
  have qwm : f_wm M_27 1 (f_more (f_sP w r p 0 k) r p k (w (2564 + k))) := f_wm_1 hgr hg1.1.1 hg0.1 qon (fun x0 i0 x1 x2 x3 => frM_27 x0 i0 (by omega)) ((frM_27 (1 + 4 + 4 * r) 0 (by omega)).trans ((f_wm_th hg0.1 hgr).trans qR0.symm)) (fun _ => fa27_0)
  have qbk : f_bk M_27 38 (f_more (f_sP w r p 0 k) r p k (w (2564 + k))) := f_bk_onl ((funext fun i0 => frM_27 38 i0 (by omega)).trans rfl) hgr qon (by omega) hg0.2
  have qok : f_ok (f_more (f_sP w r p 0 k) r p k (w (2564 + k))) := (f_iv_more hgr ⟨by omega, by omega⟩ hg4 ⟨by omega, by omega⟩ (f_iv_tied hgr ⟨by omega, by omega⟩ (by omega) hg1.1)).1
  refine ax_aload_n dX11_tieByHand_30 rfl rfl (pc' := 31) rfl ?_
  refine ax_getr (v := 37) dX11_tieByHand_31 flX11_19 rfl sh_0 rfl (pc' := 34) rfl ?_
  refine ax_aload_n dX11_tieByHand_34 rfl rfl (pc' := 35) rfl ?_
  refine ax_getr (v := 1) dX11_tieByHand_35 flX11_10 rfl sh_0 rfl (pc' := 38) rfl ?_
  refine ax_iload_n dX11_tieByHand_38 rfl rfl (pc' := 39) rfl ?_
  refine ax_iload_n dX11_tieByHand_39 rfl rfl (pc' := 40) rfl ?_
  refine ax_iload_n dX11_tieByHand_40 rfl rfl (pc' := 41) rfl ?_
  refine ax_iconst dX11_tieByHand_41 (by decide) (pc' := 42) rfl ?_
  refine ax_iload dX11_tieByHand_42 rfl (pc' := 44) rfl ?_
  refine ax_invG [.inr 1, .inl r, .inl p, .inl k, .inl 0, .inl hand] [] dX11_tieByHand_44 mlX11_177 sh_37 rfl rfl rfl (Nat.le_of_ble_eq_true rfl) (s_X0_write E l _ (by omega) _ r p k 0 hand (f_more (f_sP w r p 0 k) r p k (w (2564 + k))) qwm qbk ⟨by rw [qon 1 (by omega)]; omega, by rw [qon 1 (by omega)]; omega⟩ qok) (pc' := 47) rfl (fun vv M_44 hq co44 hcm44 => ?_)
  obtain ⟨rfl, frM_44, fa44_0, fa44_1⟩ := hq
  refine ax_reS (st2 := []) rfl ?_
  refine ax_vret dX11_tieByHand_47 rfl ?_
  refine ⟨rfl, rfl, ?_, ?_⟩
  · intro x0 i0 hai
    exact ((frM_44 x0 i0 (fun h => h.elim (fun h => hai (by rw [h]; decide)) (fun h => hai (by rw [h.1]; decide)))).trans ((frM_27 x0 i0 (by omega)).trans rfl))
  · rw [qti]
    exact ⟨fa44_0, fa44_1⟩
set_option maxRecDepth 20000 in
theorem s_X11_pullNow (E : ax_Env) (l : Launch) (d : Nat) (hd : 4 ≤ d) (M : ax_Mem) (r f : Int) (Ls : Int → List f_Ln) (w : Int → Int) (hg0 : f_nb M w) (hg1 : f_jv Ls w) (hg2 : f_isR w r) (hg3 : f_lrn M 52 Ls) : ax_G E l d iX11_pullNow [.inr 0, .inl r, .inl f] M (fun z0 M2 => z0 = some (.inl (f_b (f_brk Ls (f_stch Ls w r f).1 r f ≠ -1))) ∧ (∀ x0 i0 : Int, ¬ ((1 ≤ x0 ∧ x0 < 39) ∨ x0 = 72 ∨ x0 = 73 ∨ x0 = 76 ∨ x0 = 77 ∨ (x0 = 75 ∧ i0 = 3) ∨ (x0 = 75 ∧ i0 = 4)) → M2 x0 i0 = M x0 i0) ∧ (f_nb M2 (f_puls Ls w r f)) ∧ (M2 75 3 = (f_stch Ls w r f).2.1)) := by
  obtain ⟨d, rfl⟩ : ∃ d0, d = d0 + 1 := ⟨d - 1, by omega⟩
  refine ax_start rfl (Nat.le_of_ble_eq_true rfl) (ls := [some (.inr 0), some (.inl r), some (.inl f), none, none, none]) rfl (fun hav hcm => ?_)
  have hc1 : -2147483648 ≤ r ∧ r < 2147483648 := hav (.inl r) (by simp)
  have hc2 : -2147483648 ≤ f ∧ f < 2147483648 := hav (.inl f) (by simp)
  clear hav
  have qlo := hg1.1.2.2.1
  have qlb := hg1.1.2.2.2.1
  have qrm := f_wm_rm hg0.1 hg2
  have ql : M (5 + 4 * r) 1 = f_R w r 1 := qrm.1
  have qlr := (hg1.1.1 r hg2.1 (by omega)).2
  have hgr : 0 ≤ r ∧ r < 8 := ⟨hg2.1, by omega⟩
  have qst := f_stch_tAl (Ls := Ls) (w := w) (r := r) (f := f) hgr hg1.1
  have qlen := (hg1.2.1 r hgr.1 hgr.2).2 hg2.2.2
  refine ax_aload_n dX11_pullNow_0 rfl rfl (pc' := 1) rfl ?_
  refine ax_getr (v := 1) dX11_pullNow_1 flX11_10 rfl sh_0 rfl (pc' := 4) rfl ?_
  refine ax_getr (v := 4) dX11_pullNow_4 flX11_118 rfl sh_1 rfl (pc' := 7) rfl ?_
  refine ax_iload_n dX11_pullNow_7 rfl rfl (pc' := 8) rfl ?_
  refine ax_aald (v := 5 + 4 * r) dX11_pullNow_8 sh_4 (by decide) (by omega) (by omega) (f_av_now _ ⟨by omega, by omega⟩) (pc' := 9) rfl ?_
  refine ax_astore_n dX11_pullNow_9 rfl (by decide) (ls' := [some (.inr 0), some (.inl r), some (.inl f), some (.inr (5 + 4 * r)), none, none]) rfl (pc' := 10) rfl ?_
  refine ax_aload_n dX11_pullNow_10 rfl rfl (pc' := 11) rfl ?_
  refine ax_getr (v := 75) dX11_pullNow_11 flX11_65 rfl sh_0 rfl (pc' := 14) rfl ?_
  refine ax_aload_n dX11_pullNow_14 rfl rfl (pc' := 15) rfl ?_
  refine ax_getr (v := 1) dX11_pullNow_15 flX11_10 rfl sh_0 rfl (pc' := 18) rfl ?_
  refine ax_aload_n dX11_pullNow_18 rfl rfl (pc' := 19) rfl ?_
  refine ax_iload_n dX11_pullNow_19 rfl rfl (pc' := 20) rfl ?_
  refine ax_invG [.inr 1, .inr (5 + 4 * r), .inl f] [] dX11_pullNow_20 mlX11_293 sh_75 rfl rfl rfl (Nat.le_of_ble_eq_true rfl) (s_X6_tieAll E l _ (by omega) _ (5 + 4 * r) f Ls w r (f_rp_now hgr) qrm hg1 hgr (f_wm_hm hg0.1) hg3 (Or.inl ⟨by omega, by omega⟩)) (pc' := 23) rfl (fun vv M_20 hq co20 hcm20 => ?_)
  obtain ⟨rfl, frM_20, fa20_0, fa20_1, fa20_2, fa20_3, fa20_4⟩ := hq
  refine ax_reS (st2 := []) rfl ?_
  have qnb : f_nb M_20 (f_tAl Ls w r f).1 := ⟨f_wm_1 hgr hg1.1.1 hg0.1 fa20_4.2.2 (fun x0 i0 x1 x2 x3 => frM_20 x0 i0 (by omega)) ((frM_20 (1 + 4 + 4 * r) 0 (by omega)).trans ((f_wm_th hg0.1 hgr).trans (fa20_4.2.1.2.2.2.2 r 0 ⟨hgr.1, hgr.2, by decide, by decide⟩).symm)) (fun _ => fa20_0), f_bk_onl ((funext fun i0 => frM_20 38 i0 (by omega)).trans rfl) hgr fa20_4.2.2 (by omega) hg0.2⟩
  refine ax_iconst dX11_pullNow_23 (by decide) (pc' := 24) rfl ?_
  refine ax_istore dX11_pullNow_24 (by decide) (ls' := [some (.inr 0), some (.inl r), some (.inl f), some (.inr (5 + 4 * r)), some (.inl 0), none]) rfl (pc' := 26) rfl ?_
  have LP1 : ∀ (kq2 : Nat) (i : Int) (rem : List Int) (y : Int → Int) (M1 : ax_Mem) (hm1 : (rem.length : Int) < (kq2 : Nat)) (fr1 : ∀ x0 i0 : Int, ¬ (x0 = 38 ∨ (x0 = 1 ∧ i0 = 3)) → M1 x0 i0 = M_20 x0 i0) (iv1_0 : 0 ≤ i ∧ i + (rem.length : Int) = ((f_tAl Ls w r f).2.length : Int)) (iv1_1 : f_fwd (M_20 76) i rem) (iv1_2 : f_fwd (M_20 77) i (rem.map (f_cl w r))) (iv1_3 : f_nts w r rem y = f_nts w r (f_tAl Ls w r f).2 (f_tAl Ls w r f).1) (iv1_4 : f_nb M1 y) (iv1_5 : f_jv Ls y) (iv1_6 : f_R y r 0 = 1 ∧ f_R y r 1 = f_R w r 1), ax_W E l (d + 1) 0 0 iX11_pullNow 26 [some (.inr 0), some (.inl r), some (.inl f), some (.inr (5 + 4 * r)), some (.inl i), none] [] SH M1 (ax_P (fun z0 M2 => z0 = some (.inl (f_b (f_brk Ls (f_stch Ls w r f).1 r f ≠ -1))) ∧ (∀ x0 i0 : Int, ¬ ((1 ≤ x0 ∧ x0 < 39) ∨ x0 = 72 ∨ x0 = 73 ∨ x0 = 76 ∨ x0 = 77 ∨ (x0 = 75 ∧ i0 = 3) ∨ (x0 = 75 ∧ i0 = 4)) → M2 x0 i0 = M x0 i0) ∧ (f_nb M2 (f_puls Ls w r f)) ∧ (M2 75 3 = (f_stch Ls w r f).2.1))) := by
    intro kq2
    induction kq2 with
    | zero =>
      intro i rem y M1 hm1 fr1 iv1_0 iv1_1 iv1_2 iv1_3 iv1_4 iv1_5 iv1_6
      exfalso
      omega
    | succ kq2 ih3 =>
      intro i rem y M1 hm1 fr1 iv1_0 iv1_1 iv1_2 iv1_3 iv1_4 iv1_5 iv1_6
      refine ax_iload dX11_pullNow_26 rfl (pc' := 28) rfl ?_
      refine ax_aload_n dX11_pullNow_28 rfl rfl (pc' := 29) rfl ?_
      refine ax_getr (v := 75) dX11_pullNow_29 flX11_65 rfl sh_0 rfl (pc' := 32) rfl ?_
      refine ax_geti (v := M_20 75 3) dX11_pullNow_32 flX11_163 rfl sh_75 ((fr1 75 3 (fun h => h.elim (fun h => absurd h (by decide)) (fun h => absurd h.1 (by decide)))).trans rfl) rfl (pc' := 35) rfl ?_
      refine ax_icmp_ge (tgt := 78) dX11_pullNow_35 (by decide) (pc' := 38) rfl (fun h35 => ?_) (fun h35 => ?_)
      · have qe : rem = [] := by
          cases rem with
          | nil => rfl
          | cons x0 y0 => simp only [List.length_cons] at *; omega
        have qy : y = (f_stch Ls w r f).1 := by
          rw [qst]
          show y = f_nts w r (f_tAl Ls w r f).2 (f_tAl Ls w r f).1
          rw [← iv1_3, qe]
          rfl
        have qir : f_isR y r := ⟨hg2.1, hg2.2.1, iv1_6.1⟩
        have qbr := f_brk_rg (Ls := Ls) (w := y) (r := r) (f := f) (by omega)
        refine ax_aload_n dX11_pullNow_78 rfl rfl (pc' := 79) rfl ?_
        refine ax_getr (v := 71) dX11_pullNow_79 flX11_56 rfl sh_0 rfl (pc' := 82) rfl ?_
        refine ax_aload_n dX11_pullNow_82 rfl rfl (pc' := 83) rfl ?_
        refine ax_getr (v := 1) dX11_pullNow_83 flX11_10 rfl sh_0 rfl (pc' := 86) rfl ?_
        refine ax_aload_n dX11_pullNow_86 rfl rfl (pc' := 87) rfl ?_
        refine ax_iload_n dX11_pullNow_87 rfl rfl (pc' := 88) rfl ?_
        refine ax_invG [.inr 1, .inr (5 + 4 * r), .inl f] [] dX11_pullNow_88 mlX11_303 sh_71 rfl rfl rfl (Nat.le_of_ble_eq_true rfl) (s_X2_weakestBelow E l _ (by omega) _ (5 + 4 * r) f Ls y r (f_rp_now hgr) (f_wm_rm iv1_4.1 qir) iv1_5 hgr (f_wm_hm iv1_4.1) (f_lrn_fr (M := M) (fun x0 i0 hx => ((fr1 x0 i0 (by omega)).trans ((frM_20 x0 i0 (by omega)).trans rfl))) hg3) (Or.inl ⟨by omega, by omega⟩) (by omega)) (pc' := 91) rfl (fun vv M_88 hq co88 hcm88 => ?_)
        obtain ⟨rfl, frM_88⟩ := hq
        refine ax_reS (st2 := [.inl (if f_str Ls y r (f_wk Ls y r) < f then f_wk Ls y r else -1)]) rfl ?_
        have cc88 : -2147483648 ≤ (if f_str Ls y r (f_wk Ls y r) < f then f_wk Ls y r else -1) ∧ (if f_str Ls y r (f_wk Ls y r) < f then f_wk Ls y r else -1) < 2147483648 := co88 _ rfl
        refine ax_reS (st2 := [.inl (f_brk Ls y r f)]) (congrArg (fun z => Sum.inl z :: _) (by rfl)) ?_
        refine ax_istore dX11_pullNow_91 (by decide) (ls' := [some (.inr 0), some (.inl r), some (.inl f), some (.inr (5 + 4 * r)), some (.inl (f_brk Ls y r f)), none]) rfl (pc' := 93) rfl ?_
        refine ax_iload dX11_pullNow_93 rfl (pc' := 95) rfl ?_
        refine ax_iconst dX11_pullNow_95 (by decide) (pc' := 96) rfl ?_
        refine ax_icmp_ne (tgt := 101) dX11_pullNow_96 (by decide) (pc' := 99) rfl (fun h96 => ?_) (fun h96 => ?_)
        · have qou := f_out_part (w := y) (r := r) (p := f_brk Ls y r f) hgr ⟨by omega, by omega⟩ (by omega) iv1_6.1
          have qpu : f_puls Ls w r f = f_note (f_part y r (f_brk Ls y r f)) r (f_brk Ls y r f) (f_pfr y r (f_brk Ls y r f)) 2 (-1) := by
            have qc := f_pfr_cs y r (f_brk Ls y r f)
            unfold f_puls
            rw [← qy, if_neg (by omega)]
            congr 1
            unfold f_lost
            split <;> omega
          refine ax_aload_n dX11_pullNow_101 rfl rfl (pc' := 102) rfl ?_
          refine ax_getr (v := 1) dX11_pullNow_102 flX11_10 rfl sh_0 rfl (pc' := 105) rfl ?_
          refine ax_iload_n dX11_pullNow_105 rfl rfl (pc' := 106) rfl ?_
          refine ax_iload dX11_pullNow_106 rfl (pc' := 108) rfl ?_
          refine ax_invG [.inl r, .inl (f_brk Ls y r f)] [] dX11_pullNow_108 mlX11_173 sh_1 rfl rfl rfl (Nat.le_of_ble_eq_true rfl) (s_X9_part E l _ (by omega) _ r (f_brk Ls y r f) y (f_wm_fr (fun x0 i0 x1 x2 => frM_88 x0 i0 (by omega)) iv1_4.1) iv1_5.1.1 qir ⟨by omega, by omega⟩ iv1_5.1) (pc' := 111) rfl (fun vv M_108 hq co108 hcm108 => ?_)
          obtain ⟨rfl, frM_108, fa108_0⟩ := hq
          refine ax_reS (st2 := [.inl (f_pfr y r (f_brk Ls y r f))]) rfl ?_
          have cc108 : -2147483648 ≤ f_pfr y r (f_brk Ls y r f) ∧ f_pfr y r (f_brk Ls y r f) < 2147483648 := co108 _ rfl
          refine ax_istore dX11_pullNow_111 (by decide) (ls' := [some (.inr 0), some (.inl r), some (.inl f), some (.inr (5 + 4 * r)), some (.inl (f_brk Ls y r f)), some (.inl (f_pfr y r (f_brk Ls y r f)))]) rfl (pc' := 113) rfl ?_
          have qbk2 : f_bk M_108 38 (f_part y r (f_brk Ls y r f)) := f_bk_out (funext fun i0 => ((frM_108 38 i0 (by omega)).trans (frM_88 38 i0 (by omega)))) qou iv1_5.1.2.2.2.1.2 iv1_4.2
          refine ax_aload_n dX11_pullNow_113 rfl rfl (pc' := 114) rfl ?_
          refine ax_getr (v := 37) dX11_pullNow_114 flX11_19 rfl sh_0 rfl (pc' := 117) rfl ?_
          refine ax_aload_n dX11_pullNow_117 rfl rfl (pc' := 118) rfl ?_
          refine ax_getr (v := 1) dX11_pullNow_118 flX11_10 rfl sh_0 rfl (pc' := 121) rfl ?_
          refine ax_iload_n dX11_pullNow_121 rfl rfl (pc' := 122) rfl ?_
          refine ax_iload dX11_pullNow_122 rfl (pc' := 124) rfl ?_
          refine ax_iload dX11_pullNow_124 rfl (pc' := 126) rfl ?_
          refine ax_iconst dX11_pullNow_126 (by decide) (pc' := 127) rfl ?_
          refine ax_iconst dX11_pullNow_127 (by decide) (pc' := 128) rfl ?_
          refine ax_invG [.inr 1, .inl r, .inl (f_brk Ls y r f), .inl (f_pfr y r (f_brk Ls y r f)), .inl 2, .inl (-1)] [] dX11_pullNow_128 mlX11_177 sh_37 rfl rfl rfl (Nat.le_of_ble_eq_true rfl) (s_X0_write E l _ (by omega) _ r (f_brk Ls y r f) (f_pfr y r (f_brk Ls y r f)) 2 (-1) (f_part y r (f_brk Ls y r f)) fa108_0 qbk2 ⟨by rw [qou 1 (by omega)]; exact iv1_5.1.2.2.2.1.1, by rw [qou 1 (by omega)]; exact iv1_5.1.2.2.2.1.2⟩ (f_iv_part hgr ⟨by omega, by omega⟩ iv1_5.1).1) (pc' := 131) rfl (fun vv M_128 hq co128 hcm128 => ?_)
          obtain ⟨rfl, frM_128, fa128_0, fa128_1⟩ := hq
          refine ax_reS (st2 := []) rfl ?_
          refine ax_iconst dX11_pullNow_131 (by decide) (pc' := 132) rfl ?_
          refine ax_zret dX11_pullNow_132 rfl (by decide) ?_
          refine ⟨rfl, ?_, ?_, ?_, ?_⟩
          · refine congrArg (fun z => some (Sum.inl z)) ?_
            rw [← qy]
            unfold f_b
            rw [if_pos (by omega)]
          · intro x0 i0 hai
            exact ((frM_128 x0 i0 (fun h => h.elim (fun h => hai (Or.inl (by rw [h]; decide))) (fun h => hai (Or.inl (by rw [h.1]; decide))))).trans ((frM_108 x0 i0 (fun h => hai (Or.inl ⟨Int.le_trans (by decide) h.1, Int.lt_of_lt_of_le h.2 (by decide)⟩))).trans ((frM_88 x0 i0 (fun h => h.elim (fun h => hai (Or.inr (Or.inl h))) (fun h => hai (Or.inr (Or.inr (Or.inl h)))))).trans ((fr1 x0 i0 (fun h => h.elim (fun h => hai (Or.inl (by rw [h]; decide))) (fun h => hai (Or.inl (by rw [h.1]; decide))))).trans ((frM_20 x0 i0 (by omega)).trans rfl)))))
          · rw [qpu]
            exact ⟨fa128_0, fa128_1⟩
          · rw [qst]
            exact Eq.trans ((frM_128 75 3 (fun h => h.elim (fun h => absurd h (by decide)) (fun h => absurd h.1 (by decide)))).trans ((frM_108 75 3 (fun h => absurd h.2 (by decide))).trans ((frM_88 75 3 (fun h => h.elim (fun h => absurd h (by decide)) (fun h => absurd h (by decide)))).trans ((fr1 75 3 (fun h => h.elim (fun h => absurd h (by decide)) (fun h => absurd h.1 (by decide)))).trans rfl)))) fa20_3.1
        · have qpu : f_puls Ls w r f = y := by
            unfold f_puls
            rw [← qy, if_pos (by omega)]
          refine ax_iconst dX11_pullNow_99 (by decide) (pc' := 100) rfl ?_
          refine ax_zret dX11_pullNow_100 rfl (by decide) ?_
          refine ⟨rfl, ?_, ?_, ?_, ?_⟩
          · refine congrArg (fun z => some (Sum.inl z)) ?_
            rw [← qy]
            unfold f_b
            rw [if_neg (by omega)]
          · intro x0 i0 hai
            exact ((frM_88 x0 i0 (fun h => h.elim (fun h => hai (Or.inr (Or.inl h))) (fun h => hai (Or.inr (Or.inr (Or.inl h)))))).trans ((fr1 x0 i0 (fun h => h.elim (fun h => hai (Or.inl (by rw [h]; decide))) (fun h => hai (Or.inl (by rw [h.1]; decide))))).trans ((frM_20 x0 i0 (by omega)).trans rfl)))
          · rw [qpu]
            exact ⟨f_wm_fr (fun x0 i0 x1 x2 => frM_88 x0 i0 (by omega)) iv1_4.1, f_bk_of (funext fun i0 => frM_88 38 i0 (by omega)) rfl (fun _ _ _ => rfl) iv1_5.1.2.2.2.1.2 iv1_4.2⟩
          · rw [qst]
            exact Eq.trans ((frM_88 75 3 (fun h => h.elim (fun h => absurd h (by decide)) (fun h => absurd h (by decide)))).trans ((fr1 75 3 (fun h => h.elim (fun h => absurd h (by decide)) (fun h => absurd h.1 (by decide)))).trans rfl)) fa20_3.1
      · obtain ⟨q7, rem2, qd⟩ : ∃ x0 y0, rem = x0 :: y0 := by
          cases rem with
          | nil => simp only [List.length_nil] at *; omega
          | cons x0 y0 => exact ⟨x0, y0, rfl⟩
        have qdl : rem.length = rem2.length + 1 := by rw [qd]; rfl
        have qf1 : f_fwd (M_20 76) i (q7 :: rem2) := qd ▸ iv1_1
        have qf2 : f_fwd (M_20 77) i (f_cl w r q7 :: rem2.map (f_cl w r)) := by
          have q := iv1_2
          rw [qd] at q
          exact q
        refine ax_aload_n dX11_pullNow_38 rfl rfl (pc' := 39) rfl ?_
        refine ax_getr (v := 37) dX11_pullNow_39 flX11_19 rfl sh_0 rfl (pc' := 42) rfl ?_
        refine ax_aload_n dX11_pullNow_42 rfl rfl (pc' := 43) rfl ?_
        refine ax_getr (v := 1) dX11_pullNow_43 flX11_10 rfl sh_0 rfl (pc' := 46) rfl ?_
        refine ax_iload_n dX11_pullNow_46 rfl rfl (pc' := 47) rfl ?_
        refine ax_aload_n dX11_pullNow_47 rfl rfl (pc' := 48) rfl ?_
        refine ax_getr (v := 75) dX11_pullNow_48 flX11_65 rfl sh_0 rfl (pc' := 51) rfl ?_
        refine ax_getr (v := 76) dX11_pullNow_51 flX11_297 rfl sh_75 rfl (pc' := 54) rfl ?_
        refine ax_iload dX11_pullNow_54 rfl (pc' := 56) rfl ?_
        refine ax_iald (v := (M_20 76) i) dX11_pullNow_56 sh_76 rfl (by omega) (by omega) ((congrFun ((funext fun i0 => fr1 76 i0 (fun h => h.elim (fun h => absurd h (by decide)) (fun h => absurd h.1 (by decide)))).trans rfl) i).trans rfl) (pc' := 57) rfl ?_
        refine ax_reS (st2 := [.inl q7, .inl r, .inr 1, .inr 37]) (congrArg (fun z => Sum.inl z :: _) (by exact qf1.1)) ?_
        refine ax_aload_n dX11_pullNow_57 rfl rfl (pc' := 58) rfl ?_
        refine ax_getr (v := 75) dX11_pullNow_58 flX11_65 rfl sh_0 rfl (pc' := 61) rfl ?_
        refine ax_getr (v := 77) dX11_pullNow_61 flX11_300 rfl sh_75 rfl (pc' := 64) rfl ?_
        refine ax_iload dX11_pullNow_64 rfl (pc' := 66) rfl ?_
        refine ax_iald (v := (M_20 77) i) dX11_pullNow_66 sh_77 rfl (by omega) (by omega) ((congrFun ((funext fun i0 => fr1 77 i0 (fun h => h.elim (fun h => absurd h (by decide)) (fun h => absurd h.1 (by decide)))).trans rfl) i).trans rfl) (pc' := 67) rfl ?_
        refine ax_reS (st2 := [.inl (f_cl w r q7), .inl q7, .inl r, .inr 1, .inr 37]) (congrArg (fun z => Sum.inl z :: _) (by exact qf2.1)) ?_
        refine ax_iconst dX11_pullNow_67 (by decide) (pc' := 68) rfl ?_
        refine ax_iconst dX11_pullNow_68 (by decide) (pc' := 69) rfl ?_
        refine ax_invG [.inr 1, .inl r, .inl q7, .inl (f_cl w r q7), .inl 1, .inl (-1)] [] dX11_pullNow_69 mlX11_177 sh_37 rfl rfl rfl (Nat.le_of_ble_eq_true rfl) (s_X0_write E l _ (by omega) _ r q7 (f_cl w r q7) 1 (-1) y iv1_4.1 iv1_4.2 iv1_5.1.2.2.2.1 iv1_5.1.1) (pc' := 72) rfl (fun vv M_69 hq co69 hcm69 => ?_)
        obtain ⟨rfl, frM_69, fa69_0, fa69_1⟩ := hq
        refine ax_reS (st2 := []) rfl ?_
        refine ax_iinc dX11_pullNow_72 rfl (by decide) (by omega) (ls' := [some (.inr 0), some (.inl r), some (.inl f), some (.inr (5 + 4 * r)), some (.inl (i + 1)), none]) rfl (pc' := 75) rfl ?_
        refine ax_goto dX11_pullNow_75 (pc' := 26) (by decide) ?_
        refine ih3 (i + 1) rem2 (f_note y r q7 (f_cl w r q7) 1 (-1)) M_69 ?_ ?_ ?_ ?_ ?_ ?_ ?_ ?_ ?_
        · omega
        · intro x0 i0 hai
          exact ((frM_69 x0 i0 (fun h => h.elim (fun h => hai (Or.inl h)) (fun h => hai (Or.inr h)))).trans ((fr1 x0 i0 (fun h => h.elim (fun h => hai (Or.inl h)) (fun h => hai (Or.inr h)))).trans rfl))
        · omega
        · exact qf1.2
        · exact qf2.2
        · rw [← iv1_3, qd]
          rfl
        · exact ⟨fa69_0, fa69_1⟩
        · exact f_jv_note iv1_5
        · rw [f_R_note iv1_5.1.2.2.2.1.1 ⟨hgr.1, hgr.2, by decide, by decide⟩, f_R_note iv1_5.1.2.2.2.1.1 ⟨hgr.1, hgr.2, by decide, by decide⟩]
          exact iv1_6
  refine LP1 ((((f_tAl Ls w r f).2).length : Int) : Int).toNat.succ 0 ((f_tAl Ls w r f).2) ((f_tAl Ls w r f).1) M_20 ?_ ?_ ?_ ?_ ?_ ?_ ?_ ?_ ?_
  · omega
  · exact fun a i _ => rfl
  · exact ⟨by decide, by omega⟩
  · exact fa20_1
  · exact fa20_2
  · rfl
  · exact qnb
  · exact f_jv_sm fa20_4.1 fa20_4.2.1 hg1
  · exact ⟨(fa20_4.2.1.2.2.2.2 r 0 ⟨hgr.1, hgr.2, by decide, by decide⟩).trans hg2.2.2, fa20_4.2.1.2.2.2.2 r 1 ⟨hgr.1, hgr.2, by decide, by decide⟩⟩
