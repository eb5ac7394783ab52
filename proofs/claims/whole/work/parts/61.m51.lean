/-! more acts -/
theorem f_rr_beg {ti ha si w : Int → Int} {r n ow dy : Int} (hr : 0 ≤ r ∧ r < 8) (hn : n ≤ 24) : f_rr n ow dy 0 (f_flv ti 24 (-1)) (f_flv ha 144 0) (f_flv si 144 0) (f_beg w r n ow dy 0) r := by
  have e : ∀ g, 0 ≤ g → g < 8 → f_R (f_beg w r n ow dy 0) r g = if g = 0 then 1 else if g = 1 then n else if g = 2 then ow else if g = 3 then dy else if g = 4 then 0 else f_R w r g := fun g g1 g2 => by
    rw [f_R_beg hr ⟨hr.1, hr.2, g1, g2⟩, if_pos rfl]
  refine ⟨?_, ?_, ?_, ?_, fun q q1 q2 => ?_⟩
  · rw [e 1 (by decide) (by decide), if_neg (by decide), if_pos rfl]
  · rw [e 2 (by decide) (by decide), if_neg (by decide), if_neg (by decide), if_pos rfl]
  · rw [e 3 (by decide) (by decide), if_neg (by decide), if_neg (by decide), if_neg (by decide), if_pos rfl]
  · rw [e 4 (by decide) (by decide), if_neg (by decide), if_neg (by decide), if_neg (by decide), if_neg (by decide), if_pos rfl]
  · rw [f_P_beg hr ⟨q1, by omega⟩ (by decide), if_pos rfl]
    refine ⟨?_, fun k k1 k2 => ?_⟩
    · unfold f_flv
      rw [if_pos (by omega)]
    · rw [f_P_beg hr ⟨q1, by omega⟩ ⟨by omega, by omega⟩, if_neg (by omega)]
      refine ⟨?_, fun z => absurd rfl z⟩
      unfold f_flv
      rw [if_pos (by omega)]
theorem f_nb_hd {M N : ax_Mem} {w v : Int → Int} (hw : f_iv w) (h : f_nb M w) (ho : ∀ i, 4 ≤ i → i < 2576 → v i = w i) (h1 : v 1 = w 1) (hb : ∀ i, 2640 ≤ i → i < 3840 → v i = w i) (hf : ∀ x j, 1 < x → x < 39 → N x j = M x j) (hh : N 1 0 = v 0 ∧ N 1 1 = v 2576 ∧ N 1 2 = v 2 ∧ N 1 3 = v 1) : f_nb N v := ⟨f_wm_hd hw.1 h.1 ho (fun x j x1 x2 => hf x j x1 (by omega)) hh, f_bk_of (funext fun i => hf 38 i (by decide) (by decide)) h1 hb hw.2.2.2.1.2 h.2⟩
theorem f_pr_0 {M : ax_Mem} {bk w : Int → Int} (h0 : M 0 12 = 0) (hp : f_pp (M 92)) : f_pr M bk 0 w := ⟨⟨h0, Int.le_refl 0, by decide⟩, hp, fun k k1 k2 => by omega⟩
def f_mno (bk : Int → Int) (m : Int) (w : Int → Int) : Prop := (∀ k, 0 ≤ k → k < m → bk (2564 * k + 1) ≤ w 1) ∧ ∀ k l, 0 ≤ k → k ≤ l → l < m → bk (2564 * k + 1) ≤ bk (2564 * l + 1)
theorem f_bw_bw {bk w : Int → Int} {k l : Int} : f_bw bk k (f_bw bk l w) = f_bw bk k w := by
  funext i
  show (if 0 ≤ i ∧ i < 2564 then bk (2564 * k + i) else (if 0 ≤ i ∧ i < 2564 then bk (2564 * l + i) else w i)) = (if 0 ≤ i ∧ i < 2564 then bk (2564 * k + i) else w i)
  split
  · rfl
  · rfl
theorem f_bw_hi {bk w : Int → Int} {k i : Int} (h : 2564 ≤ i) : f_bw bk k w i = w i := if_neg (by omega)
theorem f_bw_lo {bk w : Int → Int} {k i : Int} (h : 0 ≤ i ∧ i < 2564) : f_bw bk k w i = bk (2564 * k + i) := if_pos h
set_option maxRecDepth 20000 in
theorem s_X11_cut_no (E : ax_Env) (l : Launch) (d : Nat) (hd : 4 ≤ d) (M : ax_Mem) (r p : Int) (Ls : Int → List f_Ln) (w : Int → Int) (hg0 : f_nb M w) (hg1 : f_jv Ls w) (hg2 : ¬ (f_isR w r ∧ 2 ≤ p ∧ p ≤ f_R w r 1 - 2)) : ax_G E l d iX11_cut [.inr 0, .inl r, .inl p] M (fun z0 M2 => z0 = some (.inl (-1)) ∧ M = M2) := by
  obtain ⟨d, rfl⟩ : ∃ d0, d = d0 + 1 := ⟨d - 1, by omega⟩
  refine ax_start rfl (Nat.le_of_ble_eq_true rfl) (ls := [some (.inr 0), some (.inl r), some (.inl p), none, none]) rfl (fun hav hcm => ?_)
  have hc1 : -2147483648 ≤ r ∧ r < 2147483648 := hav (.inl r) (by simp)
  have hc2 : -2147483648 ≤ p ∧ p < 2147483648 := hav (.inl p) (by simp)
  clear hav
  have qlo := hg1.1.2.2.1
  have qlb := hg1.1.2.2.2.1
  refine ax_aload_n dX11_cut_0 rfl rfl (pc' := 1) rfl ?_
  refine ax_getr (v := 1) dX11_cut_1 flX11_10 rfl sh_0 rfl (pc' := 4) rfl ?_
  refine ax_iload_n dX11_cut_4 rfl rfl (pc' := 5) rfl ?_
  by_cases hir : f_isR w r
  · refine ax_invG [.inl r] [] dX11_cut_5 mlX11_139 sh_1 rfl rfl rfl (Nat.le_of_ble_eq_true rfl) (s_X9_ropeAt_ok E l _ (by omega) _ r w hg0.1 hg1.1.1 hir) (pc' := 8) rfl (fun vv M_5 hq co5 hcm5 => ?_)
    obtain ⟨rfl, rfl⟩ := hq
    refine ax_reS (st2 := [.inr (5 + 4 * r)]) rfl ?_
    have hgr : 0 ≤ r ∧ r < 8 := ⟨hir.1, by omega⟩
    have qrm := f_wm_rm hg0.1 hir
    have ql : M (5 + 4 * r) 1 = f_R w r 1 := qrm.1
    have qlr := (hg1.1.1 r hgr.1 hgr.2).2
    refine ax_astore_n dX11_cut_8 rfl (by decide) (ls' := [some (.inr 0), some (.inl r), some (.inl p), some (.inr (5 + 4 * r)), none]) rfl (pc' := 9) rfl ?_
    refine ax_aload_n dX11_cut_9 rfl rfl (pc' := 10) rfl ?_
    refine ax_ifnull (tgt := 28) dX11_cut_10 (by omega) (by decide) (pc' := 13) rfl (fun h10 => ?_) (fun h10 => ?_)
    · exfalso
      omega
    · refine ax_iload_n dX11_cut_13 rfl rfl (pc' := 14) rfl ?_
      refine ax_iconst dX11_cut_14 (by decide) (pc' := 15) rfl ?_
      refine ax_icmp_lt (tgt := 28) dX11_cut_15 (by decide) (pc' := 18) rfl (fun h15 => ?_) (fun h15 => ?_)
      · refine ax_iconst dX11_cut_28 (by decide) (pc' := 29) rfl ?_
        refine ax_iret dX11_cut_29 rfl ?_
        refine ⟨rfl, ?_, ?_⟩
        · rfl
        · rfl
      · refine ax_iload_n dX11_cut_18 rfl rfl (pc' := 19) rfl ?_
        refine ax_aload_n dX11_cut_19 rfl rfl (pc' := 20) rfl ?_
        refine ax_geti (v := M (5 + 4 * r) 1) dX11_cut_20 flX11_170 rfl (f_rp_now ⟨by omega, by omega⟩).1 rfl rfl (pc' := 23) rfl ?_
        refine ax_iconst dX11_cut_23 (by decide) (pc' := 24) rfl ?_
        refine ax_isub dX11_cut_24 (by omega) (pc' := 25) rfl ?_
        refine ax_icmp_le (tgt := 30) dX11_cut_25 (by decide) (pc' := 28) rfl (fun h25 => ?_) (fun h25 => ?_)
        · exfalso
          exact hg2 ⟨hir, by omega, by omega⟩
        · refine ax_iconst dX11_cut_28 (by decide) (pc' := 29) rfl ?_
          refine ax_iret dX11_cut_29 rfl ?_
          refine ⟨rfl, ?_, ?_⟩
          · rfl
          · rfl
  · refine ax_invG [.inl r] [] dX11_cut_5 mlX11_139 sh_1 rfl rfl rfl (Nat.le_of_ble_eq_true rfl) (s_X9_ropeAt_no E l _ (by omega) _ r w hg0.1 hg1.1.1 hir) (pc' := 8) rfl (fun vv M_5 hq co5 hcm5 => ?_)
    obtain ⟨rfl, rfl⟩ := hq
    refine ax_reS (st2 := [.inr (-1)]) rfl ?_
    refine ax_astore_n dX11_cut_8 rfl (by decide) (ls' := [some (.inr 0), some (.inl r), some (.inl p), some (.inr (-1)), none]) rfl (pc' := 9) rfl ?_
    refine ax_aload_n dX11_cut_9 rfl rfl (pc' := 10) rfl ?_
    refine ax_ifnull (tgt := 28) dX11_cut_10 (by decide) (by decide) (pc' := 13) rfl (fun h10 => ?_) (fun h10 => ?_)
    · refine ax_iconst dX11_cut_28 (by decide) (pc' := 29) rfl ?_
      refine ax_iret dX11_cut_29 rfl ?_
      refine ⟨rfl, ?_, ?_⟩
      · rfl
      · rfl
    · exfalso
      omega
set_option maxRecDepth 20000 in
theorem s_X11_cut_ok (E : ax_Env) (l : Launch) (d : Nat) (hd : 4 ≤ d) (M : ax_Mem) (r p : Int) (Ls : Int → List f_Ln) (w bk : Int → Int) (m : Int) (hg0 : f_nb M w) (hg1 : f_jv Ls w) (hg2 : f_pr M bk m w) (hg3 : f_isR w r ∧ 2 ≤ p ∧ p ≤ f_R w r 1 - 2) : ax_G E l d iX11_cut [.inr 0, .inl r, .inl p] M (fun z0 M2 => z0 = some (.inl (f_lost (f_pfr w r p))) ∧ (∀ x0 i0 : Int, ¬ ((1 ≤ x0 ∧ x0 < 39) ∨ (92 ≤ x0 ∧ x0 < 273) ∨ (x0 = 0 ∧ i0 = 12) ∨ x0 = 72 ∨ x0 = 73 ∨ x0 = 76 ∨ x0 = 77 ∨ (x0 = 75 ∧ i0 = 3) ∨ (x0 = 75 ∧ i0 = 4)) → M2 x0 i0 = M x0 i0) ∧ (f_nb M2 (f_note (f_part w r p) r p (max (-1) (f_lost (f_pfr w r p))) 3 (-1))) ∧ (f_pr M2 (f_keep bk w m) (f_keepN m) (f_note (f_part w r p) r p (max (-1) (f_lost (f_pfr w r p))) 3 (-1)))) := by
  obtain ⟨d, rfl⟩ : ∃ d0, d = d0 + 1 := ⟨d - 1, by omega⟩
  refine ax_start rfl (Nat.le_of_ble_eq_true rfl) (ls := [some (.inr 0), some (.inl r), some (.inl p), none, none]) rfl (fun hav hcm => ?_)
  have hc1 : -2147483648 ≤ r ∧ r < 2147483648 := hav (.inl r) (by simp)
  have hc2 : -2147483648 ≤ p ∧ p < 2147483648 := hav (.inl p) (by simp)
  clear hav
  have qlo := hg1.1.2.2.1
  have qlb := hg1.1.2.2.2.1
  have hir := hg3.1
  have hgr : 0 ≤ r ∧ r < 8 := ⟨hir.1, by omega⟩
  have qrm := f_wm_rm hg0.1 hir
  have ql : M (5 + 4 * r) 1 = f_R w r 1 := qrm.1
  have qlr := (hg1.1.1 r hgr.1 hgr.2).2
  have qou := f_out_part (w := w) (r := r) (p := p) hgr ⟨by omega, by omega⟩ (by omega) hir.2.2
  have qcs := f_pfr_cs w r p
  have qmx : max (-1) (f_lost (f_pfr w r p)) = f_pfr w r p := by
    unfold f_lost
    split <;> omega
  have qo1 := qou 1 (by omega)
  refine ax_aload_n dX11_cut_0 rfl rfl (pc' := 1) rfl ?_
  refine ax_getr (v := 1) dX11_cut_1 flX11_10 rfl sh_0 rfl (pc' := 4) rfl ?_
  refine ax_iload_n dX11_cut_4 rfl rfl (pc' := 5) rfl ?_
  refine ax_invG [.inl r] [] dX11_cut_5 mlX11_139 sh_1 rfl rfl rfl (Nat.le_of_ble_eq_true rfl) (s_X9_ropeAt_ok E l _ (by omega) _ r w hg0.1 hg1.1.1 hir) (pc' := 8) rfl (fun vv M_5 hq co5 hcm5 => ?_)
  obtain ⟨rfl, rfl⟩ := hq
  refine ax_reS (st2 := [.inr (5 + 4 * r)]) rfl ?_
  refine ax_astore_n dX11_cut_8 rfl (by decide) (ls' := [some (.inr 0), some (.inl r), some (.inl p), some (.inr (5 + 4 * r)), none]) rfl (pc' := 9) rfl ?_
  refine ax_aload_n dX11_cut_9 rfl rfl (pc' := 10) rfl ?_
  refine ax_ifnull (tgt := 28) dX11_cut_10 (by omega) (by decide) (pc' := 13) rfl (fun h10 => ?_) (fun h10 => ?_)
  · exfalso
    omega
  · refine ax_iload_n dX11_cut_13 rfl rfl (pc' := 14) rfl ?_
    refine ax_iconst dX11_cut_14 (by decide) (pc' := 15) rfl ?_
    refine ax_icmp_lt (tgt := 28) dX11_cut_15 (by decide) (pc' := 18) rfl (fun h15 => ?_) (fun h15 => ?_)
    · exfalso
      omega
    · refine ax_iload_n dX11_cut_18 rfl rfl (pc' := 19) rfl ?_
      refine ax_aload_n dX11_cut_19 rfl rfl (pc' := 20) rfl ?_
      refine ax_geti (v := M (5 + 4 * r) 1) dX11_cut_20 flX11_170 rfl (f_rp_now ⟨by omega, by omega⟩).1 rfl rfl (pc' := 23) rfl ?_
      refine ax_iconst dX11_cut_23 (by decide) (pc' := 24) rfl ?_
      refine ax_isub dX11_cut_24 (by omega) (pc' := 25) rfl ?_
      refine ax_icmp_le (tgt := 30) dX11_cut_25 (by decide) (pc' := 28) rfl (fun h25 => ?_) (fun h25 => ?_)
      · refine ax_aload_n dX11_cut_30 rfl rfl (pc' := 31) rfl ?_
        refine ax_invG [] [] dX11_cut_31 mlX11_147 sh_0 rfl rfl rfl (Nat.le_of_ble_eq_true rfl) (s_X11_keepPast E l _ (by omega) _ w bk m hg0 hg1.1.1 hg2) (pc' := 34) rfl (fun vv M_31 hq co31 hcm31 => ?_)
        obtain ⟨rfl, frM_31, fa31_0⟩ := hq
        refine ax_reS (st2 := []) rfl ?_
        refine ax_aload_n dX11_cut_34 rfl rfl (pc' := 35) rfl ?_
        refine ax_getr (v := 1) dX11_cut_35 flX11_10 rfl sh_0 rfl (pc' := 38) rfl ?_
        refine ax_iload_n dX11_cut_38 rfl rfl (pc' := 39) rfl ?_
        refine ax_iload_n dX11_cut_39 rfl rfl (pc' := 40) rfl ?_
        refine ax_invG [.inl r, .inl p] [] dX11_cut_40 mlX11_173 sh_1 rfl rfl rfl (Nat.le_of_ble_eq_true rfl) (s_X9_part E l _ (by omega) _ r p w (f_nb_fr (M := M) (fun x0 i0 x1 x2 => ((frM_31 x0 i0 (by omega)).trans rfl)) hg0).1 hg1.1.1 hir ⟨by omega, by omega⟩ hg1.1) (pc' := 43) rfl (fun vv M_40 hq co40 hcm40 => ?_)
        obtain ⟨rfl, frM_40, fa40_0⟩ := hq
        refine ax_reS (st2 := [.inl (f_pfr w r p)]) rfl ?_
        have cc40 : -2147483648 ≤ f_pfr w r p ∧ f_pfr w r p < 2147483648 := co40 _ rfl
        refine ax_istore dX11_cut_43 (by decide) (ls' := [some (.inr 0), some (.inl r), some (.inl p), some (.inr (5 + 4 * r)), some (.inl (f_pfr w r p))]) rfl (pc' := 45) rfl ?_
        have qbk : f_bk M_40 38 (f_part w r p) := f_bk_out ((funext fun i0 => frM_40 38 i0 (by omega)).trans (funext fun i0 => frM_31 38 i0 (by omega))) qou (by omega) hg0.2
        refine ax_aload_n dX11_cut_45 rfl rfl (pc' := 46) rfl ?_
        refine ax_getr (v := 37) dX11_cut_46 flX11_19 rfl sh_0 rfl (pc' := 49) rfl ?_
        refine ax_aload_n dX11_cut_49 rfl rfl (pc' := 50) rfl ?_
        refine ax_getr (v := 1) dX11_cut_50 flX11_10 rfl sh_0 rfl (pc' := 53) rfl ?_
        refine ax_iload_n dX11_cut_53 rfl rfl (pc' := 54) rfl ?_
        refine ax_iload_n dX11_cut_54 rfl rfl (pc' := 55) rfl ?_
        refine ax_iload dX11_cut_55 rfl (pc' := 57) rfl ?_
        refine ax_iconst dX11_cut_57 (by decide) (pc' := 58) rfl ?_
        refine ax_iconst dX11_cut_58 (by decide) (pc' := 59) rfl ?_
        refine ax_invG [.inr 1, .inl r, .inl p, .inl (f_pfr w r p), .inl 3, .inl (-1)] [] dX11_cut_59 mlX11_177 sh_37 rfl rfl rfl (Nat.le_of_ble_eq_true rfl) (s_X0_write E l _ (by omega) _ r p (f_pfr w r p) 3 (-1) (f_part w r p) fa40_0 qbk ⟨by omega, by omega⟩ (f_iv_part hgr ⟨by omega, by omega⟩ hg1.1).1) (pc' := 62) rfl (fun vv M_59 hq co59 hcm59 => ?_)
        obtain ⟨rfl, frM_59, fa59_0, fa59_1⟩ := hq
        refine ax_reS (st2 := []) rfl ?_
        refine ax_iload dX11_cut_62 rfl (pc' := 64) rfl ?_
        refine ax_iconst dX11_cut_64 (by decide) (pc' := 65) rfl ?_
        refine ax_icmp_ne (tgt := 73) dX11_cut_65 (by decide) (pc' := 68) rfl (fun h65 => ?_) (fun h65 => ?_)
        · have ql2 : f_lost (f_pfr w r p) = f_pfr w r p := by
            unfold f_lost
            rw [if_neg h65]
          refine ax_iload dX11_cut_73 rfl (pc' := 75) rfl ?_
          refine ax_iret dX11_cut_75 rfl ?_
          refine ⟨rfl, ?_, ?_, ?_, ?_⟩
          · refine congrArg (fun z => some (Sum.inl z)) ?_
            exact ql2.symm
          · intro x0 i0 hai
            exact ((frM_59 x0 i0 (fun h => h.elim (fun h => hai (Or.inl (by rw [h]; decide))) (fun h => hai (Or.inl (by rw [h.1]; decide))))).trans ((frM_40 x0 i0 (fun h => hai (Or.inl ⟨Int.le_trans (by decide) h.1, Int.lt_of_lt_of_le h.2 (by decide)⟩))).trans ((frM_31 x0 i0 (fun h => h.elim (fun h => hai (Or.inr (Or.inl h))) (fun h => hai (Or.inr (Or.inr (Or.inl h)))))).trans rfl)))
          · rw [qmx]
            exact ⟨fa59_0, fa59_1⟩
          · exact f_pr_w (fun i i1 i2 => (f_note_at (by omega) (by omega)).trans (qou i (by omega))) (f_pr_fr (M := M_31) (fun x0 i0 x1 x2 => ((frM_59 x0 i0 (by omega)).trans ((frM_40 x0 i0 (by omega)).trans rfl))) ((frM_59 0 12 (fun h => h.elim (fun h => absurd h (by decide)) (fun h => absurd h.1 (by decide)))).trans ((frM_40 0 12 (fun h => absurd h.1 (by decide))).trans rfl)) fa31_0)
        · have ql2 : f_lost (f_pfr w r p) = -2 := by
            unfold f_lost
            rw [if_pos h65]
          refine ax_bipush dX11_cut_68 (by decide) (pc' := 70) rfl ?_
          refine ax_goto dX11_cut_70 (pc' := 75) (by decide) ?_
          refine ax_iret dX11_cut_75 rfl ?_
          refine ⟨rfl, ?_, ?_, ?_, ?_⟩
          · refine congrArg (fun z => some (Sum.inl z)) ?_
            exact ql2.symm
          · intro x0 i0 hai
            exact ((frM_59 x0 i0 (fun h => h.elim (fun h => hai (Or.inl (by rw [h]; decide))) (fun h => hai (Or.inl (by rw [h.1]; decide))))).trans ((frM_40 x0 i0 (fun h => hai (Or.inl ⟨Int.le_trans (by decide) h.1, Int.lt_of_lt_of_le h.2 (by decide)⟩))).trans ((frM_31 x0 i0 (fun h => h.elim (fun h => hai (Or.inr (Or.inl h))) (fun h => hai (Or.inr (Or.inr (Or.inl h)))))).trans rfl)))
          · rw [qmx]
            exact ⟨fa59_0, fa59_1⟩
          · exact f_pr_w (fun i i1 i2 => (f_note_at (by omega) (by omega)).trans (qou i (by omega))) (f_pr_fr (M := M_31) (fun x0 i0 x1 x2 => ((frM_59 x0 i0 (by omega)).trans ((frM_40 x0 i0 (by omega)).trans rfl))) ((frM_59 0 12 (fun h => h.elim (fun h => absurd h (by decide)) (fun h => absurd h.1 (by decide)))).trans ((frM_40 0 12 (fun h => absurd h.1 (by decide))).trans rfl)) fa31_0)
      · exfalso
        omega
set_option maxRecDepth 20000 in
theorem s_X11_sell_no (E : ax_Env) (l : Launch) (d : Nat) (hd : 4 ≤ d) (M : ax_Mem) (r v : Int) (Ls : Int → List f_Ln) (w : Int → Int) (hg0 : f_nb M w) (hg1 : f_jv Ls w) (hg2 : ¬ (f_isR w r ∧ 0 ≤ v ∧ v ≤ 9 ∧ f_R w r 2 ≠ v)) : ax_G E l d iX11_sell [.inr 0, .inl r, .inl v] M (fun z0 M2 => z0 = some (.inl 0) ∧ M = M2) := by
  obtain ⟨d, rfl⟩ : ∃ d0, d = d0 + 1 := ⟨d - 1, by omega⟩
  refine ax_start rfl (Nat.le_of_ble_eq_true rfl) (ls := [some (.inr 0), some (.inl r), some (.inl v), none]) rfl (fun hav hcm => ?_)
  have hc1 : -2147483648 ≤ r ∧ r < 2147483648 := hav (.inl r) (by simp)
  have hc2 : -2147483648 ≤ v ∧ v < 2147483648 := hav (.inl v) (by simp)
  clear hav
  have qlo := hg1.1.2.2.1
  have qlb := hg1.1.2.2.2.1
  refine ax_aload_n dX11_sell_0 rfl rfl (pc' := 1) rfl ?_
  refine ax_getr (v := 1) dX11_sell_1 flX11_10 rfl sh_0 rfl (pc' := 4) rfl ?_
  refine ax_iload_n dX11_sell_4 rfl rfl (pc' := 5) rfl ?_
  by_cases hir : f_isR w r
  · refine ax_invG [.inl r] [] dX11_sell_5 mlX11_139 sh_1 rfl rfl rfl (Nat.le_of_ble_eq_true rfl) (s_X9_ropeAt_ok E l _ (by omega) _ r w hg0.1 hg1.1.1 hir) (pc' := 8) rfl (fun vv M_5 hq co5 hcm5 => ?_)
    obtain ⟨rfl, rfl⟩ := hq
    refine ax_reS (st2 := [.inr (5 + 4 * r)]) rfl ?_
    have hgr : 0 ≤ r ∧ r < 8 := ⟨hir.1, by omega⟩
    have qrm := f_wm_rm hg0.1 hir
    have ql : M (5 + 4 * r) 1 = f_R w r 1 := qrm.1
    have qlr := (hg1.1.1 r hgr.1 hgr.2).2
    have qow : M (5 + 4 * r) 2 = f_R w r 2 := qrm.2.1
    refine ax_astore_n dX11_sell_8 rfl (by decide) (ls' := [some (.inr 0), some (.inl r), some (.inl v), some (.inr (5 + 4 * r))]) rfl (pc' := 9) rfl ?_
    refine ax_aload_n dX11_sell_9 rfl rfl (pc' := 10) rfl ?_
    refine ax_ifnull (tgt := 30) dX11_sell_10 (by omega) (by decide) (pc' := 13) rfl (fun h10 => ?_) (fun h10 => ?_)
    · exfalso
      omega
    · refine ax_iload_n dX11_sell_13 rfl rfl (pc' := 14) rfl ?_
      refine ax_bipush dX11_sell_14 (by decide) (pc' := 16) rfl ?_
      refine ax_insG [.inl v, .inl 10] [] dX11_sell_16 mlX11_114 rfl rfl (Nat.le_of_ble_eq_true rfl) (s_X11_isIn E l _ (by omega) _ v 10) (pc' := 19) rfl (fun vv M_16 hq co16 hcm16 => ?_)
      obtain ⟨rfl, rfl⟩ := hq
      refine ax_reS (st2 := [.inl (f_b (0 ≤ v ∧ v < 10))]) rfl ?_
      refine ax_if_eq (tgt := 30) dX11_sell_19 (by decide) (pc' := 22) rfl (fun h19 => ?_) (fun h19 => ?_)
      · replace h19 := f_b_0 h19
        refine ax_iconst dX11_sell_30 (by decide) (pc' := 31) rfl ?_
        refine ax_zret dX11_sell_31 rfl (by decide) ?_
        refine ⟨rfl, ?_, ?_⟩
        · rfl
        · rfl
      · replace h19 := f_b_1 h19
        refine ax_iload_n dX11_sell_22 rfl rfl (pc' := 23) rfl ?_
        refine ax_aload_n dX11_sell_23 rfl rfl (pc' := 24) rfl ?_
        refine ax_geti (v := M (5 + 4 * r) 2) dX11_sell_24 flX11_189 rfl (f_rp_now ⟨by omega, by omega⟩).1 rfl rfl (pc' := 27) rfl ?_
        refine ax_icmp_ne (tgt := 32) dX11_sell_27 (by decide) (pc' := 30) rfl (fun h27 => ?_) (fun h27 => ?_)
        · exfalso
          exact hg2 ⟨hir, by omega, by omega, by omega⟩
        · refine ax_iconst dX11_sell_30 (by decide) (pc' := 31) rfl ?_
          refine ax_zret dX11_sell_31 rfl (by decide) ?_
          refine ⟨rfl, ?_, ?_⟩
          · rfl
          · rfl
  · refine ax_invG [.inl r] [] dX11_sell_5 mlX11_139 sh_1 rfl rfl rfl (Nat.le_of_ble_eq_true rfl) (s_X9_ropeAt_no E l _ (by omega) _ r w hg0.1 hg1.1.1 hir) (pc' := 8) rfl (fun vv M_5 hq co5 hcm5 => ?_)
    obtain ⟨rfl, rfl⟩ := hq
    refine ax_reS (st2 := [.inr (-1)]) rfl ?_
    refine ax_astore_n dX11_sell_8 rfl (by decide) (ls' := [some (.inr 0), some (.inl r), some (.inl v), some (.inr (-1))]) rfl (pc' := 9) rfl ?_
    refine ax_aload_n dX11_sell_9 rfl rfl (pc' := 10) rfl ?_
    refine ax_ifnull (tgt := 30) dX11_sell_10 (by decide) (by decide) (pc' := 13) rfl (fun h10 => ?_) (fun h10 => ?_)
    · refine ax_iconst dX11_sell_30 (by decide) (pc' := 31) rfl ?_
      refine ax_zret dX11_sell_31 rfl (by decide) ?_
      refine ⟨rfl, ?_, ?_⟩
      · rfl
      · rfl
    · exfalso
      omega
set_option maxRecDepth 20000 in
theorem s_X11_sell_ok (E : ax_Env) (l : Launch) (d : Nat) (hd : 4 ≤ d) (M : ax_Mem) (r v : Int) (Ls : Int → List f_Ln) (w bk : Int → Int) (m : Int) (hg0 : f_nb M w) (hg1 : f_jv Ls w) (hg2 : f_pr M bk m w) (hg3 : f_isR w r ∧ 0 ≤ v ∧ v ≤ 9 ∧ f_R w r 2 ≠ v) : ax_G E l d iX11_sell [.inr 0, .inl r, .inl v] M (fun z0 M2 => z0 = some (.inl 1) ∧ (∀ x0 i0 : Int, ¬ ((1 ≤ x0 ∧ x0 < 39) ∨ (92 ≤ x0 ∧ x0 < 273) ∨ (x0 = 0 ∧ i0 = 12) ∨ x0 = 72 ∨ x0 = 73 ∨ x0 = 76 ∨ x0 = 77 ∨ (x0 = 75 ∧ i0 = 3) ∨ (x0 = 75 ∧ i0 = 4)) → M2 x0 i0 = M x0 i0) ∧ (f_nb M2 (f_note (f_sR w r 2 v) r (-1) v 5 (-1))) ∧ (f_pr M2 (f_keep bk w m) (f_keepN m) (f_note (f_sR w r 2 v) r (-1) v 5 (-1)))) := by
  obtain ⟨d, rfl⟩ : ∃ d0, d = d0 + 1 := ⟨d - 1, by omega⟩
  refine ax_start rfl (Nat.le_of_ble_eq_true rfl) (ls := [some (.inr 0), some (.inl r), some (.inl v), none]) rfl (fun hav hcm => ?_)
  have hc1 : -2147483648 ≤ r ∧ r < 2147483648 := hav (.inl r) (by simp)
  have hc2 : -2147483648 ≤ v ∧ v < 2147483648 := hav (.inl v) (by simp)
  clear hav
  have qlo := hg1.1.2.2.1
  have qlb := hg1.1.2.2.2.1
  have hir := hg3.1
  have hgr : 0 ≤ r ∧ r < 8 := ⟨hir.1, by omega⟩
  have qrm := f_wm_rm hg0.1 hir
  have ql : M (5 + 4 * r) 1 = f_R w r 1 := qrm.1
  have qlr := (hg1.1.1 r hgr.1 hgr.2).2
  have qow : M (5 + 4 * r) 2 = f_R w r 2 := qrm.2.1
  have qon : f_onl r w (f_sR w r 2 v) := f_onl_sR (by omega)
  have qo1 := qon 1 (by omega)
  have qiv := f_iv_sR (f := 2) (v := v) (w := w) (r := r) ⟨hgr.1, hgr.2, by decide, by decide⟩ (by omega) (by omega) hg1.1
  refine ax_aload_n dX11_sell_0 rfl rfl (pc' := 1) rfl ?_
  refine ax_getr (v := 1) dX11_sell_1 flX11_10 rfl sh_0 rfl (pc' := 4) rfl ?_
  refine ax_iload_n dX11_sell_4 rfl rfl (pc' := 5) rfl ?_
  refine ax_invG [.inl r] [] dX11_sell_5 mlX11_139 sh_1 rfl rfl rfl (Nat.le_of_ble_eq_true rfl) (s_X9_ropeAt_ok E l _ (by omega) _ r w hg0.1 hg1.1.1 hir) (pc' := 8) rfl (fun vv M_5 hq co5 hcm5 => ?_)
  obtain ⟨rfl, rfl⟩ := hq
  refine ax_reS (st2 := [.inr (5 + 4 * r)]) rfl ?_
  refine ax_astore_n dX11_sell_8 rfl (by decide) (ls' := [some (.inr 0), some (.inl r), some (.inl v), some (.inr (5 + 4 * r))]) rfl (pc' := 9) rfl ?_
  refine ax_aload_n dX11_sell_9 rfl rfl (pc' := 10) rfl ?_
  refine ax_ifnull (tgt := 30) dX11_sell_10 (by omega) (by decide) (pc' := 13) rfl (fun h10 => ?_) (fun h10 => ?_)
  · exfalso
    omega
  · refine ax_iload_n dX11_sell_13 rfl rfl (pc' := 14) rfl ?_
    refine ax_bipush dX11_sell_14 (by decide) (pc' := 16) rfl ?_
    refine ax_insG [.inl v, .inl 10] [] dX11_sell_16 mlX11_114 rfl rfl (Nat.le_of_ble_eq_true rfl) (s_X11_isIn E l _ (by omega) _ v 10) (pc' := 19) rfl (fun vv M_16 hq co16 hcm16 => ?_)
    obtain ⟨rfl, rfl⟩ := hq
    refine ax_reS (st2 := [.inl (f_b (0 ≤ v ∧ v < 10))]) rfl ?_
    refine ax_if_eq (tgt := 30) dX11_sell_19 (by decide) (pc' := 22) rfl (fun h19 => ?_) (fun h19 => ?_)
    · replace h19 := f_b_0 h19
      exfalso
      exact h19 ⟨by omega, by omega⟩
    · replace h19 := f_b_1 h19
      refine ax_iload_n dX11_sell_22 rfl rfl (pc' := 23) rfl ?_
      refine ax_aload_n dX11_sell_23 rfl rfl (pc' := 24) rfl ?_
      refine ax_geti (v := M (5 + 4 * r) 2) dX11_sell_24 flX11_189 rfl (f_rp_now ⟨by omega, by omega⟩).1 rfl rfl (pc' := 27) rfl ?_
      refine ax_icmp_ne (tgt := 32) dX11_sell_27 (by decide) (pc' := 30) rfl (fun h27 => ?_) (fun h27 => ?_)
      · refine ax_aload_n dX11_sell_32 rfl rfl (pc' := 33) rfl ?_
        refine ax_invG [] [] dX11_sell_33 mlX11_147 sh_0 rfl rfl rfl (Nat.le_of_ble_eq_true rfl) (s_X11_keepPast E l _ (by omega) _ w bk m hg0 hg1.1.1 hg2) (pc' := 36) rfl (fun vv M_33 hq co33 hcm33 => ?_)
        obtain ⟨rfl, frM_33, fa33_0⟩ := hq
        refine ax_reS (st2 := []) rfl ?_
        refine ax_aload_n dX11_sell_36 rfl rfl (pc' := 37) rfl ?_
        refine ax_iload_n dX11_sell_37 rfl rfl (pc' := 38) rfl ?_
        refine ax_puti dX11_sell_38 flX11_189 (Or.inl rfl) (f_rp_now ⟨by omega, by omega⟩).1 rfl (pc' := 41) rfl ?_
        have qnb : f_nb (ax_up M_33 (5 + 4 * r) 2 v) (f_sR w r 2 v) := by
          refine f_nb_onl hgr hg1.1 hg0 qon (fun x0 i0 x1 x2 x3 => (ax_up_miss (by omega) ((frM_33 x0 i0 (by omega)).trans rfl))) (Eq.trans (ax_up_miss (fun h => absurd h.2 (by decide)) ((frM_33 (5 + 4 * r) 0 (by omega)).trans rfl)) ((f_wm_th hg0.1 hgr).trans (by rw [f_R_sR ⟨hgr.1, hgr.2, by decide, by decide⟩ ⟨hgr.1, hgr.2, by decide, by decide⟩, if_neg (by omega)]))) (fun _ => ?_)
          refine f_rr_eq (show (ax_up M_33 (5 + 4 * r) 2 v) (5 + 4 * r) 1 = M (5 + 4 * r) 1 from (ax_up_miss (fun h => absurd h.2 (by decide)) ((frM_33 (5 + 4 * r) 1 (by omega)).trans rfl))) (show (ax_up M_33 (5 + 4 * r) 2 v) (5 + 4 * r) 2 = v from (ax_up_hit _ _ _ _)) (show (ax_up M_33 (5 + 4 * r) 2 v) (5 + 4 * r) 3 = M (5 + 4 * r) 3 from (ax_up_miss (fun h => absurd h.2 (by decide)) ((frM_33 (5 + 4 * r) 3 (by omega)).trans rfl))) (show (ax_up M_33 (5 + 4 * r) 2 v) (5 + 4 * r) 4 = M (5 + 4 * r) 4 from (ax_up_miss (fun h => absurd h.2 (by decide)) ((frM_33 (5 + 4 * r) 4 (by omega)).trans rfl))) (show (ax_up M_33 (5 + 4 * r) 2 v) (5 + 4 * r + 1) = M (5 + 4 * r + 1) from (ax_up_rowmiss (by omega) ((funext fun i0 => frM_33 (5 + 4 * r + 1) i0 (by omega)).trans rfl))) (show (ax_up M_33 (5 + 4 * r) 2 v) (5 + 4 * r + 2) = M (5 + 4 * r + 2) from (ax_up_rowmiss (by omega) ((funext fun i0 => frM_33 (5 + 4 * r + 2) i0 (by omega)).trans rfl))) (show (ax_up M_33 (5 + 4 * r) 2 v) (5 + 4 * r + 3) = M (5 + 4 * r + 3) from (ax_up_rowmiss (by omega) ((funext fun i0 => frM_33 (5 + 4 * r + 3) i0 (by omega)).trans rfl))) ?_
          exact f_rr_sR hgr ⟨by decide, by decide⟩ (by omega) rfl rfl rfl rfl (fun q => absurd q (by decide)) qrm
        refine ax_aload_n dX11_sell_41 rfl rfl (pc' := 42) rfl ?_
        refine ax_getr (v := 37) dX11_sell_42 flX11_19 rfl sh_0 rfl (pc' := 45) rfl ?_
        refine ax_aload_n dX11_sell_45 rfl rfl (pc' := 46) rfl ?_
        refine ax_getr (v := 1) dX11_sell_46 flX11_10 rfl sh_0 rfl (pc' := 49) rfl ?_
        refine ax_iload_n dX11_sell_49 rfl rfl (pc' := 50) rfl ?_
        refine ax_iconst dX11_sell_50 (by decide) (pc' := 51) rfl ?_
        refine ax_iload_n dX11_sell_51 rfl rfl (pc' := 52) rfl ?_
        refine ax_iconst dX11_sell_52 (by decide) (pc' := 53) rfl ?_
        refine ax_iconst dX11_sell_53 (by decide) (pc' := 54) rfl ?_
        refine ax_invG [.inr 1, .inl r, .inl (-1), .inl v, .inl 5, .inl (-1)] [] dX11_sell_54 mlX11_177 sh_37 rfl rfl rfl (Nat.le_of_ble_eq_true rfl) (s_X0_write E l _ (by omega) _ r (-1) v 5 (-1) (f_sR w r 2 v) qnb.1 qnb.2 ⟨by omega, by omega⟩ qiv.1) (pc' := 57) rfl (fun vv M_54 hq co54 hcm54 => ?_)
        obtain ⟨rfl, frM_54, fa54_0, fa54_1⟩ := hq
        refine ax_reS (st2 := []) rfl ?_
        refine ax_iconst dX11_sell_57 (by decide) (pc' := 58) rfl ?_
        refine ax_zret dX11_sell_58 rfl (by decide) ?_
        refine ⟨rfl, ?_, ?_, ?_, ?_⟩
        · rfl
        · intro x0 i0 hai
          exact ((frM_54 x0 i0 (fun h => h.elim (fun h => hai (Or.inl (by rw [h]; decide))) (fun h => hai (Or.inl (by rw [h.1]; decide))))).trans (ax_up_miss (by omega) ((frM_33 x0 i0 (fun h => h.elim (fun h => hai (Or.inr (Or.inl h))) (fun h => hai (Or.inr (Or.inr (Or.inl h)))))).trans rfl)))
        · exact ⟨fa54_0, fa54_1⟩
        · exact f_pr_w (fun i i1 i2 => (f_note_at (by omega) (by omega)).trans (qon i (by omega))) (f_pr_fr (M := M_33) (fun x0 i0 x1 x2 => ((frM_54 x0 i0 (by omega)).trans (ax_up_miss (by omega) rfl))) ((frM_54 0 12 (fun h => h.elim (fun h => absurd h (by decide)) (fun h => absurd h.1 (by decide)))).trans (ax_up_miss (by omega) rfl)) fa33_0)
      · exfalso
        omega
set_option maxRecDepth 20000 in
theorem s_X11_rope_no (E : ax_Env) (l : Launch) (d : Nat) (hd : 2 ≤ d) (M : ax_Mem) (n ow : Int) (Ls : Int → List f_Ln) (w : Int → Int) (hg0 : f_nb M w) (hg1 : f_jv Ls w) (hg2 : ¬ (f_free w ≠ -1 ∧ (2 ≤ n ∧ n ≤ 24) ∧ 0 ≤ ow ∧ ow ≤ 9)) : ax_G E l d iX11_rope [.inr 0, .inl n, .inl ow] M (fun z0 M2 => z0 = some (.inl (-1)) ∧ M = M2) := by
  obtain ⟨d, rfl⟩ : ∃ d0, d = d0 + 1 := ⟨d - 1, by omega⟩
  refine ax_start rfl (Nat.le_of_ble_eq_true rfl) (ls := [some (.inr 0), some (.inl n), some (.inl ow), none]) rfl (fun hav hcm => ?_)
  have hc1 : -2147483648 ≤ n ∧ n < 2147483648 := hav (.inl n) (by simp)
  have hc2 : -2147483648 ≤ ow ∧ ow < 2147483648 := hav (.inl ow) (by simp)
  clear hav
  have qlo := hg1.1.2.2.1
  have qlb := hg1.1.2.2.2.1
  refine ax_aload_n dX11_rope_0 rfl rfl (pc' := 1) rfl ?_
  refine ax_getr (v := 1) dX11_rope_1 flX11_10 rfl sh_0 rfl (pc' := 4) rfl ?_
  refine ax_invG [] [] dX11_rope_4 mlX11_110 sh_1 rfl rfl rfl (Nat.le_of_ble_eq_true rfl) (s_X9_freeNumber E l _ (by omega) _ w hg0.1 hg1.1.1) (pc' := 7) rfl (fun vv M_4 hq co4 hcm4 => ?_)
  obtain ⟨rfl, rfl⟩ := hq
  refine ax_reS (st2 := [.inl (f_free w)]) rfl ?_
  have cc4 : -2147483648 ≤ f_free w ∧ f_free w < 2147483648 := co4 _ rfl
  refine ax_istore_n dX11_rope_7 rfl (by decide) (ls' := [some (.inr 0), some (.inl n), some (.inl ow), some (.inl (f_free w))]) rfl (pc' := 8) rfl ?_
  refine ax_iload_n dX11_rope_8 rfl rfl (pc' := 9) rfl ?_
  refine ax_iconst dX11_rope_9 (by decide) (pc' := 10) rfl ?_
  refine ax_icmp_lt (tgt := 33) dX11_rope_10 (by decide) (pc' := 13) rfl (fun h10 => ?_) (fun h10 => ?_)
  · refine ax_iconst dX11_rope_33 (by decide) (pc' := 34) rfl ?_
    refine ax_iret dX11_rope_34 rfl ?_
    refine ⟨rfl, ?_, ?_⟩
    · rfl
    · rfl
  · refine ax_iload_n dX11_rope_13 rfl rfl (pc' := 14) rfl ?_
    refine ax_bipush dX11_rope_14 (by decide) (pc' := 16) rfl ?_
    refine ax_icmp_gt (tgt := 33) dX11_rope_16 (by decide) (pc' := 19) rfl (fun h16 => ?_) (fun h16 => ?_)
    · refine ax_iconst dX11_rope_33 (by decide) (pc' := 34) rfl ?_
      refine ax_iret dX11_rope_34 rfl ?_
      refine ⟨rfl, ?_, ?_⟩
      · rfl
      · rfl
    · refine ax_iload_n dX11_rope_19 rfl rfl (pc' := 20) rfl ?_
      refine ax_bipush dX11_rope_20 (by decide) (pc' := 22) rfl ?_
      refine ax_insG [.inl ow, .inl 10] [] dX11_rope_22 mlX11_114 rfl rfl (Nat.le_of_ble_eq_true rfl) (s_X11_isIn E l _ (by omega) _ ow 10) (pc' := 25) rfl (fun vv M_22 hq co22 hcm22 => ?_)
      obtain ⟨rfl, rfl⟩ := hq
      refine ax_reS (st2 := [.inl (f_b (0 ≤ ow ∧ ow < 10))]) rfl ?_
      refine ax_if_eq (tgt := 33) dX11_rope_25 (by decide) (pc' := 28) rfl (fun h25 => ?_) (fun h25 => ?_)
      · replace h25 := f_b_0 h25
        refine ax_iconst dX11_rope_33 (by decide) (pc' := 34) rfl ?_
        refine ax_iret dX11_rope_34 rfl ?_
        refine ⟨rfl, ?_, ?_⟩
        · rfl
        · rfl
      · replace h25 := f_b_1 h25
        refine ax_iload_n dX11_rope_28 rfl rfl (pc' := 29) rfl ?_
        refine ax_iconst dX11_rope_29 (by decide) (pc' := 30) rfl ?_
        refine ax_icmp_ne (tgt := 35) dX11_rope_30 (by decide) (pc' := 33) rfl (fun h30 => ?_) (fun h30 => ?_)
        · exfalso
          exact hg2 ⟨h30, by omega, by omega, by omega⟩
        · refine ax_iconst dX11_rope_33 (by decide) (pc' := 34) rfl ?_
          refine ax_iret dX11_rope_34 rfl ?_
          refine ⟨rfl, ?_, ?_⟩
          · rfl
          · rfl
set_option maxRecDepth 20000 in
theorem s_X11_rope_ok (E : ax_Env) (l : Launch) (d : Nat) (hd : 2 ≤ d) (M : ax_Mem) (n ow : Int) (Ls : Int → List f_Ln) (w bk : Int → Int) (m : Int) (hg0 : f_nb M w) (hg1 : f_jv Ls w) (hg2 : f_pr M bk m w) (hg3 : f_free w ≠ -1 ∧ (2 ≤ n ∧ n ≤ 24) ∧ 0 ≤ ow ∧ ow ≤ 9) : ax_G E l d iX11_rope [.inr 0, .inl n, .inl ow] M (fun z0 M2 => z0 = some (.inl (f_free w)) ∧ (∀ x0 i0 : Int, ¬ ((1 ≤ x0 ∧ x0 < 39) ∨ (92 ≤ x0 ∧ x0 < 273) ∨ (x0 = 0 ∧ i0 = 12) ∨ x0 = 72 ∨ x0 = 73 ∨ x0 = 76 ∨ x0 = 77 ∨ (x0 = 75 ∧ i0 = 3) ∨ (x0 = 75 ∧ i0 = 4)) → M2 x0 i0 = M x0 i0) ∧ (f_nb M2 (f_beg w (f_free w) n ow (w 0) 0)) ∧ (f_pr M2 bk 0 (f_beg w (f_free w) n ow (w 0) 0))) := by
  obtain ⟨d, rfl⟩ : ∃ d0, d = d0 + 1 := ⟨d - 1, by omega⟩
  refine ax_start rfl (Nat.le_of_ble_eq_true rfl) (ls := [some (.inr 0), some (.inl n), some (.inl ow), none]) rfl (fun hav hcm => ?_)
  have hc1 : -2147483648 ≤ n ∧ n < 2147483648 := hav (.inl n) (by simp)
  have hc2 : -2147483648 ≤ ow ∧ ow < 2147483648 := hav (.inl ow) (by simp)
  clear hav
  have qlo := hg1.1.2.2.1
  have qlb := hg1.1.2.2.2.1
  have qfr := f_free_cs w
  have hgr : 0 ≤ f_free w ∧ f_free w < 8 := by omega
  have qd : M 1 0 = w 0 := hg0.1.1.1
  refine ax_aload_n dX11_rope_0 rfl rfl (pc' := 1) rfl ?_
  refine ax_getr (v := 1) dX11_rope_1 flX11_10 rfl sh_0 rfl (pc' := 4) rfl ?_
  refine ax_invG [] [] dX11_rope_4 mlX11_110 sh_1 rfl rfl rfl (Nat.le_of_ble_eq_true rfl) (s_X9_freeNumber E l _ (by omega) _ w hg0.1 hg1.1.1) (pc' := 7) rfl (fun vv M_4 hq co4 hcm4 => ?_)
  obtain ⟨rfl, rfl⟩ := hq
  refine ax_reS (st2 := [.inl (f_free w)]) rfl ?_
  have cc4 : -2147483648 ≤ f_free w ∧ f_free w < 2147483648 := co4 _ rfl
  refine ax_istore_n dX11_rope_7 rfl (by decide) (ls' := [some (.inr 0), some (.inl n), some (.inl ow), some (.inl (f_free w))]) rfl (pc' := 8) rfl ?_
  refine ax_iload_n dX11_rope_8 rfl rfl (pc' := 9) rfl ?_
  refine ax_iconst dX11_rope_9 (by decide) (pc' := 10) rfl ?_
  refine ax_icmp_lt (tgt := 33) dX11_rope_10 (by decide) (pc' := 13) rfl (fun h10 => ?_) (fun h10 => ?_)
  · exfalso
    omega
  · refine ax_iload_n dX11_rope_13 rfl rfl (pc' := 14) rfl ?_
    refine ax_bipush dX11_rope_14 (by decide) (pc' := 16) rfl ?_
    refine ax_icmp_gt (tgt := 33) dX11_rope_16 (by decide) (pc' := 19) rfl (fun h16 => ?_) (fun h16 => ?_)
    · exfalso
      omega
    · refine ax_iload_n dX11_rope_19 rfl rfl (pc' := 20) rfl ?_
      refine ax_bipush dX11_rope_20 (by decide) (pc' := 22) rfl ?_
      refine ax_insG [.inl ow, .inl 10] [] dX11_rope_22 mlX11_114 rfl rfl (Nat.le_of_ble_eq_true rfl) (s_X11_isIn E l _ (by omega) _ ow 10) (pc' := 25) rfl (fun vv M_22 hq co22 hcm22 => ?_)
      obtain ⟨rfl, rfl⟩ := hq
      refine ax_reS (st2 := [.inl (f_b (0 ≤ ow ∧ ow < 10))]) rfl ?_
      refine ax_if_eq (tgt := 33) dX11_rope_25 (by decide) (pc' := 28) rfl (fun h25 => ?_) (fun h25 => ?_)
      · replace h25 := f_b_0 h25
        exfalso
        exact h25 ⟨by omega, by omega⟩
      · replace h25 := f_b_1 h25
        refine ax_iload_n dX11_rope_28 rfl rfl (pc' := 29) rfl ?_
        refine ax_iconst dX11_rope_29 (by decide) (pc' := 30) rfl ?_
        refine ax_icmp_ne (tgt := 35) dX11_rope_30 (by decide) (pc' := 33) rfl (fun h30 => ?_) (fun h30 => ?_)
        · refine ax_aload_n dX11_rope_35 rfl rfl (pc' := 36) rfl ?_
          refine ax_getr (v := 1) dX11_rope_36 flX11_10 rfl sh_0 rfl (pc' := 39) rfl ?_
          refine ax_getr (v := 4) dX11_rope_39 flX11_118 rfl sh_1 rfl (pc' := 42) rfl ?_
          refine ax_iload_n dX11_rope_42 rfl rfl (pc' := 43) rfl ?_
          refine ax_aald (v := 5 + 4 * (f_free w)) dX11_rope_43 sh_4 (by decide) (by omega) (by omega) (f_av_now _ ⟨by omega, by omega⟩) (pc' := 44) rfl ?_
          refine ax_iload_n dX11_rope_44 rfl rfl (pc' := 45) rfl ?_
          refine ax_iload_n dX11_rope_45 rfl rfl (pc' := 46) rfl ?_
          refine ax_aload_n dX11_rope_46 rfl rfl (pc' := 47) rfl ?_
          refine ax_getr (v := 1) dX11_rope_47 flX11_10 rfl sh_0 rfl (pc' := 50) rfl ?_
          refine ax_geti (v := M 1 0) dX11_rope_50 flX11_122 rfl sh_1 rfl rfl (pc' := 53) rfl ?_
          refine ax_reS (st2 := [.inl (w 0), .inl ow, .inl n, .inr (5 + 4 * (f_free w))]) (congrArg (fun z => Sum.inl z :: _) (by exact qd)) ?_
          refine ax_invG [.inl n, .inl ow, .inl (w 0)] [] dX11_rope_53 mlX11_125 (f_rp_now ⟨by omega, by omega⟩).1 rfl rfl rfl (Nat.le_of_ble_eq_true rfl) (s_X7_begin E l _ (by omega) _ (5 + 4 * (f_free w)) n ow (w 0) rfl rfl rfl (f_rp_now hgr)) (pc' := 56) rfl (fun vv M_53 hq co53 hcm53 => ?_)
          obtain ⟨rfl, frM_53, mrM_53_0, mrM_53_1, mrM_53_2, msM_53_0, msM_53_1, msM_53_2, msM_53_3, msM_53_4⟩ := hq
          refine ax_reS (st2 := []) rfl ?_
          refine ax_aload_n dX11_rope_56 rfl rfl (pc' := 57) rfl ?_
          refine ax_iconst dX11_rope_57 (by decide) (pc' := 58) rfl ?_
          refine ax_puti dX11_rope_58 flX11_107 (Or.inl rfl) sh_0 rfl (pc' := 61) rfl ?_
          refine ax_iload_n dX11_rope_61 rfl rfl (pc' := 62) rfl ?_
          refine ax_iret dX11_rope_62 rfl ?_
          refine ⟨rfl, ?_, ?_, ?_, ?_⟩
          · rfl
          · intro x0 i0 hai
            exact (ax_up_miss (fun h => hai (Or.inr (Or.inr (Or.inl h)))) ((frM_53 x0 i0 (by omega)).trans rfl))
          · refine f_nb_onl hgr hg1.1 hg0 f_onl_beg (fun x0 i0 x1 x2 x3 => (ax_up_miss (by omega) ((frM_53 x0 i0 (by omega)).trans rfl))) (Eq.trans (ax_up_miss (by omega) msM_53_0) (by rw [f_R_beg hgr ⟨hgr.1, hgr.2, by decide, by decide⟩, if_pos rfl, if_pos rfl])) (fun _ => ?_)
            refine f_rr_eq (show (ax_up M_53 0 12 0) (5 + 4 * (f_free w)) 1 = n from (ax_up_miss (by omega) msM_53_1)) (show (ax_up M_53 0 12 0) (5 + 4 * (f_free w)) 2 = ow from (ax_up_miss (by omega) msM_53_2)) (show (ax_up M_53 0 12 0) (5 + 4 * (f_free w)) 3 = (w 0) from (ax_up_miss (by omega) msM_53_3)) (show (ax_up M_53 0 12 0) (5 + 4 * (f_free w)) 4 = 0 from (ax_up_miss (by omega) msM_53_4)) (show (ax_up M_53 0 12 0) (5 + 4 * (f_free w) + 1) = f_flv (M ((5 + 4 * (f_free w)) + 1)) 24 (-1) from (ax_up_rowmiss (by omega) mrM_53_0)) (show (ax_up M_53 0 12 0) (5 + 4 * (f_free w) + 2) = f_flv (M ((5 + 4 * (f_free w)) + 2)) 144 0 from (ax_up_rowmiss (by omega) mrM_53_1)) (show (ax_up M_53 0 12 0) (5 + 4 * (f_free w) + 3) = f_flv (M ((5 + 4 * (f_free w)) + 3)) 144 0 from (ax_up_rowmiss (by omega) mrM_53_2)) ?_
            exact f_rr_beg hgr (by omega)
          · exact f_pr_0 (ax_up_hit _ _ _ _) ((show (ax_up M_53 0 12 0) 92 = M 92 from (ax_up_rowmiss (by decide) ((funext fun i0 => frM_53 92 i0 (by omega)).trans rfl))) ▸ hg2.2.1)
        · exfalso
          omega
set_option maxRecDepth 20000 in
theorem s_X11_state (E : ax_Env) (l : Launch) (d : Nat) (hd : 0 ≤ d) (M : ax_Mem) (v : Int) (Ls : Int → List f_Ln) (w bk : Int → Int) (m : Int) (hg0 : f_nb M w) (hg1 : f_jv Ls w) (hg2 : f_pr M bk m w) : ax_G E l d iX11_state [.inr 0, .inl v] M (fun z0 M2 => z0 = some (.inl (w 2)) ∧ (∀ x0 i0 : Int, ¬ ((1 ≤ x0 ∧ x0 < 39) ∨ (92 ≤ x0 ∧ x0 < 273) ∨ (x0 = 0 ∧ i0 = 12) ∨ x0 = 72 ∨ x0 = 73 ∨ x0 = 76 ∨ x0 = 77 ∨ (x0 = 75 ∧ i0 = 3) ∨ (x0 = 75 ∧ i0 = 4)) → M2 x0 i0 = M x0 i0) ∧ (f_nb M2 (f_up w 2 v)) ∧ (f_pr M2 bk 0 (f_up w 2 v))) := by
  refine ax_start rfl (Nat.le_of_ble_eq_true rfl) (ls := [some (.inr 0), some (.inl v), none]) rfl (fun hav hcm => ?_)
  have hc1 : -2147483648 ≤ v ∧ v < 2147483648 := hav (.inl v) (by simp)
  clear hav
  have qlo := hg1.1.2.2.1
  have qlb := hg1.1.2.2.2.1
  refine ax_aload_n dX11_state_0 rfl rfl (pc' := 1) rfl ?_
  refine ax_getr (v := 1) dX11_state_1 flX11_10 rfl sh_0 rfl (pc' := 4) rfl ?_
  refine ax_geti (v := M 1 2) dX11_state_4 flX11_103 rfl sh_1 rfl rfl (pc' := 7) rfl ?_
  refine ax_istore_n dX11_state_7 rfl (by decide) (ls' := [some (.inr 0), some (.inl v), some (.inl (M 1 2))]) rfl (pc' := 8) rfl ?_
  refine ax_aload_n dX11_state_8 rfl rfl (pc' := 9) rfl ?_
  refine ax_getr (v := 1) dX11_state_9 flX11_10 rfl sh_0 rfl (pc' := 12) rfl ?_
  refine ax_iload_n dX11_state_12 rfl rfl (pc' := 13) rfl ?_
  refine ax_puti dX11_state_13 flX11_103 (Or.inl rfl) sh_1 rfl (pc' := 16) rfl ?_
  refine ax_aload_n dX11_state_16 rfl rfl (pc' := 17) rfl ?_
  refine ax_iconst dX11_state_17 (by decide) (pc' := 18) rfl ?_
  refine ax_puti dX11_state_18 flX11_107 (Or.inl rfl) sh_0 rfl (pc' := 21) rfl ?_
  refine ax_iload_n dX11_state_21 rfl rfl (pc' := 22) rfl ?_
  refine ax_iret dX11_state_22 rfl ?_
  refine ⟨rfl, ?_, ?_, ?_, ?_⟩
  · refine congrArg (fun z => some (Sum.inl z)) ?_
    exact hg0.1.1.2.2.1
  · intro x0 i0 hai
    exact (ax_up_miss (fun h => hai (Or.inr (Or.inr (Or.inl h)))) (ax_up_miss (fun h => hai (Or.inl (by rw [h.1]; decide))) rfl))
  · exact f_nb_hd hg1.1 hg0 (fun i i1 i2 => f_up_o (by omega)) (f_up_o (by decide)) (fun i i1 i2 => f_up_o (by omega)) (fun x0 i0 x1 x2 => (ax_up_miss (by omega) (ax_up_miss (by omega) rfl))) ⟨Eq.trans (ax_up_miss (fun h => absurd h.1 (by decide)) (ax_up_miss (by decide) rfl)) (hg0.1.1.1.trans (f_up_o (by decide)).symm), Eq.trans (ax_up_miss (fun h => absurd h.1 (by decide)) (ax_up_miss (by decide) rfl)) (hg0.1.1.2.1.trans (f_up_o (by decide)).symm), Eq.trans (ax_up_miss (fun h => absurd h.1 (by decide)) (ax_up_hit _ _ _ _)) ((f_up_same _ _ _).symm), Eq.trans (ax_up_miss (fun h => absurd h.1 (by decide)) (ax_up_miss (by decide) rfl)) (hg0.1.1.2.2.2.trans (f_up_o (by decide)).symm)⟩
  · exact f_pr_0 (ax_up_hit _ _ _ _) ((show (ax_up (ax_up M 1 2 v) 0 12 0) 92 = M 92 from (ax_up_rowmiss (by decide) (ax_up_rowmiss (by decide) rfl))) ▸ hg2.2.1)
set_option maxRecDepth 20000 in
theorem s_X11_set_2 (E : ax_Env) (l : Launch) (d : Nat) (hd : 1 ≤ d) (M : ax_Mem) (what who v : Int) (Ls : Int → List f_Ln) (w bk : Int → Int) (m : Int) (hg0 : f_nb M w) (hg1 : f_jv Ls w) (hg2 : f_pr M bk m w) (hg3 : what = 2 ∧ 0 ≤ v ∧ v ≤ 1000) : ax_G E l d iX11_set [.inr 0, .inl what, .inl who, .inl v] M (fun z0 M2 => z0 = some (.inl 1) ∧ (∀ x0 i0 : Int, ¬ ((1 ≤ x0 ∧ x0 < 39) ∨ (92 ≤ x0 ∧ x0 < 273) ∨ (x0 = 0 ∧ i0 = 12) ∨ x0 = 72 ∨ x0 = 73 ∨ x0 = 76 ∨ x0 = 77 ∨ (x0 = 75 ∧ i0 = 3) ∨ (x0 = 75 ∧ i0 = 4)) → M2 x0 i0 = M x0 i0) ∧ (f_nb M2 (f_up w 2576 v)) ∧ (f_pr M2 bk 0 (f_up w 2576 v))) := by
  obtain ⟨d, rfl⟩ : ∃ d0, d = d0 + 1 := ⟨d - 1, by omega⟩
  refine ax_start rfl (Nat.le_of_ble_eq_true rfl) (ls := [some (.inr 0), some (.inl what), some (.inl who), some (.inl v)]) rfl (fun hav hcm => ?_)
  have hc1 : -2147483648 ≤ what ∧ what < 2147483648 := hav (.inl what) (by simp)
  have hc2 : -2147483648 ≤ who ∧ who < 2147483648 := hav (.inl who) (by simp)
  have hc3 : -2147483648 ≤ v ∧ v < 2147483648 := hav (.inl v) (by simp)
  clear hav
  have qlo := hg1.1.2.2.1
  have qlb := hg1.1.2.2.2.1
  refine ax_iload_n dX11_set_0 rfl rfl (pc' := 1) rfl ?_
  refine ax_iconst dX11_set_1 (by decide) (pc' := 2) rfl ?_
  refine ax_icmp_ne (tgt := 27) dX11_set_2 (by decide) (pc' := 5) rfl (fun h2 => ?_) (fun h2 => ?_)
  · exfalso
    omega
  · refine ax_iload_n dX11_set_5 rfl rfl (pc' := 6) rfl ?_
    refine ax_if_lt (tgt := 27) dX11_set_6 (by decide) (pc' := 9) rfl (fun h6 => ?_) (fun h6 => ?_)
    · exfalso
      omega
    · refine ax_iload_n dX11_set_9 rfl rfl (pc' := 10) rfl ?_
      refine ax_sipush dX11_set_10 (by decide) (pc' := 13) rfl ?_
      refine ax_icmp_gt (tgt := 27) dX11_set_13 (by decide) (pc' := 16) rfl (fun h13 => ?_) (fun h13 => ?_)
      · exfalso
        omega
      · refine ax_aload_n dX11_set_16 rfl rfl (pc' := 17) rfl ?_
        refine ax_getr (v := 1) dX11_set_17 flX11_10 rfl sh_0 rfl (pc' := 20) rfl ?_
        refine ax_iload_n dX11_set_20 rfl rfl (pc' := 21) rfl ?_
        refine ax_puti dX11_set_21 flX11_129 (Or.inl rfl) sh_1 rfl (pc' := 24) rfl ?_
        refine ax_goto dX11_set_24 (pc' := 103) (by decide) ?_
        refine ax_aload_n dX11_set_103 rfl rfl (pc' := 104) rfl ?_
        refine ax_iconst dX11_set_104 (by decide) (pc' := 105) rfl ?_
        refine ax_puti dX11_set_105 flX11_107 (Or.inl rfl) sh_0 rfl (pc' := 108) rfl ?_
        refine ax_iconst dX11_set_108 (by decide) (pc' := 109) rfl ?_
        refine ax_zret dX11_set_109 rfl (by decide) ?_
        refine ⟨rfl, ?_, ?_, ?_, ?_⟩
        · rfl
        · intro x0 i0 hai
          exact (ax_up_miss (fun h => hai (Or.inr (Or.inr (Or.inl h)))) (ax_up_miss (fun h => hai (Or.inl (by rw [h.1]; decide))) rfl))
        · exact f_nb_hd hg1.1 hg0 (fun i i1 i2 => f_up_o (by omega)) (f_up_o (by decide)) (fun i i1 i2 => f_up_o (by omega)) (fun x0 i0 x1 x2 => (ax_up_miss (by omega) (ax_up_miss (by omega) rfl))) ⟨Eq.trans (ax_up_miss (fun h => absurd h.1 (by decide)) (ax_up_miss (by decide) rfl)) (hg0.1.1.1.trans (f_up_o (by decide)).symm), Eq.trans (ax_up_miss (fun h => absurd h.1 (by decide)) (ax_up_hit _ _ _ _)) ((f_up_same _ _ _).symm), Eq.trans (ax_up_miss (fun h => absurd h.1 (by decide)) (ax_up_miss (by decide) rfl)) (hg0.1.1.2.2.1.trans (f_up_o (by decide)).symm), Eq.trans (ax_up_miss (fun h => absurd h.1 (by decide)) (ax_up_miss (by decide) rfl)) (hg0.1.1.2.2.2.trans (f_up_o (by decide)).symm)⟩
        · exact f_pr_0 (ax_up_hit _ _ _ _) ((show (ax_up (ax_up M 1 1 v) 0 12 0) 92 = M 92 from (ax_up_rowmiss (by decide) (ax_up_rowmiss (by decide) rfl))) ▸ hg2.2.1)
set_option maxRecDepth 20000 in
theorem s_X11_set_0 (E : ax_Env) (l : Launch) (d : Nat) (hd : 1 ≤ d) (M : ax_Mem) (what who v : Int) (Ls : Int → List f_Ln) (w bk : Int → Int) (m : Int) (hg0 : f_nb M w) (hg1 : f_jv Ls w) (hg2 : f_pr M bk m w) (hg3 : what = 0 ∧ (0 ≤ who ∧ who ≤ 5) ∧ 1 ≤ v ∧ v ≤ 9) : ax_G E l d iX11_set [.inr 0, .inl what, .inl who, .inl v] M (fun z0 M2 => z0 = some (.inl 1) ∧ (∀ x0 i0 : Int, ¬ ((1 ≤ x0 ∧ x0 < 39) ∨ (92 ≤ x0 ∧ x0 < 273) ∨ (x0 = 0 ∧ i0 = 12) ∨ x0 = 72 ∨ x0 = 73 ∨ x0 = 76 ∨ x0 = 77 ∨ (x0 = 75 ∧ i0 = 3) ∨ (x0 = 75 ∧ i0 = 4)) → M2 x0 i0 = M x0 i0) ∧ (f_nb M2 (f_up w (2564 + who) v)) ∧ (f_pr M2 bk 0 (f_up w (2564 + who) v))) := by
  obtain ⟨d, rfl⟩ : ∃ d0, d = d0 + 1 := ⟨d - 1, by omega⟩
  refine ax_start rfl (Nat.le_of_ble_eq_true rfl) (ls := [some (.inr 0), some (.inl what), some (.inl who), some (.inl v)]) rfl (fun hav hcm => ?_)
  have hc1 : -2147483648 ≤ what ∧ what < 2147483648 := hav (.inl what) (by simp)
  have hc2 : -2147483648 ≤ who ∧ who < 2147483648 := hav (.inl who) (by simp)
  have hc3 : -2147483648 ≤ v ∧ v < 2147483648 := hav (.inl v) (by simp)
  clear hav
  have qlo := hg1.1.2.2.1
  have qlb := hg1.1.2.2.2.1
  refine ax_iload_n dX11_set_0 rfl rfl (pc' := 1) rfl ?_
  refine ax_iconst dX11_set_1 (by decide) (pc' := 2) rfl ?_
  refine ax_icmp_ne (tgt := 27) dX11_set_2 (by decide) (pc' := 5) rfl (fun h2 => ?_) (fun h2 => ?_)
  · refine ax_iload_n dX11_set_27 rfl rfl (pc' := 28) rfl ?_
    refine ax_if_ne (tgt := 64) dX11_set_28 (by decide) (pc' := 31) rfl (fun h28 => ?_) (fun h28 => ?_)
    · exfalso
      omega
    · refine ax_iload_n dX11_set_31 rfl rfl (pc' := 32) rfl ?_
      refine ax_bipush dX11_set_32 (by decide) (pc' := 34) rfl ?_
      refine ax_insG [.inl who, .inl 6] [] dX11_set_34 mlX11_114 rfl rfl (Nat.le_of_ble_eq_true rfl) (s_X11_isIn E l _ (by omega) _ who 6) (pc' := 37) rfl (fun vv M_34 hq co34 hcm34 => ?_)
      obtain ⟨rfl, rfl⟩ := hq
      refine ax_reS (st2 := [.inl (f_b (0 ≤ who ∧ who < 6))]) rfl ?_
      refine ax_if_eq (tgt := 64) dX11_set_37 (by decide) (pc' := 40) rfl (fun h37 => ?_) (fun h37 => ?_)
      · replace h37 := f_b_0 h37
        exfalso
        exact h37 ⟨by omega, by omega⟩
      · replace h37 := f_b_1 h37
        refine ax_iload_n dX11_set_40 rfl rfl (pc' := 41) rfl ?_
        refine ax_iconst dX11_set_41 (by decide) (pc' := 42) rfl ?_
        refine ax_icmp_lt (tgt := 64) dX11_set_42 (by decide) (pc' := 45) rfl (fun h42 => ?_) (fun h42 => ?_)
        · exfalso
          omega
        · refine ax_iload_n dX11_set_45 rfl rfl (pc' := 46) rfl ?_
          refine ax_bipush dX11_set_46 (by decide) (pc' := 48) rfl ?_
          refine ax_icmp_gt (tgt := 64) dX11_set_48 (by decide) (pc' := 51) rfl (fun h48 => ?_) (fun h48 => ?_)
          · exfalso
            omega
          · refine ax_aload_n dX11_set_51 rfl rfl (pc' := 52) rfl ?_
            refine ax_getr (v := 1) dX11_set_52 flX11_10 rfl sh_0 rfl (pc' := 55) rfl ?_
            refine ax_getr (v := 2) dX11_set_55 flX11_132 rfl sh_1 rfl (pc' := 58) rfl ?_
            refine ax_iload_n dX11_set_58 rfl rfl (pc' := 59) rfl ?_
            refine ax_iload_n dX11_set_59 rfl rfl (pc' := 60) rfl ?_
            refine ax_iast dX11_set_60 sh_2 rfl (by omega) (by omega) (pc' := 61) rfl ?_
            refine ax_goto dX11_set_61 (pc' := 103) (by decide) ?_
            refine ax_aload_n dX11_set_103 rfl rfl (pc' := 104) rfl ?_
            refine ax_iconst dX11_set_104 (by decide) (pc' := 105) rfl ?_
            refine ax_puti dX11_set_105 flX11_107 (Or.inl rfl) sh_0 rfl (pc' := 108) rfl ?_
            refine ax_iconst dX11_set_108 (by decide) (pc' := 109) rfl ?_
            refine ax_zret dX11_set_109 rfl (by decide) ?_
            refine ⟨rfl, ?_, ?_, ?_, ?_⟩
            · rfl
            · intro x0 i0 hai
              exact (ax_up_miss (fun h => hai (Or.inr (Or.inr (Or.inl h)))) (ax_up_miss (fun h => hai (Or.inl (by rw [h.1]; decide))) rfl))
            · show f_nb (ax_up (ax_up M 2 who v) 0 12 0) _
              refine ⟨⟨⟨Eq.trans (ax_up_miss (fun h => absurd h.1 (by decide)) (ax_up_miss (fun h => absurd h.1 (by decide)) rfl)) (hg0.1.1.1.trans (f_up_o (by omega)).symm), Eq.trans (ax_up_miss (fun h => absurd h.1 (by decide)) (ax_up_miss (fun h => absurd h.1 (by decide)) rfl)) (hg0.1.1.2.1.trans (f_up_o (by omega)).symm), Eq.trans (ax_up_miss (fun h => absurd h.1 (by decide)) (ax_up_miss (fun h => absurd h.1 (by decide)) rfl)) (hg0.1.1.2.2.1.trans (f_up_o (by omega)).symm), Eq.trans (ax_up_miss (fun h => absurd h.1 (by decide)) (ax_up_miss (fun h => absurd h.1 (by decide)) rfl)) (hg0.1.1.2.2.2.trans (f_up_o (by omega)).symm)⟩, fun k k1 k2 => ?_, fun i i1 i2 => ?_⟩, fun x x1 x2 => ?_⟩
              · show (ax_up (ax_up M 2 who v) 0 12 0) 2 k = _ ∧ (ax_up (ax_up M 2 who v) 0 12 0) 3 k = _
                rw [show (ax_up (ax_up M 2 who v) 0 12 0) 2 = _ from (ax_up_rowmiss (by decide) (ax_up_rowhit rfl)), show (ax_up (ax_up M 2 who v) 0 12 0) 3 = _ from (ax_up_rowmiss (by decide) (ax_up_rowmiss (by decide) rfl))]
                have q := hg0.1.2.1 k k1 k2
                have q1 : M 2 k = w (2564 + k) := q.1
                have q2 : M 3 k = w (2570 + k) := q.2
                unfold f_up
                refine ⟨?_, ?_⟩
                · repeat' split
                  all_goals first | rfl | assumption | (exfalso; omega)
                · repeat' split
                  all_goals first | rfl | assumption | (exfalso; omega)
              · have q := hg0.1.2.2 i i1 i2
                have e0 : f_R (f_up w (2564 + who) v) i 0 = f_R w i 0 := f_up_o (by omega)
                have ef : ∀ x0 i0, 1 + 4 ≤ x0 → x0 < 39 → (ax_up (ax_up M 2 who v) 0 12 0) x0 i0 = M x0 i0 := fun x0 i0 x1 x2 => (ax_up_miss (by omega) (ax_up_miss (by omega) rfl))
                rw [e0, ef _ 0 (by omega) (by omega)]
                exact ⟨q.1, fun z => f_rm_w (w := w) (fun j j1 j2 => f_up_o (by omega)) (hg1.1.1 i i1 i2).2.2 (f_rm_fr (fun x0 i0 hx => ef x0 i0 (by omega) (by omega)) (q.2 z))⟩
              · have x3 : x < 6 * w 1 := by
                  rw [f_up_o (by omega)] at x2
                  exact x2
                rw [f_up_o (by omega), show (ax_up (ax_up M 2 who v) 0 12 0) 38 = M 38 from (ax_up_rowmiss (by decide) (ax_up_rowmiss (by decide) rfl))]
                exact hg0.2 x x1 x3
            · exact f_pr_0 (ax_up_hit _ _ _ _) ((show (ax_up (ax_up M 2 who v) 0 12 0) 92 = M 92 from (ax_up_rowmiss (by decide) (ax_up_rowmiss (by decide) rfl))) ▸ hg2.2.1)
  · exfalso
    omega
set_option maxRecDepth 20000 in
theorem s_X11_set_1 (E : ax_Env) (l : Launch) (d : Nat) (hd : 1 ≤ d) (M : ax_Mem) (what who v : Int) (Ls : Int → List f_Ln) (w bk : Int → Int) (m : Int) (hg0 : f_nb M w) (hg1 : f_jv Ls w) (hg2 : f_pr M bk m w) (hg3 : what = 1 ∧ (0 ≤ who ∧ who ≤ 5) ∧ 0 ≤ v ∧ v ≤ 9) : ax_G E l d iX11_set [.inr 0, .inl what, .inl who, .inl v] M (fun z0 M2 => z0 = some (.inl 1) ∧ (∀ x0 i0 : Int, ¬ ((1 ≤ x0 ∧ x0 < 39) ∨ (92 ≤ x0 ∧ x0 < 273) ∨ (x0 = 0 ∧ i0 = 12) ∨ x0 = 72 ∨ x0 = 73 ∨ x0 = 76 ∨ x0 = 77 ∨ (x0 = 75 ∧ i0 = 3) ∨ (x0 = 75 ∧ i0 = 4)) → M2 x0 i0 = M x0 i0) ∧ (f_nb M2 (f_up w (2570 + who) v)) ∧ (f_pr M2 bk 0 (f_up w (2570 + who) v))) := by
  obtain ⟨d, rfl⟩ : ∃ d0, d = d0 + 1 := ⟨d - 1, by omega⟩
  refine ax_start rfl (Nat.le_of_ble_eq_true rfl) (ls := [some (.inr 0), some (.inl what), some (.inl who), some (.inl v)]) rfl (fun hav hcm => ?_)
  have hc1 : -2147483648 ≤ what ∧ what < 2147483648 := hav (.inl what) (by simp)
  have hc2 : -2147483648 ≤ who ∧ who < 2147483648 := hav (.inl who) (by simp)
  have hc3 : -2147483648 ≤ v ∧ v < 2147483648 := hav (.inl v) (by simp)
  clear hav
  have qlo := hg1.1.2.2.1
  have qlb := hg1.1.2.2.2.1
  refine ax_iload_n dX11_set_0 rfl rfl (pc' := 1) rfl ?_
  refine ax_iconst dX11_set_1 (by decide) (pc' := 2) rfl ?_
  refine ax_icmp_ne (tgt := 27) dX11_set_2 (by decide) (pc' := 5) rfl (fun h2 => ?_) (fun h2 => ?_)
  · refine ax_iload_n dX11_set_27 rfl rfl (pc' := 28) rfl ?_
    refine ax_if_ne (tgt := 64) dX11_set_28 (by decide) (pc' := 31) rfl (fun h28 => ?_) (fun h28 => ?_)
    · refine ax_iload_n dX11_set_64 rfl rfl (pc' := 65) rfl ?_
      refine ax_iconst dX11_set_65 (by decide) (pc' := 66) rfl ?_
      refine ax_icmp_ne (tgt := 101) dX11_set_66 (by decide) (pc' := 69) rfl (fun h66 => ?_) (fun h66 => ?_)
      · exfalso
        omega
      · refine ax_iload_n dX11_set_69 rfl rfl (pc' := 70) rfl ?_
        refine ax_bipush dX11_set_70 (by decide) (pc' := 72) rfl ?_
        refine ax_insG [.inl who, .inl 6] [] dX11_set_72 mlX11_114 rfl rfl (Nat.le_of_ble_eq_true rfl) (s_X11_isIn E l _ (by omega) _ who 6) (pc' := 75) rfl (fun vv M_72 hq co72 hcm72 => ?_)
        obtain ⟨rfl, rfl⟩ := hq
        refine ax_reS (st2 := [.inl (f_b (0 ≤ who ∧ who < 6))]) rfl ?_
        refine ax_if_eq (tgt := 101) dX11_set_75 (by decide) (pc' := 78) rfl (fun h75 => ?_) (fun h75 => ?_)
        · replace h75 := f_b_0 h75
          exfalso
          exact h75 ⟨by omega, by omega⟩
        · replace h75 := f_b_1 h75
          refine ax_iload_n dX11_set_78 rfl rfl (pc' := 79) rfl ?_
          refine ax_if_lt (tgt := 101) dX11_set_79 (by decide) (pc' := 82) rfl (fun h79 => ?_) (fun h79 => ?_)
          · exfalso
            omega
          · refine ax_iload_n dX11_set_82 rfl rfl (pc' := 83) rfl ?_
            refine ax_bipush dX11_set_83 (by decide) (pc' := 85) rfl ?_
            refine ax_icmp_gt (tgt := 101) dX11_set_85 (by decide) (pc' := 88) rfl (fun h85 => ?_) (fun h85 => ?_)
            · exfalso
              omega
            · refine ax_aload_n dX11_set_88 rfl rfl (pc' := 89) rfl ?_
              refine ax_getr (v := 1) dX11_set_89 flX11_10 rfl sh_0 rfl (pc' := 92) rfl ?_
              refine ax_getr (v := 3) dX11_set_92 flX11_136 rfl sh_1 rfl (pc' := 95) rfl ?_
              refine ax_iload_n dX11_set_95 rfl rfl (pc' := 96) rfl ?_
              refine ax_iload_n dX11_set_96 rfl rfl (pc' := 97) rfl ?_
              refine ax_iast dX11_set_97 sh_3 rfl (by omega) (by omega) (pc' := 98) rfl ?_
              refine ax_goto dX11_set_98 (pc' := 103) (by decide) ?_
              refine ax_aload_n dX11_set_103 rfl rfl (pc' := 104) rfl ?_
              refine ax_iconst dX11_set_104 (by decide) (pc' := 105) rfl ?_
              refine ax_puti dX11_set_105 flX11_107 (Or.inl rfl) sh_0 rfl (pc' := 108) rfl ?_
              refine ax_iconst dX11_set_108 (by decide) (pc' := 109) rfl ?_
              refine ax_zret dX11_set_109 rfl (by decide) ?_
              refine ⟨rfl, ?_, ?_, ?_, ?_⟩
              · rfl
              · intro x0 i0 hai
                exact (ax_up_miss (fun h => hai (Or.inr (Or.inr (Or.inl h)))) (ax_up_miss (fun h => hai (Or.inl (by rw [h.1]; decide))) rfl))
              · show f_nb (ax_up (ax_up M 3 who v) 0 12 0) _
                refine ⟨⟨⟨Eq.trans (ax_up_miss (fun h => absurd h.1 (by decide)) (ax_up_miss (fun h => absurd h.1 (by decide)) rfl)) (hg0.1.1.1.trans (f_up_o (by omega)).symm), Eq.trans (ax_up_miss (fun h => absurd h.1 (by decide)) (ax_up_miss (fun h => absurd h.1 (by decide)) rfl)) (hg0.1.1.2.1.trans (f_up_o (by omega)).symm), Eq.trans (ax_up_miss (fun h => absurd h.1 (by decide)) (ax_up_miss (fun h => absurd h.1 (by decide)) rfl)) (hg0.1.1.2.2.1.trans (f_up_o (by omega)).symm), Eq.trans (ax_up_miss (fun h => absurd h.1 (by decide)) (ax_up_miss (fun h => absurd h.1 (by decide)) rfl)) (hg0.1.1.2.2.2.trans (f_up_o (by omega)).symm)⟩, fun k k1 k2 => ?_, fun i i1 i2 => ?_⟩, fun x x1 x2 => ?_⟩
                · show (ax_up (ax_up M 3 who v) 0 12 0) 2 k = _ ∧ (ax_up (ax_up M 3 who v) 0 12 0) 3 k = _
                  rw [show (ax_up (ax_up M 3 who v) 0 12 0) 2 = _ from (ax_up_rowmiss (by decide) (ax_up_rowmiss (by decide) rfl)), show (ax_up (ax_up M 3 who v) 0 12 0) 3 = _ from (ax_up_rowmiss (by decide) (ax_up_rowhit rfl))]
                  have q := hg0.1.2.1 k k1 k2
                  have q1 : M 2 k = w (2564 + k) := q.1
                  have q2 : M 3 k = w (2570 + k) := q.2
                  unfold f_up
                  refine ⟨?_, ?_⟩
                  · repeat' split
                    all_goals first | rfl | assumption | (exfalso; omega)
                  · repeat' split
                    all_goals first | rfl | assumption | (exfalso; omega)
                · have q := hg0.1.2.2 i i1 i2
                  have e0 : f_R (f_up w (2570 + who) v) i 0 = f_R w i 0 := f_up_o (by omega)
                  have ef : ∀ x0 i0, 1 + 4 ≤ x0 → x0 < 39 → (ax_up (ax_up M 3 who v) 0 12 0) x0 i0 = M x0 i0 := fun x0 i0 x1 x2 => (ax_up_miss (by omega) (ax_up_miss (by omega) rfl))
                  rw [e0, ef _ 0 (by omega) (by omega)]
                  exact ⟨q.1, fun z => f_rm_w (w := w) (fun j j1 j2 => f_up_o (by omega)) (hg1.1.1 i i1 i2).2.2 (f_rm_fr (fun x0 i0 hx => ef x0 i0 (by omega) (by omega)) (q.2 z))⟩
                · have x3 : x < 6 * w 1 := by
                    rw [f_up_o (by omega)] at x2
                    exact x2
                  rw [f_up_o (by omega), show (ax_up (ax_up M 3 who v) 0 12 0) 38 = M 38 from (ax_up_rowmiss (by decide) (ax_up_rowmiss (by decide) rfl))]
                  exact hg0.2 x x1 x3
              · exact f_pr_0 (ax_up_hit _ _ _ _) ((show (ax_up (ax_up M 3 who v) 0 12 0) 92 = M 92 from (ax_up_rowmiss (by decide) (ax_up_rowmiss (by decide) rfl))) ▸ hg2.2.1)
    · exfalso
      omega
  · exfalso
    omega
set_option maxRecDepth 20000 in
theorem s_X11_set_no (E : ax_Env) (l : Launch) (d : Nat) (hd : 1 ≤ d) (M : ax_Mem) (what who v : Int) (Ls : Int → List f_Ln) (w : Int → Int) (hg0 : f_nb M w) (hg1 : f_jv Ls w) (hg2 : ¬ (what = 0 ∧ (0 ≤ who ∧ who ≤ 5) ∧ 1 ≤ v ∧ v ≤ 9)) (hg3 : ¬ (what = 1 ∧ (0 ≤ who ∧ who ≤ 5) ∧ 0 ≤ v ∧ v ≤ 9)) (hg4 : ¬ (what = 2 ∧ 0 ≤ v ∧ v ≤ 1000)) : ax_G E l d iX11_set [.inr 0, .inl what, .inl who, .inl v] M (fun z0 M2 => z0 = some (.inl 0) ∧ M = M2) := by
  obtain ⟨d, rfl⟩ : ∃ d0, d = d0 + 1 := ⟨d - 1, by omega⟩
  refine ax_start rfl (Nat.le_of_ble_eq_true rfl) (ls := [some (.inr 0), some (.inl what), some (.inl who), some (.inl v)]) rfl (fun hav hcm => ?_)
  have hc1 : -2147483648 ≤ what ∧ what < 2147483648 := hav (.inl what) (by simp)
  have hc2 : -2147483648 ≤ who ∧ who < 2147483648 := hav (.inl who) (by simp)
  have hc3 : -2147483648 ≤ v ∧ v < 2147483648 := hav (.inl v) (by simp)
  clear hav
  have qlo := hg1.1.2.2.1
  have qlb := hg1.1.2.2.2.1
  refine ax_iload_n dX11_set_0 rfl rfl (pc' := 1) rfl ?_
  refine ax_iconst dX11_set_1 (by decide) (pc' := 2) rfl ?_
  refine ax_icmp_ne (tgt := 27) dX11_set_2 (by decide) (pc' := 5) rfl (fun h2 => ?_) (fun h2 => ?_)
  · refine ax_iload_n dX11_set_27 rfl rfl (pc' := 28) rfl ?_
    refine ax_if_ne (tgt := 64) dX11_set_28 (by decide) (pc' := 31) rfl (fun h28 => ?_) (fun h28 => ?_)
    · refine ax_iload_n dX11_set_64 rfl rfl (pc' := 65) rfl ?_
      refine ax_iconst dX11_set_65 (by decide) (pc' := 66) rfl ?_
      refine ax_icmp_ne (tgt := 101) dX11_set_66 (by decide) (pc' := 69) rfl (fun h66 => ?_) (fun h66 => ?_)
      · refine ax_iconst dX11_set_101 (by decide) (pc' := 102) rfl ?_
        refine ax_zret dX11_set_102 rfl (by decide) ?_
        refine ⟨rfl, ?_, ?_⟩
        · rfl
        · rfl
      · refine ax_iload_n dX11_set_69 rfl rfl (pc' := 70) rfl ?_
        refine ax_bipush dX11_set_70 (by decide) (pc' := 72) rfl ?_
        refine ax_insG [.inl who, .inl 6] [] dX11_set_72 mlX11_114 rfl rfl (Nat.le_of_ble_eq_true rfl) (s_X11_isIn E l _ (by omega) _ who 6) (pc' := 75) rfl (fun vv M_72 hq co72 hcm72 => ?_)
        obtain ⟨rfl, rfl⟩ := hq
        refine ax_reS (st2 := [.inl (f_b (0 ≤ who ∧ who < 6))]) rfl ?_
        refine ax_if_eq (tgt := 101) dX11_set_75 (by decide) (pc' := 78) rfl (fun h75 => ?_) (fun h75 => ?_)
        · replace h75 := f_b_0 h75
          refine ax_iconst dX11_set_101 (by decide) (pc' := 102) rfl ?_
          refine ax_zret dX11_set_102 rfl (by decide) ?_
          refine ⟨rfl, ?_, ?_⟩
          · rfl
          · rfl
        · replace h75 := f_b_1 h75
          refine ax_iload_n dX11_set_78 rfl rfl (pc' := 79) rfl ?_
          refine ax_if_lt (tgt := 101) dX11_set_79 (by decide) (pc' := 82) rfl (fun h79 => ?_) (fun h79 => ?_)
          · refine ax_iconst dX11_set_101 (by decide) (pc' := 102) rfl ?_
            refine ax_zret dX11_set_102 rfl (by decide) ?_
            refine ⟨rfl, ?_, ?_⟩
            · rfl
            · rfl
          · refine ax_iload_n dX11_set_82 rfl rfl (pc' := 83) rfl ?_
            refine ax_bipush dX11_set_83 (by decide) (pc' := 85) rfl ?_
            refine ax_icmp_gt (tgt := 101) dX11_set_85 (by decide) (pc' := 88) rfl (fun h85 => ?_) (fun h85 => ?_)
            · refine ax_iconst dX11_set_101 (by decide) (pc' := 102) rfl ?_
              refine ax_zret dX11_set_102 rfl (by decide) ?_
              refine ⟨rfl, ?_, ?_⟩
              · rfl
              · rfl
            · exfalso
              omega
    · refine ax_iload_n dX11_set_31 rfl rfl (pc' := 32) rfl ?_
      refine ax_bipush dX11_set_32 (by decide) (pc' := 34) rfl ?_
      refine ax_insG [.inl who, .inl 6] [] dX11_set_34 mlX11_114 rfl rfl (Nat.le_of_ble_eq_true rfl) (s_X11_isIn E l _ (by omega) _ who 6) (pc' := 37) rfl (fun vv M_34 hq co34 hcm34 => ?_)
      obtain ⟨rfl, rfl⟩ := hq
      refine ax_reS (st2 := [.inl (f_b (0 ≤ who ∧ who < 6))]) rfl ?_
      refine ax_if_eq (tgt := 64) dX11_set_37 (by decide) (pc' := 40) rfl (fun h37 => ?_) (fun h37 => ?_)
      · replace h37 := f_b_0 h37
        refine ax_iload_n dX11_set_64 rfl rfl (pc' := 65) rfl ?_
        refine ax_iconst dX11_set_65 (by decide) (pc' := 66) rfl ?_
        refine ax_icmp_ne (tgt := 101) dX11_set_66 (by decide) (pc' := 69) rfl (fun h66 => ?_) (fun h66 => ?_)
        · refine ax_iconst dX11_set_101 (by decide) (pc' := 102) rfl ?_
          refine ax_zret dX11_set_102 rfl (by decide) ?_
          refine ⟨rfl, ?_, ?_⟩
          · rfl
          · rfl
        · refine ax_iload_n dX11_set_69 rfl rfl (pc' := 70) rfl ?_
          refine ax_bipush dX11_set_70 (by decide) (pc' := 72) rfl ?_
          refine ax_insG [.inl who, .inl 6] [] dX11_set_72 mlX11_114 rfl rfl (Nat.le_of_ble_eq_true rfl) (s_X11_isIn E l _ (by omega) _ who 6) (pc' := 75) rfl (fun vv M_72 hq co72 hcm72 => ?_)
          obtain ⟨rfl, rfl⟩ := hq
          refine ax_reS (st2 := [.inl (f_b (0 ≤ who ∧ who < 6))]) rfl ?_
          refine ax_if_eq (tgt := 101) dX11_set_75 (by decide) (pc' := 78) rfl (fun h75 => ?_) (fun h75 => ?_)
          · replace h75 := f_b_0 h75
            refine ax_iconst dX11_set_101 (by decide) (pc' := 102) rfl ?_
            refine ax_zret dX11_set_102 rfl (by decide) ?_
            refine ⟨rfl, ?_, ?_⟩
            · rfl
            · rfl
          · replace h75 := f_b_1 h75
            refine ax_iload_n dX11_set_78 rfl rfl (pc' := 79) rfl ?_
            refine ax_if_lt (tgt := 101) dX11_set_79 (by decide) (pc' := 82) rfl (fun h79 => ?_) (fun h79 => ?_)
            · refine ax_iconst dX11_set_101 (by decide) (pc' := 102) rfl ?_
              refine ax_zret dX11_set_102 rfl (by decide) ?_
              refine ⟨rfl, ?_, ?_⟩
              · rfl
              · rfl
            · refine ax_iload_n dX11_set_82 rfl rfl (pc' := 83) rfl ?_
              refine ax_bipush dX11_set_83 (by decide) (pc' := 85) rfl ?_
              refine ax_icmp_gt (tgt := 101) dX11_set_85 (by decide) (pc' := 88) rfl (fun h85 => ?_) (fun h85 => ?_)
              · refine ax_iconst dX11_set_101 (by decide) (pc' := 102) rfl ?_
                refine ax_zret dX11_set_102 rfl (by decide) ?_
                refine ⟨rfl, ?_, ?_⟩
                · rfl
                · rfl
              · exfalso
                omega
      · replace h37 := f_b_1 h37
        refine ax_iload_n dX11_set_40 rfl rfl (pc' := 41) rfl ?_
        refine ax_iconst dX11_set_41 (by decide) (pc' := 42) rfl ?_
        refine ax_icmp_lt (tgt := 64) dX11_set_42 (by decide) (pc' := 45) rfl (fun h42 => ?_) (fun h42 => ?_)
        · refine ax_iload_n dX11_set_64 rfl rfl (pc' := 65) rfl ?_
          refine ax_iconst dX11_set_65 (by decide) (pc' := 66) rfl ?_
          refine ax_icmp_ne (tgt := 101) dX11_set_66 (by decide) (pc' := 69) rfl (fun h66 => ?_) (fun h66 => ?_)
          · refine ax_iconst dX11_set_101 (by decide) (pc' := 102) rfl ?_
            refine ax_zret dX11_set_102 rfl (by decide) ?_
            refine ⟨rfl, ?_, ?_⟩
            · rfl
            · rfl
          · refine ax_iload_n dX11_set_69 rfl rfl (pc' := 70) rfl ?_
            refine ax_bipush dX11_set_70 (by decide) (pc' := 72) rfl ?_
            refine ax_insG [.inl who, .inl 6] [] dX11_set_72 mlX11_114 rfl rfl (Nat.le_of_ble_eq_true rfl) (s_X11_isIn E l _ (by omega) _ who 6) (pc' := 75) rfl (fun vv M_72 hq co72 hcm72 => ?_)
            obtain ⟨rfl, rfl⟩ := hq
            refine ax_reS (st2 := [.inl (f_b (0 ≤ who ∧ who < 6))]) rfl ?_
            refine ax_if_eq (tgt := 101) dX11_set_75 (by decide) (pc' := 78) rfl (fun h75 => ?_) (fun h75 => ?_)
            · replace h75 := f_b_0 h75
              refine ax_iconst dX11_set_101 (by decide) (pc' := 102) rfl ?_
              refine ax_zret dX11_set_102 rfl (by decide) ?_
              refine ⟨rfl, ?_, ?_⟩
              · rfl
              · rfl
            · replace h75 := f_b_1 h75
              refine ax_iload_n dX11_set_78 rfl rfl (pc' := 79) rfl ?_
              refine ax_if_lt (tgt := 101) dX11_set_79 (by decide) (pc' := 82) rfl (fun h79 => ?_) (fun h79 => ?_)
              · refine ax_iconst dX11_set_101 (by decide) (pc' := 102) rfl ?_
                refine ax_zret dX11_set_102 rfl (by decide) ?_
                refine ⟨rfl, ?_, ?_⟩
                · rfl
                · rfl
              · refine ax_iload_n dX11_set_82 rfl rfl (pc' := 83) rfl ?_
                refine ax_bipush dX11_set_83 (by decide) (pc' := 85) rfl ?_
                refine ax_icmp_gt (tgt := 101) dX11_set_85 (by decide) (pc' := 88) rfl (fun h85 => ?_) (fun h85 => ?_)
                · refine ax_iconst dX11_set_101 (by decide) (pc' := 102) rfl ?_
                  refine ax_zret dX11_set_102 rfl (by decide) ?_
                  refine ⟨rfl, ?_, ?_⟩
                  · rfl
                  · rfl
                · exfalso
                  omega
        · refine ax_iload_n dX11_set_45 rfl rfl (pc' := 46) rfl ?_
          refine ax_bipush dX11_set_46 (by decide) (pc' := 48) rfl ?_
          refine ax_icmp_gt (tgt := 64) dX11_set_48 (by decide) (pc' := 51) rfl (fun h48 => ?_) (fun h48 => ?_)
          · refine ax_iload_n dX11_set_64 rfl rfl (pc' := 65) rfl ?_
            refine ax_iconst dX11_set_65 (by decide) (pc' := 66) rfl ?_
            refine ax_icmp_ne (tgt := 101) dX11_set_66 (by decide) (pc' := 69) rfl (fun h66 => ?_) (fun h66 => ?_)
            · refine ax_iconst dX11_set_101 (by decide) (pc' := 102) rfl ?_
              refine ax_zret dX11_set_102 rfl (by decide) ?_
              refine ⟨rfl, ?_, ?_⟩
              · rfl
              · rfl
            · refine ax_iload_n dX11_set_69 rfl rfl (pc' := 70) rfl ?_
              refine ax_bipush dX11_set_70 (by decide) (pc' := 72) rfl ?_
              refine ax_insG [.inl who, .inl 6] [] dX11_set_72 mlX11_114 rfl rfl (Nat.le_of_ble_eq_true rfl) (s_X11_isIn E l _ (by omega) _ who 6) (pc' := 75) rfl (fun vv M_72 hq co72 hcm72 => ?_)
              obtain ⟨rfl, rfl⟩ := hq
              refine ax_reS (st2 := [.inl (f_b (0 ≤ who ∧ who < 6))]) rfl ?_
              refine ax_if_eq (tgt := 101) dX11_set_75 (by decide) (pc' := 78) rfl (fun h75 => ?_) (fun h75 => ?_)
              · replace h75 := f_b_0 h75
                refine ax_iconst dX11_set_101 (by decide) (pc' := 102) rfl ?_
                refine ax_zret dX11_set_102 rfl (by decide) ?_
                refine ⟨rfl, ?_, ?_⟩
                · rfl
                · rfl
              · replace h75 := f_b_1 h75
                refine ax_iload_n dX11_set_78 rfl rfl (pc' := 79) rfl ?_
                refine ax_if_lt (tgt := 101) dX11_set_79 (by decide) (pc' := 82) rfl (fun h79 => ?_) (fun h79 => ?_)
                · refine ax_iconst dX11_set_101 (by decide) (pc' := 102) rfl ?_
                  refine ax_zret dX11_set_102 rfl (by decide) ?_
                  refine ⟨rfl, ?_, ?_⟩
                  · rfl
                  · rfl
                · refine ax_iload_n dX11_set_82 rfl rfl (pc' := 83) rfl ?_
                  refine ax_bipush dX11_set_83 (by decide) (pc' := 85) rfl ?_
                  refine ax_icmp_gt (tgt := 101) dX11_set_85 (by decide) (pc' := 88) rfl (fun h85 => ?_) (fun h85 => ?_)
                  · refine ax_iconst dX11_set_101 (by decide) (pc' := 102) rfl ?_
                    refine ax_zret dX11_set_102 rfl (by decide) ?_
                    refine ⟨rfl, ?_, ?_⟩
                    · rfl
                    · rfl
                  · exfalso
                    omega
          · exfalso
            omega
  · refine ax_iload_n dX11_set_5 rfl rfl (pc' := 6) rfl ?_
    refine ax_if_lt (tgt := 27) dX11_set_6 (by decide) (pc' := 9) rfl (fun h6 => ?_) (fun h6 => ?_)
    · refine ax_iload_n dX11_set_27 rfl rfl (pc' := 28) rfl ?_
      refine ax_if_ne (tgt := 64) dX11_set_28 (by decide) (pc' := 31) rfl (fun h28 => ?_) (fun h28 => ?_)
      · refine ax_iload_n dX11_set_64 rfl rfl (pc' := 65) rfl ?_
        refine ax_iconst dX11_set_65 (by decide) (pc' := 66) rfl ?_
        refine ax_icmp_ne (tgt := 101) dX11_set_66 (by decide) (pc' := 69) rfl (fun h66 => ?_) (fun h66 => ?_)
        · refine ax_iconst dX11_set_101 (by decide) (pc' := 102) rfl ?_
          refine ax_zret dX11_set_102 rfl (by decide) ?_
          refine ⟨rfl, ?_, ?_⟩
          · rfl
          · rfl
        · refine ax_iload_n dX11_set_69 rfl rfl (pc' := 70) rfl ?_
          refine ax_bipush dX11_set_70 (by decide) (pc' := 72) rfl ?_
          refine ax_insG [.inl who, .inl 6] [] dX11_set_72 mlX11_114 rfl rfl (Nat.le_of_ble_eq_true rfl) (s_X11_isIn E l _ (by omega) _ who 6) (pc' := 75) rfl (fun vv M_72 hq co72 hcm72 => ?_)
          obtain ⟨rfl, rfl⟩ := hq
          refine ax_reS (st2 := [.inl (f_b (0 ≤ who ∧ who < 6))]) rfl ?_
          refine ax_if_eq (tgt := 101) dX11_set_75 (by decide) (pc' := 78) rfl (fun h75 => ?_) (fun h75 => ?_)
          · replace h75 := f_b_0 h75
            refine ax_iconst dX11_set_101 (by decide) (pc' := 102) rfl ?_
            refine ax_zret dX11_set_102 rfl (by decide) ?_
            refine ⟨rfl, ?_, ?_⟩
            · rfl
            · rfl
          · replace h75 := f_b_1 h75
            refine ax_iload_n dX11_set_78 rfl rfl (pc' := 79) rfl ?_
            refine ax_if_lt (tgt := 101) dX11_set_79 (by decide) (pc' := 82) rfl (fun h79 => ?_) (fun h79 => ?_)
            · refine ax_iconst dX11_set_101 (by decide) (pc' := 102) rfl ?_
              refine ax_zret dX11_set_102 rfl (by decide) ?_
              refine ⟨rfl, ?_, ?_⟩
              · rfl
              · rfl
            · refine ax_iload_n dX11_set_82 rfl rfl (pc' := 83) rfl ?_
              refine ax_bipush dX11_set_83 (by decide) (pc' := 85) rfl ?_
              refine ax_icmp_gt (tgt := 101) dX11_set_85 (by decide) (pc' := 88) rfl (fun h85 => ?_) (fun h85 => ?_)
              · refine ax_iconst dX11_set_101 (by decide) (pc' := 102) rfl ?_
                refine ax_zret dX11_set_102 rfl (by decide) ?_
                refine ⟨rfl, ?_, ?_⟩
                · rfl
                · rfl
              · exfalso
                omega
      · refine ax_iload_n dX11_set_31 rfl rfl (pc' := 32) rfl ?_
        refine ax_bipush dX11_set_32 (by decide) (pc' := 34) rfl ?_
        refine ax_insG [.inl who, .inl 6] [] dX11_set_34 mlX11_114 rfl rfl (Nat.le_of_ble_eq_true rfl) (s_X11_isIn E l _ (by omega) _ who 6) (pc' := 37) rfl (fun vv M_34 hq co34 hcm34 => ?_)
        obtain ⟨rfl, rfl⟩ := hq
        refine ax_reS (st2 := [.inl (f_b (0 ≤ who ∧ who < 6))]) rfl ?_
        refine ax_if_eq (tgt := 64) dX11_set_37 (by decide) (pc' := 40) rfl (fun h37 => ?_) (fun h37 => ?_)
        · replace h37 := f_b_0 h37
          refine ax_iload_n dX11_set_64 rfl rfl (pc' := 65) rfl ?_
          refine ax_iconst dX11_set_65 (by decide) (pc' := 66) rfl ?_
          refine ax_icmp_ne (tgt := 101) dX11_set_66 (by decide) (pc' := 69) rfl (fun h66 => ?_) (fun h66 => ?_)
          · refine ax_iconst dX11_set_101 (by decide) (pc' := 102) rfl ?_
            refine ax_zret dX11_set_102 rfl (by decide) ?_
            refine ⟨rfl, ?_, ?_⟩
            · rfl
            · rfl
          · refine ax_iload_n dX11_set_69 rfl rfl (pc' := 70) rfl ?_
            refine ax_bipush dX11_set_70 (by decide) (pc' := 72) rfl ?_
            refine ax_insG [.inl who, .inl 6] [] dX11_set_72 mlX11_114 rfl rfl (Nat.le_of_ble_eq_true rfl) (s_X11_isIn E l _ (by omega) _ who 6) (pc' := 75) rfl (fun vv M_72 hq co72 hcm72 => ?_)
            obtain ⟨rfl, rfl⟩ := hq
            refine ax_reS (st2 := [.inl (f_b (0 ≤ who ∧ who < 6))]) rfl ?_
            refine ax_if_eq (tgt := 101) dX11_set_75 (by decide) (pc' := 78) rfl (fun h75 => ?_) (fun h75 => ?_)
            · replace h75 := f_b_0 h75
              refine ax_iconst dX11_set_101 (by decide) (pc' := 102) rfl ?_
              refine ax_zret dX11_set_102 rfl (by decide) ?_
              refine ⟨rfl, ?_, ?_⟩
              · rfl
              · rfl
            · replace h75 := f_b_1 h75
              refine ax_iload_n dX11_set_78 rfl rfl (pc' := 79) rfl ?_
              refine ax_if_lt (tgt := 101) dX11_set_79 (by decide) (pc' := 82) rfl (fun h79 => ?_) (fun h79 => ?_)
              · refine ax_iconst dX11_set_101 (by decide) (pc' := 102) rfl ?_
                refine ax_zret dX11_set_102 rfl (by decide) ?_
                refine ⟨rfl, ?_, ?_⟩
                · rfl
                · rfl
              · refine ax_iload_n dX11_set_82 rfl rfl (pc' := 83) rfl ?_
                refine ax_bipush dX11_set_83 (by decide) (pc' := 85) rfl ?_
                refine ax_icmp_gt (tgt := 101) dX11_set_85 (by decide) (pc' := 88) rfl (fun h85 => ?_) (fun h85 => ?_)
                · refine ax_iconst dX11_set_101 (by decide) (pc' := 102) rfl ?_
                  refine ax_zret dX11_set_102 rfl (by decide) ?_
                  refine ⟨rfl, ?_, ?_⟩
                  · rfl
                  · rfl
                · exfalso
                  omega
        · replace h37 := f_b_1 h37
          refine ax_iload_n dX11_set_40 rfl rfl (pc' := 41) rfl ?_
          refine ax_iconst dX11_set_41 (by decide) (pc' := 42) rfl ?_
          refine ax_icmp_lt (tgt := 64) dX11_set_42 (by decide) (pc' := 45) rfl (fun h42 => ?_) (fun h42 => ?_)
          · refine ax_iload_n dX11_set_64 rfl rfl (pc' := 65) rfl ?_
            refine ax_iconst dX11_set_65 (by decide) (pc' := 66) rfl ?_
            refine ax_icmp_ne (tgt := 101) dX11_set_66 (by decide) (pc' := 69) rfl (fun h66 => ?_) (fun h66 => ?_)
            · refine ax_iconst dX11_set_101 (by decide) (pc' := 102) rfl ?_
              refine ax_zret dX11_set_102 rfl (by decide) ?_
              refine ⟨rfl, ?_, ?_⟩
              · rfl
              · rfl
            · refine ax_iload_n dX11_set_69 rfl rfl (pc' := 70) rfl ?_
              refine ax_bipush dX11_set_70 (by decide) (pc' := 72) rfl ?_
              refine ax_insG [.inl who, .inl 6] [] dX11_set_72 mlX11_114 rfl rfl (Nat.le_of_ble_eq_true rfl) (s_X11_isIn E l _ (by omega) _ who 6) (pc' := 75) rfl (fun vv M_72 hq co72 hcm72 => ?_)
              obtain ⟨rfl, rfl⟩ := hq
              refine ax_reS (st2 := [.inl (f_b (0 ≤ who ∧ who < 6))]) rfl ?_
              refine ax_if_eq (tgt := 101) dX11_set_75 (by decide) (pc' := 78) rfl (fun h75 => ?_) (fun h75 => ?_)
              · replace h75 := f_b_0 h75
                refine ax_iconst dX11_set_101 (by decide) (pc' := 102) rfl ?_
                refine ax_zret dX11_set_102 rfl (by decide) ?_
                refine ⟨rfl, ?_, ?_⟩
                · rfl
                · rfl
              · replace h75 := f_b_1 h75
                refine ax_iload_n dX11_set_78 rfl rfl (pc' := 79) rfl ?_
                refine ax_if_lt (tgt := 101) dX11_set_79 (by decide) (pc' := 82) rfl (fun h79 => ?_) (fun h79 => ?_)
                · refine ax_iconst dX11_set_101 (by decide) (pc' := 102) rfl ?_
                  refine ax_zret dX11_set_102 rfl (by decide) ?_
                  refine ⟨rfl, ?_, ?_⟩
                  · rfl
                  · rfl
                · refine ax_iload_n dX11_set_82 rfl rfl (pc' := 83) rfl ?_
                  refine ax_bipush dX11_set_83 (by decide) (pc' := 85) rfl ?_
                  refine ax_icmp_gt (tgt := 101) dX11_set_85 (by decide) (pc' := 88) rfl (fun h85 => ?_) (fun h85 => ?_)
                  · refine ax_iconst dX11_set_101 (by decide) (pc' := 102) rfl ?_
                    refine ax_zret dX11_set_102 rfl (by decide) ?_
                    refine ⟨rfl, ?_, ?_⟩
                    · rfl
                    · rfl
                  · exfalso
                    omega
          · refine ax_iload_n dX11_set_45 rfl rfl (pc' := 46) rfl ?_
            refine ax_bipush dX11_set_46 (by decide) (pc' := 48) rfl ?_
            refine ax_icmp_gt (tgt := 64) dX11_set_48 (by decide) (pc' := 51) rfl (fun h48 => ?_) (fun h48 => ?_)
            · refine ax_iload_n dX11_set_64 rfl rfl (pc' := 65) rfl ?_
              refine ax_iconst dX11_set_65 (by decide) (pc' := 66) rfl ?_
              refine ax_icmp_ne (tgt := 101) dX11_set_66 (by decide) (pc' := 69) rfl (fun h66 => ?_) (fun h66 => ?_)
              · refine ax_iconst dX11_set_101 (by decide) (pc' := 102) rfl ?_
                refine ax_zret dX11_set_102 rfl (by decide) ?_
                refine ⟨rfl, ?_, ?_⟩
                · rfl
                · rfl
              · refine ax_iload_n dX11_set_69 rfl rfl (pc' := 70) rfl ?_
                refine ax_bipush dX11_set_70 (by decide) (pc' := 72) rfl ?_
                refine ax_insG [.inl who, .inl 6] [] dX11_set_72 mlX11_114 rfl rfl (Nat.le_of_ble_eq_true rfl) (s_X11_isIn E l _ (by omega) _ who 6) (pc' := 75) rfl (fun vv M_72 hq co72 hcm72 => ?_)
                obtain ⟨rfl, rfl⟩ := hq
                refine ax_reS (st2 := [.inl (f_b (0 ≤ who ∧ who < 6))]) rfl ?_
                refine ax_if_eq (tgt := 101) dX11_set_75 (by decide) (pc' := 78) rfl (fun h75 => ?_) (fun h75 => ?_)
                · replace h75 := f_b_0 h75
                  refine ax_iconst dX11_set_101 (by decide) (pc' := 102) rfl ?_
                  refine ax_zret dX11_set_102 rfl (by decide) ?_
                  refine ⟨rfl, ?_, ?_⟩
                  · rfl
                  · rfl
                · replace h75 := f_b_1 h75
                  refine ax_iload_n dX11_set_78 rfl rfl (pc' := 79) rfl ?_
                  refine ax_if_lt (tgt := 101) dX11_set_79 (by decide) (pc' := 82) rfl (fun h79 => ?_) (fun h79 => ?_)
                  · refine ax_iconst dX11_set_101 (by decide) (pc' := 102) rfl ?_
                    refine ax_zret dX11_set_102 rfl (by decide) ?_
                    refine ⟨rfl, ?_, ?_⟩
                    · rfl
                    · rfl
                  · refine ax_iload_n dX11_set_82 rfl rfl (pc' := 83) rfl ?_
                    refine ax_bipush dX11_set_83 (by decide) (pc' := 85) rfl ?_
                    refine ax_icmp_gt (tgt := 101) dX11_set_85 (by decide) (pc' := 88) rfl (fun h85 => ?_) (fun h85 => ?_)
                    · refine ax_iconst dX11_set_101 (by decide) (pc' := 102) rfl ?_
                      refine ax_zret dX11_set_102 rfl (by decide) ?_
                      refine ⟨rfl, ?_, ?_⟩
                      · rfl
                      · rfl
                    · exfalso
                      omega
            · exfalso
              omega
    · refine ax_iload_n dX11_set_9 rfl rfl (pc' := 10) rfl ?_
      refine ax_sipush dX11_set_10 (by decide) (pc' := 13) rfl ?_
      refine ax_icmp_gt (tgt := 27) dX11_set_13 (by decide) (pc' := 16) rfl (fun h13 => ?_) (fun h13 => ?_)
      · refine ax_iload_n dX11_set_27 rfl rfl (pc' := 28) rfl ?_
        refine ax_if_ne (tgt := 64) dX11_set_28 (by decide) (pc' := 31) rfl (fun h28 => ?_) (fun h28 => ?_)
        · refine ax_iload_n dX11_set_64 rfl rfl (pc' := 65) rfl ?_
          refine ax_iconst dX11_set_65 (by decide) (pc' := 66) rfl ?_
          refine ax_icmp_ne (tgt := 101) dX11_set_66 (by decide) (pc' := 69) rfl (fun h66 => ?_) (fun h66 => ?_)
          · refine ax_iconst dX11_set_101 (by decide) (pc' := 102) rfl ?_
            refine ax_zret dX11_set_102 rfl (by decide) ?_
            refine ⟨rfl, ?_, ?_⟩
            · rfl
            · rfl
          · refine ax_iload_n dX11_set_69 rfl rfl (pc' := 70) rfl ?_
            refine ax_bipush dX11_set_70 (by decide) (pc' := 72) rfl ?_
            refine ax_insG [.inl who, .inl 6] [] dX11_set_72 mlX11_114 rfl rfl (Nat.le_of_ble_eq_true rfl) (s_X11_isIn E l _ (by omega) _ who 6) (pc' := 75) rfl (fun vv M_72 hq co72 hcm72 => ?_)
            obtain ⟨rfl, rfl⟩ := hq
            refine ax_reS (st2 := [.inl (f_b (0 ≤ who ∧ who < 6))]) rfl ?_
            refine ax_if_eq (tgt := 101) dX11_set_75 (by decide) (pc' := 78) rfl (fun h75 => ?_) (fun h75 => ?_)
            · replace h75 := f_b_0 h75
              refine ax_iconst dX11_set_101 (by decide) (pc' := 102) rfl ?_
              refine ax_zret dX11_set_102 rfl (by decide) ?_
              refine ⟨rfl, ?_, ?_⟩
              · rfl
              · rfl
            · replace h75 := f_b_1 h75
              refine ax_iload_n dX11_set_78 rfl rfl (pc' := 79) rfl ?_
              refine ax_if_lt (tgt := 101) dX11_set_79 (by decide) (pc' := 82) rfl (fun h79 => ?_) (fun h79 => ?_)
              · refine ax_iconst dX11_set_101 (by decide) (pc' := 102) rfl ?_
                refine ax_zret dX11_set_102 rfl (by decide) ?_
                refine ⟨rfl, ?_, ?_⟩
                · rfl
                · rfl
              · refine ax_iload_n dX11_set_82 rfl rfl (pc' := 83) rfl ?_
                refine ax_bipush dX11_set_83 (by decide) (pc' := 85) rfl ?_
                refine ax_icmp_gt (tgt := 101) dX11_set_85 (by decide) (pc' := 88) rfl (fun h85 => ?_) (fun h85 => ?_)
                · refine ax_iconst dX11_set_101 (by decide) (pc' := 102) rfl ?_
                  refine ax_zret dX11_set_102 rfl (by decide) ?_
                  refine ⟨rfl, ?_, ?_⟩
                  · rfl
                  · rfl
                · exfalso
                  omega
        · refine ax_iload_n dX11_set_31 rfl rfl (pc' := 32) rfl ?_
          refine ax_bipush dX11_set_32 (by decide) (pc' := 34) rfl ?_
          refine ax_insG [.inl who, .inl 6] [] dX11_set_34 mlX11_114 rfl rfl (Nat.le_of_ble_eq_true rfl) (s_X11_isIn E l _ (by omega) _ who 6) (pc' := 37) rfl (fun vv M_34 hq co34 hcm34 => ?_)
          obtain ⟨rfl, rfl⟩ := hq
          refine ax_reS (st2 := [.inl (f_b (0 ≤ who ∧ who < 6))]) rfl ?_
          refine ax_if_eq (tgt := 64) dX11_set_37 (by decide) (pc' := 40) rfl (fun h37 => ?_) (fun h37 => ?_)
          · replace h37 := f_b_0 h37
            refine ax_iload_n dX11_set_64 rfl rfl (pc' := 65) rfl ?_
            refine ax_iconst dX11_set_65 (by decide) (pc' := 66) rfl ?_
            refine ax_icmp_ne (tgt := 101) dX11_set_66 (by decide) (pc' := 69) rfl (fun h66 => ?_) (fun h66 => ?_)
            · refine ax_iconst dX11_set_101 (by decide) (pc' := 102) rfl ?_
              refine ax_zret dX11_set_102 rfl (by decide) ?_
              refine ⟨rfl, ?_, ?_⟩
              · rfl
              · rfl
            · refine ax_iload_n dX11_set_69 rfl rfl (pc' := 70) rfl ?_
              refine ax_bipush dX11_set_70 (by decide) (pc' := 72) rfl ?_
              refine ax_insG [.inl who, .inl 6] [] dX11_set_72 mlX11_114 rfl rfl (Nat.le_of_ble_eq_true rfl) (s_X11_isIn E l _ (by omega) _ who 6) (pc' := 75) rfl (fun vv M_72 hq co72 hcm72 => ?_)
              obtain ⟨rfl, rfl⟩ := hq
              refine ax_reS (st2 := [.inl (f_b (0 ≤ who ∧ who < 6))]) rfl ?_
              refine ax_if_eq (tgt := 101) dX11_set_75 (by decide) (pc' := 78) rfl (fun h75 => ?_) (fun h75 => ?_)
              · replace h75 := f_b_0 h75
                refine ax_iconst dX11_set_101 (by decide) (pc' := 102) rfl ?_
                refine ax_zret dX11_set_102 rfl (by decide) ?_
                refine ⟨rfl, ?_, ?_⟩
                · rfl
                · rfl
              · replace h75 := f_b_1 h75
                refine ax_iload_n dX11_set_78 rfl rfl (pc' := 79) rfl ?_
                refine ax_if_lt (tgt := 101) dX11_set_79 (by decide) (pc' := 82) rfl (fun h79 => ?_) (fun h79 => ?_)
                · refine ax_iconst dX11_set_101 (by decide) (pc' := 102) rfl ?_
                  refine ax_zret dX11_set_102 rfl (by decide) ?_
                  refine ⟨rfl, ?_, ?_⟩
                  · rfl
                  · rfl
                · refine ax_iload_n dX11_set_82 rfl rfl (pc' := 83) rfl ?_
                  refine ax_bipush dX11_set_83 (by decide) (pc' := 85) rfl ?_
                  refine ax_icmp_gt (tgt := 101) dX11_set_85 (by decide) (pc' := 88) rfl (fun h85 => ?_) (fun h85 => ?_)
                  · refine ax_iconst dX11_set_101 (by decide) (pc' := 102) rfl ?_
                    refine ax_zret dX11_set_102 rfl (by decide) ?_
                    refine ⟨rfl, ?_, ?_⟩
                    · rfl
                    · rfl
                  · exfalso
                    omega
          · replace h37 := f_b_1 h37
            refine ax_iload_n dX11_set_40 rfl rfl (pc' := 41) rfl ?_
            refine ax_iconst dX11_set_41 (by decide) (pc' := 42) rfl ?_
            refine ax_icmp_lt (tgt := 64) dX11_set_42 (by decide) (pc' := 45) rfl (fun h42 => ?_) (fun h42 => ?_)
            · refine ax_iload_n dX11_set_64 rfl rfl (pc' := 65) rfl ?_
              refine ax_iconst dX11_set_65 (by decide) (pc' := 66) rfl ?_
              refine ax_icmp_ne (tgt := 101) dX11_set_66 (by decide) (pc' := 69) rfl (fun h66 => ?_) (fun h66 => ?_)
              · refine ax_iconst dX11_set_101 (by decide) (pc' := 102) rfl ?_
                refine ax_zret dX11_set_102 rfl (by decide) ?_
                refine ⟨rfl, ?_, ?_⟩
                · rfl
                · rfl
              · refine ax_iload_n dX11_set_69 rfl rfl (pc' := 70) rfl ?_
                refine ax_bipush dX11_set_70 (by decide) (pc' := 72) rfl ?_
                refine ax_insG [.inl who, .inl 6] [] dX11_set_72 mlX11_114 rfl rfl (Nat.le_of_ble_eq_true rfl) (s_X11_isIn E l _ (by omega) _ who 6) (pc' := 75) rfl (fun vv M_72 hq co72 hcm72 => ?_)
                obtain ⟨rfl, rfl⟩ := hq
                refine ax_reS (st2 := [.inl (f_b (0 ≤ who ∧ who < 6))]) rfl ?_
                refine ax_if_eq (tgt := 101) dX11_set_75 (by decide) (pc' := 78) rfl (fun h75 => ?_) (fun h75 => ?_)
                · replace h75 := f_b_0 h75
                  refine ax_iconst dX11_set_101 (by decide) (pc' := 102) rfl ?_
                  refine ax_zret dX11_set_102 rfl (by decide) ?_
                  refine ⟨rfl, ?_, ?_⟩
                  · rfl
                  · rfl
                · replace h75 := f_b_1 h75
                  refine ax_iload_n dX11_set_78 rfl rfl (pc' := 79) rfl ?_
                  refine ax_if_lt (tgt := 101) dX11_set_79 (by decide) (pc' := 82) rfl (fun h79 => ?_) (fun h79 => ?_)
                  · refine ax_iconst dX11_set_101 (by decide) (pc' := 102) rfl ?_
                    refine ax_zret dX11_set_102 rfl (by decide) ?_
                    refine ⟨rfl, ?_, ?_⟩
                    · rfl
                    · rfl
                  · refine ax_iload_n dX11_set_82 rfl rfl (pc' := 83) rfl ?_
                    refine ax_bipush dX11_set_83 (by decide) (pc' := 85) rfl ?_
                    refine ax_icmp_gt (tgt := 101) dX11_set_85 (by decide) (pc' := 88) rfl (fun h85 => ?_) (fun h85 => ?_)
                    · refine ax_iconst dX11_set_101 (by decide) (pc' := 102) rfl ?_
                      refine ax_zret dX11_set_102 rfl (by decide) ?_
                      refine ⟨rfl, ?_, ?_⟩
                      · rfl
                      · rfl
                    · exfalso
                      omega
            · refine ax_iload_n dX11_set_45 rfl rfl (pc' := 46) rfl ?_
              refine ax_bipush dX11_set_46 (by decide) (pc' := 48) rfl ?_
              refine ax_icmp_gt (tgt := 64) dX11_set_48 (by decide) (pc' := 51) rfl (fun h48 => ?_) (fun h48 => ?_)
              · refine ax_iload_n dX11_set_64 rfl rfl (pc' := 65) rfl ?_
                refine ax_iconst dX11_set_65 (by decide) (pc' := 66) rfl ?_
                refine ax_icmp_ne (tgt := 101) dX11_set_66 (by decide) (pc' := 69) rfl (fun h66 => ?_) (fun h66 => ?_)
                · refine ax_iconst dX11_set_101 (by decide) (pc' := 102) rfl ?_
                  refine ax_zret dX11_set_102 rfl (by decide) ?_
                  refine ⟨rfl, ?_, ?_⟩
                  · rfl
                  · rfl
                · refine ax_iload_n dX11_set_69 rfl rfl (pc' := 70) rfl ?_
                  refine ax_bipush dX11_set_70 (by decide) (pc' := 72) rfl ?_
                  refine ax_insG [.inl who, .inl 6] [] dX11_set_72 mlX11_114 rfl rfl (Nat.le_of_ble_eq_true rfl) (s_X11_isIn E l _ (by omega) _ who 6) (pc' := 75) rfl (fun vv M_72 hq co72 hcm72 => ?_)
                  obtain ⟨rfl, rfl⟩ := hq
                  refine ax_reS (st2 := [.inl (f_b (0 ≤ who ∧ who < 6))]) rfl ?_
                  refine ax_if_eq (tgt := 101) dX11_set_75 (by decide) (pc' := 78) rfl (fun h75 => ?_) (fun h75 => ?_)
                  · replace h75 := f_b_0 h75
                    refine ax_iconst dX11_set_101 (by decide) (pc' := 102) rfl ?_
                    refine ax_zret dX11_set_102 rfl (by decide) ?_
                    refine ⟨rfl, ?_, ?_⟩
                    · rfl
                    · rfl
                  · replace h75 := f_b_1 h75
                    refine ax_iload_n dX11_set_78 rfl rfl (pc' := 79) rfl ?_
                    refine ax_if_lt (tgt := 101) dX11_set_79 (by decide) (pc' := 82) rfl (fun h79 => ?_) (fun h79 => ?_)
                    · refine ax_iconst dX11_set_101 (by decide) (pc' := 102) rfl ?_
                      refine ax_zret dX11_set_102 rfl (by decide) ?_
                      refine ⟨rfl, ?_, ?_⟩
                      · rfl
                      · rfl
                    · refine ax_iload_n dX11_set_82 rfl rfl (pc' := 83) rfl ?_
                      refine ax_bipush dX11_set_83 (by decide) (pc' := 85) rfl ?_
                      refine ax_icmp_gt (tgt := 101) dX11_set_85 (by decide) (pc' := 88) rfl (fun h85 => ?_) (fun h85 => ?_)
                      · refine ax_iconst dX11_set_101 (by decide) (pc' := 102) rfl ?_
                        refine ax_zret dX11_set_102 rfl (by decide) ?_
                        refine ⟨rfl, ?_, ?_⟩
                        · rfl
                        · rfl
                      · exfalso
                        omega
              · exfalso
                omega
      · exfalso
        omega
