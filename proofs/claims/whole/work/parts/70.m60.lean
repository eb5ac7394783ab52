/-! fits; two ropes made one -/
def f_fst (hx hy sx sy : Int) : Int := if hx = 0 ∨ (0 < hy ∧ sy < sx) then sy else sx
def f_hM (ha : Int → Int) (n k : Int) : Int → Int := fun x => if (n - 1) * 6 ≤ x ∧ x < (n - 1) * 6 + k then max (ha x) (ha (x + 6)) else if n * 6 ≤ x ∧ x < n * 6 + k then max (ha (x - 6)) (ha x) else ha x
def f_sM (ha si : Int → Int) (n k : Int) : Int → Int := fun x => if (n - 1) * 6 ≤ x ∧ x < (n - 1) * 6 + k then f_fst (ha x) (ha (x + 6)) (si x) (si (x + 6)) else if n * 6 ≤ x ∧ x < n * 6 + k then f_fst (ha (x - 6)) (ha x) (si (x - 6)) (si x) else si x
theorem f_hM_0 {ha : Int → Int} {n : Int} : ha = f_hM ha n 0 := by
  funext x
  unfold f_hM
  rw [if_neg (by omega), if_neg (by omega)]
theorem f_sM_0 {ha si : Int → Int} {n : Int} : si = f_sM ha si n 0 := by
  funext x
  unfold f_sM
  rw [if_neg (by omega), if_neg (by omega)]
theorem f_hM_at {ha : Int → Int} {n k : Int} (hk : 0 ≤ k ∧ k < 6) : f_hM ha n k ((n - 1) * 6 + k) = ha ((n - 1) * 6 + k) ∧ f_hM ha n k (n * 6 + k) = ha (n * 6 + k) := by
  unfold f_hM
  rw [if_neg (by omega), if_neg (by omega), if_neg (by omega), if_neg (by omega)]
  exact ⟨rfl, rfl⟩
theorem f_sM_at {ha si : Int → Int} {n k : Int} (hk : 0 ≤ k ∧ k < 6) : f_sM ha si n k ((n - 1) * 6 + k) = si ((n - 1) * 6 + k) ∧ f_sM ha si n k (n * 6 + k) = si (n * 6 + k) := by
  unfold f_sM
  rw [if_neg (by omega), if_neg (by omega), if_neg (by omega), if_neg (by omega)]
  exact ⟨rfl, rfl⟩
theorem f_hM_up {ha : Int → Int} {n k : Int} (hk : 0 ≤ k ∧ k < 6) : f_up (f_up (f_hM ha n k) ((n - 1) * 6 + k) (max (ha ((n - 1) * 6 + k)) (ha (n * 6 + k)))) (n * 6 + k) (max (ha ((n - 1) * 6 + k)) (ha (n * 6 + k))) = f_hM ha n (k + 1) := by
  funext x
  by_cases h1 : x = n * 6 + k
  · rw [h1, f_up_same]
    unfold f_hM
    rw [if_neg (by omega), if_pos (by omega), show n * 6 + k - 6 = (n - 1) * 6 + k by omega]
  · rw [f_up_o h1]
    by_cases h2 : x = (n - 1) * 6 + k
    · rw [h2, f_up_same]
      unfold f_hM
      rw [if_pos (by omega), show (n - 1) * 6 + k + 6 = n * 6 + k by omega]
    · rw [f_up_o h2]
      unfold f_hM
      by_cases h3 : (n - 1) * 6 ≤ x ∧ x < (n - 1) * 6 + k
      · rw [if_pos h3, if_pos (by omega)]
      · by_cases h4 : n * 6 ≤ x ∧ x < n * 6 + k
        · rw [if_neg h3, if_pos h4, if_neg (by omega), if_pos (by omega)]
        · rw [if_neg h3, if_neg h4, if_neg (by omega), if_neg (by omega)]
theorem f_sM_up {ha si : Int → Int} {n k v : Int} (hk : 0 ≤ k ∧ k < 6) (hv : v = f_fst (ha ((n - 1) * 6 + k)) (ha (n * 6 + k)) (si ((n - 1) * 6 + k)) (si (n * 6 + k))) : f_up (f_up (f_sM ha si n k) ((n - 1) * 6 + k) v) (n * 6 + k) v = f_sM ha si n (k + 1) := by
  funext x
  by_cases h1 : x = n * 6 + k
  · rw [h1, f_up_same]
    unfold f_sM
    rw [if_neg (by omega), if_pos (by omega), show n * 6 + k - 6 = (n - 1) * 6 + k by omega]
    exact hv
  · rw [f_up_o h1]
    by_cases h2 : x = (n - 1) * 6 + k
    · rw [h2, f_up_same]
      unfold f_sM
      rw [if_pos (by omega), show (n - 1) * 6 + k + 6 = n * 6 + k by omega]
      exact hv
    · rw [f_up_o h2]
      unfold f_sM
      by_cases h3 : (n - 1) * 6 ≤ x ∧ x < (n - 1) * 6 + k
      · rw [if_pos h3, if_pos (by omega)]
      · by_cases h4 : n * 6 ≤ x ∧ x < n * 6 + k
        · rw [if_neg h3, if_pos h4, if_neg (by omega), if_pos (by omega)]
        · rw [if_neg h3, if_neg h4, if_neg (by omega), if_neg (by omega)]
set_option maxRecDepth 20000 in
theorem s_X11_fits (E : ax_Env) (l : Launch) (d : Nat) (hd : 4 ≤ d) (M : ax_Mem) (r p what : Int) (Ls : Int → List f_Ln) (w : Int → Int) (hg0 : f_nb M w) (hg1 : f_jv Ls w) (hg2 : f_lrn M 52 Ls) (hg3 : f_tl M 39 w) (hg4 : 0 ≤ w 2577 ∧ w 2577 ≤ 6) : ax_G E l d iX11_fits [.inr 0, .inl r, .inl p, .inl what] M (fun z0 M2 => z0 = some (.inl (F_fits Ls w r p what)) ∧ (∀ x0 i0 : Int, ¬ ((78 ≤ x0 ∧ x0 < 82) ∨ x0 = 72 ∨ x0 = 73 ∨ x0 = 74 ∨ (x0 = 71 ∧ i0 = 1) ∨ (x0 = 71 ∧ i0 = 2) ∨ (x0 = 71 ∧ i0 = 3)) → M2 x0 i0 = M x0 i0)) := by
  obtain ⟨d, rfl⟩ : ∃ d0, d = d0 + 1 := ⟨d - 1, by omega⟩
  refine ax_start rfl (Nat.le_of_ble_eq_true rfl) (ls := [some (.inr 0), some (.inl r), some (.inl p), some (.inl what), none]) rfl (fun hav hcm => ?_)
  have hc1 : -2147483648 ≤ r ∧ r < 2147483648 := hav (.inl r) (by simp)
  have hc2 : -2147483648 ≤ p ∧ p < 2147483648 := hav (.inl p) (by simp)
  have hc3 : -2147483648 ≤ what ∧ what < 2147483648 := hav (.inl what) (by simp)
  clear hav
  have qlo := hg1.1.2.2.1
  have qlb := hg1.1.2.2.2.1
  refine ax_aload_n dX11_fits_0 rfl rfl (pc' := 1) rfl ?_
  refine ax_getr (v := 1) dX11_fits_1 flX11_10 rfl sh_0 rfl (pc' := 4) rfl ?_
  refine ax_iload_n dX11_fits_4 rfl rfl (pc' := 5) rfl ?_
  by_cases hir : f_isR w r
  · refine ax_invG [.inl r] [] dX11_fits_5 mlX11_139 sh_1 rfl rfl rfl (Nat.le_of_ble_eq_true rfl) (s_X9_ropeAt_ok E l _ (by omega) _ r w hg0.1 hg1.1.1 hir) (pc' := 8) rfl (fun vv M_5 hq co5 hcm5 => ?_)
    obtain ⟨rfl, rfl⟩ := hq
    refine ax_reS (st2 := [.inr (5 + 4 * r)]) rfl ?_
    have hgr : 0 ≤ r ∧ r < 8 := ⟨hir.1, by omega⟩
    have qrm := f_wm_rm hg0.1 hir
    have ql : M (5 + 4 * r) 1 = f_R w r 1 := qrm.1
    have qlr := (hg1.1.1 r hgr.1 hgr.2).2
    have qth := f_wm_th hg0.1 (i := r) hgr
    have qthk := (hg1.1.1 r hgr.1 hgr.2).1
    refine ax_astore dX11_fits_8 (by decide) (ls' := [some (.inr 0), some (.inl r), some (.inl p), some (.inl what), some (.inr (5 + 4 * r))]) rfl (pc' := 10) rfl ?_
    refine ax_aload dX11_fits_10 rfl (pc' := 12) rfl ?_
    refine ax_ifnull (tgt := 33) dX11_fits_12 (by omega) (by decide) (pc' := 15) rfl (fun h12 => ?_) (fun h12 => ?_)
    · exfalso
      omega
    · refine ax_aload dX11_fits_15 rfl (pc' := 17) rfl ?_
      refine ax_iload_n dX11_fits_17 rfl rfl (pc' := 18) rfl ?_
      refine ax_invG [.inl p] [] dX11_fits_18 mlX11_143 (f_rp_now ⟨by omega, by omega⟩).1 rfl rfl rfl (Nat.le_of_ble_eq_true rfl) (s_X7_isUntied E l _ (by omega) _ (5 + 4 * r) p w r (f_rp_now hgr) qrm hg1.1 hgr) (pc' := 21) rfl (fun vv M_18 hq co18 hcm18 => ?_)
      obtain ⟨rfl, rfl⟩ := hq
      refine ax_reS (st2 := [.inl (f_b (0 ≤ p ∧ p < f_R w r 1 ∧ f_P w r p 0 = -1))]) rfl ?_
      refine ax_if_eq (tgt := 33) dX11_fits_21 (by decide) (pc' := 24) rfl (fun h21 => ?_) (fun h21 => ?_)
      · replace h21 := f_b_0 h21
        refine ax_iconst dX11_fits_33 (by decide) (pc' := 34) rfl ?_
        refine ax_iret dX11_fits_34 rfl ?_
        refine ⟨rfl, ?_, ?_⟩
        · refine congrArg (fun z => some (Sum.inl z)) ?_
          unfold F_fits
          rw [if_pos (fun hh => by first | exact hir hh.1.1 | exact h21 ⟨hh.1.2.1, by have := hh.1.2.2; omega, hh.2.1⟩ | omega)]
        · intro x0 i0 hai
          exact rfl
      · replace h21 := f_b_1 h21
        refine ax_iload_n dX11_fits_24 rfl rfl (pc' := 25) rfl ?_
        refine ax_if_lt (tgt := 33) dX11_fits_25 (by decide) (pc' := 28) rfl (fun h25 => ?_) (fun h25 => ?_)
        · refine ax_iconst dX11_fits_33 (by decide) (pc' := 34) rfl ?_
          refine ax_iret dX11_fits_34 rfl ?_
          refine ⟨rfl, ?_, ?_⟩
          · refine congrArg (fun z => some (Sum.inl z)) ?_
            unfold F_fits
            rw [if_pos (fun hh => by first | exact hir hh.1.1 | exact h21 ⟨hh.1.2.1, by have := hh.1.2.2; omega, hh.2.1⟩ | omega)]
          · intro x0 i0 hai
            exact rfl
        · refine ax_iload_n dX11_fits_28 rfl rfl (pc' := 29) rfl ?_
          refine ax_iconst dX11_fits_29 (by decide) (pc' := 30) rfl ?_
          refine ax_icmp_le (tgt := 35) dX11_fits_30 (by decide) (pc' := 33) rfl (fun h30 => ?_) (fun h30 => ?_)
          · refine ax_aload_n dX11_fits_35 rfl rfl (pc' := 36) rfl ?_
            refine ax_getr (v := 78) dX11_fits_36 flX11_72 rfl sh_0 rfl (pc' := 39) rfl ?_
            refine ax_aload dX11_fits_39 rfl (pc' := 41) rfl ?_
            refine ax_invG [.inr (5 + 4 * r)] [] dX11_fits_41 mlX11_291 sh_78 rfl rfl rfl (Nat.le_of_ble_eq_true rfl) (s_X7_copyFrom E l _ (by omega) _ 78 (5 + 4 * r) w r f_rp_78 (f_rp_now hgr) (by omega) qrm qlr.2 (by omega)) (pc' := 44) rfl (fun vv M_41 hq co41 hcm41 => ?_)
            obtain ⟨rfl, frM_41, fa41_0, fa41_1⟩ := hq
            refine ax_reS (st2 := []) rfl ?_
            refine ax_aload_n dX11_fits_44 rfl rfl (pc' := 45) rfl ?_
            refine ax_getr (v := 71) dX11_fits_45 flX11_56 rfl sh_0 rfl (pc' := 48) rfl ?_
            refine ax_aload_n dX11_fits_48 rfl rfl (pc' := 49) rfl ?_
            refine ax_getr (v := 1) dX11_fits_49 flX11_10 rfl sh_0 rfl (pc' := 52) rfl ?_
            refine ax_aload_n dX11_fits_52 rfl rfl (pc' := 53) rfl ?_
            refine ax_getr (v := 78) dX11_fits_53 flX11_72 rfl sh_0 rfl (pc' := 56) rfl ?_
            refine ax_iload_n dX11_fits_56 rfl rfl (pc' := 57) rfl ?_
            refine ax_invG [.inr 1, .inr 78, .inl p] [] dX11_fits_57 mlX11_322 sh_71 rfl rfl rfl (Nat.le_of_ble_eq_true rfl) (s_X2_findPasts E l _ (by omega) _ p Ls w r f_rp_78 fa41_0 hg1 hgr (f_hm_fr (M := M) (fun x0 i0 hx => ((frM_41 x0 i0 (by omega)).trans rfl)) (f_wm_hm hg0.1)) (f_lrn_fr (M := M) (fun x0 i0 hx => ((frM_41 x0 i0 (by omega)).trans rfl)) hg2) (f_tl_fr (M := M) (fun x0 i0 hx => ((frM_41 x0 i0 (by omega)).trans rfl)) hg3) hg4 ⟨by omega, by omega⟩) (pc' := 60) rfl (fun vv M_57 hq co57 hcm57 => ?_)
            obtain ⟨rfl, frM_57, fa57_0, fa57_1⟩ := hq
            refine ax_reS (st2 := []) rfl ?_
            refine ax_iload_n dX11_fits_60 rfl rfl (pc' := 61) rfl ?_
            by_cases h61_0 : what = 0
            · refine ax_reS (st2 := [.inl 0]) (by rw [h61_0]) ?_
              refine ax_tabIn (tgt := 88) dX11_fits_61 (by decide) (by decide) rfl (by decide) ?_
              refine ax_aload_n dX11_fits_88 rfl rfl (pc' := 89) rfl ?_
              refine ax_getr (v := 71) dX11_fits_89 flX11_56 rfl sh_0 rfl (pc' := 92) rfl ?_
              refine ax_geti (v := M_57 71 1) dX11_fits_92 flX11_325 rfl sh_71 rfl rfl (pc' := 95) rfl ?_
              refine ax_iret dX11_fits_95 rfl ?_
              refine ⟨rfl, ?_, ?_⟩
              · refine congrArg (fun z => some (Sum.inl z)) ?_
                unfold F_fits
                rw [if_neg (fun h => h ⟨⟨hir, by omega, by omega⟩, by omega, by omega, by omega⟩), if_pos h61_0]
                exact fa57_0.1.1
              · intro x0 i0 hai
                exact ((frM_57 x0 i0 (fun h => h.elim (fun h => hai (Or.inl (by rw [h]; decide))) (fun h => h.elim (fun h => hai (Or.inl (by rw [h]; decide))) (fun h => h.elim (fun h => hai (Or.inr (Or.inl h))) (fun h => h.elim (fun h => hai (Or.inr (Or.inr (Or.inl h)))) (fun h => h.elim (fun h => hai (Or.inr (Or.inr (Or.inr (Or.inl h))))) (fun h => h.elim (fun h => hai (Or.inr (Or.inr (Or.inr (Or.inr (Or.inl h)))))) (fun h => h.elim (fun h => hai (Or.inr (Or.inr (Or.inr (Or.inr (Or.inr (Or.inl h))))))) (fun h => hai (Or.inr (Or.inr (Or.inr (Or.inr (Or.inr (Or.inr h))))))))))))))).trans ((frM_41 x0 i0 (by omega)).trans rfl))
            by_cases h61_1 : what = 1
            · refine ax_reS (st2 := [.inl 1]) (by rw [h61_1]) ?_
              refine ax_tabIn (tgt := 96) dX11_fits_61 (by decide) (by decide) rfl (by decide) ?_
              refine ax_aload_n dX11_fits_96 rfl rfl (pc' := 97) rfl ?_
              refine ax_getr (v := 71) dX11_fits_97 flX11_56 rfl sh_0 rfl (pc' := 100) rfl ?_
              refine ax_geti (v := M_57 71 2) dX11_fits_100 flX11_328 rfl sh_71 rfl rfl (pc' := 103) rfl ?_
              refine ax_iret dX11_fits_103 rfl ?_
              refine ⟨rfl, ?_, ?_⟩
              · refine congrArg (fun z => some (Sum.inl z)) ?_
                unfold F_fits
                rw [if_neg (fun h => h ⟨⟨hir, by omega, by omega⟩, by omega, by omega, by omega⟩), if_neg h61_0, if_pos h61_1]
                exact fa57_0.1.2.1
              · intro x0 i0 hai
                exact ((frM_57 x0 i0 (fun h => h.elim (fun h => hai (Or.inl (by rw [h]; decide))) (fun h => h.elim (fun h => hai (Or.inl (by rw [h]; decide))) (fun h => h.elim (fun h => hai (Or.inr (Or.inl h))) (fun h => h.elim (fun h => hai (Or.inr (Or.inr (Or.inl h)))) (fun h => h.elim (fun h => hai (Or.inr (Or.inr (Or.inr (Or.inl h))))) (fun h => h.elim (fun h => hai (Or.inr (Or.inr (Or.inr (Or.inr (Or.inl h)))))) (fun h => h.elim (fun h => hai (Or.inr (Or.inr (Or.inr (Or.inr (Or.inr (Or.inl h))))))) (fun h => hai (Or.inr (Or.inr (Or.inr (Or.inr (Or.inr (Or.inr h))))))))))))))).trans ((frM_41 x0 i0 (by omega)).trans rfl))
            by_cases h61_2 : what = 2
            · refine ax_reS (st2 := [.inl 2]) (by rw [h61_2]) ?_
              refine ax_tabIn (tgt := 104) dX11_fits_61 (by decide) (by decide) rfl (by decide) ?_
              refine ax_aload_n dX11_fits_104 rfl rfl (pc' := 105) rfl ?_
              refine ax_getr (v := 71) dX11_fits_105 flX11_56 rfl sh_0 rfl (pc' := 108) rfl ?_
              refine ax_geti (v := M_57 71 3) dX11_fits_108 flX11_331 rfl sh_71 rfl rfl (pc' := 111) rfl ?_
              refine ax_iret dX11_fits_111 rfl ?_
              refine ⟨rfl, ?_, ?_⟩
              · refine congrArg (fun z => some (Sum.inl z)) ?_
                unfold F_fits
                rw [if_neg (fun h => h ⟨⟨hir, by omega, by omega⟩, by omega, by omega, by omega⟩), if_neg h61_0, if_neg h61_1, if_pos h61_2]
                exact fa57_0.1.2.2
              · intro x0 i0 hai
                exact ((frM_57 x0 i0 (fun h => h.elim (fun h => hai (Or.inl (by rw [h]; decide))) (fun h => h.elim (fun h => hai (Or.inl (by rw [h]; decide))) (fun h => h.elim (fun h => hai (Or.inr (Or.inl h))) (fun h => h.elim (fun h => hai (Or.inr (Or.inr (Or.inl h)))) (fun h => h.elim (fun h => hai (Or.inr (Or.inr (Or.inr (Or.inl h))))) (fun h => h.elim (fun h => hai (Or.inr (Or.inr (Or.inr (Or.inr (Or.inl h)))))) (fun h => h.elim (fun h => hai (Or.inr (Or.inr (Or.inr (Or.inr (Or.inr (Or.inl h))))))) (fun h => hai (Or.inr (Or.inr (Or.inr (Or.inr (Or.inr (Or.inr h))))))))))))))).trans ((frM_41 x0 i0 (by omega)).trans rfl))
            refine ax_tabOut (tgt := 112) dX11_fits_61 (by omega) (by decide) ?_
            refine ax_aload_n dX11_fits_112 rfl rfl (pc' := 113) rfl ?_
            refine ax_getr (v := 71) dX11_fits_113 flX11_56 rfl sh_0 rfl (pc' := 116) rfl ?_
            refine ax_invG [] [] dX11_fits_116 mlX11_334 sh_71 rfl rfl rfl (Nat.le_of_ble_eq_true rfl) (s_X2_tellingForce E l _ (by omega) _ ((f_ft Ls w r p).2.2) ⟨fa57_0.1.1, fa57_1⟩ fa57_0.2.1 fa57_0.2.2) (pc' := 119) rfl (fun vv M_116 hq co116 hcm116 => ?_)
            obtain ⟨rfl, rfl⟩ := hq
            refine ax_reS (st2 := [.inl (F_next ((f_ft Ls w r p).2.2))]) rfl ?_
            have cc116 : -2147483648 ≤ F_next ((f_ft Ls w r p).2.2) ∧ F_next ((f_ft Ls w r p).2.2) < 2147483648 := co116 _ rfl
            refine ax_iret dX11_fits_119 rfl ?_
            refine ⟨rfl, ?_, ?_⟩
            · refine congrArg (fun z => some (Sum.inl z)) ?_
              unfold F_fits
              rw [if_neg (fun h => h ⟨⟨hir, by omega, by omega⟩, by omega, by omega, by omega⟩), if_neg h61_0, if_neg h61_1, if_neg h61_2, F_next_rev]
            · intro x0 i0 hai
              exact ((frM_57 x0 i0 (fun h => h.elim (fun h => hai (Or.inl (by rw [h]; decide))) (fun h => h.elim (fun h => hai (Or.inl (by rw [h]; decide))) (fun h => h.elim (fun h => hai (Or.inr (Or.inl h))) (fun h => h.elim (fun h => hai (Or.inr (Or.inr (Or.inl h)))) (fun h => h.elim (fun h => hai (Or.inr (Or.inr (Or.inr (Or.inl h))))) (fun h => h.elim (fun h => hai (Or.inr (Or.inr (Or.inr (Or.inr (Or.inl h)))))) (fun h => h.elim (fun h => hai (Or.inr (Or.inr (Or.inr (Or.inr (Or.inr (Or.inl h))))))) (fun h => hai (Or.inr (Or.inr (Or.inr (Or.inr (Or.inr (Or.inr h))))))))))))))).trans ((frM_41 x0 i0 (by omega)).trans rfl))
          · refine ax_iconst dX11_fits_33 (by decide) (pc' := 34) rfl ?_
            refine ax_iret dX11_fits_34 rfl ?_
            refine ⟨rfl, ?_, ?_⟩
            · refine congrArg (fun z => some (Sum.inl z)) ?_
              unfold F_fits
              rw [if_pos (fun hh => by first | exact hir hh.1.1 | exact h21 ⟨hh.1.2.1, by have := hh.1.2.2; omega, hh.2.1⟩ | omega)]
            · intro x0 i0 hai
              exact rfl
  · refine ax_invG [.inl r] [] dX11_fits_5 mlX11_139 sh_1 rfl rfl rfl (Nat.le_of_ble_eq_true rfl) (s_X9_ropeAt_no E l _ (by omega) _ r w hg0.1 hg1.1.1 hir) (pc' := 8) rfl (fun vv M_5 hq co5 hcm5 => ?_)
    obtain ⟨rfl, rfl⟩ := hq
    refine ax_reS (st2 := [.inr (-1)]) rfl ?_
    refine ax_astore dX11_fits_8 (by decide) (ls' := [some (.inr 0), some (.inl r), some (.inl p), some (.inl what), some (.inr (-1))]) rfl (pc' := 10) rfl ?_
    refine ax_aload dX11_fits_10 rfl (pc' := 12) rfl ?_
    refine ax_ifnull (tgt := 33) dX11_fits_12 (by decide) (by decide) (pc' := 15) rfl (fun h12 => ?_) (fun h12 => ?_)
    · refine ax_iconst dX11_fits_33 (by decide) (pc' := 34) rfl ?_
      refine ax_iret dX11_fits_34 rfl ?_
      refine ⟨rfl, ?_, ?_⟩
      · refine congrArg (fun z => some (Sum.inl z)) ?_
        unfold F_fits
        rw [if_pos (fun hh => by first | exact hir hh.1.1 | exact h21 ⟨hh.1.2.1, by have := hh.1.2.2; omega, hh.2.1⟩ | omega)]
      · intro x0 i0 hai
        exact rfl
    · exfalso
      omega
set_option maxRecDepth 20000 in
theorem s_X7_marry (E : ax_Env) (l : Launch) (d : Nat) (hd : 1 ≤ d) (M : ax_Mem) (a i j : Int) {ha : Int → Int} (hha : M (a + 2) = ha) {si : Int → Int} (hsi : M (a + 3) = si) (hg0 : f_rp a) (hg1 : 0 ≤ i ∧ i < 144 ∧ 0 ≤ j ∧ j < 144 ∧ i ≠ j) : ax_G E l d iX7_marry [.inr a, .inl i, .inl j] M (fun z0 M2 => z0 = none ∧ (∀ x0 i0 : Int, ¬ (x0 = a + 2 ∨ x0 = a + 3) → M2 x0 i0 = M x0 i0) ∧ M2 (a + 2) = f_up (f_up ha i (max (ha i) (ha j))) j (max (ha i) (ha j)) ∧ M2 (a + 3) = f_up (f_up si i (f_fst (ha i) (ha j) (si i) (si j))) j (f_fst (ha i) (ha j) (si i) (si j))) := by
  obtain ⟨d, rfl⟩ : ∃ d0, d = d0 + 1 := ⟨d - 1, by omega⟩
  refine ax_start rfl (Nat.le_of_ble_eq_true rfl) (ls := [some (.inr a), some (.inl i), some (.inl j), none, none]) rfl (fun hav hcm => ?_)
  have hc1 : -2147483648 ≤ i ∧ i < 2147483648 := hav (.inl i) (by simp)
  have hc2 : -2147483648 ≤ j ∧ j < 2147483648 := hav (.inl j) (by simp)
  clear hav
  refine ax_aload_n dX7_marry_0 rfl rfl (pc' := 1) rfl ?_
  refine ax_getr (v := a + 3) dX7_marry_1 flX7_18 rfl hg0.1 rfl (pc' := 4) rfl ?_
  refine ax_iload_n dX7_marry_4 rfl rfl (pc' := 5) rfl ?_
  refine ax_iald (v := si i) dX7_marry_5 hg0.2.2.2 rfl (by omega) (by omega) ((congrFun hsi i).trans rfl) (pc' := 6) rfl ?_
  refine ax_istore_n dX7_marry_6 rfl (by decide) (ls' := [some (.inr a), some (.inl i), some (.inl j), some (.inl (si i)), none]) rfl (pc' := 7) rfl ?_
  refine ax_aload_n dX7_marry_7 rfl rfl (pc' := 8) rfl ?_
  refine ax_getr (v := a + 2) dX7_marry_8 flX7_15 rfl hg0.1 rfl (pc' := 11) rfl ?_
  refine ax_iload_n dX7_marry_11 rfl rfl (pc' := 12) rfl ?_
  refine ax_iald (v := ha i) dX7_marry_12 hg0.2.2.1 rfl (by omega) (by omega) ((congrFun hha i).trans rfl) (pc' := 13) rfl ?_
  refine ax_if_eq (tgt := 35) dX7_marry_13 (by decide) (pc' := 16) rfl (fun h13 => ?_) (fun h13 => ?_)
  · have qf : f_fst (ha i) (ha j) (si i) (si j) = si j := if_pos (by omega)
    refine ax_aload_n dX7_marry_35 rfl rfl (pc' := 36) rfl ?_
    refine ax_getr (v := a + 3) dX7_marry_36 flX7_18 rfl hg0.1 rfl (pc' := 39) rfl ?_
    refine ax_iload_n dX7_marry_39 rfl rfl (pc' := 40) rfl ?_
    refine ax_iald (v := si j) dX7_marry_40 hg0.2.2.2 rfl (by omega) (by omega) ((congrFun hsi j).trans rfl) (pc' := 41) rfl ?_
    refine ax_istore_n dX7_marry_41 rfl (by decide) (ls' := [some (.inr a), some (.inl i), some (.inl j), some (.inl (si j)), none]) rfl (pc' := 42) rfl ?_
    refine ax_aload_n dX7_marry_42 rfl rfl (pc' := 43) rfl ?_
    refine ax_getr (v := a + 2) dX7_marry_43 flX7_15 rfl hg0.1 rfl (pc' := 46) rfl ?_
    refine ax_iload_n dX7_marry_46 rfl rfl (pc' := 47) rfl ?_
    refine ax_iald (v := ha i) dX7_marry_47 hg0.2.2.1 rfl (by omega) (by omega) ((congrFun hha i).trans rfl) (pc' := 48) rfl ?_
    refine ax_aload_n dX7_marry_48 rfl rfl (pc' := 49) rfl ?_
    refine ax_getr (v := a + 2) dX7_marry_49 flX7_15 rfl hg0.1 rfl (pc' := 52) rfl ?_
    refine ax_iload_n dX7_marry_52 rfl rfl (pc' := 53) rfl ?_
    refine ax_iald (v := ha j) dX7_marry_53 hg0.2.2.1 rfl (by omega) (by omega) ((congrFun hha j).trans rfl) (pc' := 54) rfl ?_
    refine ax_mmax dX7_marry_54 mlX7_79 (Nat.le_of_ble_eq_true rfl) (pc' := 57) rfl ?_
    refine ax_istore dX7_marry_57 (by decide) (ls' := [some (.inr a), some (.inl i), some (.inl j), some (.inl (si j)), some (.inl (max (ha i) (ha j)))]) rfl (pc' := 59) rfl ?_
    refine ax_aload_n dX7_marry_59 rfl rfl (pc' := 60) rfl ?_
    refine ax_getr (v := a + 2) dX7_marry_60 flX7_15 rfl hg0.1 rfl (pc' := 63) rfl ?_
    refine ax_iload_n dX7_marry_63 rfl rfl (pc' := 64) rfl ?_
    refine ax_iload dX7_marry_64 rfl (pc' := 66) rfl ?_
    refine ax_iast dX7_marry_66 hg0.2.2.1 rfl (by omega) (by omega) (pc' := 67) rfl ?_
    refine ax_aload_n dX7_marry_67 rfl rfl (pc' := 68) rfl ?_
    refine ax_getr (v := a + 2) dX7_marry_68 flX7_15 rfl hg0.1 rfl (pc' := 71) rfl ?_
    refine ax_iload_n dX7_marry_71 rfl rfl (pc' := 72) rfl ?_
    refine ax_iload dX7_marry_72 rfl (pc' := 74) rfl ?_
    refine ax_iast dX7_marry_74 hg0.2.2.1 rfl (by omega) (by omega) (pc' := 75) rfl ?_
    refine ax_aload_n dX7_marry_75 rfl rfl (pc' := 76) rfl ?_
    refine ax_getr (v := a + 3) dX7_marry_76 flX7_18 rfl hg0.1 rfl (pc' := 79) rfl ?_
    refine ax_iload_n dX7_marry_79 rfl rfl (pc' := 80) rfl ?_
    refine ax_iload_n dX7_marry_80 rfl rfl (pc' := 81) rfl ?_
    refine ax_iast dX7_marry_81 hg0.2.2.2 rfl (by omega) (by omega) (pc' := 82) rfl ?_
    refine ax_aload_n dX7_marry_82 rfl rfl (pc' := 83) rfl ?_
    refine ax_getr (v := a + 3) dX7_marry_83 flX7_18 rfl hg0.1 rfl (pc' := 86) rfl ?_
    refine ax_iload_n dX7_marry_86 rfl rfl (pc' := 87) rfl ?_
    refine ax_iload_n dX7_marry_87 rfl rfl (pc' := 88) rfl ?_
    refine ax_iast dX7_marry_88 hg0.2.2.2 rfl (by omega) (by omega) (pc' := 89) rfl ?_
    refine ax_vret dX7_marry_89 rfl ?_
    refine ⟨rfl, rfl, ?_, ?_, ?_⟩
    · intro x0 i0 hai
      exact (ax_up_miss (fun h => hai (Or.inr h.1)) (ax_up_miss (fun h => hai (Or.inr h.1)) (ax_up_miss (fun h => hai (Or.inl h.1)) (ax_up_miss (fun h => hai (Or.inl h.1)) rfl))))
    · exact (ax_up_rowmiss (by omega) (ax_up_rowmiss (by omega) (ax_up_rowhit (ax_up_rowhit hha))))
    · refine Eq.trans (ax_up_rowhit (ax_up_rowhit (ax_up_rowmiss (by omega) (ax_up_rowmiss (by omega) hsi)))) ?_
      rw [qf]
  · refine ax_aload_n dX7_marry_16 rfl rfl (pc' := 17) rfl ?_
    refine ax_getr (v := a + 2) dX7_marry_17 flX7_15 rfl hg0.1 rfl (pc' := 20) rfl ?_
    refine ax_iload_n dX7_marry_20 rfl rfl (pc' := 21) rfl ?_
    refine ax_iald (v := ha j) dX7_marry_21 hg0.2.2.1 rfl (by omega) (by omega) ((congrFun hha j).trans rfl) (pc' := 22) rfl ?_
    refine ax_if_le (tgt := 42) dX7_marry_22 (by decide) (pc' := 25) rfl (fun h22 => ?_) (fun h22 => ?_)
    · have qf : f_fst (ha i) (ha j) (si i) (si j) = si i := if_neg (by omega)
      refine ax_aload_n dX7_marry_42 rfl rfl (pc' := 43) rfl ?_
      refine ax_getr (v := a + 2) dX7_marry_43 flX7_15 rfl hg0.1 rfl (pc' := 46) rfl ?_
      refine ax_iload_n dX7_marry_46 rfl rfl (pc' := 47) rfl ?_
      refine ax_iald (v := ha i) dX7_marry_47 hg0.2.2.1 rfl (by omega) (by omega) ((congrFun hha i).trans rfl) (pc' := 48) rfl ?_
      refine ax_aload_n dX7_marry_48 rfl rfl (pc' := 49) rfl ?_
      refine ax_getr (v := a + 2) dX7_marry_49 flX7_15 rfl hg0.1 rfl (pc' := 52) rfl ?_
      refine ax_iload_n dX7_marry_52 rfl rfl (pc' := 53) rfl ?_
      refine ax_iald (v := ha j) dX7_marry_53 hg0.2.2.1 rfl (by omega) (by omega) ((congrFun hha j).trans rfl) (pc' := 54) rfl ?_
      refine ax_mmax dX7_marry_54 mlX7_79 (Nat.le_of_ble_eq_true rfl) (pc' := 57) rfl ?_
      refine ax_istore dX7_marry_57 (by decide) (ls' := [some (.inr a), some (.inl i), some (.inl j), some (.inl (si i)), some (.inl (max (ha i) (ha j)))]) rfl (pc' := 59) rfl ?_
      refine ax_aload_n dX7_marry_59 rfl rfl (pc' := 60) rfl ?_
      refine ax_getr (v := a + 2) dX7_marry_60 flX7_15 rfl hg0.1 rfl (pc' := 63) rfl ?_
      refine ax_iload_n dX7_marry_63 rfl rfl (pc' := 64) rfl ?_
      refine ax_iload dX7_marry_64 rfl (pc' := 66) rfl ?_
      refine ax_iast dX7_marry_66 hg0.2.2.1 rfl (by omega) (by omega) (pc' := 67) rfl ?_
      refine ax_aload_n dX7_marry_67 rfl rfl (pc' := 68) rfl ?_
      refine ax_getr (v := a + 2) dX7_marry_68 flX7_15 rfl hg0.1 rfl (pc' := 71) rfl ?_
      refine ax_iload_n dX7_marry_71 rfl rfl (pc' := 72) rfl ?_
      refine ax_iload dX7_marry_72 rfl (pc' := 74) rfl ?_
      refine ax_iast dX7_marry_74 hg0.2.2.1 rfl (by omega) (by omega) (pc' := 75) rfl ?_
      refine ax_aload_n dX7_marry_75 rfl rfl (pc' := 76) rfl ?_
      refine ax_getr (v := a + 3) dX7_marry_76 flX7_18 rfl hg0.1 rfl (pc' := 79) rfl ?_
      refine ax_iload_n dX7_marry_79 rfl rfl (pc' := 80) rfl ?_
      refine ax_iload_n dX7_marry_80 rfl rfl (pc' := 81) rfl ?_
      refine ax_iast dX7_marry_81 hg0.2.2.2 rfl (by omega) (by omega) (pc' := 82) rfl ?_
      refine ax_aload_n dX7_marry_82 rfl rfl (pc' := 83) rfl ?_
      refine ax_getr (v := a + 3) dX7_marry_83 flX7_18 rfl hg0.1 rfl (pc' := 86) rfl ?_
      refine ax_iload_n dX7_marry_86 rfl rfl (pc' := 87) rfl ?_
      refine ax_iload_n dX7_marry_87 rfl rfl (pc' := 88) rfl ?_
      refine ax_iast dX7_marry_88 hg0.2.2.2 rfl (by omega) (by omega) (pc' := 89) rfl ?_
      refine ax_vret dX7_marry_89 rfl ?_
      refine ⟨rfl, rfl, ?_, ?_, ?_⟩
      · intro x0 i0 hai
        exact (ax_up_miss (fun h => hai (Or.inr h.1)) (ax_up_miss (fun h => hai (Or.inr h.1)) (ax_up_miss (fun h => hai (Or.inl h.1)) (ax_up_miss (fun h => hai (Or.inl h.1)) rfl))))
      · exact (ax_up_rowmiss (by omega) (ax_up_rowmiss (by omega) (ax_up_rowhit (ax_up_rowhit hha))))
      · refine Eq.trans (ax_up_rowhit (ax_up_rowhit (ax_up_rowmiss (by omega) (ax_up_rowmiss (by omega) hsi)))) ?_
        rw [qf]
    · refine ax_aload_n dX7_marry_25 rfl rfl (pc' := 26) rfl ?_
      refine ax_getr (v := a + 3) dX7_marry_26 flX7_18 rfl hg0.1 rfl (pc' := 29) rfl ?_
      refine ax_iload_n dX7_marry_29 rfl rfl (pc' := 30) rfl ?_
      refine ax_iald (v := si j) dX7_marry_30 hg0.2.2.2 rfl (by omega) (by omega) ((congrFun hsi j).trans rfl) (pc' := 31) rfl ?_
      refine ax_iload_n dX7_marry_31 rfl rfl (pc' := 32) rfl ?_
      refine ax_icmp_ge (tgt := 42) dX7_marry_32 (by decide) (pc' := 35) rfl (fun h32 => ?_) (fun h32 => ?_)
      · have qf : f_fst (ha i) (ha j) (si i) (si j) = si i := if_neg (by omega)
        refine ax_aload_n dX7_marry_42 rfl rfl (pc' := 43) rfl ?_
        refine ax_getr (v := a + 2) dX7_marry_43 flX7_15 rfl hg0.1 rfl (pc' := 46) rfl ?_
        refine ax_iload_n dX7_marry_46 rfl rfl (pc' := 47) rfl ?_
        refine ax_iald (v := ha i) dX7_marry_47 hg0.2.2.1 rfl (by omega) (by omega) ((congrFun hha i).trans rfl) (pc' := 48) rfl ?_
        refine ax_aload_n dX7_marry_48 rfl rfl (pc' := 49) rfl ?_
        refine ax_getr (v := a + 2) dX7_marry_49 flX7_15 rfl hg0.1 rfl (pc' := 52) rfl ?_
        refine ax_iload_n dX7_marry_52 rfl rfl (pc' := 53) rfl ?_
        refine ax_iald (v := ha j) dX7_marry_53 hg0.2.2.1 rfl (by omega) (by omega) ((congrFun hha j).trans rfl) (pc' := 54) rfl ?_
        refine ax_mmax dX7_marry_54 mlX7_79 (Nat.le_of_ble_eq_true rfl) (pc' := 57) rfl ?_
        refine ax_istore dX7_marry_57 (by decide) (ls' := [some (.inr a), some (.inl i), some (.inl j), some (.inl (si i)), some (.inl (max (ha i) (ha j)))]) rfl (pc' := 59) rfl ?_
        refine ax_aload_n dX7_marry_59 rfl rfl (pc' := 60) rfl ?_
        refine ax_getr (v := a + 2) dX7_marry_60 flX7_15 rfl hg0.1 rfl (pc' := 63) rfl ?_
        refine ax_iload_n dX7_marry_63 rfl rfl (pc' := 64) rfl ?_
        refine ax_iload dX7_marry_64 rfl (pc' := 66) rfl ?_
        refine ax_iast dX7_marry_66 hg0.2.2.1 rfl (by omega) (by omega) (pc' := 67) rfl ?_
        refine ax_aload_n dX7_marry_67 rfl rfl (pc' := 68) rfl ?_
        refine ax_getr (v := a + 2) dX7_marry_68 flX7_15 rfl hg0.1 rfl (pc' := 71) rfl ?_
        refine ax_iload_n dX7_marry_71 rfl rfl (pc' := 72) rfl ?_
        refine ax_iload dX7_marry_72 rfl (pc' := 74) rfl ?_
        refine ax_iast dX7_marry_74 hg0.2.2.1 rfl (by omega) (by omega) (pc' := 75) rfl ?_
        refine ax_aload_n dX7_marry_75 rfl rfl (pc' := 76) rfl ?_
        refine ax_getr (v := a + 3) dX7_marry_76 flX7_18 rfl hg0.1 rfl (pc' := 79) rfl ?_
        refine ax_iload_n dX7_marry_79 rfl rfl (pc' := 80) rfl ?_
        refine ax_iload_n dX7_marry_80 rfl rfl (pc' := 81) rfl ?_
        refine ax_iast dX7_marry_81 hg0.2.2.2 rfl (by omega) (by omega) (pc' := 82) rfl ?_
        refine ax_aload_n dX7_marry_82 rfl rfl (pc' := 83) rfl ?_
        refine ax_getr (v := a + 3) dX7_marry_83 flX7_18 rfl hg0.1 rfl (pc' := 86) rfl ?_
        refine ax_iload_n dX7_marry_86 rfl rfl (pc' := 87) rfl ?_
        refine ax_iload_n dX7_marry_87 rfl rfl (pc' := 88) rfl ?_
        refine ax_iast dX7_marry_88 hg0.2.2.2 rfl (by omega) (by omega) (pc' := 89) rfl ?_
        refine ax_vret dX7_marry_89 rfl ?_
        refine ⟨rfl, rfl, ?_, ?_, ?_⟩
        · intro x0 i0 hai
          exact (ax_up_miss (fun h => hai (Or.inr h.1)) (ax_up_miss (fun h => hai (Or.inr h.1)) (ax_up_miss (fun h => hai (Or.inl h.1)) (ax_up_miss (fun h => hai (Or.inl h.1)) rfl))))
        · exact (ax_up_rowmiss (by omega) (ax_up_rowmiss (by omega) (ax_up_rowhit (ax_up_rowhit hha))))
        · refine Eq.trans (ax_up_rowhit (ax_up_rowhit (ax_up_rowmiss (by omega) (ax_up_rowmiss (by omega) hsi)))) ?_
          rw [qf]
      · have qf : f_fst (ha i) (ha j) (si i) (si j) = si j := if_pos (by omega)
        refine ax_aload_n dX7_marry_35 rfl rfl (pc' := 36) rfl ?_
        refine ax_getr (v := a + 3) dX7_marry_36 flX7_18 rfl hg0.1 rfl (pc' := 39) rfl ?_
        refine ax_iload_n dX7_marry_39 rfl rfl (pc' := 40) rfl ?_
        refine ax_iald (v := si j) dX7_marry_40 hg0.2.2.2 rfl (by omega) (by omega) ((congrFun hsi j).trans rfl) (pc' := 41) rfl ?_
        refine ax_istore_n dX7_marry_41 rfl (by decide) (ls' := [some (.inr a), some (.inl i), some (.inl j), some (.inl (si j)), none]) rfl (pc' := 42) rfl ?_
        refine ax_aload_n dX7_marry_42 rfl rfl (pc' := 43) rfl ?_
        refine ax_getr (v := a + 2) dX7_marry_43 flX7_15 rfl hg0.1 rfl (pc' := 46) rfl ?_
        refine ax_iload_n dX7_marry_46 rfl rfl (pc' := 47) rfl ?_
        refine ax_iald (v := ha i) dX7_marry_47 hg0.2.2.1 rfl (by omega) (by omega) ((congrFun hha i).trans rfl) (pc' := 48) rfl ?_
        refine ax_aload_n dX7_marry_48 rfl rfl (pc' := 49) rfl ?_
        refine ax_getr (v := a + 2) dX7_marry_49 flX7_15 rfl hg0.1 rfl (pc' := 52) rfl ?_
        refine ax_iload_n dX7_marry_52 rfl rfl (pc' := 53) rfl ?_
        refine ax_iald (v := ha j) dX7_marry_53 hg0.2.2.1 rfl (by omega) (by omega) ((congrFun hha j).trans rfl) (pc' := 54) rfl ?_
        refine ax_mmax dX7_marry_54 mlX7_79 (Nat.le_of_ble_eq_true rfl) (pc' := 57) rfl ?_
        refine ax_istore dX7_marry_57 (by decide) (ls' := [some (.inr a), some (.inl i), some (.inl j), some (.inl (si j)), some (.inl (max (ha i) (ha j)))]) rfl (pc' := 59) rfl ?_
        refine ax_aload_n dX7_marry_59 rfl rfl (pc' := 60) rfl ?_
        refine ax_getr (v := a + 2) dX7_marry_60 flX7_15 rfl hg0.1 rfl (pc' := 63) rfl ?_
        refine ax_iload_n dX7_marry_63 rfl rfl (pc' := 64) rfl ?_
        refine ax_iload dX7_marry_64 rfl (pc' := 66) rfl ?_
        refine ax_iast dX7_marry_66 hg0.2.2.1 rfl (by omega) (by omega) (pc' := 67) rfl ?_
        refine ax_aload_n dX7_marry_67 rfl rfl (pc' := 68) rfl ?_
        refine ax_getr (v := a + 2) dX7_marry_68 flX7_15 rfl hg0.1 rfl (pc' := 71) rfl ?_
        refine ax_iload_n dX7_marry_71 rfl rfl (pc' := 72) rfl ?_
        refine ax_iload dX7_marry_72 rfl (pc' := 74) rfl ?_
        refine ax_iast dX7_marry_74 hg0.2.2.1 rfl (by omega) (by omega) (pc' := 75) rfl ?_
        refine ax_aload_n dX7_marry_75 rfl rfl (pc' := 76) rfl ?_
        refine ax_getr (v := a + 3) dX7_marry_76 flX7_18 rfl hg0.1 rfl (pc' := 79) rfl ?_
        refine ax_iload_n dX7_marry_79 rfl rfl (pc' := 80) rfl ?_
        refine ax_iload_n dX7_marry_80 rfl rfl (pc' := 81) rfl ?_
        refine ax_iast dX7_marry_81 hg0.2.2.2 rfl (by omega) (by omega) (pc' := 82) rfl ?_
        refine ax_aload_n dX7_marry_82 rfl rfl (pc' := 83) rfl ?_
        refine ax_getr (v := a + 3) dX7_marry_83 flX7_18 rfl hg0.1 rfl (pc' := 86) rfl ?_
        refine ax_iload_n dX7_marry_86 rfl rfl (pc' := 87) rfl ?_
        refine ax_iload_n dX7_marry_87 rfl rfl (pc' := 88) rfl ?_
        refine ax_iast dX7_marry_88 hg0.2.2.2 rfl (by omega) (by omega) (pc' := 89) rfl ?_
        refine ax_vret dX7_marry_89 rfl ?_
        refine ⟨rfl, rfl, ?_, ?_, ?_⟩
        · intro x0 i0 hai
          exact (ax_up_miss (fun h => hai (Or.inr h.1)) (ax_up_miss (fun h => hai (Or.inr h.1)) (ax_up_miss (fun h => hai (Or.inl h.1)) (ax_up_miss (fun h => hai (Or.inl h.1)) rfl))))
        · exact (ax_up_rowmiss (by omega) (ax_up_rowmiss (by omega) (ax_up_rowhit (ax_up_rowhit hha))))
        · refine Eq.trans (ax_up_rowhit (ax_up_rowhit (ax_up_rowmiss (by omega) (ax_up_rowmiss (by omega) hsi)))) ?_
          rw [qf]
set_option maxRecDepth 20000 in
theorem s_X7_append (E : ax_Env) (l : Launch) (d : Nat) (hd : 2 ≤ d) (M : ax_Mem) (a b : Int) {ti : Int → Int} (hti : M (a + 1) = ti) {ha : Int → Int} (hha : M (a + 2) = ha) {si : Int → Int} (hsi : M (a + 3) = si) {tib : Int → Int} (htib : M (b + 1) = tib) {hab : Int → Int} (hhab : M (b + 2) = hab) {sib : Int → Int} (hsib : M (b + 3) = sib) {ln : Int} (hln : M a 1 = ln) {we : Int} (hwe : M a 4 = we) {lm : Int} (hlm : M b 1 = lm) {wf : Int} (hwf : M b 4 = wf) (hg0 : f_rp a) (hg1 : f_rp b) (hg2 : a + 4 ≤ b ∨ b + 4 ≤ a) (hg3 : 1 ≤ ln ∧ 1 ≤ lm ∧ ln + lm ≤ 24) : ax_G E l d iX7_append [.inr a, .inr b] M (fun z0 M2 => z0 = none ∧ (∀ x0 i0 : Int, ¬ (x0 = a + 1 ∨ x0 = a + 2 ∨ x0 = a + 3 ∨ (x0 = a ∧ i0 = 1) ∨ (x0 = a ∧ i0 = 4)) → M2 x0 i0 = M x0 i0) ∧ M2 (a + 1) = f_cp tib 0 ti ln lm ∧ M2 (a + 2) = f_hM (f_cp hab (0 * 6) ha (ln * 6) (lm * 6)) ln 6 ∧ M2 (a + 3) = f_sM (f_cp hab (0 * 6) ha (ln * 6) (lm * 6)) (f_cp sib (0 * 6) si (ln * 6) (lm * 6)) ln 6 ∧ M2 a 1 = ln + lm ∧ M2 a 4 = max we wf) := by
  obtain ⟨d, rfl⟩ : ∃ d0, d = d0 + 1 := ⟨d - 1, by omega⟩
  refine ax_start rfl (Nat.le_of_ble_eq_true rfl) (ls := [some (.inr a), some (.inr b), none, none]) rfl (fun hav hcm => ?_)
  clear hav
  obtain ⟨hz, qhz⟩ : ∃ z, z = f_cp hab (0 * 6) ha (ln * 6) (lm * 6) := ⟨_, rfl⟩
  obtain ⟨sz, qsz⟩ : ∃ z, z = f_cp sib (0 * 6) si (ln * 6) (lm * 6) := ⟨_, rfl⟩
  refine ax_aload_n dX7_append_0 rfl rfl (pc' := 1) rfl ?_
  refine ax_geti (v := ln) dX7_append_1 flX7_25 rfl hg0.1 hln rfl (pc' := 4) rfl ?_
  refine ax_istore_n dX7_append_4 rfl (by decide) (ls' := [some (.inr a), some (.inr b), some (.inl ln), none]) rfl (pc' := 5) rfl ?_
  refine ax_aload_n dX7_append_5 rfl rfl (pc' := 6) rfl ?_
  refine ax_aload_n dX7_append_6 rfl rfl (pc' := 7) rfl ?_
  refine ax_iconst dX7_append_7 (by decide) (pc' := 8) rfl ?_
  refine ax_iload_n dX7_append_8 rfl rfl (pc' := 9) rfl ?_
  refine ax_aload_n dX7_append_9 rfl rfl (pc' := 10) rfl ?_
  refine ax_geti (v := lm) dX7_append_10 flX7_25 rfl hg1.1 hlm rfl (pc' := 13) rfl ?_
  refine ax_invG [.inr b, .inl 0, .inl ln, .inl lm] [] dX7_append_13 mlX7_75 hg0.1 rfl rfl rfl (Nat.le_of_ble_eq_true rfl) (s_X7_copyPlaces E l _ (by omega) _ a b 0 ln lm hti hha hsi htib hhab hsib (by first | omega | assumption) (by first | omega | assumption) (by first | omega | assumption) (by first | omega | assumption)) (pc' := 16) rfl (fun vv M_13 hq co13 hcm13 => ?_)
  obtain ⟨rfl, frM_13, mrM_13_0, mrM_13_1, mrM_13_2⟩ := hq
  refine ax_reS (st2 := []) rfl ?_
  refine ax_aload_n dX7_append_16 rfl rfl (pc' := 17) rfl ?_
  refine ax_iload_n dX7_append_17 rfl rfl (pc' := 18) rfl ?_
  refine ax_aload_n dX7_append_18 rfl rfl (pc' := 19) rfl ?_
  refine ax_geti (v := lm) dX7_append_19 flX7_25 rfl hg1.1 ((frM_13 b 1 (by omega)).trans hlm) rfl (pc' := 22) rfl ?_
  refine ax_iadd dX7_append_22 (by omega) (pc' := 23) rfl ?_
  refine ax_puti dX7_append_23 flX7_25 (Or.inl rfl) hg0.1 rfl (pc' := 26) rfl ?_
  refine ax_aload_n dX7_append_26 rfl rfl (pc' := 27) rfl ?_
  refine ax_aload_n dX7_append_27 rfl rfl (pc' := 28) rfl ?_
  refine ax_geti (v := we) dX7_append_28 flX7_35 rfl hg0.1 (show (ax_up M_13 a 1 (ln + lm)) a 4 = we from (ax_up_miss (fun h => absurd h.2 (by decide)) ((frM_13 a 4 (by omega)).trans hwe))) rfl (pc' := 31) rfl ?_
  refine ax_aload_n dX7_append_31 rfl rfl (pc' := 32) rfl ?_
  refine ax_geti (v := wf) dX7_append_32 flX7_35 rfl hg1.1 (show (ax_up M_13 a 1 (ln + lm)) b 4 = wf from (ax_up_miss (by omega) ((frM_13 b 4 (by omega)).trans hwf))) rfl (pc' := 35) rfl ?_
  refine ax_mmax dX7_append_35 mlX7_79 (Nat.le_of_ble_eq_true rfl) (pc' := 38) rfl ?_
  refine ax_puti dX7_append_38 flX7_35 (Or.inl rfl) hg0.1 rfl (pc' := 41) rfl ?_
  refine ax_iconst dX7_append_41 (by decide) (pc' := 42) rfl ?_
  refine ax_istore_n dX7_append_42 rfl (by decide) (ls' := [some (.inr a), some (.inr b), some (.inl ln), some (.inl 0)]) rfl (pc' := 43) rfl ?_
  have LP1 : ∀ (kq2 : Nat) (k : Int) (g1 g2 : Int → Int) (M1 : ax_Mem) (hm1 : 6 - k < (kq2 : Nat)) (fr1 : ∀ x0 i0 : Int, ¬ (x0 = a + 2 ∨ x0 = a + 3) → M1 x0 i0 = (ax_up (ax_up M_13 a 1 (ln + lm)) a 4 (max we wf)) x0 i0) (mr1_a2 : M1 (a + 2) = g1) (mr1_a3 : M1 (a + 3) = g2) (iv1_0 : 0 ≤ k ∧ k ≤ 6) (iv1_1 : g1 = f_hM hz ln k) (iv1_2 : g2 = f_sM hz sz ln k), ax_W E l (d + 1) 0 0 iX7_append 43 [some (.inr a), some (.inr b), some (.inl ln), some (.inl k)] [] SH M1 (ax_P (fun z0 M2 => z0 = none ∧ (∀ x0 i0 : Int, ¬ (x0 = a + 1 ∨ x0 = a + 2 ∨ x0 = a + 3 ∨ (x0 = a ∧ i0 = 1) ∨ (x0 = a ∧ i0 = 4)) → M2 x0 i0 = M x0 i0) ∧ M2 (a + 1) = f_cp tib 0 ti ln lm ∧ M2 (a + 2) = f_hM (f_cp hab (0 * 6) ha (ln * 6) (lm * 6)) ln 6 ∧ M2 (a + 3) = f_sM (f_cp hab (0 * 6) ha (ln * 6) (lm * 6)) (f_cp sib (0 * 6) si (ln * 6) (lm * 6)) ln 6 ∧ M2 a 1 = ln + lm ∧ M2 a 4 = max we wf)) := by
    intro kq2
    induction kq2 with
    | zero =>
      intro k g1 g2 M1 hm1 fr1 mr1_a2 mr1_a3 iv1_0 iv1_1 iv1_2
      exfalso
      omega
    | succ kq2 ih3 =>
      intro k g1 g2 M1 hm1 fr1 mr1_a2 mr1_a3 iv1_0 iv1_1 iv1_2
      refine ax_iload_n dX7_append_43 rfl rfl (pc' := 44) rfl ?_
      refine ax_bipush dX7_append_44 (by decide) (pc' := 46) rfl ?_
      refine ax_icmp_ge (tgt := 73) dX7_append_46 (by decide) (pc' := 49) rfl (fun h46 => ?_) (fun h46 => ?_)
      · refine ax_vret dX7_append_73 rfl ?_
        refine ⟨rfl, rfl, ?_, ?_, ?_, ?_, ?_, ?_⟩
        · intro x0 i0 hai
          exact ((fr1 x0 i0 (fun h => h.elim (fun h => hai (Or.inr (Or.inl h))) (fun h => hai (Or.inr (Or.inr (Or.inl h)))))).trans (ax_up_miss (fun h => hai (Or.inr (Or.inr (Or.inr (Or.inr h))))) (ax_up_miss (fun h => hai (Or.inr (Or.inr (Or.inr (Or.inl h))))) ((frM_13 x0 i0 (fun h => h.elim (fun h => hai (Or.inl h)) (fun h => h.elim (fun h => hai (Or.inr (Or.inl h))) (fun h => hai (Or.inr (Or.inr (Or.inl h))))))).trans rfl))))
        · exact ((funext fun i0 => fr1 (a + 1) i0 (by omega)).trans (ax_up_rowmiss (by omega) (ax_up_rowmiss (by omega) mrM_13_0)))
        · refine Eq.trans mr1_a2 ?_
          rw [iv1_1, ← qhz, show k = 6 by omega]
        · refine Eq.trans mr1_a3 ?_
          rw [iv1_2, ← qhz, ← qsz, show k = 6 by omega]
        · exact ((fr1 a 1 (by omega)).trans (ax_up_miss (fun h => absurd h.2 (by decide)) (ax_up_hit _ _ _ _)))
        · exact ((fr1 a 4 (by omega)).trans (ax_up_hit _ _ _ _))
      · refine ax_aload_n dX7_append_49 rfl rfl (pc' := 50) rfl ?_
        refine ax_iload_n dX7_append_50 rfl rfl (pc' := 51) rfl ?_
        refine ax_iconst dX7_append_51 (by decide) (pc' := 52) rfl ?_
        refine ax_isub dX7_append_52 (by omega) (pc' := 53) rfl ?_
        refine ax_bipush dX7_append_53 (by decide) (pc' := 55) rfl ?_
        refine ax_imul dX7_append_55 (by omega) (pc' := 56) rfl ?_
        refine ax_iload_n dX7_append_56 rfl rfl (pc' := 57) rfl ?_
        refine ax_iadd dX7_append_57 (by omega) (pc' := 58) rfl ?_
        refine ax_iload_n dX7_append_58 rfl rfl (pc' := 59) rfl ?_
        refine ax_bipush dX7_append_59 (by decide) (pc' := 61) rfl ?_
        refine ax_imul dX7_append_61 (by omega) (pc' := 62) rfl ?_
        refine ax_iload_n dX7_append_62 rfl rfl (pc' := 63) rfl ?_
        refine ax_iadd dX7_append_63 (by omega) (pc' := 64) rfl ?_
        refine ax_invG [.inl ((ln - 1) * 6 + k), .inl (ln * 6 + k)] [] dX7_append_64 mlX7_82 hg0.1 rfl rfl rfl (Nat.le_of_ble_eq_true rfl) (s_X7_marry E l _ (by omega) _ a ((ln - 1) * 6 + k) (ln * 6 + k) mr1_a2 mr1_a3 (by first | omega | assumption) (by first | omega | assumption)) (pc' := 67) rfl (fun vv M_64 hq co64 hcm64 => ?_)
        obtain ⟨rfl, frM_64, mrM_64_0, mrM_64_1⟩ := hq
        refine ax_reS (st2 := []) rfl ?_
        refine ax_iinc dX7_append_67 rfl (by decide) (by omega) (ls' := [some (.inr a), some (.inr b), some (.inl ln), some (.inl (k + 1))]) rfl (pc' := 70) rfl ?_
        refine ax_goto dX7_append_70 (pc' := 43) (by decide) ?_
        refine ih3 (k + 1) (f_up (f_up g1 ((ln - 1) * 6 + k) (max (g1 ((ln - 1) * 6 + k)) (g1 (ln * 6 + k)))) (ln * 6 + k) (max (g1 ((ln - 1) * 6 + k)) (g1 (ln * 6 + k)))) (f_up (f_up g2 ((ln - 1) * 6 + k) (f_fst (g1 ((ln - 1) * 6 + k)) (g1 (ln * 6 + k)) (g2 ((ln - 1) * 6 + k)) (g2 (ln * 6 + k)))) (ln * 6 + k) (f_fst (g1 ((ln - 1) * 6 + k)) (g1 (ln * 6 + k)) (g2 ((ln - 1) * 6 + k)) (g2 (ln * 6 + k)))) M_64 ?_ ?_ ?_ ?_ ?_ ?_ ?_
        · omega
        · intro x0 i0 hai
          exact ((frM_64 x0 i0 (fun h => h.elim (fun h => hai (Or.inl h)) (fun h => hai (Or.inr h)))).trans ((fr1 x0 i0 (fun h => h.elim (fun h => hai (Or.inl h)) (fun h => hai (Or.inr h)))).trans rfl))
        · exact mrM_64_0
        · exact mrM_64_1
        · omega
        · have q := f_hM_at (ha := hz) (n := ln) (k := k) ⟨by omega, by omega⟩
          rw [iv1_1, q.1, q.2]
          exact f_hM_up ⟨by omega, by omega⟩
        · have q := f_hM_at (ha := hz) (n := ln) (k := k) ⟨by omega, by omega⟩
          have q2 := f_sM_at (ha := hz) (si := sz) (n := ln) (k := k) ⟨by omega, by omega⟩
          rw [iv1_1, iv1_2, q.1, q.2, q2.1, q2.2]
          exact f_sM_up ⟨by omega, by omega⟩ rfl
  refine LP1 (6 - 0 : Int).toNat.succ 0 (f_cp hab (0 * 6) ha (ln * 6) (lm * 6)) (f_cp sib (0 * 6) si (ln * 6) (lm * 6)) (ax_up (ax_up M_13 a 1 (ln + lm)) a 4 (max we wf)) ?_ ?_ ?_ ?_ ?_ ?_ ?_
  · omega
  · exact fun a i _ => rfl
  · exact (ax_up_rowmiss (by omega) (ax_up_rowmiss (by omega) mrM_13_1))
  · exact (ax_up_rowmiss (by omega) (ax_up_rowmiss (by omega) mrM_13_2))
  · omega
  · rw [← qhz]
    exact f_hM_0
  · rw [← qsz]
    exact f_sM_0
