/-! images, whole -/
theorem f_bk_cp {M N : ax_Mem} {b c : Int} {w g : Int → Int} (h1 : w 1 ≤ 200) (hr : N b = f_cp (M c) 0 g 0 1200) (h : f_bk M c w) : f_bk N b w := by
  intro x x1 x2
  rw [hr, f_cp_in ⟨x1, by omega⟩]
  exact h x x1 x2
theorem f_bp_37 : f_bp 37 := ⟨sh_37, sh_38⟩
theorem f_bp_309 : f_bp 309 := ⟨sh_309, sh_310⟩
theorem f_lt_fr {M N : ax_Mem} {b : Int} {w : Int → Int} (h0 : ∀ x i, b ≤ x ∧ x < b + 19 → N x i = M x i) (h : f_lt M b w) : f_lt N b w := by
  intro k k1 k2
  rw [h0 (b + 9) k (by omega)]
  refine ⟨(h k k1 k2).1, fun i i1 i2 => ?_⟩
  rw [h0 (b + 8) _ (by omega)]
  exact (h k k1 k2).2 i i1 i2
theorem f_or_fr {M N : ax_Mem} {b : Int} {w : Int → Int} (h0 : ∀ x i, b ≤ x ∧ x < b + 19 → N x i = M x i) (h : f_or M b w) : f_or N b w := by
  refine ⟨(h0 b 8 (by omega)).trans h.1, fun i i1 i2 => ?_⟩
  rw [h0 (b + 12) i (by omega)]
  exact h.2 i i1 i2
theorem f_lor_fr {M N : ax_Mem} {b : Int} {w : Int → Int} {Ls : Int → List f_Ln} (h0 : ∀ x i, b ≤ x ∧ x < b + 19 → N x i = M x i) (h : f_lor M b w Ls) : f_lor N b w Ls := ⟨f_lrn_fr (fun x i hx => h0 x i (by omega)) h.1, f_dm_fr (fun x i hx => h0 x i (by omega)) h.2.1, f_lt_fr h0 h.2.2.1, f_tl_fr (fun x i hx => h0 x i (by omega)) h.2.2.2.1, f_or_fr h0 h.2.2.2.2⟩
set_option maxRecDepth 20000 in
theorem s_X11_image_take (E : ax_Env) (l : Launch) (d : Nat) (hd : 3 ≤ d) (M : ax_Mem) (w : Int → Int) (Ls : Int → List f_Ln) (hg0 : f_nb M w) (hg1 : f_ok w) (hg2 : w 1 ≤ 200) (hg3 : f_lor M 39 w Ls) (hg4 : w 2600 ≤ 150 ∧ w 2577 ≤ 6 ∧ w 2578 ≤ 7) (hg5 : f_shp w) : ax_G E l d iX11_image [.inr 0, .inl 1] M (fun z0 M2 => z0 = some (.inl 1) ∧ (∀ x0 i0 : Int, ¬ ((273 ≤ x0 ∧ x0 < 330) ∨ (x0 = 0 ∧ i0 = 13)) → M2 x0 i0 = M x0 i0) ∧ (f_wm M2 273 w) ∧ (f_bk M2 310 w) ∧ (f_lor M2 311 w Ls) ∧ (M2 0 13 = 1)) := by
  obtain ⟨d, rfl⟩ : ∃ d0, d = d0 + 1 := ⟨d - 1, by omega⟩
  refine ax_start rfl (Nat.le_of_ble_eq_true rfl) (ls := [some (.inr 0), some (.inl 1)]) rfl (fun hav hcm => ?_)
  clear hav
  refine ax_iload_n dX11_image_0 rfl rfl (pc' := 1) rfl ?_
  refine ax_if_eq (tgt := 44) dX11_image_1 (by decide) (pc' := 4) rfl (fun h1 => ?_) (fun h1 => ?_)
  · exfalso
    omega
  · refine ax_aload_n dX11_image_4 rfl rfl (pc' := 5) rfl ?_
    refine ax_getr (v := 273) dX11_image_5 flX11_94 rfl sh_0 rfl (pc' := 8) rfl ?_
    refine ax_aload_n dX11_image_8 rfl rfl (pc' := 9) rfl ?_
    refine ax_getr (v := 1) dX11_image_9 flX11_10 rfl sh_0 rfl (pc' := 12) rfl ?_
    refine ax_invG [.inr 1] [] dX11_image_12 mlX11_380 sh_273 rfl rfl rfl (Nat.le_of_ble_eq_true rfl) (s_X9_copyFrom E l _ (by omega) _ 273 1 w f_wp_273 f_wp_1 (by decide) hg0.1 hg1) (pc' := 15) rfl (fun vv M_12 hq co12 hcm12 => ?_)
    obtain ⟨rfl, frM_12, fa12_0⟩ := hq
    refine ax_reS (st2 := []) rfl ?_
    refine ax_aload_n dX11_image_15 rfl rfl (pc' := 16) rfl ?_
    refine ax_getr (v := 309) dX11_image_16 flX11_97 rfl sh_0 rfl (pc' := 19) rfl ?_
    refine ax_aload_n dX11_image_19 rfl rfl (pc' := 20) rfl ?_
    refine ax_getr (v := 37) dX11_image_20 flX11_19 rfl sh_0 rfl (pc' := 23) rfl ?_
    refine ax_invG [.inr 37] [] dX11_image_23 mlX11_383 sh_309 rfl rfl rfl (Nat.le_of_ble_eq_true rfl) (s_X0_copyFrom E l _ (by omega) _ 309 37 ((funext fun i0 => frM_12 310 i0 (fun h => absurd h.2 (by decide))).trans rfl) ((funext fun i0 => frM_12 38 i0 (fun h => absurd h.1 (by decide))).trans rfl) f_bp_309 f_bp_37 (by decide)) (pc' := 26) rfl (fun vv M_23 hq co23 hcm23 => ?_)
    obtain ⟨rfl, frM_23, mrM_23_0⟩ := hq
    refine ax_reS (st2 := []) rfl ?_
    refine ax_aload_n dX11_image_26 rfl rfl (pc' := 27) rfl ?_
    refine ax_getr (v := 311) dX11_image_27 flX11_100 rfl sh_0 rfl (pc' := 30) rfl ?_
    refine ax_aload_n dX11_image_30 rfl rfl (pc' := 31) rfl ?_
    refine ax_getr (v := 39) dX11_image_31 flX11_26 rfl sh_0 rfl (pc' := 34) rfl ?_
    refine ax_invG [.inr 39] [] dX11_image_34 mlX11_386 sh_311 rfl rfl rfl (Nat.le_of_ble_eq_true rfl) (s_X4_copy_im E l _ (by omega) _ w Ls (f_lor_fr (M := M) (fun x0 i0 hx => ((frM_23 x0 i0 (by omega)).trans ((frM_12 x0 i0 (by omega)).trans rfl))) hg3) hg4 hg5) (pc' := 37) rfl (fun vv M_34 hq co34 hcm34 => ?_)
    obtain ⟨rfl, frM_34, fa34_0⟩ := hq
    refine ax_reS (st2 := []) rfl ?_
    refine ax_aload_n dX11_image_37 rfl rfl (pc' := 38) rfl ?_
    refine ax_iconst dX11_image_38 (by decide) (pc' := 39) rfl ?_
    refine ax_puti dX11_image_39 flX11_388 (Or.inr ⟨rfl, by first | exact Or.inl rfl | exact Or.inr rfl | omega⟩) sh_0 rfl (pc' := 42) rfl ?_
    refine ax_iconst dX11_image_42 (by decide) (pc' := 43) rfl ?_
    refine ax_zret dX11_image_43 rfl (by decide) ?_
    refine ⟨rfl, ?_, ?_, ?_, ?_, ?_, ?_⟩
    · rfl
    · intro x0 i0 hai
      exact (ax_up_miss (fun h => hai (Or.inr h)) ((frM_34 x0 i0 (fun h => hai (Or.inl ⟨Int.le_trans (by decide) h.1, Int.lt_of_lt_of_le h.2 (by decide)⟩))).trans ((frM_23 x0 i0 (fun h => hai (Or.inl (by rw [h]; decide)))).trans ((frM_12 x0 i0 (fun h => hai (Or.inl ⟨Int.le_trans (by decide) h.1, Int.lt_of_lt_of_le h.2 (by decide)⟩))).trans rfl))))
    · exact f_wm_fr (M := M_12) (fun x0 i0 x1 x2 => (ax_up_miss (by omega) ((frM_34 x0 i0 (by omega)).trans ((frM_23 x0 i0 (by omega)).trans rfl)))) fa12_0
    · exact f_bk_cp (M := M) hg2 (Eq.trans (ax_up_rowmiss (by decide) ((funext fun i0 => frM_34 310 i0 (fun h => absurd h.1 (by decide))).trans mrM_23_0)) rfl) hg0.2
    · exact f_lor_fr (M := M_34) (fun x0 i0 hx => (ax_up_miss (by omega) rfl)) fa34_0
    · exact (ax_up_hit _ _ _ _)
set_option maxRecDepth 20000 in
theorem s_X11_image_no (E : ax_Env) (l : Launch) (d : Nat) (hd : 3 ≤ d) (M : ax_Mem) {im : Int} (him : M 0 13 = im) (hg0 : im = 0) : ax_G E l d iX11_image [.inr 0, .inl 0] M (fun z0 M2 => z0 = some (.inl 0) ∧ M = M2) := by
  obtain ⟨d, rfl⟩ : ∃ d0, d = d0 + 1 := ⟨d - 1, by omega⟩
  refine ax_start rfl (Nat.le_of_ble_eq_true rfl) (ls := [some (.inr 0), some (.inl 0)]) rfl (fun hav hcm => ?_)
  clear hav
  refine ax_iload_n dX11_image_0 rfl rfl (pc' := 1) rfl ?_
  refine ax_if_eq (tgt := 44) dX11_image_1 (by decide) (pc' := 4) rfl (fun h1 => ?_) (fun h1 => ?_)
  · refine ax_aload_n dX11_image_44 rfl rfl (pc' := 45) rfl ?_
    refine ax_geti (v := im) dX11_image_45 flX11_388 rfl sh_0 him rfl (pc' := 48) rfl ?_
    refine ax_if_ne (tgt := 53) dX11_image_48 (by decide) (pc' := 51) rfl (fun h48 => ?_) (fun h48 => ?_)
    · exfalso
      omega
    · refine ax_iconst dX11_image_51 (by decide) (pc' := 52) rfl ?_
      refine ax_zret dX11_image_52 rfl (by decide) ?_
      refine ⟨rfl, ?_, ?_⟩
      · rfl
      · rfl
  · exfalso
    omega
set_option maxRecDepth 20000 in
theorem s_X11_image_back (E : ax_Env) (l : Launch) (d : Nat) (hd : 3 ≤ d) (M : ax_Mem) (w : Int → Int) (Ls : Int → List f_Ln) {im : Int} (him : M 0 13 = im) (hg0 : im = 1) (hg1 : f_wm M 273 w) (hg2 : f_bk M 310 w) (hg3 : f_ok w) (hg4 : w 1 ≤ 200) (hg5 : f_lor M 311 w Ls) (hg6 : w 2600 ≤ 150 ∧ w 2577 ≤ 6 ∧ w 2578 ≤ 7) (hg7 : f_shp w) : ax_G E l d iX11_image [.inr 0, .inl 0] M (fun z0 M2 => z0 = some (.inl 1) ∧ (∀ x0 i0 : Int, ¬ ((1 ≤ x0 ∧ x0 < 58) ∨ (x0 = 0 ∧ i0 = 12)) → M2 x0 i0 = M x0 i0) ∧ (f_nb M2 w) ∧ (f_lor M2 39 w Ls) ∧ (M2 0 12 = 0)) := by
  obtain ⟨d, rfl⟩ : ∃ d0, d = d0 + 1 := ⟨d - 1, by omega⟩
  refine ax_start rfl (Nat.le_of_ble_eq_true rfl) (ls := [some (.inr 0), some (.inl 0)]) rfl (fun hav hcm => ?_)
  clear hav
  refine ax_iload_n dX11_image_0 rfl rfl (pc' := 1) rfl ?_
  refine ax_if_eq (tgt := 44) dX11_image_1 (by decide) (pc' := 4) rfl (fun h1 => ?_) (fun h1 => ?_)
  · refine ax_aload_n dX11_image_44 rfl rfl (pc' := 45) rfl ?_
    refine ax_geti (v := im) dX11_image_45 flX11_388 rfl sh_0 him rfl (pc' := 48) rfl ?_
    refine ax_if_ne (tgt := 53) dX11_image_48 (by decide) (pc' := 51) rfl (fun h48 => ?_) (fun h48 => ?_)
    · refine ax_aload_n dX11_image_53 rfl rfl (pc' := 54) rfl ?_
      refine ax_getr (v := 1) dX11_image_54 flX11_10 rfl sh_0 rfl (pc' := 57) rfl ?_
      refine ax_aload_n dX11_image_57 rfl rfl (pc' := 58) rfl ?_
      refine ax_getr (v := 273) dX11_image_58 flX11_94 rfl sh_0 rfl (pc' := 61) rfl ?_
      refine ax_invG [.inr 273] [] dX11_image_61 mlX11_380 sh_1 rfl rfl rfl (Nat.le_of_ble_eq_true rfl) (s_X9_copyFrom E l _ (by omega) _ 1 273 w f_wp_1 f_wp_273 (by decide) hg1 hg3) (pc' := 64) rfl (fun vv M_61 hq co61 hcm61 => ?_)
      obtain ⟨rfl, frM_61, fa61_0⟩ := hq
      refine ax_reS (st2 := []) rfl ?_
      refine ax_aload_n dX11_image_64 rfl rfl (pc' := 65) rfl ?_
      refine ax_getr (v := 37) dX11_image_65 flX11_19 rfl sh_0 rfl (pc' := 68) rfl ?_
      refine ax_aload_n dX11_image_68 rfl rfl (pc' := 69) rfl ?_
      refine ax_getr (v := 309) dX11_image_69 flX11_97 rfl sh_0 rfl (pc' := 72) rfl ?_
      refine ax_invG [.inr 309] [] dX11_image_72 mlX11_383 sh_37 rfl rfl rfl (Nat.le_of_ble_eq_true rfl) (s_X0_copyFrom E l _ (by omega) _ 37 309 ((funext fun i0 => frM_61 38 i0 (fun h => absurd h.2 (by decide))).trans rfl) ((funext fun i0 => frM_61 310 i0 (fun h => absurd h.2 (by decide))).trans rfl) f_bp_37 f_bp_309 (by decide)) (pc' := 75) rfl (fun vv M_72 hq co72 hcm72 => ?_)
      obtain ⟨rfl, frM_72, mrM_72_0⟩ := hq
      refine ax_reS (st2 := []) rfl ?_
      refine ax_aload_n dX11_image_75 rfl rfl (pc' := 76) rfl ?_
      refine ax_getr (v := 39) dX11_image_76 flX11_26 rfl sh_0 rfl (pc' := 79) rfl ?_
      refine ax_aload_n dX11_image_79 rfl rfl (pc' := 80) rfl ?_
      refine ax_getr (v := 311) dX11_image_80 flX11_100 rfl sh_0 rfl (pc' := 83) rfl ?_
      refine ax_invG [.inr 311] [] dX11_image_83 mlX11_386 sh_39 rfl rfl rfl (Nat.le_of_ble_eq_true rfl) (s_X4_copy_ba E l _ (by omega) _ w Ls (f_lor_fr (M := M) (fun x0 i0 hx => ((frM_72 x0 i0 (by omega)).trans ((frM_61 x0 i0 (by omega)).trans rfl))) hg5) hg6 hg7) (pc' := 86) rfl (fun vv M_83 hq co83 hcm83 => ?_)
      obtain ⟨rfl, frM_83, fa83_0⟩ := hq
      refine ax_reS (st2 := []) rfl ?_
      refine ax_aload_n dX11_image_86 rfl rfl (pc' := 87) rfl ?_
      refine ax_iconst dX11_image_87 (by decide) (pc' := 88) rfl ?_
      refine ax_puti dX11_image_88 flX11_107 (Or.inl rfl) sh_0 rfl (pc' := 91) rfl ?_
      refine ax_iconst dX11_image_91 (by decide) (pc' := 92) rfl ?_
      refine ax_zret dX11_image_92 rfl (by decide) ?_
      refine ⟨rfl, ?_, ?_, ?_, ?_, ?_⟩
      · rfl
      · intro x0 i0 hai
        exact (ax_up_miss (fun h => hai (Or.inr h)) ((frM_83 x0 i0 (fun h => hai (Or.inl ⟨Int.le_trans (by decide) h.1, Int.lt_of_lt_of_le h.2 (by decide)⟩))).trans ((frM_72 x0 i0 (fun h => hai (Or.inl (by rw [h]; decide)))).trans ((frM_61 x0 i0 (fun h => hai (Or.inl ⟨Int.le_trans (by decide) h.1, Int.lt_of_lt_of_le h.2 (by decide)⟩))).trans rfl))))
      · exact ⟨f_wm_fr (M := M_61) (fun x0 i0 x1 x2 => (ax_up_miss (by omega) ((frM_83 x0 i0 (by omega)).trans ((frM_72 x0 i0 (by omega)).trans rfl)))) fa61_0, f_bk_cp (M := M) hg4 (Eq.trans (ax_up_rowmiss (by decide) ((funext fun i0 => frM_83 38 i0 (fun h => absurd h.1 (by decide))).trans mrM_72_0)) rfl) hg2⟩
      · exact f_lor_fr (M := M_83) (fun x0 i0 hx => (ax_up_miss (by omega) rfl)) fa83_0
      · exact (ax_up_hit _ _ _ _)
    · exfalso
      omega
  · exfalso
    omega
