/-! the class reads products and sums -/
theorem f_lp_cd {cd c1 A : Int → Int} {rd sz s1 n x K : Int} {o1 o : List f_Op} (q4 : c1 = f_pi cd sz (f_en rd o1) ∧ s1 = sz + (f_wt o1 : Int)) (qm : A = f_pi c1 s1 (f_en rd o)) (qs : n = s1 + (f_wt o : Int)) (h3 : f_enO rd (K, 0) = [x]) (hK : K ≠ 26) : f_up A n x = f_pi cd sz (f_en rd (o1 ++ (o ++ [(K, 0)]))) ∧ n + 1 = sz + (f_wt (o1 ++ (o ++ [(K, 0)])) : Int) := by
  have e1 : A = f_pi cd sz (f_en rd (o1 ++ o)) := qm.trans (f_pi_more q4.1 q4.2)
  have e2 : n = sz + (f_wt (o1 ++ o) : Int) := by
    rw [f_wt_app, qs, q4.2]
    omega
  have e3 := f_pi_sn e1 e2 h3
  rw [← List.append_assoc]
  refine ⟨e3, ?_⟩
  rw [f_wt_sn hK, e2]
  omega
theorem f_lp_dv {cd c1 A : Int → Int} {rd sz s1 n V : Int} {o1 : List f_Op} (q4 : c1 = f_pi cd sz (f_en rd o1) ∧ s1 = sz + (f_wt o1 : Int)) (qm : A = f_pi c1 s1 (f_en rd [(0, V)])) (qs : n = s1 + (f_wt [((0 : Int), V)] : Int)) : f_up A n (-14) = f_pi cd sz (f_en rd (o1 ++ [(26, V)])) ∧ n + 1 = sz + (f_wt (o1 ++ [(26, V)]) : Int) := by
  have e1 : f_wt [((0 : Int), V)] = 1 := rfl
  have e2 : f_wt [((26 : Int), V)] = 2 := rfl
  constructor
  · rw [← f_pi_more q4.1 q4.2, qm, qs, e1]
    rfl
  · rw [f_wt_app, e2, qs, e1, q4.2]
    omega
set_option maxRecDepth 20000 in
theorem s_X3_readProduct (E : ax_Env) (l : Launch) (d : Nat) (hd : 2 ≤ d) (M : ax_Mem) (rd : Int) (L : List f_Tk) {kk : Int → Int} (hkk : M 60 = kk) {vv : Int → Int} (hvv : M 61 = vv) {ss : Int → Int} (hss : M 62 = ss) {cd : Int → Int} (hcd : M 64 = cd) {nx : Int} (hnx : M 58 8 = nx) {sz : Int} (hsz : M 63 1 = sz) {x2 : Int} (hx2 : M 58 2 = x2) {x3 : Int} (hx3 : M 58 3 = x3) (hg0 : 0 ≤ rd ∧ rd < 3) (hg1 : f_cc rd kk vv ss nx L) (hg2 : 0 ≤ sz ∧ sz + (L.length : Int) ≤ 401) : ax_G E l d iX3_readProduct [.inr 63, .inr 58] M (fun z0 M2 => z0 = some (.inl (f_rb (f_prod L))) ∧ (∀ x0 i0 : Int, ¬ (x0 = 64 ∨ (x0 = 63 ∧ i0 = 1) ∨ (x0 = 58 ∧ i0 = 8) ∨ (x0 = 58 ∧ i0 = 2) ∨ (x0 = 58 ∧ i0 = 3)) → M2 x0 i0 = M x0 i0) ∧ (f_cok rd kk vv ss cd sz x2 x3 (f_prod L) M2)) := by
  obtain ⟨d, rfl⟩ : ∃ d0, d = d0 + 1 := ⟨d - 1, by omega⟩
  refine ax_start rfl (Nat.le_of_ble_eq_true rfl) (ls := [some (.inr 63), some (.inr 58), none, none, none]) rfl (fun hav hcm => ?_)
  clear hav
  have qK := f_kv_lw hg0 (f_cc_hd hg1).1.1
  have qs := (f_cc_hd hg1).1.2
  have qR := f_cc_rg hg1
  refine ax_aload_n dX3_readProduct_0 rfl rfl (pc' := 1) rfl ?_
  refine ax_aload_n dX3_readProduct_1 rfl rfl (pc' := 2) rfl ?_
  refine ax_invG [.inr 58] [] dX3_readProduct_2 mlX3_68 sh_63 rfl rfl rfl (Nat.le_of_ble_eq_true rfl) (s_X3_readUnit E l _ (by omega) _ rd L hkk hvv hss hcd hnx hsz hx2 hx3 (by first | omega | assumption) (by first | omega | assumption) (by first | omega | assumption)) (pc' := 5) rfl (fun vv M_2 hq co2 hcm2 => ?_)
  obtain ⟨rfl, frM_2, fa2_0⟩ := hq
  refine ax_reS (st2 := [.inl (f_rb (f_unit L))]) rfl ?_
  have cc2 : -2147483648 ≤ f_rb (f_unit L) ∧ f_rb (f_unit L) < 2147483648 := co2 _ rfl
  refine ax_istore_n dX3_readProduct_5 rfl (by decide) (ls' := [some (.inr 63), some (.inr 58), some (.inl (f_rb (f_unit L))), none, none]) rfl (pc' := 6) rfl ?_
  refine ax_iconst dX3_readProduct_6 (by decide) (pc' := 7) rfl ?_
  refine ax_istore_n dX3_readProduct_7 rfl (by decide) (ls' := [some (.inr 63), some (.inr 58), some (.inl (f_rb (f_unit L))), some (.inl 0), none]) rfl (pc' := 8) rfl ?_
  have LP1 : ∀ (kq2 : Nat) (gd tu : Int) (c1 : Int → Int) (s1 n1 w1 w2 : Int) (L1 : List f_Tk) (o1 : List f_Op) (M1 : ax_Mem) (hm1 : 401 - tu < (kq2 : Nat)) (fr1 : ∀ x0 i0 : Int, ¬ (x0 = 64 ∨ (x0 = 63 ∧ i0 = 1) ∨ (x0 = 58 ∧ i0 = 8) ∨ (x0 = 58 ∧ i0 = 2) ∨ (x0 = 58 ∧ i0 = 3)) → M1 x0 i0 = M_2 x0 i0) (mr1_64 : M1 64 = c1) (ms1_63_1 : M1 63 1 = s1) (ms1_58_8 : M1 58 8 = n1) (ms1_58_2 : M1 58 2 = w1) (ms1_58_3 : M1 58 3 = w2) (iv1_0 : 0 ≤ tu ∧ tu ≤ 400) (iv1_1 : gd = 0 ∨ gd = 1) (iv1_2 : gd = 0 → f_prod L = .inl (w1, w2)) (iv1_3 : gd = 1 → f_cc rd kk vv ss n1 L1) (iv1_4 : gd = 1 → c1 = f_pi cd sz (f_en rd o1) ∧ s1 = sz + (f_wt o1 : Int)) (iv1_5 : gd = 1 → f_wt o1 + L1.length ≤ L.length ∧ tu + 1 ≤ (f_wt o1 : Int)) (iv1_6 : gd = 1 → f_prod L = f_pre o1 (f_rep f_qMul L1)) (iv1_7 : gd = 1 → w1 = x2 ∧ w2 = x3), ax_W E l (d + 1) 0 0 iX3_readProduct 8 [some (.inr 63), some (.inr 58), some (.inl gd), some (.inl tu), none] [] SH M1 (ax_P (fun z0 M2 => z0 = some (.inl (f_rb (f_prod L))) ∧ (∀ x0 i0 : Int, ¬ (x0 = 64 ∨ (x0 = 63 ∧ i0 = 1) ∨ (x0 = 58 ∧ i0 = 8) ∨ (x0 = 58 ∧ i0 = 2) ∨ (x0 = 58 ∧ i0 = 3)) → M2 x0 i0 = M x0 i0) ∧ (f_cok rd kk vv ss cd sz x2 x3 (f_prod L) M2))) := by
    intro kq2
    induction kq2 with
    | zero =>
      intro gd tu c1 s1 n1 w1 w2 L1 o1 M1 hm1 fr1 mr1_64 ms1_63_1 ms1_58_8 ms1_58_2 ms1_58_3 iv1_0 iv1_1 iv1_2 iv1_3 iv1_4 iv1_5 iv1_6 iv1_7
      exfalso
      omega
    | succ kq2 ih3 =>
      intro gd tu c1 s1 n1 w1 w2 L1 o1 M1 hm1 fr1 mr1_64 ms1_63_1 ms1_58_8 ms1_58_2 ms1_58_3 iv1_0 iv1_1 iv1_2 iv1_3 iv1_4 iv1_5 iv1_6 iv1_7
      refine ax_iload_n dX3_readProduct_8 rfl rfl (pc' := 9) rfl ?_
      refine ax_sipush dX3_readProduct_9 (by decide) (pc' := 12) rfl ?_
      refine ax_icmp_ge (tgt := 131) dX3_readProduct_12 (by decide) (pc' := 15) rfl (fun h12 => ?_) (fun h12 => ?_)
      · have qg : gd = 0 := by
          rcases iv1_1 with h | h
          · exact h
          · exfalso
            have a := iv1_5 h
            have b := f_cc_rg (iv1_3 h)
            omega
        have qz := iv1_2 qg
        refine ax_iload_n dX3_readProduct_131 rfl rfl (pc' := 132) rfl ?_
        refine ax_zret dX3_readProduct_132 rfl (by omega) ?_
        refine ⟨rfl, ?_, ?_, ?_⟩
        · refine congrArg (fun z => some (Sum.inl z)) ?_
          rw [qz, qg]
          rfl
        · intro x0 i0 hai
          exact ((fr1 x0 i0 (fun h => h.elim (fun h => hai (Or.inl h)) (fun h => h.elim (fun h => hai (Or.inr (Or.inl h))) (fun h => h.elim (fun h => hai (Or.inr (Or.inr (Or.inl h)))) (fun h => h.elim (fun h => hai (Or.inr (Or.inr (Or.inr (Or.inl h))))) (fun h => hai (Or.inr (Or.inr (Or.inr (Or.inr h)))))))))).trans ((frM_2 x0 i0 (fun h => h.elim (fun h => hai (Or.inl h)) (fun h => h.elim (fun h => hai (Or.inr (Or.inl h))) (fun h => h.elim (fun h => hai (Or.inr (Or.inr (Or.inl h)))) (fun h => h.elim (fun h => hai (Or.inr (Or.inr (Or.inr (Or.inl h))))) (fun h => hai (Or.inr (Or.inr (Or.inr (Or.inr h)))))))))).trans rfl))
        · first
            | exact f_cok_no qz ms1_58_2 ms1_58_3
            | exact f_cok_ok qz (Eq.trans mr1_64 q4.1) (Eq.trans ms1_63_1 q4.2) ms1_58_8 q3 (Eq.trans ms1_58_2 q7.1) (Eq.trans ms1_58_3 q7.2)
      · refine ax_iload_n dX3_readProduct_15 rfl rfl (pc' := 16) rfl ?_
        refine ax_if_eq (tgt := 131) dX3_readProduct_16 (by decide) (pc' := 19) rfl (fun h16 => ?_) (fun h16 => ?_)
        · have qz := iv1_2 h16
          have qg := h16
          refine ax_iload_n dX3_readProduct_131 rfl rfl (pc' := 132) rfl ?_
          refine ax_zret dX3_readProduct_132 rfl (by omega) ?_
          refine ⟨rfl, ?_, ?_, ?_⟩
          · refine congrArg (fun z => some (Sum.inl z)) ?_
            rw [qz, qg]
            rfl
          · intro x0 i0 hai
            exact ((fr1 x0 i0 (fun h => h.elim (fun h => hai (Or.inl h)) (fun h => h.elim (fun h => hai (Or.inr (Or.inl h))) (fun h => h.elim (fun h => hai (Or.inr (Or.inr (Or.inl h)))) (fun h => h.elim (fun h => hai (Or.inr (Or.inr (Or.inr (Or.inl h))))) (fun h => hai (Or.inr (Or.inr (Or.inr (Or.inr h)))))))))).trans ((frM_2 x0 i0 (fun h => h.elim (fun h => hai (Or.inl h)) (fun h => h.elim (fun h => hai (Or.inr (Or.inl h))) (fun h => h.elim (fun h => hai (Or.inr (Or.inr (Or.inl h)))) (fun h => h.elim (fun h => hai (Or.inr (Or.inr (Or.inr (Or.inl h))))) (fun h => hai (Or.inr (Or.inr (Or.inr (Or.inr h)))))))))).trans rfl))
          · first
              | exact f_cok_no qz ms1_58_2 ms1_58_3
              | exact f_cok_ok qz (Eq.trans mr1_64 q4.1) (Eq.trans ms1_63_1 q4.2) ms1_58_8 q3 (Eq.trans ms1_58_2 q7.1) (Eq.trans ms1_58_3 q7.2)
        · have qg : gd = 1 := by omega
          have q3 := iv1_3 qg
          have q4 := iv1_4 qg
          have q5 := iv1_5 qg
          have q6 := iv1_6 qg
          have q7 := iv1_7 qg
          have pK := f_kv_lw hg0 (f_cc_hd q3).1.1
          have ps := (f_cc_hd q3).1.2
          have pR := f_cc_rg q3
          refine ax_aload_n dX3_readProduct_19 rfl rfl (pc' := 20) rfl ?_
          refine ax_bipush dX3_readProduct_20 (by decide) (pc' := 22) rfl ?_
          refine ax_invG [.inl 42] [] dX3_readProduct_22 mlX3_62 sh_58 rfl rfl rfl (Nat.le_of_ble_eq_true rfl) (s_X8_isSign E l _ (by omega) _ 42 ((funext fun i0 => fr1 60 i0 (fun h => h.elim (fun h => absurd h (by decide)) (fun h => h.elim (fun h => absurd h.1 (by decide)) (fun h => h.elim (fun h => absurd h.1 (by decide)) (fun h => h.elim (fun h => absurd h.1 (by decide)) (fun h => absurd h.1 (by decide))))))).trans ((funext fun i0 => frM_2 60 i0 (fun h => h.elim (fun h => absurd h (by decide)) (fun h => h.elim (fun h => absurd h.1 (by decide)) (fun h => h.elim (fun h => absurd h.1 (by decide)) (fun h => h.elim (fun h => absurd h.1 (by decide)) (fun h => absurd h.1 (by decide))))))).trans hkk)) ((funext fun i0 => fr1 61 i0 (fun h => h.elim (fun h => absurd h (by decide)) (fun h => h.elim (fun h => absurd h.1 (by decide)) (fun h => h.elim (fun h => absurd h.1 (by decide)) (fun h => h.elim (fun h => absurd h.1 (by decide)) (fun h => absurd h.1 (by decide))))))).trans ((funext fun i0 => frM_2 61 i0 (fun h => h.elim (fun h => absurd h (by decide)) (fun h => h.elim (fun h => absurd h.1 (by decide)) (fun h => h.elim (fun h => absurd h.1 (by decide)) (fun h => h.elim (fun h => absurd h.1 (by decide)) (fun h => absurd h.1 (by decide))))))).trans hvv)) ms1_58_8 (by first | omega | assumption)) (pc' := 25) rfl (fun vv M_22 hq co22 hcm22 => ?_)
          obtain ⟨rfl, rfl⟩ := hq
          refine ax_reS (st2 := [.inl (f_b (kk n1 = 1 ∧ vv n1 = 42))]) rfl ?_
          refine ax_if_ne (tgt := 37) dX3_readProduct_25 (by decide) (pc' := 28) rfl (fun h25 => ?_) (fun h25 => ?_)
          · replace h25 := f_b_1 h25
            have e42 := (kl_s pK 42 (by decide)).mp h25
            have qT : f_T L1 = 142 := e42
            have qq : f_qMul L1 = some (f_aft [(25, 0)] (f_unit L1.tail)) := by
              unfold f_qMul
              rw [if_pos qT]
            obtain ⟨xc, xl, xn⟩ := f_cc_nx q3 (by omega)
            have xK := f_kv_lw hg0 (f_cc_hd xc).1.1
            have xs := (f_cc_hd xc).1.2
            have xR := f_cc_rg xc
            refine ax_aload_n dX3_readProduct_37 rfl rfl (pc' := 38) rfl ?_
            refine ax_bipush dX3_readProduct_38 (by decide) (pc' := 40) rfl ?_
            refine ax_invG [.inl 47] [] dX3_readProduct_40 mlX3_62 sh_58 rfl rfl rfl (Nat.le_of_ble_eq_true rfl) (s_X8_isSign E l _ (by omega) _ 47 ((funext fun i0 => fr1 60 i0 (fun h => h.elim (fun h => absurd h (by decide)) (fun h => h.elim (fun h => absurd h.1 (by decide)) (fun h => h.elim (fun h => absurd h.1 (by decide)) (fun h => h.elim (fun h => absurd h.1 (by decide)) (fun h => absurd h.1 (by decide))))))).trans ((funext fun i0 => frM_2 60 i0 (fun h => h.elim (fun h => absurd h (by decide)) (fun h => h.elim (fun h => absurd h.1 (by decide)) (fun h => h.elim (fun h => absurd h.1 (by decide)) (fun h => h.elim (fun h => absurd h.1 (by decide)) (fun h => absurd h.1 (by decide))))))).trans hkk)) ((funext fun i0 => fr1 61 i0 (fun h => h.elim (fun h => absurd h (by decide)) (fun h => h.elim (fun h => absurd h.1 (by decide)) (fun h => h.elim (fun h => absurd h.1 (by decide)) (fun h => h.elim (fun h => absurd h.1 (by decide)) (fun h => absurd h.1 (by decide))))))).trans ((funext fun i0 => frM_2 61 i0 (fun h => h.elim (fun h => absurd h (by decide)) (fun h => h.elim (fun h => absurd h.1 (by decide)) (fun h => h.elim (fun h => absurd h.1 (by decide)) (fun h => h.elim (fun h => absurd h.1 (by decide)) (fun h => absurd h.1 (by decide))))))).trans hvv)) ms1_58_8 (by first | omega | assumption)) (pc' := 43) rfl (fun vv M_40 hq co40 hcm40 => ?_)
            obtain ⟨rfl, rfl⟩ := hq
            refine ax_reS (st2 := [.inl (f_b (kk n1 = 1 ∧ vv n1 = 47))]) rfl ?_
            refine ax_istore dX3_readProduct_43 (by decide) (ls' := [some (.inr 63), some (.inr 58), some (.inl gd), some (.inl tu), some (.inl (f_b (kk n1 = 1 ∧ vv n1 = 47)))]) rfl (pc' := 45) rfl ?_
            refine ax_aload_n dX3_readProduct_45 rfl rfl (pc' := 46) rfl ?_
            refine ax_invG [] [] dX3_readProduct_46 mlX3_45 sh_58 rfl rfl rfl (Nat.le_of_ble_eq_true rfl) (s_X8_step E l _ (by omega) _ ((funext fun i0 => fr1 60 i0 (fun h => h.elim (fun h => absurd h (by decide)) (fun h => h.elim (fun h => absurd h.1 (by decide)) (fun h => h.elim (fun h => absurd h.1 (by decide)) (fun h => h.elim (fun h => absurd h.1 (by decide)) (fun h => absurd h.1 (by decide))))))).trans ((funext fun i0 => frM_2 60 i0 (fun h => h.elim (fun h => absurd h (by decide)) (fun h => h.elim (fun h => absurd h.1 (by decide)) (fun h => h.elim (fun h => absurd h.1 (by decide)) (fun h => h.elim (fun h => absurd h.1 (by decide)) (fun h => absurd h.1 (by decide))))))).trans hkk)) ms1_58_8 (by first | omega | assumption) (by first | omega | assumption)) (pc' := 49) rfl (fun vv M_46 hq co46 hcm46 => ?_)
            obtain ⟨rfl, frM_46, msM_46_0⟩ := hq
            refine ax_reS (st2 := []) rfl ?_
            refine ax_iload dX3_readProduct_49 rfl (pc' := 51) rfl ?_
            refine ax_if_eq (tgt := 74) dX3_readProduct_51 (by decide) (pc' := 54) rfl (fun h51 => ?_) (fun h51 => ?_)
            · replace h51 := f_b_0 h51
              refine ax_iload dX3_readProduct_74 rfl (pc' := 76) rfl ?_
              refine ax_if_eq (tgt := 92) dX3_readProduct_76 (by decide) (pc' := 79) rfl (fun h76 => ?_) (fun h76 => ?_)
              · replace h76 := f_b_0 h76
                refine ax_aload_n dX3_readProduct_92 rfl rfl (pc' := 93) rfl ?_
                refine ax_aload_n dX3_readProduct_93 rfl rfl (pc' := 94) rfl ?_
                refine ax_invG [.inr 58] [] dX3_readProduct_94 mlX3_68 sh_63 rfl rfl rfl (Nat.le_of_ble_eq_true rfl) (s_X3_readUnit E l _ (by omega) _ rd L1.tail ((funext fun i0 => frM_46 60 i0 (fun h => absurd h.1 (by decide))).trans ((funext fun i0 => fr1 60 i0 (fun h => h.elim (fun h => absurd h (by decide)) (fun h => h.elim (fun h => absurd h.1 (by decide)) (fun h => h.elim (fun h => absurd h.1 (by decide)) (fun h => h.elim (fun h => absurd h.1 (by decide)) (fun h => absurd h.1 (by decide))))))).trans ((funext fun i0 => frM_2 60 i0 (fun h => h.elim (fun h => absurd h (by decide)) (fun h => h.elim (fun h => absurd h.1 (by decide)) (fun h => h.elim (fun h => absurd h.1 (by decide)) (fun h => h.elim (fun h => absurd h.1 (by decide)) (fun h => absurd h.1 (by decide))))))).trans hkk))) ((funext fun i0 => frM_46 61 i0 (fun h => absurd h.1 (by decide))).trans ((funext fun i0 => fr1 61 i0 (fun h => h.elim (fun h => absurd h (by decide)) (fun h => h.elim (fun h => absurd h.1 (by decide)) (fun h => h.elim (fun h => absurd h.1 (by decide)) (fun h => h.elim (fun h => absurd h.1 (by decide)) (fun h => absurd h.1 (by decide))))))).trans ((funext fun i0 => frM_2 61 i0 (fun h => h.elim (fun h => absurd h (by decide)) (fun h => h.elim (fun h => absurd h.1 (by decide)) (fun h => h.elim (fun h => absurd h.1 (by decide)) (fun h => h.elim (fun h => absurd h.1 (by decide)) (fun h => absurd h.1 (by decide))))))).trans hvv))) ((funext fun i0 => frM_46 62 i0 (fun h => absurd h.1 (by decide))).trans ((funext fun i0 => fr1 62 i0 (fun h => h.elim (fun h => absurd h (by decide)) (fun h => h.elim (fun h => absurd h.1 (by decide)) (fun h => h.elim (fun h => absurd h.1 (by decide)) (fun h => h.elim (fun h => absurd h.1 (by decide)) (fun h => absurd h.1 (by decide))))))).trans ((funext fun i0 => frM_2 62 i0 (fun h => h.elim (fun h => absurd h (by decide)) (fun h => h.elim (fun h => absurd h.1 (by decide)) (fun h => h.elim (fun h => absurd h.1 (by decide)) (fun h => h.elim (fun h => absurd h.1 (by decide)) (fun h => absurd h.1 (by decide))))))).trans hss))) ((funext fun i0 => frM_46 64 i0 (fun h => absurd h.1 (by decide))).trans mr1_64) msM_46_0 ((frM_46 63 1 (fun h => absurd h.1 (by decide))).trans ms1_63_1) ((frM_46 58 2 (fun h => absurd h.2 (by decide))).trans ms1_58_2) ((frM_46 58 3 (fun h => absurd h.2 (by decide))).trans ms1_58_3) (by first | omega | assumption) xc (by first | omega | assumption)) (pc' := 97) rfl (fun vv M_94 hq co94 hcm94 => ?_)
                obtain ⟨rfl, frM_94, fa94_0⟩ := hq
                refine ax_reS (st2 := [.inl (f_rb (f_unit L1.tail))]) rfl ?_
                have cc94 : -2147483648 ≤ f_rb (f_unit L1.tail) ∧ f_rb (f_unit L1.tail) < 2147483648 := co94 _ rfl
                refine ax_if_eq (tgt := 123) dX3_readProduct_97 (by decide) (pc' := 100) rfl (fun h97 => ?_) (fun h97 => ?_)
                · have qb2 := f_lp_no f_qMul_gd qq (f_aft_no (f_cok_0 fa94_0 h97)) q6
                  obtain ⟨L3, qL3⟩ : ∃ z, z = L1 := ⟨_, rfl⟩
                  obtain ⟨o3, qo3⟩ : ∃ z, z = o1 := ⟨_, rfl⟩
                  refine ax_iconst dX3_readProduct_123 (by decide) (pc' := 124) rfl ?_
                  refine ax_istore_n dX3_readProduct_124 rfl (by decide) (ls' := [some (.inr 63), some (.inr 58), some (.inl 0), some (.inl tu), some (.inl (f_b (kk n1 = 1 ∧ vv n1 = 47)))]) rfl (pc' := 125) rfl ?_
                  refine ax_iinc dX3_readProduct_125 rfl (by decide) (by omega) (ls' := [some (.inr 63), some (.inr 58), some (.inl 0), some (.inl (tu + 1)), some (.inl (f_b (kk n1 = 1 ∧ vv n1 = 47)))]) rfl (pc' := 128) rfl ?_
                  refine ax_goto dX3_readProduct_128 (pc' := 8) (by decide) ?_
                  refine ax_less (ls2 := [some (.inr 63), some (.inr 58), some (.inl 0), some (.inl (tu + 1)), none]) [true, true, true, true, false] rfl ?_
                  refine ih3 0 (tu + 1) (M_94 64) (M_94 63 1) (M_94 58 8) (M_94 58 2) (M_94 58 3) L3 o3 M_94 ?_ ?_ ?_ ?_ ?_ ?_ ?_ ?_ ?_ ?_ ?_ ?_ ?_ ?_ ?_
                  · omega
                  · intro x0 i0 hai
                    exact ((frM_94 x0 i0 (fun h => h.elim (fun h => hai (Or.inl h)) (fun h => h.elim (fun h => hai (Or.inr (Or.inl h))) (fun h => h.elim (fun h => hai (Or.inr (Or.inr (Or.inl h)))) (fun h => h.elim (fun h => hai (Or.inr (Or.inr (Or.inr (Or.inl h))))) (fun h => hai (Or.inr (Or.inr (Or.inr (Or.inr h)))))))))).trans ((frM_46 x0 i0 (fun h => hai (Or.inr (Or.inr (Or.inl h))))).trans ((fr1 x0 i0 (fun h => h.elim (fun h => hai (Or.inl h)) (fun h => h.elim (fun h => hai (Or.inr (Or.inl h))) (fun h => h.elim (fun h => hai (Or.inr (Or.inr (Or.inl h)))) (fun h => h.elim (fun h => hai (Or.inr (Or.inr (Or.inr (Or.inl h))))) (fun h => hai (Or.inr (Or.inr (Or.inr (Or.inr h)))))))))).trans rfl)))
                  · exact rfl
                  · exact rfl
                  · exact rfl
                  · exact rfl
                  · exact rfl
                  · omega
                  · first | exact Or.inl rfl | exact Or.inr rfl
                  · first | exact fun h => absurd h (by decide) | exact fun _ => qb2
                  · first | exact fun h => absurd h (by decide) | exact fun _ => qb3
                  · first | exact fun h => absurd h (by decide) | exact fun _ => qb4
                  · first | exact fun h => absurd h (by decide) | exact fun _ => qb5
                  · first | exact fun h => absurd h (by decide) | exact fun _ => qb6
                  · first | exact fun h => absurd h (by decide) | exact fun _ => qb7
                · have qr1 := (f_rb_01 _).resolve_left h97
                  obtain ⟨qm, qs, qc, qy2, qy3⟩ := f_cok_1 fa94_0 qr1
                  have qb7 := And.intro (qy2.trans q7.1) (qy3.trans q7.2)
                  have qgd := f_unit_gd L1.tail _ _ (f_rb_1 qr1)
                  have qcR := f_cc_rg qc
                  obtain ⟨L3, qL3⟩ : ∃ z, z = f_rL (f_unit L1.tail) := ⟨_, rfl⟩
                  obtain ⟨o3, qo3⟩ : ∃ z, z = o1 ++ (f_rO (f_unit L1.tail) ++ [((25 : Int), (0 : Int))]) := ⟨_, rfl⟩
                  have qlp := f_lp_go f_qMul_gd qq (f_aft_ok (f_rb_1 qr1)) q5 q6
                  have qb4 := f_lp_cd (K := 25) (x := -13) q4 qm qs rfl (by decide)
                  rw [← qL3, ← qo3] at qlp
                  rw [← qo3] at qb4
                  have qb3 := qc
                  rw [← qL3] at qb3
                  have qb5 := qlp.1
                  have qb6 := qlp.2
                  refine ax_aload_n dX3_readProduct_100 rfl rfl (pc' := 101) rfl ?_
                  refine ax_iload dX3_readProduct_101 rfl (pc' := 103) rfl ?_
                  refine ax_if_eq (tgt := 111) dX3_readProduct_103 (by decide) (pc' := 106) rfl (fun h103 => ?_) (fun h103 => ?_)
                  · replace h103 := f_b_0 h103
                    refine ax_bipush dX3_readProduct_111 (by decide) (pc' := 113) rfl ?_
                    refine ax_invG [.inl (-13)] [] dX3_readProduct_113 mlX3_55 sh_63 rfl rfl rfl (Nat.le_of_ble_eq_true rfl) (s_X3_put E l _ (by omega) _ (-13) rfl rfl (by first | omega | assumption)) (pc' := 116) rfl (fun vv M_113 hq co113 hcm113 => ?_)
                    obtain ⟨rfl, frM_113, mrM_113_0, msM_113_0⟩ := hq
                    refine ax_reS (st2 := [.inl 1]) rfl ?_
                    refine ax_if_eq (tgt := 123) dX3_readProduct_116 (by decide) (pc' := 119) rfl (fun h116 => ?_) (fun h116 => ?_)
                    · exfalso
                      omega
                    · refine ax_iconst dX3_readProduct_119 (by decide) (pc' := 120) rfl ?_
                      refine ax_goto dX3_readProduct_120 (pc' := 124) (by decide) ?_
                      refine ax_istore_n dX3_readProduct_124 rfl (by decide) (ls' := [some (.inr 63), some (.inr 58), some (.inl 1), some (.inl tu), some (.inl (f_b (kk n1 = 1 ∧ vv n1 = 47)))]) rfl (pc' := 125) rfl ?_
                      refine ax_iinc dX3_readProduct_125 rfl (by decide) (by omega) (ls' := [some (.inr 63), some (.inr 58), some (.inl 1), some (.inl (tu + 1)), some (.inl (f_b (kk n1 = 1 ∧ vv n1 = 47)))]) rfl (pc' := 128) rfl ?_
                      refine ax_goto dX3_readProduct_128 (pc' := 8) (by decide) ?_
                      refine ax_less (ls2 := [some (.inr 63), some (.inr 58), some (.inl 1), some (.inl (tu + 1)), none]) [true, true, true, true, false] rfl ?_
                      refine ih3 1 (tu + 1) (f_up (M_94 64) (M_94 63 1) (-13)) ((M_94 63 1) + 1) (M_94 58 8) (M_94 58 2) (M_94 58 3) L3 o3 M_113 ?_ ?_ ?_ ?_ ?_ ?_ ?_ ?_ ?_ ?_ ?_ ?_ ?_ ?_ ?_
                      · omega
                      · intro x0 i0 hai
                        exact ((frM_113 x0 i0 (fun h => h.elim (fun h => hai (Or.inl h)) (fun h => hai (Or.inr (Or.inl h))))).trans ((frM_94 x0 i0 (fun h => h.elim (fun h => hai (Or.inl h)) (fun h => h.elim (fun h => hai (Or.inr (Or.inl h))) (fun h => h.elim (fun h => hai (Or.inr (Or.inr (Or.inl h)))) (fun h => h.elim (fun h => hai (Or.inr (Or.inr (Or.inr (Or.inl h))))) (fun h => hai (Or.inr (Or.inr (Or.inr (Or.inr h)))))))))).trans ((frM_46 x0 i0 (fun h => hai (Or.inr (Or.inr (Or.inl h))))).trans ((fr1 x0 i0 (fun h => h.elim (fun h => hai (Or.inl h)) (fun h => h.elim (fun h => hai (Or.inr (Or.inl h))) (fun h => h.elim (fun h => hai (Or.inr (Or.inr (Or.inl h)))) (fun h => h.elim (fun h => hai (Or.inr (Or.inr (Or.inr (Or.inl h))))) (fun h => hai (Or.inr (Or.inr (Or.inr (Or.inr h)))))))))).trans rfl))))
                      · exact mrM_113_0
                      · exact msM_113_0
                      · exact ((frM_113 58 8 (fun h => h.elim (fun h => absurd h (by decide)) (fun h => absurd h.1 (by decide)))).trans rfl)
                      · exact ((frM_113 58 2 (fun h => h.elim (fun h => absurd h (by decide)) (fun h => absurd h.1 (by decide)))).trans rfl)
                      · exact ((frM_113 58 3 (fun h => h.elim (fun h => absurd h (by decide)) (fun h => absurd h.1 (by decide)))).trans rfl)
                      · omega
                      · first | exact Or.inl rfl | exact Or.inr rfl
                      · first | exact fun h => absurd h (by decide) | exact fun _ => qb2
                      · first | exact fun h => absurd h (by decide) | exact fun _ => qb3
                      · first | exact fun h => absurd h (by decide) | exact fun _ => qb4
                      · first | exact fun h => absurd h (by decide) | exact fun _ => qb5
                      · first | exact fun h => absurd h (by decide) | exact fun _ => qb6
                      · first | exact fun h => absurd h (by decide) | exact fun _ => qb7
                  · replace h103 := f_b_1 h103
                    exfalso
                    first | omega | exact h103 h34
              · replace h76 := f_b_1 h76
                exfalso
                first | omega | exact h76 h34
            · replace h51 := f_b_1 h51
              exfalso
              first | omega | exact h51 h34
          · replace h25 := f_b_0 h25
            refine ax_aload_n dX3_readProduct_28 rfl rfl (pc' := 29) rfl ?_
            refine ax_bipush dX3_readProduct_29 (by decide) (pc' := 31) rfl ?_
            refine ax_invG [.inl 47] [] dX3_readProduct_31 mlX3_62 sh_58 rfl rfl rfl (Nat.le_of_ble_eq_true rfl) (s_X8_isSign E l _ (by omega) _ 47 ((funext fun i0 => fr1 60 i0 (fun h => h.elim (fun h => absurd h (by decide)) (fun h => h.elim (fun h => absurd h.1 (by decide)) (fun h => h.elim (fun h => absurd h.1 (by decide)) (fun h => h.elim (fun h => absurd h.1 (by decide)) (fun h => absurd h.1 (by decide))))))).trans ((funext fun i0 => frM_2 60 i0 (fun h => h.elim (fun h => absurd h (by decide)) (fun h => h.elim (fun h => absurd h.1 (by decide)) (fun h => h.elim (fun h => absurd h.1 (by decide)) (fun h => h.elim (fun h => absurd h.1 (by decide)) (fun h => absurd h.1 (by decide))))))).trans hkk)) ((funext fun i0 => fr1 61 i0 (fun h => h.elim (fun h => absurd h (by decide)) (fun h => h.elim (fun h => absurd h.1 (by decide)) (fun h => h.elim (fun h => absurd h.1 (by decide)) (fun h => h.elim (fun h => absurd h.1 (by decide)) (fun h => absurd h.1 (by decide))))))).trans ((funext fun i0 => frM_2 61 i0 (fun h => h.elim (fun h => absurd h (by decide)) (fun h => h.elim (fun h => absurd h.1 (by decide)) (fun h => h.elim (fun h => absurd h.1 (by decide)) (fun h => h.elim (fun h => absurd h.1 (by decide)) (fun h => absurd h.1 (by decide))))))).trans hvv)) ms1_58_8 (by first | omega | assumption)) (pc' := 34) rfl (fun vv M_31 hq co31 hcm31 => ?_)
            obtain ⟨rfl, rfl⟩ := hq
            refine ax_reS (st2 := [.inl (f_b (kk n1 = 1 ∧ vv n1 = 47))]) rfl ?_
            refine ax_if_eq (tgt := 131) dX3_readProduct_34 (by decide) (pc' := 37) rfl (fun h34 => ?_) (fun h34 => ?_)
            · replace h34 := f_b_0 h34
              have qz : f_prod L = .inr (L1, o1) := by
                refine f_lp_end ?_ q6
                unfold f_qMul
                rw [if_neg (show ¬ f_T L1 = 142 from fun h => h25 ((kl_s pK 42 (by decide)).mpr h)), if_neg (show ¬ f_T L1 = 147 from fun h => h34 ((kl_s pK 47 (by decide)).mpr h))]
              refine ax_iload_n dX3_readProduct_131 rfl rfl (pc' := 132) rfl ?_
              refine ax_zret dX3_readProduct_132 rfl (by omega) ?_
              refine ⟨rfl, ?_, ?_, ?_⟩
              · refine congrArg (fun z => some (Sum.inl z)) ?_
                rw [qz, qg]
                rfl
              · intro x0 i0 hai
                exact ((fr1 x0 i0 (fun h => h.elim (fun h => hai (Or.inl h)) (fun h => h.elim (fun h => hai (Or.inr (Or.inl h))) (fun h => h.elim (fun h => hai (Or.inr (Or.inr (Or.inl h)))) (fun h => h.elim (fun h => hai (Or.inr (Or.inr (Or.inr (Or.inl h))))) (fun h => hai (Or.inr (Or.inr (Or.inr (Or.inr h)))))))))).trans ((frM_2 x0 i0 (fun h => h.elim (fun h => hai (Or.inl h)) (fun h => h.elim (fun h => hai (Or.inr (Or.inl h))) (fun h => h.elim (fun h => hai (Or.inr (Or.inr (Or.inl h)))) (fun h => h.elim (fun h => hai (Or.inr (Or.inr (Or.inr (Or.inl h))))) (fun h => hai (Or.inr (Or.inr (Or.inr (Or.inr h)))))))))).trans rfl))
              · first
                  | exact f_cok_no qz ms1_58_2 ms1_58_3
                  | exact f_cok_ok qz (Eq.trans mr1_64 q4.1) (Eq.trans ms1_63_1 q4.2) ms1_58_8 q3 (Eq.trans ms1_58_2 q7.1) (Eq.trans ms1_58_3 q7.2)
            · replace h34 := f_b_1 h34
              have e47 := (kl_s pK 47 (by decide)).mp h34
              have qT : f_T L1 = 147 := e47
              have qq0 : f_qMul L1 = some (if f_T L1.tail ≠ 2 then .inl (1, f_S L1.tail) else if f_V L1.tail = 0 then .inl (2, f_S L1.tail) else .inr (L1.tail.tail, [(26, f_V L1.tail)])) := by
                unfold f_qMul
                rw [if_neg (by omega), if_pos qT]
              obtain ⟨xc, xl, xn⟩ := f_cc_nx q3 (by omega)
              have xK := f_kv_lw hg0 (f_cc_hd xc).1.1
              have xs := (f_cc_hd xc).1.2
              have xR := f_cc_rg xc
              refine ax_aload_n dX3_readProduct_37 rfl rfl (pc' := 38) rfl ?_
              refine ax_bipush dX3_readProduct_38 (by decide) (pc' := 40) rfl ?_
              refine ax_invG [.inl 47] [] dX3_readProduct_40 mlX3_62 sh_58 rfl rfl rfl (Nat.le_of_ble_eq_true rfl) (s_X8_isSign E l _ (by omega) _ 47 ((funext fun i0 => fr1 60 i0 (fun h => h.elim (fun h => absurd h (by decide)) (fun h => h.elim (fun h => absurd h.1 (by decide)) (fun h => h.elim (fun h => absurd h.1 (by decide)) (fun h => h.elim (fun h => absurd h.1 (by decide)) (fun h => absurd h.1 (by decide))))))).trans ((funext fun i0 => frM_2 60 i0 (fun h => h.elim (fun h => absurd h (by decide)) (fun h => h.elim (fun h => absurd h.1 (by decide)) (fun h => h.elim (fun h => absurd h.1 (by decide)) (fun h => h.elim (fun h => absurd h.1 (by decide)) (fun h => absurd h.1 (by decide))))))).trans hkk)) ((funext fun i0 => fr1 61 i0 (fun h => h.elim (fun h => absurd h (by decide)) (fun h => h.elim (fun h => absurd h.1 (by decide)) (fun h => h.elim (fun h => absurd h.1 (by decide)) (fun h => h.elim (fun h => absurd h.1 (by decide)) (fun h => absurd h.1 (by decide))))))).trans ((funext fun i0 => frM_2 61 i0 (fun h => h.elim (fun h => absurd h (by decide)) (fun h => h.elim (fun h => absurd h.1 (by decide)) (fun h => h.elim (fun h => absurd h.1 (by decide)) (fun h => h.elim (fun h => absurd h.1 (by decide)) (fun h => absurd h.1 (by decide))))))).trans hvv)) ms1_58_8 (by first | omega | assumption)) (pc' := 43) rfl (fun vv M_40 hq co40 hcm40 => ?_)
              obtain ⟨rfl, rfl⟩ := hq
              refine ax_reS (st2 := [.inl (f_b (kk n1 = 1 ∧ vv n1 = 47))]) rfl ?_
              refine ax_istore dX3_readProduct_43 (by decide) (ls' := [some (.inr 63), some (.inr 58), some (.inl gd), some (.inl tu), some (.inl (f_b (kk n1 = 1 ∧ vv n1 = 47)))]) rfl (pc' := 45) rfl ?_
              refine ax_aload_n dX3_readProduct_45 rfl rfl (pc' := 46) rfl ?_
              refine ax_invG [] [] dX3_readProduct_46 mlX3_45 sh_58 rfl rfl rfl (Nat.le_of_ble_eq_true rfl) (s_X8_step E l _ (by omega) _ ((funext fun i0 => fr1 60 i0 (fun h => h.elim (fun h => absurd h (by decide)) (fun h => h.elim (fun h => absurd h.1 (by decide)) (fun h => h.elim (fun h => absurd h.1 (by decide)) (fun h => h.elim (fun h => absurd h.1 (by decide)) (fun h => absurd h.1 (by decide))))))).trans ((funext fun i0 => frM_2 60 i0 (fun h => h.elim (fun h => absurd h (by decide)) (fun h => h.elim (fun h => absurd h.1 (by decide)) (fun h => h.elim (fun h => absurd h.1 (by decide)) (fun h => h.elim (fun h => absurd h.1 (by decide)) (fun h => absurd h.1 (by decide))))))).trans hkk)) ms1_58_8 (by first | omega | assumption) (by first | omega | assumption)) (pc' := 49) rfl (fun vv M_46 hq co46 hcm46 => ?_)
              obtain ⟨rfl, frM_46, msM_46_0⟩ := hq
              refine ax_reS (st2 := []) rfl ?_
              refine ax_iload dX3_readProduct_49 rfl (pc' := 51) rfl ?_
              refine ax_if_eq (tgt := 74) dX3_readProduct_51 (by decide) (pc' := 54) rfl (fun h51 => ?_) (fun h51 => ?_)
              · replace h51 := f_b_0 h51
                exfalso
                first | omega | exact h51 h34
              · replace h51 := f_b_1 h51
                refine ax_aload_n dX3_readProduct_54 rfl rfl (pc' := 55) rfl ?_
                refine ax_invG [] [] dX3_readProduct_55 mlX3_71 sh_58 rfl rfl rfl (Nat.le_of_ble_eq_true rfl) (s_X8_isNumber E l _ (by omega) _ ((funext fun i0 => frM_46 60 i0 (fun h => absurd h.1 (by decide))).trans ((funext fun i0 => fr1 60 i0 (fun h => h.elim (fun h => absurd h (by decide)) (fun h => h.elim (fun h => absurd h.1 (by decide)) (fun h => h.elim (fun h => absurd h.1 (by decide)) (fun h => h.elim (fun h => absurd h.1 (by decide)) (fun h => absurd h.1 (by decide))))))).trans ((funext fun i0 => frM_2 60 i0 (fun h => h.elim (fun h => absurd h (by decide)) (fun h => h.elim (fun h => absurd h.1 (by decide)) (fun h => h.elim (fun h => absurd h.1 (by decide)) (fun h => h.elim (fun h => absurd h.1 (by decide)) (fun h => absurd h.1 (by decide))))))).trans hkk))) msM_46_0 (by first | omega | assumption)) (pc' := 58) rfl (fun vv M_55 hq co55 hcm55 => ?_)
                obtain ⟨rfl, rfl⟩ := hq
                refine ax_reS (st2 := [.inl (f_b (kk (n1 + 1) = 3))]) rfl ?_
                refine ax_if_eq (tgt := 74) dX3_readProduct_58 (by decide) (pc' := 61) rfl (fun h58 => ?_) (fun h58 => ?_)
                · replace h58 := f_b_0 h58
                  have qz : f_prod L = .inl (1, ss (n1 + 1)) := by
                    refine f_lp_no f_qMul_gd qq0 ?_ q6
                    rw [if_pos (fun h => h58 ((kl_n xK).mpr h)), xs]
                  refine ax_iload dX3_readProduct_74 rfl (pc' := 76) rfl ?_
                  refine ax_if_eq (tgt := 92) dX3_readProduct_76 (by decide) (pc' := 79) rfl (fun h76 => ?_) (fun h76 => ?_)
                  · replace h76 := f_b_0 h76
                    exfalso
                    first | omega | exact h76 h34
                  · replace h76 := f_b_1 h76
                    refine ax_aload_n dX3_readProduct_79 rfl rfl (pc' := 80) rfl ?_
                    refine ax_invG [] [] dX3_readProduct_80 mlX3_71 sh_58 rfl rfl rfl (Nat.le_of_ble_eq_true rfl) (s_X8_isNumber E l _ (by omega) _ ((funext fun i0 => frM_46 60 i0 (fun h => absurd h.1 (by decide))).trans ((funext fun i0 => fr1 60 i0 (fun h => h.elim (fun h => absurd h (by decide)) (fun h => h.elim (fun h => absurd h.1 (by decide)) (fun h => h.elim (fun h => absurd h.1 (by decide)) (fun h => h.elim (fun h => absurd h.1 (by decide)) (fun h => absurd h.1 (by decide))))))).trans ((funext fun i0 => frM_2 60 i0 (fun h => h.elim (fun h => absurd h (by decide)) (fun h => h.elim (fun h => absurd h.1 (by decide)) (fun h => h.elim (fun h => absurd h.1 (by decide)) (fun h => h.elim (fun h => absurd h.1 (by decide)) (fun h => absurd h.1 (by decide))))))).trans hkk))) msM_46_0 (by first | omega | assumption)) (pc' := 83) rfl (fun vv M_80 hq co80 hcm80 => ?_)
                    obtain ⟨rfl, rfl⟩ := hq
                    refine ax_reS (st2 := [.inl (f_b (kk (n1 + 1) = 3))]) rfl ?_
                    refine ax_if_ne (tgt := 92) dX3_readProduct_83 (by decide) (pc' := 86) rfl (fun h83 => ?_) (fun h83 => ?_)
                    · replace h83 := f_b_1 h83
                      exfalso
                      first | exact h58 h83 | exact h83 h58
                    · replace h83 := f_b_0 h83
                      refine ax_aload_n dX3_readProduct_86 rfl rfl (pc' := 87) rfl ?_
                      refine ax_iconst dX3_readProduct_87 (by decide) (pc' := 88) rfl ?_
                      refine ax_invG [.inl 1] [] dX3_readProduct_88 mlX3_42 sh_58 rfl rfl rfl (Nat.le_of_ble_eq_true rfl) (s_X8_fail E l _ (by omega) _ 1 ((funext fun i0 => frM_46 62 i0 (fun h => absurd h.1 (by decide))).trans ((funext fun i0 => fr1 62 i0 (fun h => h.elim (fun h => absurd h (by decide)) (fun h => h.elim (fun h => absurd h.1 (by decide)) (fun h => h.elim (fun h => absurd h.1 (by decide)) (fun h => h.elim (fun h => absurd h.1 (by decide)) (fun h => absurd h.1 (by decide))))))).trans ((funext fun i0 => frM_2 62 i0 (fun h => h.elim (fun h => absurd h (by decide)) (fun h => h.elim (fun h => absurd h.1 (by decide)) (fun h => h.elim (fun h => absurd h.1 (by decide)) (fun h => h.elim (fun h => absurd h.1 (by decide)) (fun h => absurd h.1 (by decide))))))).trans hss))) msM_46_0 (by first | omega | assumption)) (pc' := 91) rfl (fun vv M_88 hq co88 hcm88 => ?_)
                      obtain ⟨rfl, frM_88, msM_88_0, msM_88_1⟩ := hq
                      refine ax_reS (st2 := [.inl 0]) rfl ?_
                      refine ax_zret dX3_readProduct_91 rfl (by decide) ?_
                      refine ⟨rfl, ?_, ?_, ?_⟩
                      · refine congrArg (fun z => some (Sum.inl z)) ?_
                        rw [qz]
                        rfl
                      · intro x0 i0 hai
                        exact ((frM_88 x0 i0 (fun h => h.elim (fun h => hai (Or.inr (Or.inr (Or.inr (Or.inl h))))) (fun h => hai (Or.inr (Or.inr (Or.inr (Or.inr h))))))).trans ((frM_46 x0 i0 (fun h => hai (Or.inr (Or.inr (Or.inl h))))).trans ((fr1 x0 i0 (fun h => h.elim (fun h => hai (Or.inl h)) (fun h => h.elim (fun h => hai (Or.inr (Or.inl h))) (fun h => h.elim (fun h => hai (Or.inr (Or.inr (Or.inl h)))) (fun h => h.elim (fun h => hai (Or.inr (Or.inr (Or.inr (Or.inl h))))) (fun h => hai (Or.inr (Or.inr (Or.inr (Or.inr h)))))))))).trans ((frM_2 x0 i0 (fun h => h.elim (fun h => hai (Or.inl h)) (fun h => h.elim (fun h => hai (Or.inr (Or.inl h))) (fun h => h.elim (fun h => hai (Or.inr (Or.inr (Or.inl h)))) (fun h => h.elim (fun h => hai (Or.inr (Or.inr (Or.inr (Or.inl h))))) (fun h => hai (Or.inr (Or.inr (Or.inr (Or.inr h)))))))))).trans rfl))))
                      · exact f_cok_no qz msM_88_0 msM_88_1
                · replace h58 := f_b_1 h58
                  refine ax_aload_n dX3_readProduct_61 rfl rfl (pc' := 62) rfl ?_
                  refine ax_invG [] [] dX3_readProduct_62 mlX3_74 sh_58 rfl rfl rfl (Nat.le_of_ble_eq_true rfl) (s_X8_value E l _ (by omega) _ ((funext fun i0 => frM_46 61 i0 (fun h => absurd h.1 (by decide))).trans ((funext fun i0 => fr1 61 i0 (fun h => h.elim (fun h => absurd h (by decide)) (fun h => h.elim (fun h => absurd h.1 (by decide)) (fun h => h.elim (fun h => absurd h.1 (by decide)) (fun h => h.elim (fun h => absurd h.1 (by decide)) (fun h => absurd h.1 (by decide))))))).trans ((funext fun i0 => frM_2 61 i0 (fun h => h.elim (fun h => absurd h (by decide)) (fun h => h.elim (fun h => absurd h.1 (by decide)) (fun h => h.elim (fun h => absurd h.1 (by decide)) (fun h => h.elim (fun h => absurd h.1 (by decide)) (fun h => absurd h.1 (by decide))))))).trans hvv))) msM_46_0 (by first | omega | assumption)) (pc' := 65) rfl (fun vv M_62 hq co62 hcm62 => ?_)
                  obtain ⟨rfl, rfl⟩ := hq
                  refine ax_reS (st2 := [.inl (vv (n1 + 1))]) rfl ?_
                  have cc62 : -2147483648 ≤ vv (n1 + 1) ∧ vv (n1 + 1) < 2147483648 := co62 _ rfl
                  refine ax_if_ne (tgt := 74) dX3_readProduct_65 (by decide) (pc' := 68) rfl (fun h65 => ?_) (fun h65 => ?_)
                  · have h650 := h65
                    rw [kl_V xK h58] at h650
                    have hT2 := (kl_n xK).mp h58
                    have qV : vv (n1 + 1) = f_V L1.tail := kl_V xK h58
                    have qu : f_unit L1.tail = .inr (L1.tail.tail, [(0, f_V L1.tail)]) := by
                      unfold f_unit
                      rw [if_pos hT2]
                    have qq : f_qMul L1 = some (.inr (L1.tail.tail, [(26, f_V L1.tail)])) := by
                      rw [qq0, if_neg (fun h => h hT2), if_neg (by omega)]
                    refine ax_iload dX3_readProduct_74 rfl (pc' := 76) rfl ?_
                    refine ax_if_eq (tgt := 92) dX3_readProduct_76 (by decide) (pc' := 79) rfl (fun h76 => ?_) (fun h76 => ?_)
                    · replace h76 := f_b_0 h76
                      exfalso
                      first | omega | exact h76 h34
                    · replace h76 := f_b_1 h76
                      refine ax_aload_n dX3_readProduct_79 rfl rfl (pc' := 80) rfl ?_
                      refine ax_invG [] [] dX3_readProduct_80 mlX3_71 sh_58 rfl rfl rfl (Nat.le_of_ble_eq_true rfl) (s_X8_isNumber E l _ (by omega) _ ((funext fun i0 => frM_46 60 i0 (fun h => absurd h.1 (by decide))).trans ((funext fun i0 => fr1 60 i0 (fun h => h.elim (fun h => absurd h (by decide)) (fun h => h.elim (fun h => absurd h.1 (by decide)) (fun h => h.elim (fun h => absurd h.1 (by decide)) (fun h => h.elim (fun h => absurd h.1 (by decide)) (fun h => absurd h.1 (by decide))))))).trans ((funext fun i0 => frM_2 60 i0 (fun h => h.elim (fun h => absurd h (by decide)) (fun h => h.elim (fun h => absurd h.1 (by decide)) (fun h => h.elim (fun h => absurd h.1 (by decide)) (fun h => h.elim (fun h => absurd h.1 (by decide)) (fun h => absurd h.1 (by decide))))))).trans hkk))) msM_46_0 (by first | omega | assumption)) (pc' := 83) rfl (fun vv M_80 hq co80 hcm80 => ?_)
                      obtain ⟨rfl, rfl⟩ := hq
                      refine ax_reS (st2 := [.inl (f_b (kk (n1 + 1) = 3))]) rfl ?_
                      refine ax_if_ne (tgt := 92) dX3_readProduct_83 (by decide) (pc' := 86) rfl (fun h83 => ?_) (fun h83 => ?_)
                      · replace h83 := f_b_1 h83
                        refine ax_aload_n dX3_readProduct_92 rfl rfl (pc' := 93) rfl ?_
                        refine ax_aload_n dX3_readProduct_93 rfl rfl (pc' := 94) rfl ?_
                        refine ax_invG [.inr 58] [] dX3_readProduct_94 mlX3_68 sh_63 rfl rfl rfl (Nat.le_of_ble_eq_true rfl) (s_X3_readUnit E l _ (by omega) _ rd L1.tail ((funext fun i0 => frM_46 60 i0 (fun h => absurd h.1 (by decide))).trans ((funext fun i0 => fr1 60 i0 (fun h => h.elim (fun h => absurd h (by decide)) (fun h => h.elim (fun h => absurd h.1 (by decide)) (fun h => h.elim (fun h => absurd h.1 (by decide)) (fun h => h.elim (fun h => absurd h.1 (by decide)) (fun h => absurd h.1 (by decide))))))).trans ((funext fun i0 => frM_2 60 i0 (fun h => h.elim (fun h => absurd h (by decide)) (fun h => h.elim (fun h => absurd h.1 (by decide)) (fun h => h.elim (fun h => absurd h.1 (by decide)) (fun h => h.elim (fun h => absurd h.1 (by decide)) (fun h => absurd h.1 (by decide))))))).trans hkk))) ((funext fun i0 => frM_46 61 i0 (fun h => absurd h.1 (by decide))).trans ((funext fun i0 => fr1 61 i0 (fun h => h.elim (fun h => absurd h (by decide)) (fun h => h.elim (fun h => absurd h.1 (by decide)) (fun h => h.elim (fun h => absurd h.1 (by decide)) (fun h => h.elim (fun h => absurd h.1 (by decide)) (fun h => absurd h.1 (by decide))))))).trans ((funext fun i0 => frM_2 61 i0 (fun h => h.elim (fun h => absurd h (by decide)) (fun h => h.elim (fun h => absurd h.1 (by decide)) (fun h => h.elim (fun h => absurd h.1 (by decide)) (fun h => h.elim (fun h => absurd h.1 (by decide)) (fun h => absurd h.1 (by decide))))))).trans hvv))) ((funext fun i0 => frM_46 62 i0 (fun h => absurd h.1 (by decide))).trans ((funext fun i0 => fr1 62 i0 (fun h => h.elim (fun h => absurd h (by decide)) (fun h => h.elim (fun h => absurd h.1 (by decide)) (fun h => h.elim (fun h => absurd h.1 (by decide)) (fun h => h.elim (fun h => absurd h.1 (by decide)) (fun h => absurd h.1 (by decide))))))).trans ((funext fun i0 => frM_2 62 i0 (fun h => h.elim (fun h => absurd h (by decide)) (fun h => h.elim (fun h => absurd h.1 (by decide)) (fun h => h.elim (fun h => absurd h.1 (by decide)) (fun h => h.elim (fun h => absurd h.1 (by decide)) (fun h => absurd h.1 (by decide))))))).trans hss))) ((funext fun i0 => frM_46 64 i0 (fun h => absurd h.1 (by decide))).trans mr1_64) msM_46_0 ((frM_46 63 1 (fun h => absurd h.1 (by decide))).trans ms1_63_1) ((frM_46 58 2 (fun h => absurd h.2 (by decide))).trans ms1_58_2) ((frM_46 58 3 (fun h => absurd h.2 (by decide))).trans ms1_58_3) (by first | omega | assumption) xc (by first | omega | assumption)) (pc' := 97) rfl (fun vv M_94 hq co94 hcm94 => ?_)
                        obtain ⟨rfl, frM_94, fa94_0⟩ := hq
                        refine ax_reS (st2 := [.inl (f_rb (f_unit L1.tail))]) rfl ?_
                        have cc94 : -2147483648 ≤ f_rb (f_unit L1.tail) ∧ f_rb (f_unit L1.tail) < 2147483648 := co94 _ rfl
                        refine ax_if_eq (tgt := 123) dX3_readProduct_97 (by decide) (pc' := 100) rfl (fun h97 => ?_) (fun h97 => ?_)
                        · exfalso
                          rw [qu] at h97
                          exact absurd h97 (show ¬ ((1 : Int) = 0) by decide)
                        · rw [qu] at fa94_0
                          obtain ⟨qm, qs, qc, qy2, qy3⟩ := fa94_0
                          have qb7 := And.intro (qy2.trans q7.1) (qy3.trans q7.2)
                          have qcR := f_cc_rg qc
                          have qxl := f_tail_len (L := L1.tail) (by omega)
                          obtain ⟨L3, qL3⟩ : ∃ z, z = L1.tail.tail := ⟨_, rfl⟩
                          obtain ⟨o3, qo3⟩ : ∃ z, z = o1 ++ [((26 : Int), f_V L1.tail)] := ⟨_, rfl⟩
                          have qlp := f_lp_go f_qMul_gd qq rfl q5 q6
                          have qb4 := f_lp_dv q4 qm qs
                          rw [← qL3, ← qo3] at qlp
                          rw [← qo3] at qb4
                          have qb3 := qc
                          rw [← qL3] at qb3
                          have qb5 := qlp.1
                          have qb6 := qlp.2
                          have qw0 : f_wt [((0 : Int), f_V L1.tail)] = 1 := rfl
                          refine ax_aload_n dX3_readProduct_100 rfl rfl (pc' := 101) rfl ?_
                          refine ax_iload dX3_readProduct_101 rfl (pc' := 103) rfl ?_
                          refine ax_if_eq (tgt := 111) dX3_readProduct_103 (by decide) (pc' := 106) rfl (fun h103 => ?_) (fun h103 => ?_)
                          · replace h103 := f_b_0 h103
                            exfalso
                            first | omega | exact h103 h34
                          · replace h103 := f_b_1 h103
                            refine ax_bipush dX3_readProduct_106 (by decide) (pc' := 108) rfl ?_
                            refine ax_goto dX3_readProduct_108 (pc' := 113) (by decide) ?_
                            refine ax_invG [.inl (-14)] [] dX3_readProduct_113 mlX3_55 sh_63 rfl rfl rfl (Nat.le_of_ble_eq_true rfl) (s_X3_put E l _ (by omega) _ (-14) rfl rfl (by first | omega | assumption)) (pc' := 116) rfl (fun vv M_113 hq co113 hcm113 => ?_)
                            obtain ⟨rfl, frM_113, mrM_113_0, msM_113_0⟩ := hq
                            refine ax_reS (st2 := [.inl 1]) rfl ?_
                            refine ax_if_eq (tgt := 123) dX3_readProduct_116 (by decide) (pc' := 119) rfl (fun h116 => ?_) (fun h116 => ?_)
                            · exfalso
                              omega
                            · refine ax_iconst dX3_readProduct_119 (by decide) (pc' := 120) rfl ?_
                              refine ax_goto dX3_readProduct_120 (pc' := 124) (by decide) ?_
                              refine ax_istore_n dX3_readProduct_124 rfl (by decide) (ls' := [some (.inr 63), some (.inr 58), some (.inl 1), some (.inl tu), some (.inl (f_b (kk n1 = 1 ∧ vv n1 = 47)))]) rfl (pc' := 125) rfl ?_
                              refine ax_iinc dX3_readProduct_125 rfl (by decide) (by omega) (ls' := [some (.inr 63), some (.inr 58), some (.inl 1), some (.inl (tu + 1)), some (.inl (f_b (kk n1 = 1 ∧ vv n1 = 47)))]) rfl (pc' := 128) rfl ?_
                              refine ax_goto dX3_readProduct_128 (pc' := 8) (by decide) ?_
                              refine ax_less (ls2 := [some (.inr 63), some (.inr 58), some (.inl 1), some (.inl (tu + 1)), none]) [true, true, true, true, false] rfl ?_
                              refine ih3 1 (tu + 1) (f_up (M_94 64) (M_94 63 1) (-14)) ((M_94 63 1) + 1) (M_94 58 8) (M_94 58 2) (M_94 58 3) L3 o3 M_113 ?_ ?_ ?_ ?_ ?_ ?_ ?_ ?_ ?_ ?_ ?_ ?_ ?_ ?_ ?_
                              · omega
                              · intro x0 i0 hai
                                exact ((frM_113 x0 i0 (fun h => h.elim (fun h => hai (Or.inl h)) (fun h => hai (Or.inr (Or.inl h))))).trans ((frM_94 x0 i0 (fun h => h.elim (fun h => hai (Or.inl h)) (fun h => h.elim (fun h => hai (Or.inr (Or.inl h))) (fun h => h.elim (fun h => hai (Or.inr (Or.inr (Or.inl h)))) (fun h => h.elim (fun h => hai (Or.inr (Or.inr (Or.inr (Or.inl h))))) (fun h => hai (Or.inr (Or.inr (Or.inr (Or.inr h)))))))))).trans ((frM_46 x0 i0 (fun h => hai (Or.inr (Or.inr (Or.inl h))))).trans ((fr1 x0 i0 (fun h => h.elim (fun h => hai (Or.inl h)) (fun h => h.elim (fun h => hai (Or.inr (Or.inl h))) (fun h => h.elim (fun h => hai (Or.inr (Or.inr (Or.inl h)))) (fun h => h.elim (fun h => hai (Or.inr (Or.inr (Or.inr (Or.inl h))))) (fun h => hai (Or.inr (Or.inr (Or.inr (Or.inr h)))))))))).trans rfl))))
                              · exact mrM_113_0
                              · exact msM_113_0
                              · exact ((frM_113 58 8 (fun h => h.elim (fun h => absurd h (by decide)) (fun h => absurd h.1 (by decide)))).trans rfl)
                              · exact ((frM_113 58 2 (fun h => h.elim (fun h => absurd h (by decide)) (fun h => absurd h.1 (by decide)))).trans rfl)
                              · exact ((frM_113 58 3 (fun h => h.elim (fun h => absurd h (by decide)) (fun h => absurd h.1 (by decide)))).trans rfl)
                              · omega
                              · first | exact Or.inl rfl | exact Or.inr rfl
                              · first | exact fun h => absurd h (by decide) | exact fun _ => qb2
                              · first | exact fun h => absurd h (by decide) | exact fun _ => qb3
                              · first | exact fun h => absurd h (by decide) | exact fun _ => qb4
                              · first | exact fun h => absurd h (by decide) | exact fun _ => qb5
                              · first | exact fun h => absurd h (by decide) | exact fun _ => qb6
                              · first | exact fun h => absurd h (by decide) | exact fun _ => qb7
                      · replace h83 := f_b_0 h83
                        exfalso
                        first | exact h58 h83 | exact h83 h58
                  · have qz : f_prod L = .inl (2, ss (n1 + 1)) := by
                      refine f_lp_no f_qMul_gd qq0 ?_ q6
                      rw [if_neg (fun h => h ((kl_n xK).mp h58)), if_pos (by rw [← kl_V xK h58]; exact h65), xs]
                    refine ax_aload_n dX3_readProduct_68 rfl rfl (pc' := 69) rfl ?_
                    refine ax_iconst dX3_readProduct_69 (by decide) (pc' := 70) rfl ?_
                    refine ax_invG [.inl 2] [] dX3_readProduct_70 mlX3_42 sh_58 rfl rfl rfl (Nat.le_of_ble_eq_true rfl) (s_X8_fail E l _ (by omega) _ 2 ((funext fun i0 => frM_46 62 i0 (fun h => absurd h.1 (by decide))).trans ((funext fun i0 => fr1 62 i0 (fun h => h.elim (fun h => absurd h (by decide)) (fun h => h.elim (fun h => absurd h.1 (by decide)) (fun h => h.elim (fun h => absurd h.1 (by decide)) (fun h => h.elim (fun h => absurd h.1 (by decide)) (fun h => absurd h.1 (by decide))))))).trans ((funext fun i0 => frM_2 62 i0 (fun h => h.elim (fun h => absurd h (by decide)) (fun h => h.elim (fun h => absurd h.1 (by decide)) (fun h => h.elim (fun h => absurd h.1 (by decide)) (fun h => h.elim (fun h => absurd h.1 (by decide)) (fun h => absurd h.1 (by decide))))))).trans hss))) msM_46_0 (by first | omega | assumption)) (pc' := 73) rfl (fun vv M_70 hq co70 hcm70 => ?_)
                    obtain ⟨rfl, frM_70, msM_70_0, msM_70_1⟩ := hq
                    refine ax_reS (st2 := [.inl 0]) rfl ?_
                    refine ax_zret dX3_readProduct_73 rfl (by decide) ?_
                    refine ⟨rfl, ?_, ?_, ?_⟩
                    · refine congrArg (fun z => some (Sum.inl z)) ?_
                      rw [qz]
                      rfl
                    · intro x0 i0 hai
                      exact ((frM_70 x0 i0 (fun h => h.elim (fun h => hai (Or.inr (Or.inr (Or.inr (Or.inl h))))) (fun h => hai (Or.inr (Or.inr (Or.inr (Or.inr h))))))).trans ((frM_46 x0 i0 (fun h => hai (Or.inr (Or.inr (Or.inl h))))).trans ((fr1 x0 i0 (fun h => h.elim (fun h => hai (Or.inl h)) (fun h => h.elim (fun h => hai (Or.inr (Or.inl h))) (fun h => h.elim (fun h => hai (Or.inr (Or.inr (Or.inl h)))) (fun h => h.elim (fun h => hai (Or.inr (Or.inr (Or.inr (Or.inl h))))) (fun h => hai (Or.inr (Or.inr (Or.inr (Or.inr h)))))))))).trans ((frM_2 x0 i0 (fun h => h.elim (fun h => hai (Or.inl h)) (fun h => h.elim (fun h => hai (Or.inr (Or.inl h))) (fun h => h.elim (fun h => hai (Or.inr (Or.inr (Or.inl h)))) (fun h => h.elim (fun h => hai (Or.inr (Or.inr (Or.inr (Or.inl h))))) (fun h => hai (Or.inr (Or.inr (Or.inr (Or.inr h)))))))))).trans rfl))))
                    · exact f_cok_no qz msM_70_0 msM_70_1
  refine LP1 (401 - 0 : Int).toNat.succ (f_rb (f_unit L)) 0 (M_2 64) (M_2 63 1) (M_2 58 8) (M_2 58 2) (M_2 58 3) (f_rL (f_unit L)) (f_rO (f_unit L)) M_2 ?_ ?_ ?_ ?_ ?_ ?_ ?_ ?_ ?_ ?_ ?_ ?_ ?_ ?_ ?_
  · omega
  · exact fun a i _ => rfl
  · exact rfl
  · exact rfl
  · exact rfl
  · exact rfl
  · exact rfl
  · decide
  · exact f_rb_01 _
  · exact fun h => f_seq_0 (f_cok_0 fa2_0 h)
  · exact fun h => (f_cok_1 fa2_0 h).2.2.1
  · exact fun h => ⟨(f_cok_1 fa2_0 h).1, (f_cok_1 fa2_0 h).2.1⟩
  · intro h
    have g := f_unit_gd L _ _ (f_rb_1 h)
    exact ⟨g.2.1, by omega⟩
  · exact fun h => f_seq_1 h
  · exact fun h => (f_cok_1 fa2_0 h).2.2.2
set_option maxRecDepth 20000 in
theorem s_X3_readSum (E : ax_Env) (l : Launch) (d : Nat) (hd : 3 ≤ d) (M : ax_Mem) (rd : Int) (L : List f_Tk) {kk : Int → Int} (hkk : M 60 = kk) {vv : Int → Int} (hvv : M 61 = vv) {ss : Int → Int} (hss : M 62 = ss) {cd : Int → Int} (hcd : M 64 = cd) {nx : Int} (hnx : M 58 8 = nx) {sz : Int} (hsz : M 63 1 = sz) {x2 : Int} (hx2 : M 58 2 = x2) {x3 : Int} (hx3 : M 58 3 = x3) (hg0 : 0 ≤ rd ∧ rd < 3) (hg1 : f_cc rd kk vv ss nx L) (hg2 : 0 ≤ sz ∧ sz + (L.length : Int) ≤ 401) : ax_G E l d iX3_readSum [.inr 63, .inr 58] M (fun z0 M2 => z0 = some (.inl (f_rb (f_sumU L))) ∧ (∀ x0 i0 : Int, ¬ (x0 = 64 ∨ (x0 = 63 ∧ i0 = 1) ∨ (x0 = 58 ∧ i0 = 8) ∨ (x0 = 58 ∧ i0 = 2) ∨ (x0 = 58 ∧ i0 = 3)) → M2 x0 i0 = M x0 i0) ∧ (f_cok rd kk vv ss cd sz x2 x3 (f_sumU L) M2)) := by
  obtain ⟨d, rfl⟩ : ∃ d0, d = d0 + 1 := ⟨d - 1, by omega⟩
  refine ax_start rfl (Nat.le_of_ble_eq_true rfl) (ls := [some (.inr 63), some (.inr 58), none, none, none]) rfl (fun hav hcm => ?_)
  clear hav
  have qK := f_kv_lw hg0 (f_cc_hd hg1).1.1
  have qs := (f_cc_hd hg1).1.2
  have qR := f_cc_rg hg1
  refine ax_aload_n dX3_readSum_0 rfl rfl (pc' := 1) rfl ?_
  refine ax_aload_n dX3_readSum_1 rfl rfl (pc' := 2) rfl ?_
  refine ax_invG [.inr 58] [] dX3_readSum_2 mlX3_65 sh_63 rfl rfl rfl (Nat.le_of_ble_eq_true rfl) (s_X3_readProduct E l _ (by omega) _ rd L hkk hvv hss hcd hnx hsz hx2 hx3 (by first | omega | assumption) (by first | omega | assumption) (by first | omega | assumption)) (pc' := 5) rfl (fun vv M_2 hq co2 hcm2 => ?_)
  obtain ⟨rfl, frM_2, fa2_0⟩ := hq
  refine ax_reS (st2 := [.inl (f_rb (f_prod L))]) rfl ?_
  have cc2 : -2147483648 ≤ f_rb (f_prod L) ∧ f_rb (f_prod L) < 2147483648 := co2 _ rfl
  refine ax_istore_n dX3_readSum_5 rfl (by decide) (ls' := [some (.inr 63), some (.inr 58), some (.inl (f_rb (f_prod L))), none, none]) rfl (pc' := 6) rfl ?_
  refine ax_iconst dX3_readSum_6 (by decide) (pc' := 7) rfl ?_
  refine ax_istore_n dX3_readSum_7 rfl (by decide) (ls' := [some (.inr 63), some (.inr 58), some (.inl (f_rb (f_prod L))), some (.inl 0), none]) rfl (pc' := 8) rfl ?_
  have LP1 : ∀ (kq2 : Nat) (gd tu : Int) (c1 : Int → Int) (s1 n1 w1 w2 : Int) (L1 : List f_Tk) (o1 : List f_Op) (M1 : ax_Mem) (hm1 : 401 - tu < (kq2 : Nat)) (fr1 : ∀ x0 i0 : Int, ¬ (x0 = 64 ∨ (x0 = 63 ∧ i0 = 1) ∨ (x0 = 58 ∧ i0 = 8) ∨ (x0 = 58 ∧ i0 = 2) ∨ (x0 = 58 ∧ i0 = 3)) → M1 x0 i0 = M_2 x0 i0) (mr1_64 : M1 64 = c1) (ms1_63_1 : M1 63 1 = s1) (ms1_58_8 : M1 58 8 = n1) (ms1_58_2 : M1 58 2 = w1) (ms1_58_3 : M1 58 3 = w2) (iv1_0 : 0 ≤ tu ∧ tu ≤ 400) (iv1_1 : gd = 0 ∨ gd = 1) (iv1_2 : gd = 0 → f_sumU L = .inl (w1, w2)) (iv1_3 : gd = 1 → f_cc rd kk vv ss n1 L1) (iv1_4 : gd = 1 → c1 = f_pi cd sz (f_en rd o1) ∧ s1 = sz + (f_wt o1 : Int)) (iv1_5 : gd = 1 → f_wt o1 + L1.length ≤ L.length ∧ tu + 1 ≤ (f_wt o1 : Int)) (iv1_6 : gd = 1 → f_sumU L = f_pre o1 (f_rep f_qAdd L1)) (iv1_7 : gd = 1 → w1 = x2 ∧ w2 = x3), ax_W E l (d + 1) 0 0 iX3_readSum 8 [some (.inr 63), some (.inr 58), some (.inl gd), some (.inl tu), none] [] SH M1 (ax_P (fun z0 M2 => z0 = some (.inl (f_rb (f_sumU L))) ∧ (∀ x0 i0 : Int, ¬ (x0 = 64 ∨ (x0 = 63 ∧ i0 = 1) ∨ (x0 = 58 ∧ i0 = 8) ∨ (x0 = 58 ∧ i0 = 2) ∨ (x0 = 58 ∧ i0 = 3)) → M2 x0 i0 = M x0 i0) ∧ (f_cok rd kk vv ss cd sz x2 x3 (f_sumU L) M2))) := by
    intro kq2
    induction kq2 with
    | zero =>
      intro gd tu c1 s1 n1 w1 w2 L1 o1 M1 hm1 fr1 mr1_64 ms1_63_1 ms1_58_8 ms1_58_2 ms1_58_3 iv1_0 iv1_1 iv1_2 iv1_3 iv1_4 iv1_5 iv1_6 iv1_7
      exfalso
      omega
    | succ kq2 ih3 =>
      intro gd tu c1 s1 n1 w1 w2 L1 o1 M1 hm1 fr1 mr1_64 ms1_63_1 ms1_58_8 ms1_58_2 ms1_58_3 iv1_0 iv1_1 iv1_2 iv1_3 iv1_4 iv1_5 iv1_6 iv1_7
      refine ax_iload_n dX3_readSum_8 rfl rfl (pc' := 9) rfl ?_
      refine ax_sipush dX3_readSum_9 (by decide) (pc' := 12) rfl ?_
      refine ax_icmp_ge (tgt := 88) dX3_readSum_12 (by decide) (pc' := 15) rfl (fun h12 => ?_) (fun h12 => ?_)
      · have qg : gd = 0 := by
          rcases iv1_1 with h | h
          · exact h
          · exfalso
            have a := iv1_5 h
            have b := f_cc_rg (iv1_3 h)
            omega
        have qz := iv1_2 qg
        refine ax_iload_n dX3_readSum_88 rfl rfl (pc' := 89) rfl ?_
        refine ax_zret dX3_readSum_89 rfl (by omega) ?_
        refine ⟨rfl, ?_, ?_, ?_⟩
        · refine congrArg (fun z => some (Sum.inl z)) ?_
          rw [qz, qg]
          rfl
        · intro x0 i0 hai
          exact ((fr1 x0 i0 (fun h => h.elim (fun h => hai (Or.inl h)) (fun h => h.elim (fun h => hai (Or.inr (Or.inl h))) (fun h => h.elim (fun h => hai (Or.inr (Or.inr (Or.inl h)))) (fun h => h.elim (fun h => hai (Or.inr (Or.inr (Or.inr (Or.inl h))))) (fun h => hai (Or.inr (Or.inr (Or.inr (Or.inr h)))))))))).trans ((frM_2 x0 i0 (fun h => h.elim (fun h => hai (Or.inl h)) (fun h => h.elim (fun h => hai (Or.inr (Or.inl h))) (fun h => h.elim (fun h => hai (Or.inr (Or.inr (Or.inl h)))) (fun h => h.elim (fun h => hai (Or.inr (Or.inr (Or.inr (Or.inl h))))) (fun h => hai (Or.inr (Or.inr (Or.inr (Or.inr h)))))))))).trans rfl))
        · first
            | exact f_cok_no qz ms1_58_2 ms1_58_3
            | exact f_cok_ok qz (Eq.trans mr1_64 q4.1) (Eq.trans ms1_63_1 q4.2) ms1_58_8 q3 (Eq.trans ms1_58_2 q7.1) (Eq.trans ms1_58_3 q7.2)
      · refine ax_iload_n dX3_readSum_15 rfl rfl (pc' := 16) rfl ?_
        refine ax_if_eq (tgt := 88) dX3_readSum_16 (by decide) (pc' := 19) rfl (fun h16 => ?_) (fun h16 => ?_)
        · have qz := iv1_2 h16
          have qg := h16
          refine ax_iload_n dX3_readSum_88 rfl rfl (pc' := 89) rfl ?_
          refine ax_zret dX3_readSum_89 rfl (by omega) ?_
          refine ⟨rfl, ?_, ?_, ?_⟩
          · refine congrArg (fun z => some (Sum.inl z)) ?_
            rw [qz, qg]
            rfl
          · intro x0 i0 hai
            exact ((fr1 x0 i0 (fun h => h.elim (fun h => hai (Or.inl h)) (fun h => h.elim (fun h => hai (Or.inr (Or.inl h))) (fun h => h.elim (fun h => hai (Or.inr (Or.inr (Or.inl h)))) (fun h => h.elim (fun h => hai (Or.inr (Or.inr (Or.inr (Or.inl h))))) (fun h => hai (Or.inr (Or.inr (Or.inr (Or.inr h)))))))))).trans ((frM_2 x0 i0 (fun h => h.elim (fun h => hai (Or.inl h)) (fun h => h.elim (fun h => hai (Or.inr (Or.inl h))) (fun h => h.elim (fun h => hai (Or.inr (Or.inr (Or.inl h)))) (fun h => h.elim (fun h => hai (Or.inr (Or.inr (Or.inr (Or.inl h))))) (fun h => hai (Or.inr (Or.inr (Or.inr (Or.inr h)))))))))).trans rfl))
          · first
              | exact f_cok_no qz ms1_58_2 ms1_58_3
              | exact f_cok_ok qz (Eq.trans mr1_64 q4.1) (Eq.trans ms1_63_1 q4.2) ms1_58_8 q3 (Eq.trans ms1_58_2 q7.1) (Eq.trans ms1_58_3 q7.2)
        · have qg : gd = 1 := by omega
          have q3 := iv1_3 qg
          have q4 := iv1_4 qg
          have q5 := iv1_5 qg
          have q6 := iv1_6 qg
          have q7 := iv1_7 qg
          have pK := f_kv_lw hg0 (f_cc_hd q3).1.1
          have ps := (f_cc_hd q3).1.2
          have pR := f_cc_rg q3
          refine ax_aload_n dX3_readSum_19 rfl rfl (pc' := 20) rfl ?_
          refine ax_bipush dX3_readSum_20 (by decide) (pc' := 22) rfl ?_
          refine ax_invG [.inl 43] [] dX3_readSum_22 mlX3_62 sh_58 rfl rfl rfl (Nat.le_of_ble_eq_true rfl) (s_X8_isSign E l _ (by omega) _ 43 ((funext fun i0 => fr1 60 i0 (fun h => h.elim (fun h => absurd h (by decide)) (fun h => h.elim (fun h => absurd h.1 (by decide)) (fun h => h.elim (fun h => absurd h.1 (by decide)) (fun h => h.elim (fun h => absurd h.1 (by decide)) (fun h => absurd h.1 (by decide))))))).trans ((funext fun i0 => frM_2 60 i0 (fun h => h.elim (fun h => absurd h (by decide)) (fun h => h.elim (fun h => absurd h.1 (by decide)) (fun h => h.elim (fun h => absurd h.1 (by decide)) (fun h => h.elim (fun h => absurd h.1 (by decide)) (fun h => absurd h.1 (by decide))))))).trans hkk)) ((funext fun i0 => fr1 61 i0 (fun h => h.elim (fun h => absurd h (by decide)) (fun h => h.elim (fun h => absurd h.1 (by decide)) (fun h => h.elim (fun h => absurd h.1 (by decide)) (fun h => h.elim (fun h => absurd h.1 (by decide)) (fun h => absurd h.1 (by decide))))))).trans ((funext fun i0 => frM_2 61 i0 (fun h => h.elim (fun h => absurd h (by decide)) (fun h => h.elim (fun h => absurd h.1 (by decide)) (fun h => h.elim (fun h => absurd h.1 (by decide)) (fun h => h.elim (fun h => absurd h.1 (by decide)) (fun h => absurd h.1 (by decide))))))).trans hvv)) ms1_58_8 (by first | omega | assumption)) (pc' := 25) rfl (fun vv M_22 hq co22 hcm22 => ?_)
          obtain ⟨rfl, rfl⟩ := hq
          refine ax_reS (st2 := [.inl (f_b (kk n1 = 1 ∧ vv n1 = 43))]) rfl ?_
          refine ax_if_ne (tgt := 37) dX3_readSum_25 (by decide) (pc' := 28) rfl (fun h25 => ?_) (fun h25 => ?_)
          · replace h25 := f_b_1 h25
            have qT : f_T L1 = 143 := (kl_s pK 43 (by decide)).mp h25
            have qq : f_qAdd L1 = some (f_aft [(23, 0)] (f_prod L1.tail)) := by
              unfold f_qAdd
              rw [if_pos qT]
            obtain ⟨xc, xl, xn⟩ := f_cc_nx q3 (by omega)
            have xK := f_kv_lw hg0 (f_cc_hd xc).1.1
            have xs := (f_cc_hd xc).1.2
            have xR := f_cc_rg xc
            refine ax_aload_n dX3_readSum_37 rfl rfl (pc' := 38) rfl ?_
            refine ax_bipush dX3_readSum_38 (by decide) (pc' := 40) rfl ?_
            refine ax_invG [.inl 43] [] dX3_readSum_40 mlX3_62 sh_58 rfl rfl rfl (Nat.le_of_ble_eq_true rfl) (s_X8_isSign E l _ (by omega) _ 43 ((funext fun i0 => fr1 60 i0 (fun h => h.elim (fun h => absurd h (by decide)) (fun h => h.elim (fun h => absurd h.1 (by decide)) (fun h => h.elim (fun h => absurd h.1 (by decide)) (fun h => h.elim (fun h => absurd h.1 (by decide)) (fun h => absurd h.1 (by decide))))))).trans ((funext fun i0 => frM_2 60 i0 (fun h => h.elim (fun h => absurd h (by decide)) (fun h => h.elim (fun h => absurd h.1 (by decide)) (fun h => h.elim (fun h => absurd h.1 (by decide)) (fun h => h.elim (fun h => absurd h.1 (by decide)) (fun h => absurd h.1 (by decide))))))).trans hkk)) ((funext fun i0 => fr1 61 i0 (fun h => h.elim (fun h => absurd h (by decide)) (fun h => h.elim (fun h => absurd h.1 (by decide)) (fun h => h.elim (fun h => absurd h.1 (by decide)) (fun h => h.elim (fun h => absurd h.1 (by decide)) (fun h => absurd h.1 (by decide))))))).trans ((funext fun i0 => frM_2 61 i0 (fun h => h.elim (fun h => absurd h (by decide)) (fun h => h.elim (fun h => absurd h.1 (by decide)) (fun h => h.elim (fun h => absurd h.1 (by decide)) (fun h => h.elim (fun h => absurd h.1 (by decide)) (fun h => absurd h.1 (by decide))))))).trans hvv)) ms1_58_8 (by first | omega | assumption)) (pc' := 43) rfl (fun vv M_40 hq co40 hcm40 => ?_)
            obtain ⟨rfl, rfl⟩ := hq
            refine ax_reS (st2 := [.inl (f_b (kk n1 = 1 ∧ vv n1 = 43))]) rfl ?_
            refine ax_if_eq (tgt := 51) dX3_readSum_43 (by decide) (pc' := 46) rfl (fun h43 => ?_) (fun h43 => ?_)
            · replace h43 := f_b_0 h43
              exfalso
              first | exact h43 h25 | exact h25 h43
            · replace h43 := f_b_1 h43
              refine ax_bipush dX3_readSum_46 (by decide) (pc' := 48) rfl ?_
              refine ax_goto dX3_readSum_48 (pc' := 53) (by decide) ?_
              refine ax_istore dX3_readSum_53 (by decide) (ls' := [some (.inr 63), some (.inr 58), some (.inl gd), some (.inl tu), some (.inl (-11))]) rfl (pc' := 55) rfl ?_
              refine ax_aload_n dX3_readSum_55 rfl rfl (pc' := 56) rfl ?_
              refine ax_invG [] [] dX3_readSum_56 mlX3_45 sh_58 rfl rfl rfl (Nat.le_of_ble_eq_true rfl) (s_X8_step E l _ (by omega) _ ((funext fun i0 => fr1 60 i0 (fun h => h.elim (fun h => absurd h (by decide)) (fun h => h.elim (fun h => absurd h.1 (by decide)) (fun h => h.elim (fun h => absurd h.1 (by decide)) (fun h => h.elim (fun h => absurd h.1 (by decide)) (fun h => absurd h.1 (by decide))))))).trans ((funext fun i0 => frM_2 60 i0 (fun h => h.elim (fun h => absurd h (by decide)) (fun h => h.elim (fun h => absurd h.1 (by decide)) (fun h => h.elim (fun h => absurd h.1 (by decide)) (fun h => h.elim (fun h => absurd h.1 (by decide)) (fun h => absurd h.1 (by decide))))))).trans hkk)) ms1_58_8 (by first | omega | assumption) (by first | omega | assumption)) (pc' := 59) rfl (fun vv M_56 hq co56 hcm56 => ?_)
              obtain ⟨rfl, frM_56, msM_56_0⟩ := hq
              refine ax_reS (st2 := []) rfl ?_
              refine ax_aload_n dX3_readSum_59 rfl rfl (pc' := 60) rfl ?_
              refine ax_aload_n dX3_readSum_60 rfl rfl (pc' := 61) rfl ?_
              refine ax_invG [.inr 58] [] dX3_readSum_61 mlX3_65 sh_63 rfl rfl rfl (Nat.le_of_ble_eq_true rfl) (s_X3_readProduct E l _ (by omega) _ rd L1.tail ((funext fun i0 => frM_56 60 i0 (fun h => absurd h.1 (by decide))).trans ((funext fun i0 => fr1 60 i0 (fun h => h.elim (fun h => absurd h (by decide)) (fun h => h.elim (fun h => absurd h.1 (by decide)) (fun h => h.elim (fun h => absurd h.1 (by decide)) (fun h => h.elim (fun h => absurd h.1 (by decide)) (fun h => absurd h.1 (by decide))))))).trans ((funext fun i0 => frM_2 60 i0 (fun h => h.elim (fun h => absurd h (by decide)) (fun h => h.elim (fun h => absurd h.1 (by decide)) (fun h => h.elim (fun h => absurd h.1 (by decide)) (fun h => h.elim (fun h => absurd h.1 (by decide)) (fun h => absurd h.1 (by decide))))))).trans hkk))) ((funext fun i0 => frM_56 61 i0 (fun h => absurd h.1 (by decide))).trans ((funext fun i0 => fr1 61 i0 (fun h => h.elim (fun h => absurd h (by decide)) (fun h => h.elim (fun h => absurd h.1 (by decide)) (fun h => h.elim (fun h => absurd h.1 (by decide)) (fun h => h.elim (fun h => absurd h.1 (by decide)) (fun h => absurd h.1 (by decide))))))).trans ((funext fun i0 => frM_2 61 i0 (fun h => h.elim (fun h => absurd h (by decide)) (fun h => h.elim (fun h => absurd h.1 (by decide)) (fun h => h.elim (fun h => absurd h.1 (by decide)) (fun h => h.elim (fun h => absurd h.1 (by decide)) (fun h => absurd h.1 (by decide))))))).trans hvv))) ((funext fun i0 => frM_56 62 i0 (fun h => absurd h.1 (by decide))).trans ((funext fun i0 => fr1 62 i0 (fun h => h.elim (fun h => absurd h (by decide)) (fun h => h.elim (fun h => absurd h.1 (by decide)) (fun h => h.elim (fun h => absurd h.1 (by decide)) (fun h => h.elim (fun h => absurd h.1 (by decide)) (fun h => absurd h.1 (by decide))))))).trans ((funext fun i0 => frM_2 62 i0 (fun h => h.elim (fun h => absurd h (by decide)) (fun h => h.elim (fun h => absurd h.1 (by decide)) (fun h => h.elim (fun h => absurd h.1 (by decide)) (fun h => h.elim (fun h => absurd h.1 (by decide)) (fun h => absurd h.1 (by decide))))))).trans hss))) ((funext fun i0 => frM_56 64 i0 (fun h => absurd h.1 (by decide))).trans mr1_64) msM_56_0 ((frM_56 63 1 (fun h => absurd h.1 (by decide))).trans ms1_63_1) ((frM_56 58 2 (fun h => absurd h.2 (by decide))).trans ms1_58_2) ((frM_56 58 3 (fun h => absurd h.2 (by decide))).trans ms1_58_3) (by first | omega | assumption) xc (by first | omega | assumption)) (pc' := 64) rfl (fun vv M_61 hq co61 hcm61 => ?_)
              obtain ⟨rfl, frM_61, fa61_0⟩ := hq
              refine ax_reS (st2 := [.inl (f_rb (f_prod L1.tail))]) rfl ?_
              have cc61 : -2147483648 ≤ f_rb (f_prod L1.tail) ∧ f_rb (f_prod L1.tail) < 2147483648 := co61 _ rfl
              refine ax_if_eq (tgt := 80) dX3_readSum_64 (by decide) (pc' := 67) rfl (fun h64 => ?_) (fun h64 => ?_)
              · have qb2 := f_lp_no f_qAdd_gd qq (f_aft_no (f_cok_0 fa61_0 h64)) q6
                obtain ⟨L3, qL3⟩ : ∃ z, z = L1 := ⟨_, rfl⟩
                obtain ⟨o3, qo3⟩ : ∃ z, z = o1 := ⟨_, rfl⟩
                refine ax_iconst dX3_readSum_80 (by decide) (pc' := 81) rfl ?_
                refine ax_istore_n dX3_readSum_81 rfl (by decide) (ls' := [some (.inr 63), some (.inr 58), some (.inl 0), some (.inl tu), some (.inl (-11))]) rfl (pc' := 82) rfl ?_
                refine ax_iinc dX3_readSum_82 rfl (by decide) (by omega) (ls' := [some (.inr 63), some (.inr 58), some (.inl 0), some (.inl (tu + 1)), some (.inl (-11))]) rfl (pc' := 85) rfl ?_
                refine ax_goto dX3_readSum_85 (pc' := 8) (by decide) ?_
                refine ax_less (ls2 := [some (.inr 63), some (.inr 58), some (.inl 0), some (.inl (tu + 1)), none]) [true, true, true, true, false] rfl ?_
                refine ih3 0 (tu + 1) (M_61 64) (M_61 63 1) (M_61 58 8) (M_61 58 2) (M_61 58 3) L3 o3 M_61 ?_ ?_ ?_ ?_ ?_ ?_ ?_ ?_ ?_ ?_ ?_ ?_ ?_ ?_ ?_
                · omega
                · intro x0 i0 hai
                  exact ((frM_61 x0 i0 (fun h => h.elim (fun h => hai (Or.inl h)) (fun h => h.elim (fun h => hai (Or.inr (Or.inl h))) (fun h => h.elim (fun h => hai (Or.inr (Or.inr (Or.inl h)))) (fun h => h.elim (fun h => hai (Or.inr (Or.inr (Or.inr (Or.inl h))))) (fun h => hai (Or.inr (Or.inr (Or.inr (Or.inr h)))))))))).trans ((frM_56 x0 i0 (fun h => hai (Or.inr (Or.inr (Or.inl h))))).trans ((fr1 x0 i0 (fun h => h.elim (fun h => hai (Or.inl h)) (fun h => h.elim (fun h => hai (Or.inr (Or.inl h))) (fun h => h.elim (fun h => hai (Or.inr (Or.inr (Or.inl h)))) (fun h => h.elim (fun h => hai (Or.inr (Or.inr (Or.inr (Or.inl h))))) (fun h => hai (Or.inr (Or.inr (Or.inr (Or.inr h)))))))))).trans rfl)))
                · exact rfl
                · exact rfl
                · exact rfl
                · exact rfl
                · exact rfl
                · omega
                · first | exact Or.inl rfl | exact Or.inr rfl
                · first | exact fun h => absurd h (by decide) | exact fun _ => qb2
                · first | exact fun h => absurd h (by decide) | exact fun _ => qb3
                · first | exact fun h => absurd h (by decide) | exact fun _ => qb4
                · first | exact fun h => absurd h (by decide) | exact fun _ => qb5
                · first | exact fun h => absurd h (by decide) | exact fun _ => qb6
                · first | exact fun h => absurd h (by decide) | exact fun _ => qb7
              · have qr1 := (f_rb_01 _).resolve_left h64
                obtain ⟨qm, qs, qc, qy2, qy3⟩ := f_cok_1 fa61_0 qr1
                have qb7 := And.intro (qy2.trans q7.1) (qy3.trans q7.2)
                have qgd := f_prod_gd L1.tail _ _ (f_rb_1 qr1)
                have qcR := f_cc_rg qc
                obtain ⟨L3, qL3⟩ : ∃ z, z = f_rL (f_prod L1.tail) := ⟨_, rfl⟩
                obtain ⟨o3, qo3⟩ : ∃ z, z = o1 ++ (f_rO (f_prod L1.tail) ++ [((23 : Int), (0 : Int))]) := ⟨_, rfl⟩
                have qlp := f_lp_go f_qAdd_gd qq (f_aft_ok (f_rb_1 qr1)) q5 q6
                have qb4 := f_lp_cd (K := 23) (x := -11) q4 qm qs rfl (by decide)
                rw [← qL3, ← qo3] at qlp
                rw [← qo3] at qb4
                have qb3 := qc
                rw [← qL3] at qb3
                have qb5 := qlp.1
                have qb6 := qlp.2
                refine ax_aload_n dX3_readSum_67 rfl rfl (pc' := 68) rfl ?_
                refine ax_iload dX3_readSum_68 rfl (pc' := 70) rfl ?_
                refine ax_invG [.inl (-11)] [] dX3_readSum_70 mlX3_55 sh_63 rfl rfl rfl (Nat.le_of_ble_eq_true rfl) (s_X3_put E l _ (by omega) _ (-11) rfl rfl (by first | omega | assumption)) (pc' := 73) rfl (fun vv M_70 hq co70 hcm70 => ?_)
                obtain ⟨rfl, frM_70, mrM_70_0, msM_70_0⟩ := hq
                refine ax_reS (st2 := [.inl 1]) rfl ?_
                refine ax_if_eq (tgt := 80) dX3_readSum_73 (by decide) (pc' := 76) rfl (fun h73 => ?_) (fun h73 => ?_)
                · exfalso
                  omega
                · refine ax_iconst dX3_readSum_76 (by decide) (pc' := 77) rfl ?_
                  refine ax_goto dX3_readSum_77 (pc' := 81) (by decide) ?_
                  refine ax_istore_n dX3_readSum_81 rfl (by decide) (ls' := [some (.inr 63), some (.inr 58), some (.inl 1), some (.inl tu), some (.inl (-11))]) rfl (pc' := 82) rfl ?_
                  refine ax_iinc dX3_readSum_82 rfl (by decide) (by omega) (ls' := [some (.inr 63), some (.inr 58), some (.inl 1), some (.inl (tu + 1)), some (.inl (-11))]) rfl (pc' := 85) rfl ?_
                  refine ax_goto dX3_readSum_85 (pc' := 8) (by decide) ?_
                  refine ax_less (ls2 := [some (.inr 63), some (.inr 58), some (.inl 1), some (.inl (tu + 1)), none]) [true, true, true, true, false] rfl ?_
                  refine ih3 1 (tu + 1) (f_up (M_61 64) (M_61 63 1) (-11)) ((M_61 63 1) + 1) (M_61 58 8) (M_61 58 2) (M_61 58 3) L3 o3 M_70 ?_ ?_ ?_ ?_ ?_ ?_ ?_ ?_ ?_ ?_ ?_ ?_ ?_ ?_ ?_
                  · omega
                  · intro x0 i0 hai
                    exact ((frM_70 x0 i0 (fun h => h.elim (fun h => hai (Or.inl h)) (fun h => hai (Or.inr (Or.inl h))))).trans ((frM_61 x0 i0 (fun h => h.elim (fun h => hai (Or.inl h)) (fun h => h.elim (fun h => hai (Or.inr (Or.inl h))) (fun h => h.elim (fun h => hai (Or.inr (Or.inr (Or.inl h)))) (fun h => h.elim (fun h => hai (Or.inr (Or.inr (Or.inr (Or.inl h))))) (fun h => hai (Or.inr (Or.inr (Or.inr (Or.inr h)))))))))).trans ((frM_56 x0 i0 (fun h => hai (Or.inr (Or.inr (Or.inl h))))).trans ((fr1 x0 i0 (fun h => h.elim (fun h => hai (Or.inl h)) (fun h => h.elim (fun h => hai (Or.inr (Or.inl h))) (fun h => h.elim (fun h => hai (Or.inr (Or.inr (Or.inl h)))) (fun h => h.elim (fun h => hai (Or.inr (Or.inr (Or.inr (Or.inl h))))) (fun h => hai (Or.inr (Or.inr (Or.inr (Or.inr h)))))))))).trans rfl))))
                  · exact mrM_70_0
                  · exact msM_70_0
                  · exact ((frM_70 58 8 (fun h => h.elim (fun h => absurd h (by decide)) (fun h => absurd h.1 (by decide)))).trans rfl)
                  · exact ((frM_70 58 2 (fun h => h.elim (fun h => absurd h (by decide)) (fun h => absurd h.1 (by decide)))).trans rfl)
                  · exact ((frM_70 58 3 (fun h => h.elim (fun h => absurd h (by decide)) (fun h => absurd h.1 (by decide)))).trans rfl)
                  · omega
                  · first | exact Or.inl rfl | exact Or.inr rfl
                  · first | exact fun h => absurd h (by decide) | exact fun _ => qb2
                  · first | exact fun h => absurd h (by decide) | exact fun _ => qb3
                  · first | exact fun h => absurd h (by decide) | exact fun _ => qb4
                  · first | exact fun h => absurd h (by decide) | exact fun _ => qb5
                  · first | exact fun h => absurd h (by decide) | exact fun _ => qb6
                  · first | exact fun h => absurd h (by decide) | exact fun _ => qb7
          · replace h25 := f_b_0 h25
            refine ax_aload_n dX3_readSum_28 rfl rfl (pc' := 29) rfl ?_
            refine ax_bipush dX3_readSum_29 (by decide) (pc' := 31) rfl ?_
            refine ax_invG [.inl 45] [] dX3_readSum_31 mlX3_62 sh_58 rfl rfl rfl (Nat.le_of_ble_eq_true rfl) (s_X8_isSign E l _ (by omega) _ 45 ((funext fun i0 => fr1 60 i0 (fun h => h.elim (fun h => absurd h (by decide)) (fun h => h.elim (fun h => absurd h.1 (by decide)) (fun h => h.elim (fun h => absurd h.1 (by decide)) (fun h => h.elim (fun h => absurd h.1 (by decide)) (fun h => absurd h.1 (by decide))))))).trans ((funext fun i0 => frM_2 60 i0 (fun h => h.elim (fun h => absurd h (by decide)) (fun h => h.elim (fun h => absurd h.1 (by decide)) (fun h => h.elim (fun h => absurd h.1 (by decide)) (fun h => h.elim (fun h => absurd h.1 (by decide)) (fun h => absurd h.1 (by decide))))))).trans hkk)) ((funext fun i0 => fr1 61 i0 (fun h => h.elim (fun h => absurd h (by decide)) (fun h => h.elim (fun h => absurd h.1 (by decide)) (fun h => h.elim (fun h => absurd h.1 (by decide)) (fun h => h.elim (fun h => absurd h.1 (by decide)) (fun h => absurd h.1 (by decide))))))).trans ((funext fun i0 => frM_2 61 i0 (fun h => h.elim (fun h => absurd h (by decide)) (fun h => h.elim (fun h => absurd h.1 (by decide)) (fun h => h.elim (fun h => absurd h.1 (by decide)) (fun h => h.elim (fun h => absurd h.1 (by decide)) (fun h => absurd h.1 (by decide))))))).trans hvv)) ms1_58_8 (by first | omega | assumption)) (pc' := 34) rfl (fun vv M_31 hq co31 hcm31 => ?_)
            obtain ⟨rfl, rfl⟩ := hq
            refine ax_reS (st2 := [.inl (f_b (kk n1 = 1 ∧ vv n1 = 45))]) rfl ?_
            refine ax_if_eq (tgt := 88) dX3_readSum_34 (by decide) (pc' := 37) rfl (fun h34 => ?_) (fun h34 => ?_)
            · replace h34 := f_b_0 h34
              have qz : f_sumU L = .inr (L1, o1) := by
                refine f_lp_end ?_ q6
                unfold f_qAdd
                rw [if_neg (show ¬ f_T L1 = 143 from fun h => h25 ((kl_s pK 43 (by decide)).mpr h)), if_neg (show ¬ f_T L1 = 145 from fun h => h34 ((kl_s pK 45 (by decide)).mpr h))]
              refine ax_iload_n dX3_readSum_88 rfl rfl (pc' := 89) rfl ?_
              refine ax_zret dX3_readSum_89 rfl (by omega) ?_
              refine ⟨rfl, ?_, ?_, ?_⟩
              · refine congrArg (fun z => some (Sum.inl z)) ?_
                rw [qz, qg]
                rfl
              · intro x0 i0 hai
                exact ((fr1 x0 i0 (fun h => h.elim (fun h => hai (Or.inl h)) (fun h => h.elim (fun h => hai (Or.inr (Or.inl h))) (fun h => h.elim (fun h => hai (Or.inr (Or.inr (Or.inl h)))) (fun h => h.elim (fun h => hai (Or.inr (Or.inr (Or.inr (Or.inl h))))) (fun h => hai (Or.inr (Or.inr (Or.inr (Or.inr h)))))))))).trans ((frM_2 x0 i0 (fun h => h.elim (fun h => hai (Or.inl h)) (fun h => h.elim (fun h => hai (Or.inr (Or.inl h))) (fun h => h.elim (fun h => hai (Or.inr (Or.inr (Or.inl h)))) (fun h => h.elim (fun h => hai (Or.inr (Or.inr (Or.inr (Or.inl h))))) (fun h => hai (Or.inr (Or.inr (Or.inr (Or.inr h)))))))))).trans rfl))
              · first
                  | exact f_cok_no qz ms1_58_2 ms1_58_3
                  | exact f_cok_ok qz (Eq.trans mr1_64 q4.1) (Eq.trans ms1_63_1 q4.2) ms1_58_8 q3 (Eq.trans ms1_58_2 q7.1) (Eq.trans ms1_58_3 q7.2)
            · replace h34 := f_b_1 h34
              have qT : f_T L1 = 145 := (kl_s pK 45 (by decide)).mp h34
              have qq : f_qAdd L1 = some (f_aft [(24, 0)] (f_prod L1.tail)) := by
                unfold f_qAdd
                rw [if_neg (by omega), if_pos qT]
              obtain ⟨xc, xl, xn⟩ := f_cc_nx q3 (by omega)
              have xK := f_kv_lw hg0 (f_cc_hd xc).1.1
              have xs := (f_cc_hd xc).1.2
              have xR := f_cc_rg xc
              refine ax_aload_n dX3_readSum_37 rfl rfl (pc' := 38) rfl ?_
              refine ax_bipush dX3_readSum_38 (by decide) (pc' := 40) rfl ?_
              refine ax_invG [.inl 43] [] dX3_readSum_40 mlX3_62 sh_58 rfl rfl rfl (Nat.le_of_ble_eq_true rfl) (s_X8_isSign E l _ (by omega) _ 43 ((funext fun i0 => fr1 60 i0 (fun h => h.elim (fun h => absurd h (by decide)) (fun h => h.elim (fun h => absurd h.1 (by decide)) (fun h => h.elim (fun h => absurd h.1 (by decide)) (fun h => h.elim (fun h => absurd h.1 (by decide)) (fun h => absurd h.1 (by decide))))))).trans ((funext fun i0 => frM_2 60 i0 (fun h => h.elim (fun h => absurd h (by decide)) (fun h => h.elim (fun h => absurd h.1 (by decide)) (fun h => h.elim (fun h => absurd h.1 (by decide)) (fun h => h.elim (fun h => absurd h.1 (by decide)) (fun h => absurd h.1 (by decide))))))).trans hkk)) ((funext fun i0 => fr1 61 i0 (fun h => h.elim (fun h => absurd h (by decide)) (fun h => h.elim (fun h => absurd h.1 (by decide)) (fun h => h.elim (fun h => absurd h.1 (by decide)) (fun h => h.elim (fun h => absurd h.1 (by decide)) (fun h => absurd h.1 (by decide))))))).trans ((funext fun i0 => frM_2 61 i0 (fun h => h.elim (fun h => absurd h (by decide)) (fun h => h.elim (fun h => absurd h.1 (by decide)) (fun h => h.elim (fun h => absurd h.1 (by decide)) (fun h => h.elim (fun h => absurd h.1 (by decide)) (fun h => absurd h.1 (by decide))))))).trans hvv)) ms1_58_8 (by first | omega | assumption)) (pc' := 43) rfl (fun vv M_40 hq co40 hcm40 => ?_)
              obtain ⟨rfl, rfl⟩ := hq
              refine ax_reS (st2 := [.inl (f_b (kk n1 = 1 ∧ vv n1 = 43))]) rfl ?_
              refine ax_if_eq (tgt := 51) dX3_readSum_43 (by decide) (pc' := 46) rfl (fun h43 => ?_) (fun h43 => ?_)
              · replace h43 := f_b_0 h43
                refine ax_bipush dX3_readSum_51 (by decide) (pc' := 53) rfl ?_
                refine ax_istore dX3_readSum_53 (by decide) (ls' := [some (.inr 63), some (.inr 58), some (.inl gd), some (.inl tu), some (.inl (-12))]) rfl (pc' := 55) rfl ?_
                refine ax_aload_n dX3_readSum_55 rfl rfl (pc' := 56) rfl ?_
                refine ax_invG [] [] dX3_readSum_56 mlX3_45 sh_58 rfl rfl rfl (Nat.le_of_ble_eq_true rfl) (s_X8_step E l _ (by omega) _ ((funext fun i0 => fr1 60 i0 (fun h => h.elim (fun h => absurd h (by decide)) (fun h => h.elim (fun h => absurd h.1 (by decide)) (fun h => h.elim (fun h => absurd h.1 (by decide)) (fun h => h.elim (fun h => absurd h.1 (by decide)) (fun h => absurd h.1 (by decide))))))).trans ((funext fun i0 => frM_2 60 i0 (fun h => h.elim (fun h => absurd h (by decide)) (fun h => h.elim (fun h => absurd h.1 (by decide)) (fun h => h.elim (fun h => absurd h.1 (by decide)) (fun h => h.elim (fun h => absurd h.1 (by decide)) (fun h => absurd h.1 (by decide))))))).trans hkk)) ms1_58_8 (by first | omega | assumption) (by first | omega | assumption)) (pc' := 59) rfl (fun vv M_56 hq co56 hcm56 => ?_)
                obtain ⟨rfl, frM_56, msM_56_0⟩ := hq
                refine ax_reS (st2 := []) rfl ?_
                refine ax_aload_n dX3_readSum_59 rfl rfl (pc' := 60) rfl ?_
                refine ax_aload_n dX3_readSum_60 rfl rfl (pc' := 61) rfl ?_
                refine ax_invG [.inr 58] [] dX3_readSum_61 mlX3_65 sh_63 rfl rfl rfl (Nat.le_of_ble_eq_true rfl) (s_X3_readProduct E l _ (by omega) _ rd L1.tail ((funext fun i0 => frM_56 60 i0 (fun h => absurd h.1 (by decide))).trans ((funext fun i0 => fr1 60 i0 (fun h => h.elim (fun h => absurd h (by decide)) (fun h => h.elim (fun h => absurd h.1 (by decide)) (fun h => h.elim (fun h => absurd h.1 (by decide)) (fun h => h.elim (fun h => absurd h.1 (by decide)) (fun h => absurd h.1 (by decide))))))).trans ((funext fun i0 => frM_2 60 i0 (fun h => h.elim (fun h => absurd h (by decide)) (fun h => h.elim (fun h => absurd h.1 (by decide)) (fun h => h.elim (fun h => absurd h.1 (by decide)) (fun h => h.elim (fun h => absurd h.1 (by decide)) (fun h => absurd h.1 (by decide))))))).trans hkk))) ((funext fun i0 => frM_56 61 i0 (fun h => absurd h.1 (by decide))).trans ((funext fun i0 => fr1 61 i0 (fun h => h.elim (fun h => absurd h (by decide)) (fun h => h.elim (fun h => absurd h.1 (by decide)) (fun h => h.elim (fun h => absurd h.1 (by decide)) (fun h => h.elim (fun h => absurd h.1 (by decide)) (fun h => absurd h.1 (by decide))))))).trans ((funext fun i0 => frM_2 61 i0 (fun h => h.elim (fun h => absurd h (by decide)) (fun h => h.elim (fun h => absurd h.1 (by decide)) (fun h => h.elim (fun h => absurd h.1 (by decide)) (fun h => h.elim (fun h => absurd h.1 (by decide)) (fun h => absurd h.1 (by decide))))))).trans hvv))) ((funext fun i0 => frM_56 62 i0 (fun h => absurd h.1 (by decide))).trans ((funext fun i0 => fr1 62 i0 (fun h => h.elim (fun h => absurd h (by decide)) (fun h => h.elim (fun h => absurd h.1 (by decide)) (fun h => h.elim (fun h => absurd h.1 (by decide)) (fun h => h.elim (fun h => absurd h.1 (by decide)) (fun h => absurd h.1 (by decide))))))).trans ((funext fun i0 => frM_2 62 i0 (fun h => h.elim (fun h => absurd h (by decide)) (fun h => h.elim (fun h => absurd h.1 (by decide)) (fun h => h.elim (fun h => absurd h.1 (by decide)) (fun h => h.elim (fun h => absurd h.1 (by decide)) (fun h => absurd h.1 (by decide))))))).trans hss))) ((funext fun i0 => frM_56 64 i0 (fun h => absurd h.1 (by decide))).trans mr1_64) msM_56_0 ((frM_56 63 1 (fun h => absurd h.1 (by decide))).trans ms1_63_1) ((frM_56 58 2 (fun h => absurd h.2 (by decide))).trans ms1_58_2) ((frM_56 58 3 (fun h => absurd h.2 (by decide))).trans ms1_58_3) (by first | omega | assumption) xc (by first | omega | assumption)) (pc' := 64) rfl (fun vv M_61 hq co61 hcm61 => ?_)
                obtain ⟨rfl, frM_61, fa61_0⟩ := hq
                refine ax_reS (st2 := [.inl (f_rb (f_prod L1.tail))]) rfl ?_
                have cc61 : -2147483648 ≤ f_rb (f_prod L1.tail) ∧ f_rb (f_prod L1.tail) < 2147483648 := co61 _ rfl
                refine ax_if_eq (tgt := 80) dX3_readSum_64 (by decide) (pc' := 67) rfl (fun h64 => ?_) (fun h64 => ?_)
                · have qb2 := f_lp_no f_qAdd_gd qq (f_aft_no (f_cok_0 fa61_0 h64)) q6
                  obtain ⟨L3, qL3⟩ : ∃ z, z = L1 := ⟨_, rfl⟩
                  obtain ⟨o3, qo3⟩ : ∃ z, z = o1 := ⟨_, rfl⟩
                  refine ax_iconst dX3_readSum_80 (by decide) (pc' := 81) rfl ?_
                  refine ax_istore_n dX3_readSum_81 rfl (by decide) (ls' := [some (.inr 63), some (.inr 58), some (.inl 0), some (.inl tu), some (.inl (-12))]) rfl (pc' := 82) rfl ?_
                  refine ax_iinc dX3_readSum_82 rfl (by decide) (by omega) (ls' := [some (.inr 63), some (.inr 58), some (.inl 0), some (.inl (tu + 1)), some (.inl (-12))]) rfl (pc' := 85) rfl ?_
                  refine ax_goto dX3_readSum_85 (pc' := 8) (by decide) ?_
                  refine ax_less (ls2 := [some (.inr 63), some (.inr 58), some (.inl 0), some (.inl (tu + 1)), none]) [true, true, true, true, false] rfl ?_
                  refine ih3 0 (tu + 1) (M_61 64) (M_61 63 1) (M_61 58 8) (M_61 58 2) (M_61 58 3) L3 o3 M_61 ?_ ?_ ?_ ?_ ?_ ?_ ?_ ?_ ?_ ?_ ?_ ?_ ?_ ?_ ?_
                  · omega
                  · intro x0 i0 hai
                    exact ((frM_61 x0 i0 (fun h => h.elim (fun h => hai (Or.inl h)) (fun h => h.elim (fun h => hai (Or.inr (Or.inl h))) (fun h => h.elim (fun h => hai (Or.inr (Or.inr (Or.inl h)))) (fun h => h.elim (fun h => hai (Or.inr (Or.inr (Or.inr (Or.inl h))))) (fun h => hai (Or.inr (Or.inr (Or.inr (Or.inr h)))))))))).trans ((frM_56 x0 i0 (fun h => hai (Or.inr (Or.inr (Or.inl h))))).trans ((fr1 x0 i0 (fun h => h.elim (fun h => hai (Or.inl h)) (fun h => h.elim (fun h => hai (Or.inr (Or.inl h))) (fun h => h.elim (fun h => hai (Or.inr (Or.inr (Or.inl h)))) (fun h => h.elim (fun h => hai (Or.inr (Or.inr (Or.inr (Or.inl h))))) (fun h => hai (Or.inr (Or.inr (Or.inr (Or.inr h)))))))))).trans rfl)))
                  · exact rfl
                  · exact rfl
                  · exact rfl
                  · exact rfl
                  · exact rfl
                  · omega
                  · first | exact Or.inl rfl | exact Or.inr rfl
                  · first | exact fun h => absurd h (by decide) | exact fun _ => qb2
                  · first | exact fun h => absurd h (by decide) | exact fun _ => qb3
                  · first | exact fun h => absurd h (by decide) | exact fun _ => qb4
                  · first | exact fun h => absurd h (by decide) | exact fun _ => qb5
                  · first | exact fun h => absurd h (by decide) | exact fun _ => qb6
                  · first | exact fun h => absurd h (by decide) | exact fun _ => qb7
                · have qr1 := (f_rb_01 _).resolve_left h64
                  obtain ⟨qm, qs, qc, qy2, qy3⟩ := f_cok_1 fa61_0 qr1
                  have qb7 := And.intro (qy2.trans q7.1) (qy3.trans q7.2)
                  have qgd := f_prod_gd L1.tail _ _ (f_rb_1 qr1)
                  have qcR := f_cc_rg qc
                  obtain ⟨L3, qL3⟩ : ∃ z, z = f_rL (f_prod L1.tail) := ⟨_, rfl⟩
                  obtain ⟨o3, qo3⟩ : ∃ z, z = o1 ++ (f_rO (f_prod L1.tail) ++ [((24 : Int), (0 : Int))]) := ⟨_, rfl⟩
                  have qlp := f_lp_go f_qAdd_gd qq (f_aft_ok (f_rb_1 qr1)) q5 q6
                  have qb4 := f_lp_cd (K := 24) (x := -12) q4 qm qs rfl (by decide)
                  rw [← qL3, ← qo3] at qlp
                  rw [← qo3] at qb4
                  have qb3 := qc
                  rw [← qL3] at qb3
                  have qb5 := qlp.1
                  have qb6 := qlp.2
                  refine ax_aload_n dX3_readSum_67 rfl rfl (pc' := 68) rfl ?_
                  refine ax_iload dX3_readSum_68 rfl (pc' := 70) rfl ?_
                  refine ax_invG [.inl (-12)] [] dX3_readSum_70 mlX3_55 sh_63 rfl rfl rfl (Nat.le_of_ble_eq_true rfl) (s_X3_put E l _ (by omega) _ (-12) rfl rfl (by first | omega | assumption)) (pc' := 73) rfl (fun vv M_70 hq co70 hcm70 => ?_)
                  obtain ⟨rfl, frM_70, mrM_70_0, msM_70_0⟩ := hq
                  refine ax_reS (st2 := [.inl 1]) rfl ?_
                  refine ax_if_eq (tgt := 80) dX3_readSum_73 (by decide) (pc' := 76) rfl (fun h73 => ?_) (fun h73 => ?_)
                  · exfalso
                    omega
                  · refine ax_iconst dX3_readSum_76 (by decide) (pc' := 77) rfl ?_
                    refine ax_goto dX3_readSum_77 (pc' := 81) (by decide) ?_
                    refine ax_istore_n dX3_readSum_81 rfl (by decide) (ls' := [some (.inr 63), some (.inr 58), some (.inl 1), some (.inl tu), some (.inl (-12))]) rfl (pc' := 82) rfl ?_
                    refine ax_iinc dX3_readSum_82 rfl (by decide) (by omega) (ls' := [some (.inr 63), some (.inr 58), some (.inl 1), some (.inl (tu + 1)), some (.inl (-12))]) rfl (pc' := 85) rfl ?_
                    refine ax_goto dX3_readSum_85 (pc' := 8) (by decide) ?_
                    refine ax_less (ls2 := [some (.inr 63), some (.inr 58), some (.inl 1), some (.inl (tu + 1)), none]) [true, true, true, true, false] rfl ?_
                    refine ih3 1 (tu + 1) (f_up (M_61 64) (M_61 63 1) (-12)) ((M_61 63 1) + 1) (M_61 58 8) (M_61 58 2) (M_61 58 3) L3 o3 M_70 ?_ ?_ ?_ ?_ ?_ ?_ ?_ ?_ ?_ ?_ ?_ ?_ ?_ ?_ ?_
                    · omega
                    · intro x0 i0 hai
                      exact ((frM_70 x0 i0 (fun h => h.elim (fun h => hai (Or.inl h)) (fun h => hai (Or.inr (Or.inl h))))).trans ((frM_61 x0 i0 (fun h => h.elim (fun h => hai (Or.inl h)) (fun h => h.elim (fun h => hai (Or.inr (Or.inl h))) (fun h => h.elim (fun h => hai (Or.inr (Or.inr (Or.inl h)))) (fun h => h.elim (fun h => hai (Or.inr (Or.inr (Or.inr (Or.inl h))))) (fun h => hai (Or.inr (Or.inr (Or.inr (Or.inr h)))))))))).trans ((frM_56 x0 i0 (fun h => hai (Or.inr (Or.inr (Or.inl h))))).trans ((fr1 x0 i0 (fun h => h.elim (fun h => hai (Or.inl h)) (fun h => h.elim (fun h => hai (Or.inr (Or.inl h))) (fun h => h.elim (fun h => hai (Or.inr (Or.inr (Or.inl h)))) (fun h => h.elim (fun h => hai (Or.inr (Or.inr (Or.inr (Or.inl h))))) (fun h => hai (Or.inr (Or.inr (Or.inr (Or.inr h)))))))))).trans rfl))))
                    · exact mrM_70_0
                    · exact msM_70_0
                    · exact ((frM_70 58 8 (fun h => h.elim (fun h => absurd h (by decide)) (fun h => absurd h.1 (by decide)))).trans rfl)
                    · exact ((frM_70 58 2 (fun h => h.elim (fun h => absurd h (by decide)) (fun h => absurd h.1 (by decide)))).trans rfl)
                    · exact ((frM_70 58 3 (fun h => h.elim (fun h => absurd h (by decide)) (fun h => absurd h.1 (by decide)))).trans rfl)
                    · omega
                    · first | exact Or.inl rfl | exact Or.inr rfl
                    · first | exact fun h => absurd h (by decide) | exact fun _ => qb2
                    · first | exact fun h => absurd h (by decide) | exact fun _ => qb3
                    · first | exact fun h => absurd h (by decide) | exact fun _ => qb4
                    · first | exact fun h => absurd h (by decide) | exact fun _ => qb5
                    · first | exact fun h => absurd h (by decide) | exact fun _ => qb6
                    · first | exact fun h => absurd h (by decide) | exact fun _ => qb7
              · replace h43 := f_b_1 h43
                exfalso
                first | exact h43 h25 | exact h25 h43
  refine LP1 (401 - 0 : Int).toNat.succ (f_rb (f_prod L)) 0 (M_2 64) (M_2 63 1) (M_2 58 8) (M_2 58 2) (M_2 58 3) (f_rL (f_prod L)) (f_rO (f_prod L)) M_2 ?_ ?_ ?_ ?_ ?_ ?_ ?_ ?_ ?_ ?_ ?_ ?_ ?_ ?_ ?_
  · omega
  · exact fun a i _ => rfl
  · exact rfl
  · exact rfl
  · exact rfl
  · exact rfl
  · exact rfl
  · decide
  · exact f_rb_01 _
  · exact fun h => f_seq_0 (f_cok_0 fa2_0 h)
  · exact fun h => (f_cok_1 fa2_0 h).2.2.1
  · exact fun h => ⟨(f_cok_1 fa2_0 h).1, (f_cok_1 fa2_0 h).2.1⟩
  · intro h
    have g := f_prod_gd L _ _ (f_rb_1 h)
    exact ⟨g.2.1, by omega⟩
  · exact fun h => f_seq_1 h
  · exact fun h => (f_cok_1 fa2_0 h).2.2.2
