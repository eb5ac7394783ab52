/-! the class reads lines and laws -/
def f_lco (rd : Int) (K V S cd : Int → Int) (sz ln x2 x3 : Int) (r : f_Rl) (M2 : ax_Mem) : Prop := match r with
  | .inl (k, s) => M2 58 2 = k ∧ M2 58 3 = s
  | .inr (L2, l) => M2 64 = f_pi cd sz (f_enL rd l) ∧ M2 63 1 = sz + ((f_enL rd l).length : Int) ∧ M2 63 0 = ln + 1 ∧ f_cc rd K V S (M2 58 8) L2 ∧ M2 58 2 = x2 ∧ M2 58 3 = x3
theorem f_lco_no {rd : Int} {K V S cd : Int → Int} {sz ln x2 x3 : Int} {r : f_Rl} {M2 : ax_Mem} {k s : Int} (e : r = .inl (k, s)) (h1 : M2 58 2 = k) (h2 : M2 58 3 = s) : f_lco rd K V S cd sz ln x2 x3 r M2 := by
  rw [e]
  exact ⟨h1, h2⟩
theorem f_lco_ok {rd : Int} {K V S cd : Int → Int} {sz ln n x2 x3 : Int} {r : f_Rl} {M2 : ax_Mem} {L2 : List f_Tk} {l : f_Ln} (e : r = .inr (L2, l)) (h1 : M2 64 = f_pi cd sz (f_enL rd l)) (h2 : M2 63 1 = sz + ((f_enL rd l).length : Int)) (h3 : M2 63 0 = ln + 1) (h4 : M2 58 8 = n) (hc : f_cc rd K V S n L2) (h5 : M2 58 2 = x2) (h6 : M2 58 3 = x3) : f_lco rd K V S cd sz ln x2 x3 r M2 := by
  rw [e]
  refine ⟨h1, h2, h3, ?_, h5, h6⟩
  rw [h4]
  exact hc
theorem f_ln_c1 {cd A : Int → Int} {rd sz n : Int} {o : List f_Op} (qm : A = f_pi cd sz (f_en rd o)) (qs : n = sz + (f_wt o : Int)) : f_up A n (-21) = f_pi cd sz (f_enL rd (o, [])) ∧ n + 1 = sz + ((f_enL rd (o, [])).length : Int) := by
  have e : f_enL rd (o, []) = f_en rd o ++ [-21] := rfl
  rw [e, f_pi_app, List.length_append, f_en_wt, ← qm, ← qs]
  refine ⟨rfl, ?_⟩
  rw [qs, List.length_cons, List.length_nil]
  omega
theorem f_ln_c2 {cd c1 A : Int → Int} {rd sz s1 n : Int} {o a : List f_Op} (qm : c1 = f_pi cd sz (f_en rd o)) (qs : s1 = sz + (f_wt o : Int)) (qm3 : A = f_pi c1 s1 (f_en rd a)) (qs3 : n = s1 + (f_wt a : Int)) (ha : 1 ≤ f_wt a) : f_up A n (-22) = f_pi cd sz (f_enL rd (o, a)) ∧ n + 1 = sz + ((f_enL rd (o, a)).length : Int) := by
  have e : f_enL rd (o, a) = f_en rd o ++ (f_en rd a ++ [-22]) := by
    unfold f_enL
    dsimp only
    rw [if_neg]
    rintro rfl
    exact absurd ha (by decide)
  rw [e, f_pi_app, f_pi_app, List.length_append, List.length_append, f_en_wt, f_en_wt, ← qm, ← qs, ← qm3, ← qs3]
  refine ⟨rfl, ?_⟩
  rw [qs3, qs, List.length_cons, List.length_nil]
  omega
theorem f_enL_len (rd : Int) (ln : f_Ln) : (f_enL rd ln).length = f_wt ln.1 + f_wt ln.2 + 1 := by
  unfold f_enL
  split
  · rename_i h
    rw [List.length_append, f_en_wt, h]
    rfl
  · rw [List.length_append, List.length_append, f_en_wt, f_en_wt]
    rfl
def f_wco (rd : Int) (cd : Int → Int) (x2 x3 : Int) (r : f_Rw) (M2 : ax_Mem) : Prop := match r with
  | .inl (k, s) => M2 58 2 = k ∧ M2 58 3 = s
  | .inr ls => M2 64 = f_pi cd 0 (f_enLs rd ls) ∧ M2 63 1 = ((f_enLs rd ls).length : Int) ∧ M2 63 0 = (ls.length : Int) ∧ (f_enLs rd ls).length ≤ 400 ∧ M2 58 2 = x2 ∧ M2 58 3 = x3
theorem f_wco_no {rd : Int} {cd : Int → Int} {x2 x3 : Int} {r : f_Rw} {M2 : ax_Mem} {k s : Int} (e : r = .inl (k, s)) (h1 : M2 58 2 = k) (h2 : M2 58 3 = s) : f_wco rd cd x2 x3 r M2 := by
  rw [e]
  exact ⟨h1, h2⟩
set_option maxRecDepth 20000 in
theorem s_X3_readLine (E : ax_Env) (l : Launch) (d : Nat) (hd : 31 ≤ d) (M : ax_Mem) (rd : Int) (L : List f_Tk) {kk : Int → Int} (hkk : M 60 = kk) {vv : Int → Int} (hvv : M 61 = vv) {ss : Int → Int} (hss : M 62 = ss) {cd : Int → Int} (hcd : M 64 = cd) {nx : Int} (hnx : M 58 8 = nx) {sz : Int} (hsz : M 63 1 = sz) {x2 : Int} (hx2 : M 58 2 = x2) {x3 : Int} (hx3 : M 58 3 = x3) {ln : Int} (hln : M 63 0 = ln) (hg0 : 0 ≤ rd ∧ rd < 3) (hg1 : f_cc rd kk vv ss nx L) (hg2 : 0 ≤ sz ∧ sz + (L.length : Int) ≤ 401) (hg3 : 0 ≤ ln ∧ ln ≤ 16) : ax_G E l d iX3_readLine [.inr 63, .inr 58] M (fun z0 M2 => z0 = some (.inl (f_rlb (f_line ln L))) ∧ (∀ x0 i0 : Int, ¬ (x0 = 64 ∨ (x0 = 63 ∧ i0 = 1) ∨ (x0 = 58 ∧ i0 = 8) ∨ (x0 = 58 ∧ i0 = 2) ∨ (x0 = 58 ∧ i0 = 3) ∨ (x0 = 63 ∧ i0 = 0)) → M2 x0 i0 = M x0 i0) ∧ (f_lco rd kk vv ss cd sz ln x2 x3 (f_line ln L) M2)) := by
  obtain ⟨d, rfl⟩ : ∃ d0, d = d0 + 1 := ⟨d - 1, by omega⟩
  refine ax_start rfl (Nat.le_of_ble_eq_true rfl) (ls := [some (.inr 63), some (.inr 58), none]) rfl (fun hav hcm => ?_)
  clear hav
  have qK := f_kv_lw hg0 (f_cc_hd hg1).1.1
  have qs := (f_cc_hd hg1).1.2
  have qR := f_cc_rg hg1
  refine ax_aload_n dX3_readLine_0 rfl rfl (pc' := 1) rfl ?_
  refine ax_iconst dX3_readLine_1 (by decide) (pc' := 2) rfl ?_
  refine ax_invG [.inl 0] [] dX3_readLine_2 mlX3_38 sh_58 rfl rfl rfl (Nat.le_of_ble_eq_true rfl) (s_X8_isWord E l _ (by omega) _ 0 hkk hvv hnx (by first | omega | assumption)) (pc' := 5) rfl (fun vv M_2 hq co2 hcm2 => ?_)
  obtain ⟨rfl, rfl⟩ := hq
  refine ax_reS (st2 := [.inl (f_b (kk nx = 2 ∧ vv nx = 0))]) rfl ?_
  refine ax_if_ne (tgt := 14) dX3_readLine_5 (by decide) (pc' := 8) rfl (fun h5 => ?_) (fun h5 => ?_)
  · replace h5 := f_b_1 h5
    have qT : f_T L = 7 := (kl_w0 qK).mp h5
    refine ax_aload_n dX3_readLine_14 rfl rfl (pc' := 15) rfl ?_
    refine ax_geti (v := ln) dX3_readLine_15 flX3_15 rfl sh_63 hln rfl (pc' := 18) rfl ?_
    refine ax_bipush dX3_readLine_18 (by decide) (pc' := 20) rfl ?_
    refine ax_icmp_lt (tgt := 29) dX3_readLine_20 (by decide) (pc' := 23) rfl (fun h20 => ?_) (fun h20 => ?_)
    · have qb : f_line ln L = f_ln2 (f_sumU L.tail) := by
        unfold f_line
        rw [if_neg (fun h => h qT), if_neg (by omega)]
      obtain ⟨xc, xl, xn⟩ := f_cc_nx hg1 (by omega)
      have xK := f_kv_lw hg0 (f_cc_hd xc).1.1
      have xs := (f_cc_hd xc).1.2
      have xR := f_cc_rg xc
      refine ax_aload_n dX3_readLine_29 rfl rfl (pc' := 30) rfl ?_
      refine ax_invG [] [] dX3_readLine_30 mlX3_45 sh_58 rfl rfl rfl (Nat.le_of_ble_eq_true rfl) (s_X8_step E l _ (by omega) _ hkk hnx (by first | omega | assumption) (by first | omega | assumption)) (pc' := 33) rfl (fun vv M_30 hq co30 hcm30 => ?_)
      obtain ⟨rfl, frM_30, msM_30_0⟩ := hq
      refine ax_reS (st2 := []) rfl ?_
      refine ax_aload_n dX3_readLine_33 rfl rfl (pc' := 34) rfl ?_
      refine ax_aload_n dX3_readLine_34 rfl rfl (pc' := 35) rfl ?_
      refine ax_invG [.inr 58] [] dX3_readLine_35 mlX3_48 sh_63 rfl rfl rfl (Nat.le_of_ble_eq_true rfl) (s_X3_readSum E l _ (by omega) _ rd L.tail ((funext fun i0 => frM_30 60 i0 (fun h => absurd h.1 (by decide))).trans hkk) ((funext fun i0 => frM_30 61 i0 (fun h => absurd h.1 (by decide))).trans hvv) ((funext fun i0 => frM_30 62 i0 (fun h => absurd h.1 (by decide))).trans hss) ((funext fun i0 => frM_30 64 i0 (fun h => absurd h.1 (by decide))).trans hcd) msM_30_0 ((frM_30 63 1 (fun h => absurd h.1 (by decide))).trans hsz) ((frM_30 58 2 (fun h => absurd h.2 (by decide))).trans hx2) ((frM_30 58 3 (fun h => absurd h.2 (by decide))).trans hx3) (by first | omega | assumption) xc (by first | omega | assumption)) (pc' := 38) rfl (fun vv M_35 hq co35 hcm35 => ?_)
      obtain ⟨rfl, frM_35, fa35_0⟩ := hq
      refine ax_reS (st2 := [.inl (f_rb (f_sumU L.tail))]) rfl ?_
      have cc35 : -2147483648 ≤ f_rb (f_sumU L.tail) ∧ f_rb (f_sumU L.tail) < 2147483648 := co35 _ rfl
      refine ax_if_ne (tgt := 43) dX3_readLine_38 (by decide) (pc' := 41) rfl (fun h38 => ?_) (fun h38 => ?_)
      · have qr1 := (f_rb_01 _).resolve_left h38
        obtain ⟨qm, qs2, qc, qy2, qy3⟩ := f_cok_1 fa35_0 qr1
        have qgd := f_sumU_gd L.tail _ _ (f_rb_1 qr1)
        have qb2 : f_line ln L = if f_T (f_rL (f_sumU L.tail)) = 3 then f_ln3 (f_rO (f_sumU L.tail)) (f_any (f_one 8) (f_rL (f_sumU L.tail)).tail) else f_lnE (f_rO (f_sumU L.tail)) [] (f_ned 159 (f_rL (f_sumU L.tail))) := by
          rw [qb]
          exact congrArg f_ln2 (f_rb_1 qr1)
        have yK := f_kv_lw hg0 (f_cc_hd qc).1.1
        have ys := (f_cc_hd qc).1.2
        have yR := f_cc_rg qc
        refine ax_aload_n dX3_readLine_43 rfl rfl (pc' := 44) rfl ?_
        refine ax_iconst dX3_readLine_44 (by decide) (pc' := 45) rfl ?_
        refine ax_invG [.inl 1] [] dX3_readLine_45 mlX3_38 sh_58 rfl rfl rfl (Nat.le_of_ble_eq_true rfl) (s_X8_isWord E l _ (by omega) _ 1 ((funext fun i0 => frM_35 60 i0 (fun h => h.elim (fun h => absurd h (by decide)) (fun h => h.elim (fun h => absurd h.1 (by decide)) (fun h => h.elim (fun h => absurd h.1 (by decide)) (fun h => h.elim (fun h => absurd h.1 (by decide)) (fun h => absurd h.1 (by decide))))))).trans ((funext fun i0 => frM_30 60 i0 (fun h => absurd h.1 (by decide))).trans hkk)) ((funext fun i0 => frM_35 61 i0 (fun h => h.elim (fun h => absurd h (by decide)) (fun h => h.elim (fun h => absurd h.1 (by decide)) (fun h => h.elim (fun h => absurd h.1 (by decide)) (fun h => h.elim (fun h => absurd h.1 (by decide)) (fun h => absurd h.1 (by decide))))))).trans ((funext fun i0 => frM_30 61 i0 (fun h => absurd h.1 (by decide))).trans hvv)) rfl (by first | omega | assumption)) (pc' := 48) rfl (fun vv M_45 hq co45 hcm45 => ?_)
        obtain ⟨rfl, rfl⟩ := hq
        refine ax_reS (st2 := [.inl (f_b (kk (M_35 58 8) = 2 ∧ vv (M_35 58 8) = 1))]) rfl ?_
        refine ax_istore_n dX3_readLine_48 rfl (by decide) (ls' := [some (.inr 63), some (.inr 58), some (.inl (f_b (kk (M_35 58 8) = 2 ∧ vv (M_35 58 8) = 1)))]) rfl (pc' := 49) rfl ?_
        refine ax_iload_n dX3_readLine_49 rfl rfl (pc' := 50) rfl ?_
        refine ax_if_eq (tgt := 69) dX3_readLine_50 (by decide) (pc' := 53) rfl (fun h50 => ?_) (fun h50 => ?_)
        · replace h50 := f_b_0 h50
          refine ax_aload_n dX3_readLine_69 rfl rfl (pc' := 70) rfl ?_
          refine ax_dup dX3_readLine_70 (pc' := 71) rfl ?_
          refine ax_geti (v := ln) dX3_readLine_71 flX3_15 rfl sh_63 ((frM_35 63 0 (fun h => h.elim (fun h => absurd h (by decide)) (fun h => h.elim (fun h => absurd h.2 (by decide)) (fun h => h.elim (fun h => absurd h.1 (by decide)) (fun h => h.elim (fun h => absurd h.1 (by decide)) (fun h => absurd h.1 (by decide))))))).trans ((frM_30 63 0 (fun h => absurd h.1 (by decide))).trans hln)) rfl (pc' := 74) rfl ?_
          refine ax_iconst dX3_readLine_74 (by decide) (pc' := 75) rfl ?_
          refine ax_iadd dX3_readLine_75 (by omega) (pc' := 76) rfl ?_
          refine ax_puti dX3_readLine_76 flX3_15 (Or.inl rfl) sh_63 rfl (pc' := 79) rfl ?_
          have qzz : f_line ln L = f_lnE (f_rO (f_sumU L.tail)) [] (f_ned 159 (f_rL (f_sumU L.tail))) := by
            rw [qb2, if_neg (fun a => h50 ((kl_w1 yK).mpr a))]
          have qb4 := f_ln_c1 qm qs2
          refine ax_aload_n dX3_readLine_79 rfl rfl (pc' := 80) rfl ?_
          refine ax_iload_n dX3_readLine_80 rfl rfl (pc' := 81) rfl ?_
          refine ax_if_eq (tgt := 89) dX3_readLine_81 (by decide) (pc' := 84) rfl (fun h81 => ?_) (fun h81 => ?_)
          · replace h81 := f_b_0 h81
            refine ax_bipush dX3_readLine_89 (by decide) (pc' := 91) rfl ?_
            refine ax_invG [.inl (-21)] [] dX3_readLine_91 mlX3_55 sh_63 rfl rfl rfl (Nat.le_of_ble_eq_true rfl) (s_X3_put E l _ (by omega) _ (-21) (ax_up_rowmiss (by decide) rfl) (ax_up_miss (by decide) rfl) (by first | omega | assumption)) (pc' := 94) rfl (fun vv M_91 hq co91 hcm91 => ?_)
            obtain ⟨rfl, frM_91, mrM_91_0, msM_91_0⟩ := hq
            refine ax_reS (st2 := [.inl 1]) rfl ?_
            refine ax_if_eq (tgt := 111) dX3_readLine_94 (by decide) (pc' := 97) rfl (fun h94 => ?_) (fun h94 => ?_)
            · exfalso
              omega
            · refine ax_aload_n dX3_readLine_97 rfl rfl (pc' := 98) rfl ?_
              refine ax_iconst dX3_readLine_98 (by decide) (pc' := 99) rfl ?_
              refine ax_bipush dX3_readLine_99 (by decide) (pc' := 101) rfl ?_
              by_cases hp : kk (M_35 58 8) = 1 ∧ vv (M_35 58 8) = 59
              · refine ax_invG [.inl 1, .inl 59] [] dX3_readLine_101 mlX3_58 sh_58 rfl rfl rfl (Nat.le_of_ble_eq_true rfl) (s_X8_pass_ok E l _ (by omega) _ 1 59 ((funext fun i0 => frM_91 60 i0 (fun h => h.elim (fun h => absurd h (by decide)) (fun h => absurd h.1 (by decide)))).trans (ax_up_rowmiss (by decide) ((funext fun i0 => frM_35 60 i0 (fun h => h.elim (fun h => absurd h (by decide)) (fun h => h.elim (fun h => absurd h.1 (by decide)) (fun h => h.elim (fun h => absurd h.1 (by decide)) (fun h => h.elim (fun h => absurd h.1 (by decide)) (fun h => absurd h.1 (by decide))))))).trans ((funext fun i0 => frM_30 60 i0 (fun h => absurd h.1 (by decide))).trans hkk)))) ((funext fun i0 => frM_91 61 i0 (fun h => h.elim (fun h => absurd h (by decide)) (fun h => absurd h.1 (by decide)))).trans (ax_up_rowmiss (by decide) ((funext fun i0 => frM_35 61 i0 (fun h => h.elim (fun h => absurd h (by decide)) (fun h => h.elim (fun h => absurd h.1 (by decide)) (fun h => h.elim (fun h => absurd h.1 (by decide)) (fun h => h.elim (fun h => absurd h.1 (by decide)) (fun h => absurd h.1 (by decide))))))).trans ((funext fun i0 => frM_30 61 i0 (fun h => absurd h.1 (by decide))).trans hvv)))) ((frM_91 58 8 (fun h => h.elim (fun h => absurd h (by decide)) (fun h => absurd h.1 (by decide)))).trans (ax_up_miss (fun h => absurd h.1 (by decide)) rfl)) ⟨(f_cc_rg qc).1, (f_cc_nx qc (fun h0 => absurd (h0.symm.trans ((kl_s yK 59 (by decide)).mp hp)) (by decide))).2.2⟩ hp (by decide)) (pc' := 104) rfl (fun vv M_101 hq co101 hcm101 => ?_)
                obtain ⟨rfl, frM_101, msM_101_0⟩ := hq
                refine ax_reS (st2 := [.inl 1]) rfl ?_
                have qTp : f_T (f_rL (f_sumU L.tail)) = 159 := (kl_s yK 59 (by decide)).mp hp
                obtain ⟨zc, zl, zn⟩ := f_cc_nx qc (by omega)
                have qz : f_line ln L = .inr ((f_rL (f_sumU L.tail)).tail, ((f_rO (f_sumU L.tail)), [])) := by
                  rw [qzz]
                  unfold f_ned
                  rw [if_pos qTp]
                  rfl
                refine ax_if_eq (tgt := 111) dX3_readLine_104 (by decide) (pc' := 107) rfl (fun h104 => ?_) (fun h104 => ?_)
                · exfalso
                  omega
                · refine ax_iconst dX3_readLine_107 (by decide) (pc' := 108) rfl ?_
                  refine ax_goto dX3_readLine_108 (pc' := 112) (by decide) ?_
                  refine ax_zret dX3_readLine_112 rfl (by decide) ?_
                  refine ⟨rfl, ?_, ?_, ?_⟩
                  · refine congrArg (fun z => some (Sum.inl z)) ?_
                    rw [qz]
                    rfl
                  · intro x0 i0 hai
                    exact ((frM_101 x0 i0 (fun h => hai (Or.inr (Or.inr (Or.inl h))))).trans ((frM_91 x0 i0 (fun h => h.elim (fun h => hai (Or.inl h)) (fun h => hai (Or.inr (Or.inl h))))).trans (ax_up_miss (fun h => hai (Or.inr (Or.inr (Or.inr (Or.inr (Or.inr h)))))) ((frM_35 x0 i0 (fun h => h.elim (fun h => hai (Or.inl h)) (fun h => h.elim (fun h => hai (Or.inr (Or.inl h))) (fun h => h.elim (fun h => hai (Or.inr (Or.inr (Or.inl h)))) (fun h => h.elim (fun h => hai (Or.inr (Or.inr (Or.inr (Or.inl h))))) (fun h => hai (Or.inr (Or.inr (Or.inr (Or.inr (Or.inl h))))))))))).trans ((frM_30 x0 i0 (fun h => hai (Or.inr (Or.inr (Or.inl h))))).trans rfl)))))
                  · exact f_lco_ok qz (Eq.trans ((funext fun i0 => frM_101 64 i0 (fun h => absurd h.1 (by decide))).trans mrM_91_0) qb4.1) (Eq.trans ((frM_101 63 1 (fun h => absurd h.1 (by decide))).trans msM_91_0) qb4.2) ((frM_101 63 0 (fun h => absurd h.1 (by decide))).trans ((frM_91 63 0 (fun h => h.elim (fun h => absurd h (by decide)) (fun h => absurd h.2 (by decide)))).trans (ax_up_hit _ _ _ _))) msM_101_0 zc (Eq.trans ((frM_101 58 2 (fun h => absurd h.2 (by decide))).trans ((frM_91 58 2 (fun h => h.elim (fun h => absurd h (by decide)) (fun h => absurd h.1 (by decide)))).trans (ax_up_miss (fun h => absurd h.1 (by decide)) rfl))) qy2) (Eq.trans ((frM_101 58 3 (fun h => absurd h.2 (by decide))).trans ((frM_91 58 3 (fun h => h.elim (fun h => absurd h (by decide)) (fun h => absurd h.1 (by decide)))).trans (ax_up_miss (fun h => absurd h.1 (by decide)) rfl))) qy3)
              · refine ax_invG [.inl 1, .inl 59] [] dX3_readLine_101 mlX3_58 sh_58 rfl rfl rfl (Nat.le_of_ble_eq_true rfl) (s_X8_pass_no E l _ (by omega) _ 1 59 ((funext fun i0 => frM_91 60 i0 (fun h => h.elim (fun h => absurd h (by decide)) (fun h => absurd h.1 (by decide)))).trans (ax_up_rowmiss (by decide) ((funext fun i0 => frM_35 60 i0 (fun h => h.elim (fun h => absurd h (by decide)) (fun h => h.elim (fun h => absurd h.1 (by decide)) (fun h => h.elim (fun h => absurd h.1 (by decide)) (fun h => h.elim (fun h => absurd h.1 (by decide)) (fun h => absurd h.1 (by decide))))))).trans ((funext fun i0 => frM_30 60 i0 (fun h => absurd h.1 (by decide))).trans hkk)))) ((funext fun i0 => frM_91 61 i0 (fun h => h.elim (fun h => absurd h (by decide)) (fun h => absurd h.1 (by decide)))).trans (ax_up_rowmiss (by decide) ((funext fun i0 => frM_35 61 i0 (fun h => h.elim (fun h => absurd h (by decide)) (fun h => h.elim (fun h => absurd h.1 (by decide)) (fun h => h.elim (fun h => absurd h.1 (by decide)) (fun h => h.elim (fun h => absurd h.1 (by decide)) (fun h => absurd h.1 (by decide))))))).trans ((funext fun i0 => frM_30 61 i0 (fun h => absurd h.1 (by decide))).trans hvv)))) ((funext fun i0 => frM_91 62 i0 (fun h => h.elim (fun h => absurd h (by decide)) (fun h => absurd h.1 (by decide)))).trans (ax_up_rowmiss (by decide) ((funext fun i0 => frM_35 62 i0 (fun h => h.elim (fun h => absurd h (by decide)) (fun h => h.elim (fun h => absurd h.1 (by decide)) (fun h => h.elim (fun h => absurd h.1 (by decide)) (fun h => h.elim (fun h => absurd h.1 (by decide)) (fun h => absurd h.1 (by decide))))))).trans ((funext fun i0 => frM_30 62 i0 (fun h => absurd h.1 (by decide))).trans hss)))) ((frM_91 58 8 (fun h => h.elim (fun h => absurd h (by decide)) (fun h => absurd h.1 (by decide)))).trans (ax_up_miss (fun h => absurd h.1 (by decide)) rfl)) ⟨(f_cc_rg qc).1, (f_cc_rg qc).2.1⟩ hp) (pc' := 104) rfl (fun vv M_101 hq co101 hcm101 => ?_)
                obtain ⟨rfl, frM_101, msM_101_0, msM_101_1⟩ := hq
                refine ax_reS (st2 := [.inl 0]) rfl ?_
                have qTp : ¬ f_T (f_rL (f_sumU L.tail)) = 159 := fun h => hp ((kl_s yK 59 (by decide)).mpr h)
                have qz : f_line ln L = .inl (1, ss (M_35 58 8)) := by
                  rw [qzz]
                  unfold f_ned
                  rw [if_neg qTp, ys]
                  rfl
                refine ax_if_eq (tgt := 111) dX3_readLine_104 (by decide) (pc' := 107) rfl (fun h104 => ?_) (fun h104 => ?_)
                · refine ax_iconst dX3_readLine_111 (by decide) (pc' := 112) rfl ?_
                  refine ax_zret dX3_readLine_112 rfl (by decide) ?_
                  refine ⟨rfl, ?_, ?_, ?_⟩
                  · refine congrArg (fun z => some (Sum.inl z)) ?_
                    rw [qz]
                    rfl
                  · intro x0 i0 hai
                    exact ((frM_101 x0 i0 (fun h => h.elim (fun h => hai (Or.inr (Or.inr (Or.inr (Or.inl h))))) (fun h => hai (Or.inr (Or.inr (Or.inr (Or.inr (Or.inl h)))))))).trans ((frM_91 x0 i0 (fun h => h.elim (fun h => hai (Or.inl h)) (fun h => hai (Or.inr (Or.inl h))))).trans (ax_up_miss (fun h => hai (Or.inr (Or.inr (Or.inr (Or.inr (Or.inr h)))))) ((frM_35 x0 i0 (fun h => h.elim (fun h => hai (Or.inl h)) (fun h => h.elim (fun h => hai (Or.inr (Or.inl h))) (fun h => h.elim (fun h => hai (Or.inr (Or.inr (Or.inl h)))) (fun h => h.elim (fun h => hai (Or.inr (Or.inr (Or.inr (Or.inl h))))) (fun h => hai (Or.inr (Or.inr (Or.inr (Or.inr (Or.inl h))))))))))).trans ((frM_30 x0 i0 (fun h => hai (Or.inr (Or.inr (Or.inl h))))).trans rfl)))))
                  · exact f_lco_no qz msM_101_0 msM_101_1
                · exfalso
                  omega
          · replace h81 := f_b_1 h81
            exfalso
            first | exact h81 h50 | exact h50 h81
        · replace h50 := f_b_1 h50
          have qT3 : f_T (f_rL (f_sumU L.tail)) = 3 := (kl_w1 yK).mp h50
          have qb3 : f_line ln L = f_ln3 (f_rO (f_sumU L.tail)) (f_any (f_one 8) (f_rL (f_sumU L.tail)).tail) := by
            rw [qb2, if_pos qT3]
          obtain ⟨uc, ul, un⟩ := f_cc_nx qc (by omega)
          have uK := f_kv_lw hg0 (f_cc_hd uc).1.1
          have us := (f_cc_hd uc).1.2
          have uR := f_cc_rg uc
          refine ax_aload_n dX3_readLine_53 rfl rfl (pc' := 54) rfl ?_
          refine ax_invG [] [] dX3_readLine_54 mlX3_45 sh_58 rfl rfl rfl (Nat.le_of_ble_eq_true rfl) (s_X8_step E l _ (by omega) _ ((funext fun i0 => frM_35 60 i0 (fun h => h.elim (fun h => absurd h (by decide)) (fun h => h.elim (fun h => absurd h.1 (by decide)) (fun h => h.elim (fun h => absurd h.1 (by decide)) (fun h => h.elim (fun h => absurd h.1 (by decide)) (fun h => absurd h.1 (by decide))))))).trans ((funext fun i0 => frM_30 60 i0 (fun h => absurd h.1 (by decide))).trans hkk)) rfl (by first | omega | assumption) (by first | omega | assumption)) (pc' := 57) rfl (fun vv M_54 hq co54 hcm54 => ?_)
          obtain ⟨rfl, frM_54, msM_54_0⟩ := hq
          refine ax_reS (st2 := []) rfl ?_
          refine ax_aload_n dX3_readLine_57 rfl rfl (pc' := 58) rfl ?_
          refine ax_aload_n dX3_readLine_58 rfl rfl (pc' := 59) rfl ?_
          refine ax_iconst dX3_readLine_59 (by decide) (pc' := 60) rfl ?_
          refine ax_iconst dX3_readLine_60 (by decide) (pc' := 61) rfl ?_
          refine ax_invG [.inr 58, .inl 0, .inl 0] [] dX3_readLine_61 mlX3_51 sh_63 rfl rfl rfl (Nat.le_of_ble_eq_true rfl) (s_ck_an 8 (f_K1_all 8) E l _ (by omega) _ 0 rd ((f_rL (f_sumU L.tail)).tail) ((funext fun i0 => frM_54 60 i0 (fun h => absurd h.1 (by decide))).trans ((funext fun i0 => frM_35 60 i0 (fun h => h.elim (fun h => absurd h (by decide)) (fun h => h.elim (fun h => absurd h.1 (by decide)) (fun h => h.elim (fun h => absurd h.1 (by decide)) (fun h => h.elim (fun h => absurd h.1 (by decide)) (fun h => absurd h.1 (by decide))))))).trans ((funext fun i0 => frM_30 60 i0 (fun h => absurd h.1 (by decide))).trans hkk))) ((funext fun i0 => frM_54 61 i0 (fun h => absurd h.1 (by decide))).trans ((funext fun i0 => frM_35 61 i0 (fun h => h.elim (fun h => absurd h (by decide)) (fun h => h.elim (fun h => absurd h.1 (by decide)) (fun h => h.elim (fun h => absurd h.1 (by decide)) (fun h => h.elim (fun h => absurd h.1 (by decide)) (fun h => absurd h.1 (by decide))))))).trans ((funext fun i0 => frM_30 61 i0 (fun h => absurd h.1 (by decide))).trans hvv))) ((funext fun i0 => frM_54 62 i0 (fun h => absurd h.1 (by decide))).trans ((funext fun i0 => frM_35 62 i0 (fun h => h.elim (fun h => absurd h (by decide)) (fun h => h.elim (fun h => absurd h.1 (by decide)) (fun h => h.elim (fun h => absurd h.1 (by decide)) (fun h => h.elim (fun h => absurd h.1 (by decide)) (fun h => absurd h.1 (by decide))))))).trans ((funext fun i0 => frM_30 62 i0 (fun h => absurd h.1 (by decide))).trans hss))) ((funext fun i0 => frM_54 64 i0 (fun h => absurd h.1 (by decide))).trans rfl) msM_54_0 ((frM_54 63 1 (fun h => absurd h.1 (by decide))).trans rfl) ((frM_54 58 2 (fun h => absurd h.2 (by decide))).trans rfl) ((frM_54 58 3 (fun h => absurd h.2 (by decide))).trans rfl) (by first | omega | assumption) uc (by first | omega | assumption) (by first | omega | assumption)) (pc' := 64) rfl (fun vv M_61 hq co61 hcm61 => ?_)
          obtain ⟨rfl, frM_61, fa61_0⟩ := hq
          refine ax_reS (st2 := [.inl (f_rb (f_any (f_one 8) ((f_rL (f_sumU L.tail)).tail)))]) rfl ?_
          have cc61 : -2147483648 ≤ f_rb (f_any (f_one 8) ((f_rL (f_sumU L.tail)).tail)) ∧ f_rb (f_any (f_one 8) ((f_rL (f_sumU L.tail)).tail)) < 2147483648 := co61 _ rfl
          refine ax_if_ne (tgt := 69) dX3_readLine_64 (by decide) (pc' := 67) rfl (fun h64 => ?_) (fun h64 => ?_)
          · have qr2 := (f_rb_01 _).resolve_left h64
            obtain ⟨qm3, qs3, qc3, qz2, qz3⟩ := f_cok_1 fa61_0 qr2
            have qgd2 := f_any_gd (f_one_gd 8) (f_rL (f_sumU L.tail)).tail _ _ (f_rb_1 qr2)
            have eK := f_kv_lw hg0 (f_cc_hd qc3).1.1
            have es := (f_cc_hd qc3).1.2
            have eR := f_cc_rg qc3
            refine ax_aload_n dX3_readLine_69 rfl rfl (pc' := 70) rfl ?_
            refine ax_dup dX3_readLine_70 (pc' := 71) rfl ?_
            refine ax_geti (v := ln) dX3_readLine_71 flX3_15 rfl sh_63 ((frM_61 63 0 (fun h => h.elim (fun h => absurd h (by decide)) (fun h => h.elim (fun h => absurd h.2 (by decide)) (fun h => h.elim (fun h => absurd h.1 (by decide)) (fun h => h.elim (fun h => absurd h.1 (by decide)) (fun h => absurd h.1 (by decide))))))).trans ((frM_54 63 0 (fun h => absurd h.1 (by decide))).trans ((frM_35 63 0 (fun h => h.elim (fun h => absurd h (by decide)) (fun h => h.elim (fun h => absurd h.2 (by decide)) (fun h => h.elim (fun h => absurd h.1 (by decide)) (fun h => h.elim (fun h => absurd h.1 (by decide)) (fun h => absurd h.1 (by decide))))))).trans ((frM_30 63 0 (fun h => absurd h.1 (by decide))).trans hln)))) rfl (pc' := 74) rfl ?_
            refine ax_iconst dX3_readLine_74 (by decide) (pc' := 75) rfl ?_
            refine ax_iadd dX3_readLine_75 (by omega) (pc' := 76) rfl ?_
            refine ax_puti dX3_readLine_76 flX3_15 (Or.inl rfl) sh_63 rfl (pc' := 79) rfl ?_
            have qzz : f_line ln L = f_lnE (f_rO (f_sumU L.tail)) (f_rO (f_any (f_one 8) (f_rL (f_sumU L.tail)).tail)) (f_ned 159 (f_rL (f_any (f_one 8) (f_rL (f_sumU L.tail)).tail))) := by
              rw [qb3, f_rb_1 qr2]
              rfl
            have qb4 := f_ln_c2 qm qs2 qm3 qs3 qgd2.1
            refine ax_aload_n dX3_readLine_79 rfl rfl (pc' := 80) rfl ?_
            refine ax_iload_n dX3_readLine_80 rfl rfl (pc' := 81) rfl ?_
            refine ax_if_eq (tgt := 89) dX3_readLine_81 (by decide) (pc' := 84) rfl (fun h81 => ?_) (fun h81 => ?_)
            · replace h81 := f_b_0 h81
              exfalso
              first | exact h81 h50 | exact h50 h81
            · replace h81 := f_b_1 h81
              refine ax_bipush dX3_readLine_84 (by decide) (pc' := 86) rfl ?_
              refine ax_goto dX3_readLine_86 (pc' := 91) (by decide) ?_
              refine ax_invG [.inl (-22)] [] dX3_readLine_91 mlX3_55 sh_63 rfl rfl rfl (Nat.le_of_ble_eq_true rfl) (s_X3_put E l _ (by omega) _ (-22) (ax_up_rowmiss (by decide) rfl) (ax_up_miss (by decide) rfl) (by first | omega | assumption)) (pc' := 94) rfl (fun vv M_91 hq co91 hcm91 => ?_)
              obtain ⟨rfl, frM_91, mrM_91_0, msM_91_0⟩ := hq
              refine ax_reS (st2 := [.inl 1]) rfl ?_
              refine ax_if_eq (tgt := 111) dX3_readLine_94 (by decide) (pc' := 97) rfl (fun h94 => ?_) (fun h94 => ?_)
              · exfalso
                omega
              · refine ax_aload_n dX3_readLine_97 rfl rfl (pc' := 98) rfl ?_
                refine ax_iconst dX3_readLine_98 (by decide) (pc' := 99) rfl ?_
                refine ax_bipush dX3_readLine_99 (by decide) (pc' := 101) rfl ?_
                by_cases hp : kk (M_61 58 8) = 1 ∧ vv (M_61 58 8) = 59
                · refine ax_invG [.inl 1, .inl 59] [] dX3_readLine_101 mlX3_58 sh_58 rfl rfl rfl (Nat.le_of_ble_eq_true rfl) (s_X8_pass_ok E l _ (by omega) _ 1 59 ((funext fun i0 => frM_91 60 i0 (fun h => h.elim (fun h => absurd h (by decide)) (fun h => absurd h.1 (by decide)))).trans (ax_up_rowmiss (by decide) ((funext fun i0 => frM_61 60 i0 (fun h => h.elim (fun h => absurd h (by decide)) (fun h => h.elim (fun h => absurd h.1 (by decide)) (fun h => h.elim (fun h => absurd h.1 (by decide)) (fun h => h.elim (fun h => absurd h.1 (by decide)) (fun h => absurd h.1 (by decide))))))).trans ((funext fun i0 => frM_54 60 i0 (fun h => absurd h.1 (by decide))).trans ((funext fun i0 => frM_35 60 i0 (fun h => h.elim (fun h => absurd h (by decide)) (fun h => h.elim (fun h => absurd h.1 (by decide)) (fun h => h.elim (fun h => absurd h.1 (by decide)) (fun h => h.elim (fun h => absurd h.1 (by decide)) (fun h => absurd h.1 (by decide))))))).trans ((funext fun i0 => frM_30 60 i0 (fun h => absurd h.1 (by decide))).trans hkk)))))) ((funext fun i0 => frM_91 61 i0 (fun h => h.elim (fun h => absurd h (by decide)) (fun h => absurd h.1 (by decide)))).trans (ax_up_rowmiss (by decide) ((funext fun i0 => frM_61 61 i0 (fun h => h.elim (fun h => absurd h (by decide)) (fun h => h.elim (fun h => absurd h.1 (by decide)) (fun h => h.elim (fun h => absurd h.1 (by decide)) (fun h => h.elim (fun h => absurd h.1 (by decide)) (fun h => absurd h.1 (by decide))))))).trans ((funext fun i0 => frM_54 61 i0 (fun h => absurd h.1 (by decide))).trans ((funext fun i0 => frM_35 61 i0 (fun h => h.elim (fun h => absurd h (by decide)) (fun h => h.elim (fun h => absurd h.1 (by decide)) (fun h => h.elim (fun h => absurd h.1 (by decide)) (fun h => h.elim (fun h => absurd h.1 (by decide)) (fun h => absurd h.1 (by decide))))))).trans ((funext fun i0 => frM_30 61 i0 (fun h => absurd h.1 (by decide))).trans hvv)))))) ((frM_91 58 8 (fun h => h.elim (fun h => absurd h (by decide)) (fun h => absurd h.1 (by decide)))).trans (ax_up_miss (fun h => absurd h.1 (by decide)) rfl)) ⟨(f_cc_rg qc3).1, (f_cc_nx qc3 (fun h0 => absurd (h0.symm.trans ((kl_s eK 59 (by decide)).mp hp)) (by decide))).2.2⟩ hp (by decide)) (pc' := 104) rfl (fun vv M_101 hq co101 hcm101 => ?_)
                  obtain ⟨rfl, frM_101, msM_101_0⟩ := hq
                  refine ax_reS (st2 := [.inl 1]) rfl ?_
                  have qTp : f_T (f_rL (f_any (f_one 8) (f_rL (f_sumU L.tail)).tail)) = 159 := (kl_s eK 59 (by decide)).mp hp
                  obtain ⟨zc, zl, zn⟩ := f_cc_nx qc3 (by omega)
                  have qz : f_line ln L = .inr ((f_rL (f_any (f_one 8) (f_rL (f_sumU L.tail)).tail)).tail, ((f_rO (f_sumU L.tail)), f_rO (f_any (f_one 8) (f_rL (f_sumU L.tail)).tail))) := by
                    rw [qzz]
                    unfold f_ned
                    rw [if_pos qTp]
                    rfl
                  refine ax_if_eq (tgt := 111) dX3_readLine_104 (by decide) (pc' := 107) rfl (fun h104 => ?_) (fun h104 => ?_)
                  · exfalso
                    omega
                  · refine ax_iconst dX3_readLine_107 (by decide) (pc' := 108) rfl ?_
                    refine ax_goto dX3_readLine_108 (pc' := 112) (by decide) ?_
                    refine ax_zret dX3_readLine_112 rfl (by decide) ?_
                    refine ⟨rfl, ?_, ?_, ?_⟩
                    · refine congrArg (fun z => some (Sum.inl z)) ?_
                      rw [qz]
                      rfl
                    · intro x0 i0 hai
                      exact ((frM_101 x0 i0 (fun h => hai (Or.inr (Or.inr (Or.inl h))))).trans ((frM_91 x0 i0 (fun h => h.elim (fun h => hai (Or.inl h)) (fun h => hai (Or.inr (Or.inl h))))).trans (ax_up_miss (fun h => hai (Or.inr (Or.inr (Or.inr (Or.inr (Or.inr h)))))) ((frM_61 x0 i0 (fun h => h.elim (fun h => hai (Or.inl h)) (fun h => h.elim (fun h => hai (Or.inr (Or.inl h))) (fun h => h.elim (fun h => hai (Or.inr (Or.inr (Or.inl h)))) (fun h => h.elim (fun h => hai (Or.inr (Or.inr (Or.inr (Or.inl h))))) (fun h => hai (Or.inr (Or.inr (Or.inr (Or.inr (Or.inl h))))))))))).trans ((frM_54 x0 i0 (fun h => hai (Or.inr (Or.inr (Or.inl h))))).trans ((frM_35 x0 i0 (fun h => h.elim (fun h => hai (Or.inl h)) (fun h => h.elim (fun h => hai (Or.inr (Or.inl h))) (fun h => h.elim (fun h => hai (Or.inr (Or.inr (Or.inl h)))) (fun h => h.elim (fun h => hai (Or.inr (Or.inr (Or.inr (Or.inl h))))) (fun h => hai (Or.inr (Or.inr (Or.inr (Or.inr (Or.inl h))))))))))).trans ((frM_30 x0 i0 (fun h => hai (Or.inr (Or.inr (Or.inl h))))).trans rfl)))))))
                    · exact f_lco_ok qz (Eq.trans ((funext fun i0 => frM_101 64 i0 (fun h => absurd h.1 (by decide))).trans mrM_91_0) qb4.1) (Eq.trans ((frM_101 63 1 (fun h => absurd h.1 (by decide))).trans msM_91_0) qb4.2) ((frM_101 63 0 (fun h => absurd h.1 (by decide))).trans ((frM_91 63 0 (fun h => h.elim (fun h => absurd h (by decide)) (fun h => absurd h.2 (by decide)))).trans (ax_up_hit _ _ _ _))) msM_101_0 zc (Eq.trans ((frM_101 58 2 (fun h => absurd h.2 (by decide))).trans ((frM_91 58 2 (fun h => h.elim (fun h => absurd h (by decide)) (fun h => absurd h.1 (by decide)))).trans (ax_up_miss (fun h => absurd h.1 (by decide)) rfl))) (qz2.trans qy2)) (Eq.trans ((frM_101 58 3 (fun h => absurd h.2 (by decide))).trans ((frM_91 58 3 (fun h => h.elim (fun h => absurd h (by decide)) (fun h => absurd h.1 (by decide)))).trans (ax_up_miss (fun h => absurd h.1 (by decide)) rfl))) (qz3.trans qy3))
                · refine ax_invG [.inl 1, .inl 59] [] dX3_readLine_101 mlX3_58 sh_58 rfl rfl rfl (Nat.le_of_ble_eq_true rfl) (s_X8_pass_no E l _ (by omega) _ 1 59 ((funext fun i0 => frM_91 60 i0 (fun h => h.elim (fun h => absurd h (by decide)) (fun h => absurd h.1 (by decide)))).trans (ax_up_rowmiss (by decide) ((funext fun i0 => frM_61 60 i0 (fun h => h.elim (fun h => absurd h (by decide)) (fun h => h.elim (fun h => absurd h.1 (by decide)) (fun h => h.elim (fun h => absurd h.1 (by decide)) (fun h => h.elim (fun h => absurd h.1 (by decide)) (fun h => absurd h.1 (by decide))))))).trans ((funext fun i0 => frM_54 60 i0 (fun h => absurd h.1 (by decide))).trans ((funext fun i0 => frM_35 60 i0 (fun h => h.elim (fun h => absurd h (by decide)) (fun h => h.elim (fun h => absurd h.1 (by decide)) (fun h => h.elim (fun h => absurd h.1 (by decide)) (fun h => h.elim (fun h => absurd h.1 (by decide)) (fun h => absurd h.1 (by decide))))))).trans ((funext fun i0 => frM_30 60 i0 (fun h => absurd h.1 (by decide))).trans hkk)))))) ((funext fun i0 => frM_91 61 i0 (fun h => h.elim (fun h => absurd h (by decide)) (fun h => absurd h.1 (by decide)))).trans (ax_up_rowmiss (by decide) ((funext fun i0 => frM_61 61 i0 (fun h => h.elim (fun h => absurd h (by decide)) (fun h => h.elim (fun h => absurd h.1 (by decide)) (fun h => h.elim (fun h => absurd h.1 (by decide)) (fun h => h.elim (fun h => absurd h.1 (by decide)) (fun h => absurd h.1 (by decide))))))).trans ((funext fun i0 => frM_54 61 i0 (fun h => absurd h.1 (by decide))).trans ((funext fun i0 => frM_35 61 i0 (fun h => h.elim (fun h => absurd h (by decide)) (fun h => h.elim (fun h => absurd h.1 (by decide)) (fun h => h.elim (fun h => absurd h.1 (by decide)) (fun h => h.elim (fun h => absurd h.1 (by decide)) (fun h => absurd h.1 (by decide))))))).trans ((funext fun i0 => frM_30 61 i0 (fun h => absurd h.1 (by decide))).trans hvv)))))) ((funext fun i0 => frM_91 62 i0 (fun h => h.elim (fun h => absurd h (by decide)) (fun h => absurd h.1 (by decide)))).trans (ax_up_rowmiss (by decide) ((funext fun i0 => frM_61 62 i0 (fun h => h.elim (fun h => absurd h (by decide)) (fun h => h.elim (fun h => absurd h.1 (by decide)) (fun h => h.elim (fun h => absurd h.1 (by decide)) (fun h => h.elim (fun h => absurd h.1 (by decide)) (fun h => absurd h.1 (by decide))))))).trans ((funext fun i0 => frM_54 62 i0 (fun h => absurd h.1 (by decide))).trans ((funext fun i0 => frM_35 62 i0 (fun h => h.elim (fun h => absurd h (by decide)) (fun h => h.elim (fun h => absurd h.1 (by decide)) (fun h => h.elim (fun h => absurd h.1 (by decide)) (fun h => h.elim (fun h => absurd h.1 (by decide)) (fun h => absurd h.1 (by decide))))))).trans ((funext fun i0 => frM_30 62 i0 (fun h => absurd h.1 (by decide))).trans hss)))))) ((frM_91 58 8 (fun h => h.elim (fun h => absurd h (by decide)) (fun h => absurd h.1 (by decide)))).trans (ax_up_miss (fun h => absurd h.1 (by decide)) rfl)) ⟨(f_cc_rg qc3).1, (f_cc_rg qc3).2.1⟩ hp) (pc' := 104) rfl (fun vv M_101 hq co101 hcm101 => ?_)
                  obtain ⟨rfl, frM_101, msM_101_0, msM_101_1⟩ := hq
                  refine ax_reS (st2 := [.inl 0]) rfl ?_
                  have qTp : ¬ f_T (f_rL (f_any (f_one 8) (f_rL (f_sumU L.tail)).tail)) = 159 := fun h => hp ((kl_s eK 59 (by decide)).mpr h)
                  have qz : f_line ln L = .inl (1, ss (M_61 58 8)) := by
                    rw [qzz]
                    unfold f_ned
                    rw [if_neg qTp, es]
                    rfl
                  refine ax_if_eq (tgt := 111) dX3_readLine_104 (by decide) (pc' := 107) rfl (fun h104 => ?_) (fun h104 => ?_)
                  · refine ax_iconst dX3_readLine_111 (by decide) (pc' := 112) rfl ?_
                    refine ax_zret dX3_readLine_112 rfl (by decide) ?_
                    refine ⟨rfl, ?_, ?_, ?_⟩
                    · refine congrArg (fun z => some (Sum.inl z)) ?_
                      rw [qz]
                      rfl
                    · intro x0 i0 hai
                      exact ((frM_101 x0 i0 (fun h => h.elim (fun h => hai (Or.inr (Or.inr (Or.inr (Or.inl h))))) (fun h => hai (Or.inr (Or.inr (Or.inr (Or.inr (Or.inl h)))))))).trans ((frM_91 x0 i0 (fun h => h.elim (fun h => hai (Or.inl h)) (fun h => hai (Or.inr (Or.inl h))))).trans (ax_up_miss (fun h => hai (Or.inr (Or.inr (Or.inr (Or.inr (Or.inr h)))))) ((frM_61 x0 i0 (fun h => h.elim (fun h => hai (Or.inl h)) (fun h => h.elim (fun h => hai (Or.inr (Or.inl h))) (fun h => h.elim (fun h => hai (Or.inr (Or.inr (Or.inl h)))) (fun h => h.elim (fun h => hai (Or.inr (Or.inr (Or.inr (Or.inl h))))) (fun h => hai (Or.inr (Or.inr (Or.inr (Or.inr (Or.inl h))))))))))).trans ((frM_54 x0 i0 (fun h => hai (Or.inr (Or.inr (Or.inl h))))).trans ((frM_35 x0 i0 (fun h => h.elim (fun h => hai (Or.inl h)) (fun h => h.elim (fun h => hai (Or.inr (Or.inl h))) (fun h => h.elim (fun h => hai (Or.inr (Or.inr (Or.inl h)))) (fun h => h.elim (fun h => hai (Or.inr (Or.inr (Or.inr (Or.inl h))))) (fun h => hai (Or.inr (Or.inr (Or.inr (Or.inr (Or.inl h))))))))))).trans ((frM_30 x0 i0 (fun h => hai (Or.inr (Or.inr (Or.inl h))))).trans rfl)))))))
                    · exact f_lco_no qz msM_101_0 msM_101_1
                  · exfalso
                    omega
          · have qz : f_line ln L = .inl (M_61 58 2, M_61 58 3) := by
              rw [qb3, f_cok_0 fa61_0 h64]
              rfl
            refine ax_iconst dX3_readLine_67 (by decide) (pc' := 68) rfl ?_
            refine ax_zret dX3_readLine_68 rfl (by decide) ?_
            refine ⟨rfl, ?_, ?_, ?_⟩
            · refine congrArg (fun z => some (Sum.inl z)) ?_
              rw [qz]
              rfl
            · intro x0 i0 hai
              exact ((frM_61 x0 i0 (fun h => h.elim (fun h => hai (Or.inl h)) (fun h => h.elim (fun h => hai (Or.inr (Or.inl h))) (fun h => h.elim (fun h => hai (Or.inr (Or.inr (Or.inl h)))) (fun h => h.elim (fun h => hai (Or.inr (Or.inr (Or.inr (Or.inl h))))) (fun h => hai (Or.inr (Or.inr (Or.inr (Or.inr (Or.inl h))))))))))).trans ((frM_54 x0 i0 (fun h => hai (Or.inr (Or.inr (Or.inl h))))).trans ((frM_35 x0 i0 (fun h => h.elim (fun h => hai (Or.inl h)) (fun h => h.elim (fun h => hai (Or.inr (Or.inl h))) (fun h => h.elim (fun h => hai (Or.inr (Or.inr (Or.inl h)))) (fun h => h.elim (fun h => hai (Or.inr (Or.inr (Or.inr (Or.inl h))))) (fun h => hai (Or.inr (Or.inr (Or.inr (Or.inr (Or.inl h))))))))))).trans ((frM_30 x0 i0 (fun h => hai (Or.inr (Or.inr (Or.inl h))))).trans rfl))))
            · exact f_lco_no qz rfl rfl
      · have qz : f_line ln L = .inl (M_35 58 2, M_35 58 3) := by
          rw [qb, f_cok_0 fa35_0 h38]
          rfl
        refine ax_iconst dX3_readLine_41 (by decide) (pc' := 42) rfl ?_
        refine ax_zret dX3_readLine_42 rfl (by decide) ?_
        refine ⟨rfl, ?_, ?_, ?_⟩
        · refine congrArg (fun z => some (Sum.inl z)) ?_
          rw [qz]
          rfl
        · intro x0 i0 hai
          exact ((frM_35 x0 i0 (fun h => h.elim (fun h => hai (Or.inl h)) (fun h => h.elim (fun h => hai (Or.inr (Or.inl h))) (fun h => h.elim (fun h => hai (Or.inr (Or.inr (Or.inl h)))) (fun h => h.elim (fun h => hai (Or.inr (Or.inr (Or.inr (Or.inl h))))) (fun h => hai (Or.inr (Or.inr (Or.inr (Or.inr (Or.inl h))))))))))).trans ((frM_30 x0 i0 (fun h => hai (Or.inr (Or.inr (Or.inl h))))).trans rfl))
        · exact f_lco_no qz rfl rfl
    · have qz : f_line ln L = .inl (3, ss nx) := by
        unfold f_line
        rw [if_neg (fun h => h qT), if_pos (by omega), qs]
      refine ax_aload_n dX3_readLine_23 rfl rfl (pc' := 24) rfl ?_
      refine ax_iconst dX3_readLine_24 (by decide) (pc' := 25) rfl ?_
      refine ax_invG [.inl 3] [] dX3_readLine_25 mlX3_42 sh_58 rfl rfl rfl (Nat.le_of_ble_eq_true rfl) (s_X8_fail E l _ (by omega) _ 3 hss hnx (by first | omega | assumption)) (pc' := 28) rfl (fun vv M_25 hq co25 hcm25 => ?_)
      obtain ⟨rfl, frM_25, msM_25_0, msM_25_1⟩ := hq
      refine ax_reS (st2 := [.inl 0]) rfl ?_
      refine ax_zret dX3_readLine_28 rfl (by decide) ?_
      refine ⟨rfl, ?_, ?_, ?_⟩
      · refine congrArg (fun z => some (Sum.inl z)) ?_
        rw [qz]
        rfl
      · intro x0 i0 hai
        exact ((frM_25 x0 i0 (fun h => h.elim (fun h => hai (Or.inr (Or.inr (Or.inr (Or.inl h))))) (fun h => hai (Or.inr (Or.inr (Or.inr (Or.inr (Or.inl h)))))))).trans rfl)
      · exact f_lco_no qz msM_25_0 msM_25_1
  · replace h5 := f_b_0 h5
    have qz : f_line ln L = .inl (1, ss nx) := by
      unfold f_line
      rw [if_pos (fun h => h5 ((kl_w0 qK).mpr h)), qs]
    refine ax_aload_n dX3_readLine_8 rfl rfl (pc' := 9) rfl ?_
    refine ax_iconst dX3_readLine_9 (by decide) (pc' := 10) rfl ?_
    refine ax_invG [.inl 1] [] dX3_readLine_10 mlX3_42 sh_58 rfl rfl rfl (Nat.le_of_ble_eq_true rfl) (s_X8_fail E l _ (by omega) _ 1 hss hnx (by first | omega | assumption)) (pc' := 13) rfl (fun vv M_10 hq co10 hcm10 => ?_)
    obtain ⟨rfl, frM_10, msM_10_0, msM_10_1⟩ := hq
    refine ax_reS (st2 := [.inl 0]) rfl ?_
    refine ax_zret dX3_readLine_13 rfl (by decide) ?_
    refine ⟨rfl, ?_, ?_, ?_⟩
    · refine congrArg (fun z => some (Sum.inl z)) ?_
      rw [qz]
      rfl
    · intro x0 i0 hai
      exact ((frM_10 x0 i0 (fun h => h.elim (fun h => hai (Or.inr (Or.inr (Or.inr (Or.inl h))))) (fun h => hai (Or.inr (Or.inr (Or.inr (Or.inr (Or.inl h)))))))).trans rfl)
    · exact f_lco_no qz msM_10_0 msM_10_1
set_option maxRecDepth 20000 in
theorem s_X3_readAll (E : ax_Env) (l : Launch) (d : Nat) (hd : 32 ≤ d) (M : ax_Mem) (rd : Int) (L : List f_Tk) {kk : Int → Int} (hkk : M 60 = kk) {vv : Int → Int} (hvv : M 61 = vv) {ss : Int → Int} (hss : M 62 = ss) {cd : Int → Int} (hcd : M 64 = cd) {nx : Int} (hnx : M 58 8 = nx) {x2 : Int} (hx2 : M 58 2 = x2) {x3 : Int} (hx3 : M 58 3 = x3) (hg0 : 0 ≤ rd ∧ rd < 3) (hg1 : f_cc rd kk vv ss nx L) : ax_G E l d iX3_readAll [.inr 63, .inr 58] M (fun z0 M2 => z0 = some (.inl (f_rwb (f_laws L))) ∧ (∀ x0 i0 : Int, ¬ (x0 = 64 ∨ (x0 = 63 ∧ i0 = 1) ∨ (x0 = 58 ∧ i0 = 8) ∨ (x0 = 58 ∧ i0 = 2) ∨ (x0 = 58 ∧ i0 = 3) ∨ (x0 = 63 ∧ i0 = 0)) → M2 x0 i0 = M x0 i0) ∧ (f_wco rd cd x2 x3 (f_laws L) M2)) := by
  obtain ⟨d, rfl⟩ : ∃ d0, d = d0 + 1 := ⟨d - 1, by omega⟩
  refine ax_start rfl (Nat.le_of_ble_eq_true rfl) (ls := [some (.inr 63), some (.inr 58), none]) rfl (fun hav hcm => ?_)
  clear hav
  refine ax_aload_n dX3_readAll_0 rfl rfl (pc' := 1) rfl ?_
  refine ax_iconst dX3_readAll_1 (by decide) (pc' := 2) rfl ?_
  refine ax_puti dX3_readAll_2 flX3_15 (Or.inl rfl) sh_63 rfl (pc' := 5) rfl ?_
  refine ax_aload_n dX3_readAll_5 rfl rfl (pc' := 6) rfl ?_
  refine ax_iconst dX3_readAll_6 (by decide) (pc' := 7) rfl ?_
  refine ax_puti dX3_readAll_7 flX3_19 (Or.inl rfl) sh_63 rfl (pc' := 10) rfl ?_
  refine ax_iconst dX3_readAll_10 (by decide) (pc' := 11) rfl ?_
  refine ax_istore_n dX3_readAll_11 rfl (by decide) (ls' := [some (.inr 63), some (.inr 58), some (.inl 0)]) rfl (pc' := 12) rfl ?_
  have LP1 : ∀ (kq2 : Nat) (tu : Int) (c1 : Int → Int) (s1 l1 n1 w1 w2 : Int) (L1 : List f_Tk) (ls1 : List f_Ln) (M1 : ax_Mem) (hm1 : (L1.length : Int) < (kq2 : Nat)) (fr1 : ∀ x0 i0 : Int, ¬ (x0 = 64 ∨ (x0 = 63 ∧ i0 = 1) ∨ (x0 = 63 ∧ i0 = 0) ∨ (x0 = 58 ∧ i0 = 8) ∨ (x0 = 58 ∧ i0 = 2) ∨ (x0 = 58 ∧ i0 = 3)) → M1 x0 i0 = (ax_up (ax_up M 63 0 0) 63 1 0) x0 i0) (mr1_64 : M1 64 = c1) (ms1_63_1 : M1 63 1 = s1) (ms1_63_0 : M1 63 0 = l1) (ms1_58_8 : M1 58 8 = n1) (ms1_58_2 : M1 58 2 = w1) (ms1_58_3 : M1 58 3 = w2) (iv1_0 : f_cc rd kk vv ss n1 L1) (iv1_1 : c1 = f_pi cd 0 (f_enLs rd ls1) ∧ s1 = ((f_enLs rd ls1).length : Int) ∧ l1 = (ls1.length : Int)) (iv1_2 : tu = l1 ∧ 0 ≤ l1 ∧ l1 ≤ 16) (iv1_3 : (f_enLs rd ls1).length + L1.length ≤ L.length) (iv1_4 : f_laws L = f_lpr ls1 (f_law (L1.length + 1) l1 L1)) (iv1_5 : w1 = x2 ∧ w2 = x3), ax_W E l (d + 1) 0 0 iX3_readAll 12 [some (.inr 63), some (.inr 58), some (.inl tu)] [] SH M1 (ax_P (fun z0 M2 => z0 = some (.inl (f_rwb (f_laws L))) ∧ (∀ x0 i0 : Int, ¬ (x0 = 64 ∨ (x0 = 63 ∧ i0 = 1) ∨ (x0 = 58 ∧ i0 = 8) ∨ (x0 = 58 ∧ i0 = 2) ∨ (x0 = 58 ∧ i0 = 3) ∨ (x0 = 63 ∧ i0 = 0)) → M2 x0 i0 = M x0 i0) ∧ (f_wco rd cd x2 x3 (f_laws L) M2))) := by
    intro kq2
    induction kq2 with
    | zero =>
      intro tu c1 s1 l1 n1 w1 w2 L1 ls1 M1 hm1 fr1 mr1_64 ms1_63_1 ms1_63_0 ms1_58_8 ms1_58_2 ms1_58_3 iv1_0 iv1_1 iv1_2 iv1_3 iv1_4 iv1_5
      exfalso
      omega
    | succ kq2 ih3 =>
      intro tu c1 s1 l1 n1 w1 w2 L1 ls1 M1 hm1 fr1 mr1_64 ms1_63_1 ms1_63_0 ms1_58_8 ms1_58_2 ms1_58_3 iv1_0 iv1_1 iv1_2 iv1_3 iv1_4 iv1_5
      have qR := f_cc_rg hg1
      have pK := f_kv_lw hg0 (f_cc_hd iv1_0).1.1
      have ps := (f_cc_hd iv1_0).1.2
      have pR := f_cc_rg iv1_0
      refine ax_iload_n dX3_readAll_12 rfl rfl (pc' := 13) rfl ?_
      refine ax_sipush dX3_readAll_13 (by decide) (pc' := 16) rfl ?_
      refine ax_icmp_gt (tgt := 42) dX3_readAll_16 (by decide) (pc' := 19) rfl (fun h16 => ?_) (fun h16 => ?_)
      · exfalso
        omega
      · refine ax_aload_n dX3_readAll_19 rfl rfl (pc' := 20) rfl ?_
        refine ax_invG [] [] dX3_readAll_20 mlX3_28 sh_58 rfl rfl rfl (Nat.le_of_ble_eq_true rfl) (s_X8_isEnd E l _ (by omega) _ ((funext fun i0 => fr1 60 i0 (fun h => h.elim (fun h => absurd h (by decide)) (fun h => h.elim (fun h => absurd h.1 (by decide)) (fun h => h.elim (fun h => absurd h.1 (by decide)) (fun h => h.elim (fun h => absurd h.1 (by decide)) (fun h => h.elim (fun h => absurd h.1 (by decide)) (fun h => absurd h.1 (by decide)))))))).trans (ax_up_rowmiss (by decide) (ax_up_rowmiss (by decide) hkk))) ms1_58_8 (by first | omega | assumption)) (pc' := 23) rfl (fun vv M_20 hq co20 hcm20 => ?_)
        obtain ⟨rfl, rfl⟩ := hq
        refine ax_reS (st2 := [.inl (f_b (kk n1 = 0))]) rfl ?_
        refine ax_if_ne (tgt := 42) dX3_readAll_23 (by decide) (pc' := 26) rfl (fun h23 => ?_) (fun h23 => ?_)
        · replace h23 := f_b_1 h23
          have qz : f_laws L = .inr ls1 := by
            rw [iv1_4, f_law_end ((kl_0 pK).mp h23), f_lpr_ok, List.append_nil]
          refine ax_iconst dX3_readAll_42 (by decide) (pc' := 43) rfl ?_
          refine ax_zret dX3_readAll_43 rfl (by decide) ?_
          refine ⟨rfl, ?_, ?_, ?_⟩
          · refine congrArg (fun z => some (Sum.inl z)) ?_
            rw [qz]
            rfl
          · intro x0 i0 hai
            exact ((fr1 x0 i0 (fun h => h.elim (fun h => hai (Or.inl h)) (fun h => h.elim (fun h => hai (Or.inr (Or.inl h))) (fun h => h.elim (fun h => hai (Or.inr (Or.inr (Or.inr (Or.inr (Or.inr h)))))) (fun h => h.elim (fun h => hai (Or.inr (Or.inr (Or.inl h)))) (fun h => h.elim (fun h => hai (Or.inr (Or.inr (Or.inr (Or.inl h))))) (fun h => hai (Or.inr (Or.inr (Or.inr (Or.inr (Or.inl h)))))))))))).trans (ax_up_miss (fun h => hai (Or.inr (Or.inl h))) (ax_up_miss (fun h => hai (Or.inr (Or.inr (Or.inr (Or.inr (Or.inr h)))))) rfl)))
          · rw [qz]
            exact ⟨Eq.trans mr1_64 iv1_1.1, Eq.trans ms1_63_1 iv1_1.2.1, Eq.trans ms1_63_0 iv1_1.2.2, by omega, Eq.trans ms1_58_2 iv1_5.1, Eq.trans ms1_58_3 iv1_5.2⟩
        · replace h23 := f_b_0 h23
          have qT0 : f_T L1 ≠ 0 := fun h => h23 ((kl_0 pK).mpr h)
          refine ax_aload_n dX3_readAll_26 rfl rfl (pc' := 27) rfl ?_
          refine ax_aload_n dX3_readAll_27 rfl rfl (pc' := 28) rfl ?_
          refine ax_invG [.inr 58] [] dX3_readAll_28 mlX3_34 sh_63 rfl rfl rfl (Nat.le_of_ble_eq_true rfl) (s_X3_readLine E l _ (by omega) _ rd L1 ((funext fun i0 => fr1 60 i0 (fun h => h.elim (fun h => absurd h (by decide)) (fun h => h.elim (fun h => absurd h.1 (by decide)) (fun h => h.elim (fun h => absurd h.1 (by decide)) (fun h => h.elim (fun h => absurd h.1 (by decide)) (fun h => h.elim (fun h => absurd h.1 (by decide)) (fun h => absurd h.1 (by decide)))))))).trans (ax_up_rowmiss (by decide) (ax_up_rowmiss (by decide) hkk))) ((funext fun i0 => fr1 61 i0 (fun h => h.elim (fun h => absurd h (by decide)) (fun h => h.elim (fun h => absurd h.1 (by decide)) (fun h => h.elim (fun h => absurd h.1 (by decide)) (fun h => h.elim (fun h => absurd h.1 (by decide)) (fun h => h.elim (fun h => absurd h.1 (by decide)) (fun h => absurd h.1 (by decide)))))))).trans (ax_up_rowmiss (by decide) (ax_up_rowmiss (by decide) hvv))) ((funext fun i0 => fr1 62 i0 (fun h => h.elim (fun h => absurd h (by decide)) (fun h => h.elim (fun h => absurd h.1 (by decide)) (fun h => h.elim (fun h => absurd h.1 (by decide)) (fun h => h.elim (fun h => absurd h.1 (by decide)) (fun h => h.elim (fun h => absurd h.1 (by decide)) (fun h => absurd h.1 (by decide)))))))).trans (ax_up_rowmiss (by decide) (ax_up_rowmiss (by decide) hss))) mr1_64 ms1_58_8 ms1_63_1 ms1_58_2 ms1_58_3 ms1_63_0 (by first | omega | assumption) iv1_0 (by first | omega | assumption) (by first | omega | assumption)) (pc' := 31) rfl (fun vv M_28 hq co28 hcm28 => ?_)
          obtain ⟨rfl, frM_28, fa28_0⟩ := hq
          refine ax_reS (st2 := [.inl (f_rlb (f_line l1 L1))]) rfl ?_
          have cc28 : -2147483648 ≤ f_rlb (f_line l1 L1) ∧ f_rlb (f_line l1 L1) < 2147483648 := co28 _ rfl
          refine ax_if_ne (tgt := 36) dX3_readAll_31 (by decide) (pc' := 34) rfl (fun h31 => ?_) (fun h31 => ?_)
          · obtain ⟨L3, ln3, qr3⟩ := f_rlb_ok h31
            rw [qr3] at fa28_0
            obtain ⟨qm3, qs3, ql3, qb0, qy2, qy3⟩ := fa28_0
            have qg3 := f_line_gd qr3
            obtain ⟨ls3, qls⟩ : ∃ z, z = ls1 ++ [ln3] := ⟨_, rfl⟩
            have qen : f_enLs rd ls3 = f_enLs rd ls1 ++ f_enL rd ln3 := by
              rw [qls, f_enLs_app]
              show f_enLs rd ls1 ++ (f_enL rd ln3 ++ []) = _
              rw [List.append_nil]
            have qel := f_enL_len rd ln3
            have qb1 : M_28 64 = f_pi cd 0 (f_enLs rd ls3) ∧ M_28 63 1 = ((f_enLs rd ls3).length : Int) ∧ M_28 63 0 = (ls3.length : Int) := by
              refine ⟨?_, ?_, ?_⟩
              · rw [qm3, qen, f_pi_app, ← iv1_1.1, Int.zero_add, ← iv1_1.2.1]
              · rw [qs3, qen, List.length_append, iv1_1.2.1]
                omega
              · rw [ql3, qls, List.length_append, iv1_1.2.2]
                rfl
            have qb3 : (f_enLs rd ls3).length + L3.length ≤ L.length := by
              rw [qen, List.length_append]
              omega
            have qb4 : f_laws L = f_lpr ls3 (f_law (L3.length + 1) (M_28 63 0) L3) := by
              rw [iv1_4, f_law_step qT0, qr3, qls, ql3]
              exact f_lpr_snoc ls1 ln3 _
            refine ax_iinc dX3_readAll_36 rfl (by decide) (by omega) (ls' := [some (.inr 63), some (.inr 58), some (.inl (tu + 1))]) rfl (pc' := 39) rfl ?_
            refine ax_goto dX3_readAll_39 (pc' := 12) (by decide) ?_
            refine ih3 (tu + 1) (M_28 64) (M_28 63 1) (M_28 63 0) (M_28 58 8) (M_28 58 2) (M_28 58 3) L3 ls3 M_28 ?_ ?_ ?_ ?_ ?_ ?_ ?_ ?_ ?_ ?_ ?_ ?_ ?_ ?_
            · omega
            · intro x0 i0 hai
              exact ((frM_28 x0 i0 (fun h => h.elim (fun h => hai (Or.inl h)) (fun h => h.elim (fun h => hai (Or.inr (Or.inl h))) (fun h => h.elim (fun h => hai (Or.inr (Or.inr (Or.inr (Or.inl h))))) (fun h => h.elim (fun h => hai (Or.inr (Or.inr (Or.inr (Or.inr (Or.inl h)))))) (fun h => h.elim (fun h => hai (Or.inr (Or.inr (Or.inr (Or.inr (Or.inr h)))))) (fun h => hai (Or.inr (Or.inr (Or.inl h)))))))))).trans ((fr1 x0 i0 (fun h => h.elim (fun h => hai (Or.inl h)) (fun h => h.elim (fun h => hai (Or.inr (Or.inl h))) (fun h => h.elim (fun h => hai (Or.inr (Or.inr (Or.inl h)))) (fun h => h.elim (fun h => hai (Or.inr (Or.inr (Or.inr (Or.inl h))))) (fun h => h.elim (fun h => hai (Or.inr (Or.inr (Or.inr (Or.inr (Or.inl h)))))) (fun h => hai (Or.inr (Or.inr (Or.inr (Or.inr (Or.inr h)))))))))))).trans rfl))
            · exact rfl
            · exact rfl
            · exact rfl
            · exact rfl
            · exact rfl
            · exact rfl
            · exact qb0
            · exact qb1
            · omega
            · exact qb3
            · exact qb4
            · exact ⟨qy2.trans iv1_5.1, qy3.trans iv1_5.2⟩
          · obtain ⟨kk3, ss3, qr3⟩ := f_rlb_no h31
            rw [qr3] at fa28_0
            obtain ⟨qk3, qs3⟩ := fa28_0
            have qz : f_laws L = .inl (kk3, ss3) := by
              rw [iv1_4, f_law_step qT0, qr3]
              exact f_lpr_no ls1 _
            refine ax_iconst dX3_readAll_34 (by decide) (pc' := 35) rfl ?_
            refine ax_zret dX3_readAll_35 rfl (by decide) ?_
            refine ⟨rfl, ?_, ?_, ?_⟩
            · refine congrArg (fun z => some (Sum.inl z)) ?_
              rw [qz]
              rfl
            · intro x0 i0 hai
              exact ((frM_28 x0 i0 (fun h => h.elim (fun h => hai (Or.inl h)) (fun h => h.elim (fun h => hai (Or.inr (Or.inl h))) (fun h => h.elim (fun h => hai (Or.inr (Or.inr (Or.inl h)))) (fun h => h.elim (fun h => hai (Or.inr (Or.inr (Or.inr (Or.inl h))))) (fun h => h.elim (fun h => hai (Or.inr (Or.inr (Or.inr (Or.inr (Or.inl h)))))) (fun h => hai (Or.inr (Or.inr (Or.inr (Or.inr (Or.inr h)))))))))))).trans ((fr1 x0 i0 (fun h => h.elim (fun h => hai (Or.inl h)) (fun h => h.elim (fun h => hai (Or.inr (Or.inl h))) (fun h => h.elim (fun h => hai (Or.inr (Or.inr (Or.inr (Or.inr (Or.inr h)))))) (fun h => h.elim (fun h => hai (Or.inr (Or.inr (Or.inl h)))) (fun h => h.elim (fun h => hai (Or.inr (Or.inr (Or.inr (Or.inl h))))) (fun h => hai (Or.inr (Or.inr (Or.inr (Or.inr (Or.inl h)))))))))))).trans (ax_up_miss (fun h => hai (Or.inr (Or.inl h))) (ax_up_miss (fun h => hai (Or.inr (Or.inr (Or.inr (Or.inr (Or.inr h)))))) rfl))))
            · exact f_wco_no qz qk3 qs3
  refine LP1 ((L.length : Int) : Int).toNat.succ 0 cd 0 0 nx x2 x3 L ([]) (ax_up (ax_up M 63 0 0) 63 1 0) ?_ ?_ ?_ ?_ ?_ ?_ ?_ ?_ ?_ ?_ ?_ ?_ ?_ ?_
  · omega
  · exact fun a i _ => rfl
  · exact (ax_up_rowmiss (by decide) (ax_up_rowmiss (by decide) hcd))
  · exact (ax_up_hit _ _ _ _)
  · exact (ax_up_miss (by decide) (ax_up_hit _ _ _ _))
  · exact (ax_up_miss (fun h => absurd h.1 (by decide)) (ax_up_miss (fun h => absurd h.1 (by decide)) hnx))
  · exact (ax_up_miss (fun h => absurd h.1 (by decide)) (ax_up_miss (fun h => absurd h.1 (by decide)) hx2))
  · exact (ax_up_miss (fun h => absurd h.1 (by decide)) (ax_up_miss (fun h => absurd h.1 (by decide)) hx3))
  · exact hg1
  · exact ⟨rfl, rfl, rfl⟩
  · exact ⟨rfl, by decide, by decide⟩
  · exact Nat.le_of_eq (Nat.zero_add _)
  · rfl
  · exact ⟨rfl, rfl⟩
