/-! the class reads checks: what level nd does -/
def f_K1 (nd : Nat) : Prop := ∀ (E : ax_Env) (l : Launch) (d : Nat) (hd : 4 + 3 * nd ≤ d) (M : ax_Mem) (op : Int) (rd : Int) (L : List f_Tk) {kk : Int → Int} (hkk : M 60 = kk) {vv : Int → Int} (hvv : M 61 = vv) {ss : Int → Int} (hss : M 62 = ss) {cd : Int → Int} (hcd : M 64 = cd) {nx : Int} (hnx : M 58 8 = nx) {sz : Int} (hsz : M 63 1 = sz) {x2 : Int} (hx2 : M 58 2 = x2) {x3 : Int} (hx3 : M 58 3 = x3) (hg0 : 0 ≤ rd ∧ rd < 3) (hg1 : f_cc rd kk vv ss nx L) (hg2 : 0 ≤ sz ∧ sz + (L.length : Int) ≤ 401) (hg3 : 0 ≤ op ∧ op + (nd : Int) = 8), ax_G E l d iX3_readCheck [.inr 63, .inr 58, .inl 2, .inl op] M (fun z0 M2 => z0 = some (.inl (f_rb (f_one nd L))) ∧ (∀ x0 i0 : Int, ¬ (x0 = 64 ∨ (x0 = 63 ∧ i0 = 1) ∨ (x0 = 58 ∧ i0 = 8) ∨ (x0 = 58 ∧ i0 = 2) ∨ (x0 = 58 ∧ i0 = 3)) → M2 x0 i0 = M x0 i0) ∧ (f_cok rd kk vv ss cd sz x2 x3 (f_one nd L) M2))
set_option maxRecDepth 20000 in
theorem s_ck_ev (nd : Nat) (H1 : f_K1 nd) (E : ax_Env) (l : Launch) (d : Nat) (hd : 5 + 3 * nd ≤ d) (M : ax_Mem) (op : Int) (rd : Int) (L : List f_Tk) {kk : Int → Int} (hkk : M 60 = kk) {vv : Int → Int} (hvv : M 61 = vv) {ss : Int → Int} (hss : M 62 = ss) {cd : Int → Int} (hcd : M 64 = cd) {nx : Int} (hnx : M 58 8 = nx) {sz : Int} (hsz : M 63 1 = sz) {x2 : Int} (hx2 : M 58 2 = x2) {x3 : Int} (hx3 : M 58 3 = x3) (hg0 : 0 ≤ rd ∧ rd < 3) (hg1 : f_cc rd kk vv ss nx L) (hg2 : 0 ≤ sz ∧ sz + (L.length : Int) ≤ 401) (hg3 : 0 ≤ op ∧ op + (nd : Int) = 8) : ax_G E l d iX3_readCheck [.inr 63, .inr 58, .inl 1, .inl op] M (fun z0 M2 => z0 = some (.inl (f_rb (f_evy (f_one nd) L))) ∧ (∀ x0 i0 : Int, ¬ (x0 = 64 ∨ (x0 = 63 ∧ i0 = 1) ∨ (x0 = 58 ∧ i0 = 8) ∨ (x0 = 58 ∧ i0 = 2) ∨ (x0 = 58 ∧ i0 = 3)) → M2 x0 i0 = M x0 i0) ∧ (f_cok rd kk vv ss cd sz x2 x3 (f_evy (f_one nd) L) M2)) := by
  obtain ⟨d, rfl⟩ : ∃ d0, d = d0 + 1 := ⟨d - 1, by omega⟩
  refine ax_start rfl (Nat.le_of_ble_eq_true rfl) (ls := [some (.inr 63), some (.inr 58), some (.inl 1), some (.inl op), none, none]) rfl (fun hav hcm => ?_)
  have hc3 : -2147483648 ≤ op ∧ op < 2147483648 := hav (.inl op) (by simp)
  clear hav
  have qK := f_kv_lw hg0 (f_cc_hd hg1).1.1
  have qs := (f_cc_hd hg1).1.2
  have qR := f_cc_rg hg1
  refine ax_iload_n dX3_readCheck_0 rfl rfl (pc' := 1) rfl ?_
  refine ax_iconst dX3_readCheck_1 (by decide) (pc' := 2) rfl ?_
  refine ax_icmp_ge (tgt := 98) dX3_readCheck_2 (by decide) (pc' := 5) rfl (fun h2 => ?_) (fun h2 => ?_)
  · exfalso
    omega
  · refine ax_aload_n dX3_readCheck_5 rfl rfl (pc' := 6) rfl ?_
    refine ax_aload_n dX3_readCheck_6 rfl rfl (pc' := 7) rfl ?_
    refine ax_iload_n dX3_readCheck_7 rfl rfl (pc' := 8) rfl ?_
    refine ax_iconst dX3_readCheck_8 (by decide) (pc' := 9) rfl ?_
    refine ax_iadd dX3_readCheck_9 (by omega) (pc' := 10) rfl ?_
    refine ax_iload_n dX3_readCheck_10 rfl rfl (pc' := 11) rfl ?_
    refine ax_invG [.inr 58, .inl 2, .inl op] [] dX3_readCheck_11 mlX3_51 sh_63 rfl rfl rfl (Nat.le_of_ble_eq_true rfl) (H1 E l _ (by omega) _ op rd L hkk hvv hss hcd hnx hsz hx2 hx3 (by first | omega | assumption) (by first | omega | assumption) (by first | omega | assumption) (by first | omega | assumption)) (pc' := 14) rfl (fun vv M_11 hq co11 hcm11 => ?_)
    obtain ⟨rfl, frM_11, fa11_0⟩ := hq
    refine ax_reS (st2 := [.inl (f_rb (f_one nd L))]) rfl ?_
    have cc11 : -2147483648 ≤ f_rb (f_one nd L) ∧ f_rb (f_one nd L) < 2147483648 := co11 _ rfl
    refine ax_istore dX3_readCheck_14 (by decide) (ls' := [some (.inr 63), some (.inr 58), some (.inl 1), some (.inl op), some (.inl (f_rb (f_one nd L))), none]) rfl (pc' := 16) rfl ?_
    refine ax_iconst dX3_readCheck_16 (by decide) (pc' := 17) rfl ?_
    refine ax_istore dX3_readCheck_17 (by decide) (ls' := [some (.inr 63), some (.inr 58), some (.inl 1), some (.inl op), some (.inl (f_rb (f_one nd L))), some (.inl 0)]) rfl (pc' := 19) rfl ?_
    have LP1 : ∀ (kq2 : Nat) (gd tu : Int) (c1 : Int → Int) (s1 n1 w1 w2 : Int) (L1 : List f_Tk) (o1 : List f_Op) (M1 : ax_Mem) (hm1 : 401 - tu < (kq2 : Nat)) (fr1 : ∀ x0 i0 : Int, ¬ (x0 = 64 ∨ (x0 = 63 ∧ i0 = 1) ∨ (x0 = 58 ∧ i0 = 8) ∨ (x0 = 58 ∧ i0 = 2) ∨ (x0 = 58 ∧ i0 = 3)) → M1 x0 i0 = M_11 x0 i0) (mr1_64 : M1 64 = c1) (ms1_63_1 : M1 63 1 = s1) (ms1_58_8 : M1 58 8 = n1) (ms1_58_2 : M1 58 2 = w1) (ms1_58_3 : M1 58 3 = w2) (iv1_0 : 0 ≤ tu ∧ tu ≤ 400) (iv1_1 : gd = 0 ∨ gd = 1) (iv1_2 : gd = 0 → f_evy (f_one nd) L = .inl (w1, w2)) (iv1_3 : gd = 1 → f_cc rd kk vv ss n1 L1) (iv1_4 : gd = 1 → c1 = f_pi cd sz (f_en rd o1) ∧ s1 = sz + (f_wt o1 : Int)) (iv1_5 : gd = 1 → f_wt o1 + L1.length ≤ L.length ∧ tu + 1 ≤ (f_wt o1 : Int)) (iv1_6 : gd = 1 → f_evy (f_one nd) L = f_pre o1 (f_rep (f_qOp 5 31 (f_one nd)) L1)) (iv1_7 : gd = 1 → w1 = x2 ∧ w2 = x3), ax_W E l (d + 1) 0 0 iX3_readCheck 19 [some (.inr 63), some (.inr 58), some (.inl 1), some (.inl op), some (.inl gd), some (.inl tu)] [] SH M1 (ax_P (fun z0 M2 => z0 = some (.inl (f_rb (f_evy (f_one nd) L))) ∧ (∀ x0 i0 : Int, ¬ (x0 = 64 ∨ (x0 = 63 ∧ i0 = 1) ∨ (x0 = 58 ∧ i0 = 8) ∨ (x0 = 58 ∧ i0 = 2) ∨ (x0 = 58 ∧ i0 = 3)) → M2 x0 i0 = M x0 i0) ∧ (f_cok rd kk vv ss cd sz x2 x3 (f_evy (f_one nd) L) M2))) := by
      intro kq2
      induction kq2 with
      | zero =>
        intro gd tu c1 s1 n1 w1 w2 L1 o1 M1 hm1 fr1 mr1_64 ms1_63_1 ms1_58_8 ms1_58_2 ms1_58_3 iv1_0 iv1_1 iv1_2 iv1_3 iv1_4 iv1_5 iv1_6 iv1_7
        exfalso
        omega
      | succ kq2 ih3 =>
        intro gd tu c1 s1 n1 w1 w2 L1 o1 M1 hm1 fr1 mr1_64 ms1_63_1 ms1_58_8 ms1_58_2 ms1_58_3 iv1_0 iv1_1 iv1_2 iv1_3 iv1_4 iv1_5 iv1_6 iv1_7
        refine ax_iload dX3_readCheck_19 rfl (pc' := 21) rfl ?_
        refine ax_sipush dX3_readCheck_21 (by decide) (pc' := 24) rfl ?_
        refine ax_icmp_ge (tgt := 95) dX3_readCheck_24 (by decide) (pc' := 27) rfl (fun h24 => ?_) (fun h24 => ?_)
        · have qg : gd = 0 := by
            rcases iv1_1 with h | h
            · exact h
            · exfalso
              have a := iv1_5 h
              have b := f_cc_rg (iv1_3 h)
              omega
          have qz := iv1_2 qg
          refine ax_iload dX3_readCheck_95 rfl (pc' := 97) rfl ?_
          refine ax_zret dX3_readCheck_97 rfl (by omega) ?_
          refine ⟨rfl, ?_, ?_, ?_⟩
          · refine congrArg (fun z => some (Sum.inl z)) ?_
            rw [qz, qg]
            rfl
          · intro x0 i0 hai
            exact ((fr1 x0 i0 (fun h => h.elim (fun h => hai (Or.inl h)) (fun h => h.elim (fun h => hai (Or.inr (Or.inl h))) (fun h => h.elim (fun h => hai (Or.inr (Or.inr (Or.inl h)))) (fun h => h.elim (fun h => hai (Or.inr (Or.inr (Or.inr (Or.inl h))))) (fun h => hai (Or.inr (Or.inr (Or.inr (Or.inr h)))))))))).trans ((frM_11 x0 i0 (fun h => h.elim (fun h => hai (Or.inl h)) (fun h => h.elim (fun h => hai (Or.inr (Or.inl h))) (fun h => h.elim (fun h => hai (Or.inr (Or.inr (Or.inl h)))) (fun h => h.elim (fun h => hai (Or.inr (Or.inr (Or.inr (Or.inl h))))) (fun h => hai (Or.inr (Or.inr (Or.inr (Or.inr h)))))))))).trans rfl))
          · first
              | exact f_cok_no qz ms1_58_2 ms1_58_3
              | exact f_cok_ok qz (Eq.trans mr1_64 q4.1) (Eq.trans ms1_63_1 q4.2) ms1_58_8 q3 (Eq.trans ms1_58_2 q7.1) (Eq.trans ms1_58_3 q7.2)
        · refine ax_iload dX3_readCheck_27 rfl (pc' := 29) rfl ?_
          refine ax_if_eq (tgt := 95) dX3_readCheck_29 (by decide) (pc' := 32) rfl (fun h29 => ?_) (fun h29 => ?_)
          · have qz := iv1_2 h29
            have qg := h29
            refine ax_iload dX3_readCheck_95 rfl (pc' := 97) rfl ?_
            refine ax_zret dX3_readCheck_97 rfl (by omega) ?_
            refine ⟨rfl, ?_, ?_, ?_⟩
            · refine congrArg (fun z => some (Sum.inl z)) ?_
              rw [qz, qg]
              rfl
            · intro x0 i0 hai
              exact ((fr1 x0 i0 (fun h => h.elim (fun h => hai (Or.inl h)) (fun h => h.elim (fun h => hai (Or.inr (Or.inl h))) (fun h => h.elim (fun h => hai (Or.inr (Or.inr (Or.inl h)))) (fun h => h.elim (fun h => hai (Or.inr (Or.inr (Or.inr (Or.inl h))))) (fun h => hai (Or.inr (Or.inr (Or.inr (Or.inr h)))))))))).trans ((frM_11 x0 i0 (fun h => h.elim (fun h => hai (Or.inl h)) (fun h => h.elim (fun h => hai (Or.inr (Or.inl h))) (fun h => h.elim (fun h => hai (Or.inr (Or.inr (Or.inl h)))) (fun h => h.elim (fun h => hai (Or.inr (Or.inr (Or.inr (Or.inl h))))) (fun h => hai (Or.inr (Or.inr (Or.inr (Or.inr h)))))))))).trans rfl))
            · first
                | exact f_cok_no qz ms1_58_2 ms1_58_3
                | exact f_cok_ok qz (Eq.trans mr1_64 q4.1) (Eq.trans ms1_63_1 q4.2) ms1_58_8 q3 (Eq.trans ms1_58_2 q7.1) (Eq.trans ms1_58_3 q7.2)
          · have qg : gd = 1 := by omega
            have q3 := iv1_3 qg
            have q4 := iv1_4 qg
            have q5 := iv1_5 qg
            have q6 := iv1_6 qg
            have q7 := iv1_7 qg
            have pK := f_kv_lw hg0 (f_cc_hd q3).1.1
            have ps := (f_cc_hd q3).1.2
            have pR := f_cc_rg q3
            refine ax_aload_n dX3_readCheck_32 rfl rfl (pc' := 33) rfl ?_
            refine ax_iload_n dX3_readCheck_33 rfl rfl (pc' := 34) rfl ?_
            refine ax_if_ne (tgt := 41) dX3_readCheck_34 (by decide) (pc' := 37) rfl (fun h34 => ?_) (fun h34 => ?_)
            · refine ax_iconst dX3_readCheck_41 (by decide) (pc' := 42) rfl ?_
              refine ax_invG [.inl 3] [] dX3_readCheck_42 mlX3_38 sh_58 rfl rfl rfl (Nat.le_of_ble_eq_true rfl) (s_X8_isWord E l _ (by omega) _ 3 ((funext fun i0 => fr1 60 i0 (fun h => h.elim (fun h => absurd h (by decide)) (fun h => h.elim (fun h => absurd h.1 (by decide)) (fun h => h.elim (fun h => absurd h.1 (by decide)) (fun h => h.elim (fun h => absurd h.1 (by decide)) (fun h => absurd h.1 (by decide))))))).trans ((funext fun i0 => frM_11 60 i0 (fun h => h.elim (fun h => absurd h (by decide)) (fun h => h.elim (fun h => absurd h.1 (by decide)) (fun h => h.elim (fun h => absurd h.1 (by decide)) (fun h => h.elim (fun h => absurd h.1 (by decide)) (fun h => absurd h.1 (by decide))))))).trans hkk)) ((funext fun i0 => fr1 61 i0 (fun h => h.elim (fun h => absurd h (by decide)) (fun h => h.elim (fun h => absurd h.1 (by decide)) (fun h => h.elim (fun h => absurd h.1 (by decide)) (fun h => h.elim (fun h => absurd h.1 (by decide)) (fun h => absurd h.1 (by decide))))))).trans ((funext fun i0 => frM_11 61 i0 (fun h => h.elim (fun h => absurd h (by decide)) (fun h => h.elim (fun h => absurd h.1 (by decide)) (fun h => h.elim (fun h => absurd h.1 (by decide)) (fun h => h.elim (fun h => absurd h.1 (by decide)) (fun h => absurd h.1 (by decide))))))).trans hvv)) ms1_58_8 (by first | omega | assumption)) (pc' := 45) rfl (fun vv M_42 hq co42 hcm42 => ?_)
              obtain ⟨rfl, rfl⟩ := hq
              refine ax_reS (st2 := [.inl (f_b (kk n1 = 2 ∧ vv n1 = 3))]) rfl ?_
              refine ax_if_eq (tgt := 95) dX3_readCheck_45 (by decide) (pc' := 48) rfl (fun h45 => ?_) (fun h45 => ?_)
              · replace h45 := f_b_0 h45
                have qz : f_evy (f_one nd) L = .inr (L1, o1) := by
                  refine f_lp_end ?_ q6
                  unfold f_qOp
                  rw [if_neg (fun h => h45 ((kl_w3 pK).mpr h))]
                refine ax_iload dX3_readCheck_95 rfl (pc' := 97) rfl ?_
                refine ax_zret dX3_readCheck_97 rfl (by omega) ?_
                refine ⟨rfl, ?_, ?_, ?_⟩
                · refine congrArg (fun z => some (Sum.inl z)) ?_
                  rw [qz, qg]
                  rfl
                · intro x0 i0 hai
                  exact ((fr1 x0 i0 (fun h => h.elim (fun h => hai (Or.inl h)) (fun h => h.elim (fun h => hai (Or.inr (Or.inl h))) (fun h => h.elim (fun h => hai (Or.inr (Or.inr (Or.inl h)))) (fun h => h.elim (fun h => hai (Or.inr (Or.inr (Or.inr (Or.inl h))))) (fun h => hai (Or.inr (Or.inr (Or.inr (Or.inr h)))))))))).trans ((frM_11 x0 i0 (fun h => h.elim (fun h => hai (Or.inl h)) (fun h => h.elim (fun h => hai (Or.inr (Or.inl h))) (fun h => h.elim (fun h => hai (Or.inr (Or.inr (Or.inl h)))) (fun h => h.elim (fun h => hai (Or.inr (Or.inr (Or.inr (Or.inl h))))) (fun h => hai (Or.inr (Or.inr (Or.inr (Or.inr h)))))))))).trans rfl))
                · first
                    | exact f_cok_no qz ms1_58_2 ms1_58_3
                    | exact f_cok_ok qz (Eq.trans mr1_64 q4.1) (Eq.trans ms1_63_1 q4.2) ms1_58_8 q3 (Eq.trans ms1_58_2 q7.1) (Eq.trans ms1_58_3 q7.2)
              · replace h45 := f_b_1 h45
                have qT : f_T L1 = 5 := (kl_w3 pK).mp h45
                have qq : (f_qOp 5 31 (f_one nd)) L1 = some (f_aft [(31, 0)] (f_one nd L1.tail)) := by
                  unfold f_qOp
                  rw [if_pos qT]
                obtain ⟨xc, xl, xn⟩ := f_cc_nx q3 (by omega)
                have xK := f_kv_lw hg0 (f_cc_hd xc).1.1
                have xs := (f_cc_hd xc).1.2
                have xR := f_cc_rg xc
                refine ax_aload_n dX3_readCheck_48 rfl rfl (pc' := 49) rfl ?_
                refine ax_invG [] [] dX3_readCheck_49 mlX3_45 sh_58 rfl rfl rfl (Nat.le_of_ble_eq_true rfl) (s_X8_step E l _ (by omega) _ ((funext fun i0 => fr1 60 i0 (fun h => h.elim (fun h => absurd h (by decide)) (fun h => h.elim (fun h => absurd h.1 (by decide)) (fun h => h.elim (fun h => absurd h.1 (by decide)) (fun h => h.elim (fun h => absurd h.1 (by decide)) (fun h => absurd h.1 (by decide))))))).trans ((funext fun i0 => frM_11 60 i0 (fun h => h.elim (fun h => absurd h (by decide)) (fun h => h.elim (fun h => absurd h.1 (by decide)) (fun h => h.elim (fun h => absurd h.1 (by decide)) (fun h => h.elim (fun h => absurd h.1 (by decide)) (fun h => absurd h.1 (by decide))))))).trans hkk)) ms1_58_8 (by first | omega | assumption) (by first | omega | assumption)) (pc' := 52) rfl (fun vv M_49 hq co49 hcm49 => ?_)
                obtain ⟨rfl, frM_49, msM_49_0⟩ := hq
                refine ax_reS (st2 := []) rfl ?_
                refine ax_aload_n dX3_readCheck_52 rfl rfl (pc' := 53) rfl ?_
                refine ax_aload_n dX3_readCheck_53 rfl rfl (pc' := 54) rfl ?_
                refine ax_iload_n dX3_readCheck_54 rfl rfl (pc' := 55) rfl ?_
                refine ax_iconst dX3_readCheck_55 (by decide) (pc' := 56) rfl ?_
                refine ax_iadd dX3_readCheck_56 (by omega) (pc' := 57) rfl ?_
                refine ax_iload_n dX3_readCheck_57 rfl rfl (pc' := 58) rfl ?_
                refine ax_invG [.inr 58, .inl 2, .inl op] [] dX3_readCheck_58 mlX3_51 sh_63 rfl rfl rfl (Nat.le_of_ble_eq_true rfl) (H1 E l _ (by omega) _ op rd L1.tail ((funext fun i0 => frM_49 60 i0 (fun h => absurd h.1 (by decide))).trans ((funext fun i0 => fr1 60 i0 (fun h => h.elim (fun h => absurd h (by decide)) (fun h => h.elim (fun h => absurd h.1 (by decide)) (fun h => h.elim (fun h => absurd h.1 (by decide)) (fun h => h.elim (fun h => absurd h.1 (by decide)) (fun h => absurd h.1 (by decide))))))).trans ((funext fun i0 => frM_11 60 i0 (fun h => h.elim (fun h => absurd h (by decide)) (fun h => h.elim (fun h => absurd h.1 (by decide)) (fun h => h.elim (fun h => absurd h.1 (by decide)) (fun h => h.elim (fun h => absurd h.1 (by decide)) (fun h => absurd h.1 (by decide))))))).trans hkk))) ((funext fun i0 => frM_49 61 i0 (fun h => absurd h.1 (by decide))).trans ((funext fun i0 => fr1 61 i0 (fun h => h.elim (fun h => absurd h (by decide)) (fun h => h.elim (fun h => absurd h.1 (by decide)) (fun h => h.elim (fun h => absurd h.1 (by decide)) (fun h => h.elim (fun h => absurd h.1 (by decide)) (fun h => absurd h.1 (by decide))))))).trans ((funext fun i0 => frM_11 61 i0 (fun h => h.elim (fun h => absurd h (by decide)) (fun h => h.elim (fun h => absurd h.1 (by decide)) (fun h => h.elim (fun h => absurd h.1 (by decide)) (fun h => h.elim (fun h => absurd h.1 (by decide)) (fun h => absurd h.1 (by decide))))))).trans hvv))) ((funext fun i0 => frM_49 62 i0 (fun h => absurd h.1 (by decide))).trans ((funext fun i0 => fr1 62 i0 (fun h => h.elim (fun h => absurd h (by decide)) (fun h => h.elim (fun h => absurd h.1 (by decide)) (fun h => h.elim (fun h => absurd h.1 (by decide)) (fun h => h.elim (fun h => absurd h.1 (by decide)) (fun h => absurd h.1 (by decide))))))).trans ((funext fun i0 => frM_11 62 i0 (fun h => h.elim (fun h => absurd h (by decide)) (fun h => h.elim (fun h => absurd h.1 (by decide)) (fun h => h.elim (fun h => absurd h.1 (by decide)) (fun h => h.elim (fun h => absurd h.1 (by decide)) (fun h => absurd h.1 (by decide))))))).trans hss))) ((funext fun i0 => frM_49 64 i0 (fun h => absurd h.1 (by decide))).trans mr1_64) msM_49_0 ((frM_49 63 1 (fun h => absurd h.1 (by decide))).trans ms1_63_1) ((frM_49 58 2 (fun h => absurd h.2 (by decide))).trans ms1_58_2) ((frM_49 58 3 (fun h => absurd h.2 (by decide))).trans ms1_58_3) (by first | omega | assumption) xc (by first | omega | assumption) (by first | omega | assumption)) (pc' := 61) rfl (fun vv M_58 hq co58 hcm58 => ?_)
                obtain ⟨rfl, frM_58, fa58_0⟩ := hq
                refine ax_reS (st2 := [.inl (f_rb (f_one nd L1.tail))]) rfl ?_
                have cc58 : -2147483648 ≤ f_rb (f_one nd L1.tail) ∧ f_rb (f_one nd L1.tail) < 2147483648 := co58 _ rfl
                refine ax_if_eq (tgt := 86) dX3_readCheck_61 (by decide) (pc' := 64) rfl (fun h61 => ?_) (fun h61 => ?_)
                · have qb2 := f_lp_no (f_qOp_gd (by decide) (by decide) (f_one_gd nd)) qq (f_aft_no (f_cok_0 fa58_0 h61)) q6
                  obtain ⟨L3, qL3⟩ : ∃ z, z = L1 := ⟨_, rfl⟩
                  obtain ⟨o3, qo3⟩ : ∃ z, z = o1 := ⟨_, rfl⟩
                  refine ax_iconst dX3_readCheck_86 (by decide) (pc' := 87) rfl ?_
                  refine ax_istore dX3_readCheck_87 (by decide) (ls' := [some (.inr 63), some (.inr 58), some (.inl 1), some (.inl op), some (.inl 0), some (.inl tu)]) rfl (pc' := 89) rfl ?_
                  refine ax_iinc dX3_readCheck_89 rfl (by decide) (by omega) (ls' := [some (.inr 63), some (.inr 58), some (.inl 1), some (.inl op), some (.inl 0), some (.inl (tu + 1))]) rfl (pc' := 92) rfl ?_
                  refine ax_goto dX3_readCheck_92 (pc' := 19) (by decide) ?_
                  refine ih3 0 (tu + 1) (M_58 64) (M_58 63 1) (M_58 58 8) (M_58 58 2) (M_58 58 3) L3 o3 M_58 ?_ ?_ ?_ ?_ ?_ ?_ ?_ ?_ ?_ ?_ ?_ ?_ ?_ ?_ ?_
                  · omega
                  · intro x0 i0 hai
                    exact ((frM_58 x0 i0 (fun h => h.elim (fun h => hai (Or.inl h)) (fun h => h.elim (fun h => hai (Or.inr (Or.inl h))) (fun h => h.elim (fun h => hai (Or.inr (Or.inr (Or.inl h)))) (fun h => h.elim (fun h => hai (Or.inr (Or.inr (Or.inr (Or.inl h))))) (fun h => hai (Or.inr (Or.inr (Or.inr (Or.inr h)))))))))).trans ((frM_49 x0 i0 (fun h => hai (Or.inr (Or.inr (Or.inl h))))).trans ((fr1 x0 i0 (fun h => h.elim (fun h => hai (Or.inl h)) (fun h => h.elim (fun h => hai (Or.inr (Or.inl h))) (fun h => h.elim (fun h => hai (Or.inr (Or.inr (Or.inl h)))) (fun h => h.elim (fun h => hai (Or.inr (Or.inr (Or.inr (Or.inl h))))) (fun h => hai (Or.inr (Or.inr (Or.inr (Or.inr h)))))))))).trans rfl)))
                  · exact rfl
                  · exact rfl
                  · exact rfl
                  · exact rfl
                  · exact rfl
                  · omega
                  · first | exact Or.inl rfl | exact Or.inr rfl
                  · first | exact fun h => absurd h (by decide) | exact fun _ => qb2
                  · first | exact fun h => absurd h (by decide) | exact fun _ => qb3
                  · first | exact fun h => absurd h (by decide) | exact fun _ => qb4
                  · first | exact fun h => absurd h (by decide) | exact fun _ => qb5
                  · first | exact fun h => absurd h (by decide) | exact fun _ => qb6
                  · first | exact fun h => absurd h (by decide) | exact fun _ => qb7
                · have qr1 := (f_rb_01 _).resolve_left h61
                  obtain ⟨qm, qs, qc, qy2, qy3⟩ := f_cok_1 fa58_0 qr1
                  have qb7 := And.intro (qy2.trans q7.1) (qy3.trans q7.2)
                  have qgd := f_one_gd nd L1.tail _ _ (f_rb_1 qr1)
                  have qcR := f_cc_rg qc
                  obtain ⟨L3, qL3⟩ : ∃ z, z = f_rL (f_one nd L1.tail) := ⟨_, rfl⟩
                  obtain ⟨o3, qo3⟩ : ∃ z, z = o1 ++ (f_rO (f_one nd L1.tail) ++ [((31 : Int), (0 : Int))]) := ⟨_, rfl⟩
                  have qlp := f_lp_go (f_qOp_gd (by decide) (by decide) (f_one_gd nd)) qq (f_aft_ok (f_rb_1 qr1)) q5 q6
                  have qb4 := f_lp_cd (K := 31) (x := -19) q4 qm qs rfl (by decide)
                  rw [← qL3, ← qo3] at qlp
                  rw [← qo3] at qb4
                  have qb3 := qc
                  rw [← qL3] at qb3
                  have qb5 := qlp.1
                  have qb6 := qlp.2
                  refine ax_aload_n dX3_readCheck_64 rfl rfl (pc' := 65) rfl ?_
                  refine ax_iload_n dX3_readCheck_65 rfl rfl (pc' := 66) rfl ?_
                  refine ax_if_ne (tgt := 74) dX3_readCheck_66 (by decide) (pc' := 69) rfl (fun h66 => ?_) (fun h66 => ?_)
                  · refine ax_bipush dX3_readCheck_74 (by decide) (pc' := 76) rfl ?_
                    refine ax_invG [.inl (-19)] [] dX3_readCheck_76 mlX3_55 sh_63 rfl rfl rfl (Nat.le_of_ble_eq_true rfl) (s_X3_put E l _ (by omega) _ (-19) rfl rfl (by first | omega | assumption)) (pc' := 79) rfl (fun vv M_76 hq co76 hcm76 => ?_)
                    obtain ⟨rfl, frM_76, mrM_76_0, msM_76_0⟩ := hq
                    refine ax_reS (st2 := [.inl 1]) rfl ?_
                    refine ax_if_eq (tgt := 86) dX3_readCheck_79 (by decide) (pc' := 82) rfl (fun h79 => ?_) (fun h79 => ?_)
                    · exfalso
                      omega
                    · refine ax_iconst dX3_readCheck_82 (by decide) (pc' := 83) rfl ?_
                      refine ax_goto dX3_readCheck_83 (pc' := 87) (by decide) ?_
                      refine ax_istore dX3_readCheck_87 (by decide) (ls' := [some (.inr 63), some (.inr 58), some (.inl 1), some (.inl op), some (.inl 1), some (.inl tu)]) rfl (pc' := 89) rfl ?_
                      refine ax_iinc dX3_readCheck_89 rfl (by decide) (by omega) (ls' := [some (.inr 63), some (.inr 58), some (.inl 1), some (.inl op), some (.inl 1), some (.inl (tu + 1))]) rfl (pc' := 92) rfl ?_
                      refine ax_goto dX3_readCheck_92 (pc' := 19) (by decide) ?_
                      refine ih3 1 (tu + 1) (f_up (M_58 64) (M_58 63 1) (-19)) ((M_58 63 1) + 1) (M_58 58 8) (M_58 58 2) (M_58 58 3) L3 o3 M_76 ?_ ?_ ?_ ?_ ?_ ?_ ?_ ?_ ?_ ?_ ?_ ?_ ?_ ?_ ?_
                      · omega
                      · intro x0 i0 hai
                        exact ((frM_76 x0 i0 (fun h => h.elim (fun h => hai (Or.inl h)) (fun h => hai (Or.inr (Or.inl h))))).trans ((frM_58 x0 i0 (fun h => h.elim (fun h => hai (Or.inl h)) (fun h => h.elim (fun h => hai (Or.inr (Or.inl h))) (fun h => h.elim (fun h => hai (Or.inr (Or.inr (Or.inl h)))) (fun h => h.elim (fun h => hai (Or.inr (Or.inr (Or.inr (Or.inl h))))) (fun h => hai (Or.inr (Or.inr (Or.inr (Or.inr h)))))))))).trans ((frM_49 x0 i0 (fun h => hai (Or.inr (Or.inr (Or.inl h))))).trans ((fr1 x0 i0 (fun h => h.elim (fun h => hai (Or.inl h)) (fun h => h.elim (fun h => hai (Or.inr (Or.inl h))) (fun h => h.elim (fun h => hai (Or.inr (Or.inr (Or.inl h)))) (fun h => h.elim (fun h => hai (Or.inr (Or.inr (Or.inr (Or.inl h))))) (fun h => hai (Or.inr (Or.inr (Or.inr (Or.inr h)))))))))).trans rfl))))
                      · exact mrM_76_0
                      · exact msM_76_0
                      · exact ((frM_76 58 8 (fun h => h.elim (fun h => absurd h (by decide)) (fun h => absurd h.1 (by decide)))).trans rfl)
                      · exact ((frM_76 58 2 (fun h => h.elim (fun h => absurd h (by decide)) (fun h => absurd h.1 (by decide)))).trans rfl)
                      · exact ((frM_76 58 3 (fun h => h.elim (fun h => absurd h (by decide)) (fun h => absurd h.1 (by decide)))).trans rfl)
                      · omega
                      · first | exact Or.inl rfl | exact Or.inr rfl
                      · first | exact fun h => absurd h (by decide) | exact fun _ => qb2
                      · first | exact fun h => absurd h (by decide) | exact fun _ => qb3
                      · first | exact fun h => absurd h (by decide) | exact fun _ => qb4
                      · first | exact fun h => absurd h (by decide) | exact fun _ => qb5
                      · first | exact fun h => absurd h (by decide) | exact fun _ => qb6
                      · first | exact fun h => absurd h (by decide) | exact fun _ => qb7
                  · exfalso
                    omega
            · exfalso
              omega
    refine LP1 (401 - 0 : Int).toNat.succ (f_rb (f_one nd L)) 0 (M_11 64) (M_11 63 1) (M_11 58 8) (M_11 58 2) (M_11 58 3) (f_rL (f_one nd L)) (f_rO (f_one nd L)) M_11 ?_ ?_ ?_ ?_ ?_ ?_ ?_ ?_ ?_ ?_ ?_ ?_ ?_ ?_ ?_
    · omega
    · exact fun a i _ => rfl
    · exact rfl
    · exact rfl
    · exact rfl
    · exact rfl
    · exact rfl
    · decide
    · exact f_rb_01 _
    · exact fun h => f_seq_0 (f_cok_0 fa11_0 h)
    · exact fun h => (f_cok_1 fa11_0 h).2.2.1
    · exact fun h => ⟨(f_cok_1 fa11_0 h).1, (f_cok_1 fa11_0 h).2.1⟩
    · intro h
      have g := f_one_gd nd L _ _ (f_rb_1 h)
      exact ⟨g.2.1, by omega⟩
    · exact fun h => f_seq_1 h
    · exact fun h => (f_cok_1 fa11_0 h).2.2.2
set_option maxRecDepth 20000 in
theorem s_ck_an (nd : Nat) (H1 : f_K1 nd) (E : ax_Env) (l : Launch) (d : Nat) (hd : 6 + 3 * nd ≤ d) (M : ax_Mem) (op : Int) (rd : Int) (L : List f_Tk) {kk : Int → Int} (hkk : M 60 = kk) {vv : Int → Int} (hvv : M 61 = vv) {ss : Int → Int} (hss : M 62 = ss) {cd : Int → Int} (hcd : M 64 = cd) {nx : Int} (hnx : M 58 8 = nx) {sz : Int} (hsz : M 63 1 = sz) {x2 : Int} (hx2 : M 58 2 = x2) {x3 : Int} (hx3 : M 58 3 = x3) (hg0 : 0 ≤ rd ∧ rd < 3) (hg1 : f_cc rd kk vv ss nx L) (hg2 : 0 ≤ sz ∧ sz + (L.length : Int) ≤ 401) (hg3 : 0 ≤ op ∧ op + (nd : Int) = 8) : ax_G E l d iX3_readCheck [.inr 63, .inr 58, .inl 0, .inl op] M (fun z0 M2 => z0 = some (.inl (f_rb (f_any (f_one nd) L))) ∧ (∀ x0 i0 : Int, ¬ (x0 = 64 ∨ (x0 = 63 ∧ i0 = 1) ∨ (x0 = 58 ∧ i0 = 8) ∨ (x0 = 58 ∧ i0 = 2) ∨ (x0 = 58 ∧ i0 = 3)) → M2 x0 i0 = M x0 i0) ∧ (f_cok rd kk vv ss cd sz x2 x3 (f_any (f_one nd) L) M2)) := by
  obtain ⟨d, rfl⟩ : ∃ d0, d = d0 + 1 := ⟨d - 1, by omega⟩
  refine ax_start rfl (Nat.le_of_ble_eq_true rfl) (ls := [some (.inr 63), some (.inr 58), some (.inl 0), some (.inl op), none, none]) rfl (fun hav hcm => ?_)
  have hc3 : -2147483648 ≤ op ∧ op < 2147483648 := hav (.inl op) (by simp)
  clear hav
  have qK := f_kv_lw hg0 (f_cc_hd hg1).1.1
  have qs := (f_cc_hd hg1).1.2
  have qR := f_cc_rg hg1
  refine ax_iload_n dX3_readCheck_0 rfl rfl (pc' := 1) rfl ?_
  refine ax_iconst dX3_readCheck_1 (by decide) (pc' := 2) rfl ?_
  refine ax_icmp_ge (tgt := 98) dX3_readCheck_2 (by decide) (pc' := 5) rfl (fun h2 => ?_) (fun h2 => ?_)
  · exfalso
    omega
  · refine ax_aload_n dX3_readCheck_5 rfl rfl (pc' := 6) rfl ?_
    refine ax_aload_n dX3_readCheck_6 rfl rfl (pc' := 7) rfl ?_
    refine ax_iload_n dX3_readCheck_7 rfl rfl (pc' := 8) rfl ?_
    refine ax_iconst dX3_readCheck_8 (by decide) (pc' := 9) rfl ?_
    refine ax_iadd dX3_readCheck_9 (by omega) (pc' := 10) rfl ?_
    refine ax_iload_n dX3_readCheck_10 rfl rfl (pc' := 11) rfl ?_
    refine ax_invG [.inr 58, .inl 1, .inl op] [] dX3_readCheck_11 mlX3_51 sh_63 rfl rfl rfl (Nat.le_of_ble_eq_true rfl) (s_ck_ev nd H1 E l _ (by omega) _ op rd L hkk hvv hss hcd hnx hsz hx2 hx3 (by first | omega | assumption) (by first | omega | assumption) (by first | omega | assumption) (by first | omega | assumption)) (pc' := 14) rfl (fun vv M_11 hq co11 hcm11 => ?_)
    obtain ⟨rfl, frM_11, fa11_0⟩ := hq
    refine ax_reS (st2 := [.inl (f_rb (f_evy (f_one nd) L))]) rfl ?_
    have cc11 : -2147483648 ≤ f_rb (f_evy (f_one nd) L) ∧ f_rb (f_evy (f_one nd) L) < 2147483648 := co11 _ rfl
    refine ax_istore dX3_readCheck_14 (by decide) (ls' := [some (.inr 63), some (.inr 58), some (.inl 0), some (.inl op), some (.inl (f_rb (f_evy (f_one nd) L))), none]) rfl (pc' := 16) rfl ?_
    refine ax_iconst dX3_readCheck_16 (by decide) (pc' := 17) rfl ?_
    refine ax_istore dX3_readCheck_17 (by decide) (ls' := [some (.inr 63), some (.inr 58), some (.inl 0), some (.inl op), some (.inl (f_rb (f_evy (f_one nd) L))), some (.inl 0)]) rfl (pc' := 19) rfl ?_
    have LP1 : ∀ (kq2 : Nat) (gd tu : Int) (c1 : Int → Int) (s1 n1 w1 w2 : Int) (L1 : List f_Tk) (o1 : List f_Op) (M1 : ax_Mem) (hm1 : 401 - tu < (kq2 : Nat)) (fr1 : ∀ x0 i0 : Int, ¬ (x0 = 64 ∨ (x0 = 63 ∧ i0 = 1) ∨ (x0 = 58 ∧ i0 = 8) ∨ (x0 = 58 ∧ i0 = 2) ∨ (x0 = 58 ∧ i0 = 3)) → M1 x0 i0 = M_11 x0 i0) (mr1_64 : M1 64 = c1) (ms1_63_1 : M1 63 1 = s1) (ms1_58_8 : M1 58 8 = n1) (ms1_58_2 : M1 58 2 = w1) (ms1_58_3 : M1 58 3 = w2) (iv1_0 : 0 ≤ tu ∧ tu ≤ 400) (iv1_1 : gd = 0 ∨ gd = 1) (iv1_2 : gd = 0 → f_any (f_one nd) L = .inl (w1, w2)) (iv1_3 : gd = 1 → f_cc rd kk vv ss n1 L1) (iv1_4 : gd = 1 → c1 = f_pi cd sz (f_en rd o1) ∧ s1 = sz + (f_wt o1 : Int)) (iv1_5 : gd = 1 → f_wt o1 + L1.length ≤ L.length ∧ tu + 1 ≤ (f_wt o1 : Int)) (iv1_6 : gd = 1 → f_any (f_one nd) L = f_pre o1 (f_rep (f_qOp 4 32 (f_evy (f_one nd))) L1)) (iv1_7 : gd = 1 → w1 = x2 ∧ w2 = x3), ax_W E l (d + 1) 0 0 iX3_readCheck 19 [some (.inr 63), some (.inr 58), some (.inl 0), some (.inl op), some (.inl gd), some (.inl tu)] [] SH M1 (ax_P (fun z0 M2 => z0 = some (.inl (f_rb (f_any (f_one nd) L))) ∧ (∀ x0 i0 : Int, ¬ (x0 = 64 ∨ (x0 = 63 ∧ i0 = 1) ∨ (x0 = 58 ∧ i0 = 8) ∨ (x0 = 58 ∧ i0 = 2) ∨ (x0 = 58 ∧ i0 = 3)) → M2 x0 i0 = M x0 i0) ∧ (f_cok rd kk vv ss cd sz x2 x3 (f_any (f_one nd) L) M2))) := by
      intro kq2
      induction kq2 with
      | zero =>
        intro gd tu c1 s1 n1 w1 w2 L1 o1 M1 hm1 fr1 mr1_64 ms1_63_1 ms1_58_8 ms1_58_2 ms1_58_3 iv1_0 iv1_1 iv1_2 iv1_3 iv1_4 iv1_5 iv1_6 iv1_7
        exfalso
        omega
      | succ kq2 ih3 =>
        intro gd tu c1 s1 n1 w1 w2 L1 o1 M1 hm1 fr1 mr1_64 ms1_63_1 ms1_58_8 ms1_58_2 ms1_58_3 iv1_0 iv1_1 iv1_2 iv1_3 iv1_4 iv1_5 iv1_6 iv1_7
        refine ax_iload dX3_readCheck_19 rfl (pc' := 21) rfl ?_
        refine ax_sipush dX3_readCheck_21 (by decide) (pc' := 24) rfl ?_
        refine ax_icmp_ge (tgt := 95) dX3_readCheck_24 (by decide) (pc' := 27) rfl (fun h24 => ?_) (fun h24 => ?_)
        · have qg : gd = 0 := by
            rcases iv1_1 with h | h
            · exact h
            · exfalso
              have a := iv1_5 h
              have b := f_cc_rg (iv1_3 h)
              omega
          have qz := iv1_2 qg
          refine ax_iload dX3_readCheck_95 rfl (pc' := 97) rfl ?_
          refine ax_zret dX3_readCheck_97 rfl (by omega) ?_
          refine ⟨rfl, ?_, ?_, ?_⟩
          · refine congrArg (fun z => some (Sum.inl z)) ?_
            rw [qz, qg]
            rfl
          · intro x0 i0 hai
            exact ((fr1 x0 i0 (fun h => h.elim (fun h => hai (Or.inl h)) (fun h => h.elim (fun h => hai (Or.inr (Or.inl h))) (fun h => h.elim (fun h => hai (Or.inr (Or.inr (Or.inl h)))) (fun h => h.elim (fun h => hai (Or.inr (Or.inr (Or.inr (Or.inl h))))) (fun h => hai (Or.inr (Or.inr (Or.inr (Or.inr h)))))))))).trans ((frM_11 x0 i0 (fun h => h.elim (fun h => hai (Or.inl h)) (fun h => h.elim (fun h => hai (Or.inr (Or.inl h))) (fun h => h.elim (fun h => hai (Or.inr (Or.inr (Or.inl h)))) (fun h => h.elim (fun h => hai (Or.inr (Or.inr (Or.inr (Or.inl h))))) (fun h => hai (Or.inr (Or.inr (Or.inr (Or.inr h)))))))))).trans rfl))
          · first
              | exact f_cok_no qz ms1_58_2 ms1_58_3
              | exact f_cok_ok qz (Eq.trans mr1_64 q4.1) (Eq.trans ms1_63_1 q4.2) ms1_58_8 q3 (Eq.trans ms1_58_2 q7.1) (Eq.trans ms1_58_3 q7.2)
        · refine ax_iload dX3_readCheck_27 rfl (pc' := 29) rfl ?_
          refine ax_if_eq (tgt := 95) dX3_readCheck_29 (by decide) (pc' := 32) rfl (fun h29 => ?_) (fun h29 => ?_)
          · have qz := iv1_2 h29
            have qg := h29
            refine ax_iload dX3_readCheck_95 rfl (pc' := 97) rfl ?_
            refine ax_zret dX3_readCheck_97 rfl (by omega) ?_
            refine ⟨rfl, ?_, ?_, ?_⟩
            · refine congrArg (fun z => some (Sum.inl z)) ?_
              rw [qz, qg]
              rfl
            · intro x0 i0 hai
              exact ((fr1 x0 i0 (fun h => h.elim (fun h => hai (Or.inl h)) (fun h => h.elim (fun h => hai (Or.inr (Or.inl h))) (fun h => h.elim (fun h => hai (Or.inr (Or.inr (Or.inl h)))) (fun h => h.elim (fun h => hai (Or.inr (Or.inr (Or.inr (Or.inl h))))) (fun h => hai (Or.inr (Or.inr (Or.inr (Or.inr h)))))))))).trans ((frM_11 x0 i0 (fun h => h.elim (fun h => hai (Or.inl h)) (fun h => h.elim (fun h => hai (Or.inr (Or.inl h))) (fun h => h.elim (fun h => hai (Or.inr (Or.inr (Or.inl h)))) (fun h => h.elim (fun h => hai (Or.inr (Or.inr (Or.inr (Or.inl h))))) (fun h => hai (Or.inr (Or.inr (Or.inr (Or.inr h)))))))))).trans rfl))
            · first
                | exact f_cok_no qz ms1_58_2 ms1_58_3
                | exact f_cok_ok qz (Eq.trans mr1_64 q4.1) (Eq.trans ms1_63_1 q4.2) ms1_58_8 q3 (Eq.trans ms1_58_2 q7.1) (Eq.trans ms1_58_3 q7.2)
          · have qg : gd = 1 := by omega
            have q3 := iv1_3 qg
            have q4 := iv1_4 qg
            have q5 := iv1_5 qg
            have q6 := iv1_6 qg
            have q7 := iv1_7 qg
            have pK := f_kv_lw hg0 (f_cc_hd q3).1.1
            have ps := (f_cc_hd q3).1.2
            have pR := f_cc_rg q3
            refine ax_aload_n dX3_readCheck_32 rfl rfl (pc' := 33) rfl ?_
            refine ax_iload_n dX3_readCheck_33 rfl rfl (pc' := 34) rfl ?_
            refine ax_if_ne (tgt := 41) dX3_readCheck_34 (by decide) (pc' := 37) rfl (fun h34 => ?_) (fun h34 => ?_)
            · exfalso
              omega
            · refine ax_iconst dX3_readCheck_37 (by decide) (pc' := 38) rfl ?_
              refine ax_goto dX3_readCheck_38 (pc' := 42) (by decide) ?_
              refine ax_invG [.inl 2] [] dX3_readCheck_42 mlX3_38 sh_58 rfl rfl rfl (Nat.le_of_ble_eq_true rfl) (s_X8_isWord E l _ (by omega) _ 2 ((funext fun i0 => fr1 60 i0 (fun h => h.elim (fun h => absurd h (by decide)) (fun h => h.elim (fun h => absurd h.1 (by decide)) (fun h => h.elim (fun h => absurd h.1 (by decide)) (fun h => h.elim (fun h => absurd h.1 (by decide)) (fun h => absurd h.1 (by decide))))))).trans ((funext fun i0 => frM_11 60 i0 (fun h => h.elim (fun h => absurd h (by decide)) (fun h => h.elim (fun h => absurd h.1 (by decide)) (fun h => h.elim (fun h => absurd h.1 (by decide)) (fun h => h.elim (fun h => absurd h.1 (by decide)) (fun h => absurd h.1 (by decide))))))).trans hkk)) ((funext fun i0 => fr1 61 i0 (fun h => h.elim (fun h => absurd h (by decide)) (fun h => h.elim (fun h => absurd h.1 (by decide)) (fun h => h.elim (fun h => absurd h.1 (by decide)) (fun h => h.elim (fun h => absurd h.1 (by decide)) (fun h => absurd h.1 (by decide))))))).trans ((funext fun i0 => frM_11 61 i0 (fun h => h.elim (fun h => absurd h (by decide)) (fun h => h.elim (fun h => absurd h.1 (by decide)) (fun h => h.elim (fun h => absurd h.1 (by decide)) (fun h => h.elim (fun h => absurd h.1 (by decide)) (fun h => absurd h.1 (by decide))))))).trans hvv)) ms1_58_8 (by first | omega | assumption)) (pc' := 45) rfl (fun vv M_42 hq co42 hcm42 => ?_)
              obtain ⟨rfl, rfl⟩ := hq
              refine ax_reS (st2 := [.inl (f_b (kk n1 = 2 ∧ vv n1 = 2))]) rfl ?_
              refine ax_if_eq (tgt := 95) dX3_readCheck_45 (by decide) (pc' := 48) rfl (fun h45 => ?_) (fun h45 => ?_)
              · replace h45 := f_b_0 h45
                have qz : f_any (f_one nd) L = .inr (L1, o1) := by
                  refine f_lp_end ?_ q6
                  unfold f_qOp
                  rw [if_neg (fun h => h45 ((kl_w2 pK).mpr h))]
                refine ax_iload dX3_readCheck_95 rfl (pc' := 97) rfl ?_
                refine ax_zret dX3_readCheck_97 rfl (by omega) ?_
                refine ⟨rfl, ?_, ?_, ?_⟩
                · refine congrArg (fun z => some (Sum.inl z)) ?_
                  rw [qz, qg]
                  rfl
                · intro x0 i0 hai
                  exact ((fr1 x0 i0 (fun h => h.elim (fun h => hai (Or.inl h)) (fun h => h.elim (fun h => hai (Or.inr (Or.inl h))) (fun h => h.elim (fun h => hai (Or.inr (Or.inr (Or.inl h)))) (fun h => h.elim (fun h => hai (Or.inr (Or.inr (Or.inr (Or.inl h))))) (fun h => hai (Or.inr (Or.inr (Or.inr (Or.inr h)))))))))).trans ((frM_11 x0 i0 (fun h => h.elim (fun h => hai (Or.inl h)) (fun h => h.elim (fun h => hai (Or.inr (Or.inl h))) (fun h => h.elim (fun h => hai (Or.inr (Or.inr (Or.inl h)))) (fun h => h.elim (fun h => hai (Or.inr (Or.inr (Or.inr (Or.inl h))))) (fun h => hai (Or.inr (Or.inr (Or.inr (Or.inr h)))))))))).trans rfl))
                · first
                    | exact f_cok_no qz ms1_58_2 ms1_58_3
                    | exact f_cok_ok qz (Eq.trans mr1_64 q4.1) (Eq.trans ms1_63_1 q4.2) ms1_58_8 q3 (Eq.trans ms1_58_2 q7.1) (Eq.trans ms1_58_3 q7.2)
              · replace h45 := f_b_1 h45
                have qT : f_T L1 = 4 := (kl_w2 pK).mp h45
                have qq : (f_qOp 4 32 (f_evy (f_one nd))) L1 = some (f_aft [(32, 0)] (f_evy (f_one nd) L1.tail)) := by
                  unfold f_qOp
                  rw [if_pos qT]
                obtain ⟨xc, xl, xn⟩ := f_cc_nx q3 (by omega)
                have xK := f_kv_lw hg0 (f_cc_hd xc).1.1
                have xs := (f_cc_hd xc).1.2
                have xR := f_cc_rg xc
                refine ax_aload_n dX3_readCheck_48 rfl rfl (pc' := 49) rfl ?_
                refine ax_invG [] [] dX3_readCheck_49 mlX3_45 sh_58 rfl rfl rfl (Nat.le_of_ble_eq_true rfl) (s_X8_step E l _ (by omega) _ ((funext fun i0 => fr1 60 i0 (fun h => h.elim (fun h => absurd h (by decide)) (fun h => h.elim (fun h => absurd h.1 (by decide)) (fun h => h.elim (fun h => absurd h.1 (by decide)) (fun h => h.elim (fun h => absurd h.1 (by decide)) (fun h => absurd h.1 (by decide))))))).trans ((funext fun i0 => frM_11 60 i0 (fun h => h.elim (fun h => absurd h (by decide)) (fun h => h.elim (fun h => absurd h.1 (by decide)) (fun h => h.elim (fun h => absurd h.1 (by decide)) (fun h => h.elim (fun h => absurd h.1 (by decide)) (fun h => absurd h.1 (by decide))))))).trans hkk)) ms1_58_8 (by first | omega | assumption) (by first | omega | assumption)) (pc' := 52) rfl (fun vv M_49 hq co49 hcm49 => ?_)
                obtain ⟨rfl, frM_49, msM_49_0⟩ := hq
                refine ax_reS (st2 := []) rfl ?_
                refine ax_aload_n dX3_readCheck_52 rfl rfl (pc' := 53) rfl ?_
                refine ax_aload_n dX3_readCheck_53 rfl rfl (pc' := 54) rfl ?_
                refine ax_iload_n dX3_readCheck_54 rfl rfl (pc' := 55) rfl ?_
                refine ax_iconst dX3_readCheck_55 (by decide) (pc' := 56) rfl ?_
                refine ax_iadd dX3_readCheck_56 (by omega) (pc' := 57) rfl ?_
                refine ax_iload_n dX3_readCheck_57 rfl rfl (pc' := 58) rfl ?_
                refine ax_invG [.inr 58, .inl 1, .inl op] [] dX3_readCheck_58 mlX3_51 sh_63 rfl rfl rfl (Nat.le_of_ble_eq_true rfl) (s_ck_ev nd H1 E l _ (by omega) _ op rd L1.tail ((funext fun i0 => frM_49 60 i0 (fun h => absurd h.1 (by decide))).trans ((funext fun i0 => fr1 60 i0 (fun h => h.elim (fun h => absurd h (by decide)) (fun h => h.elim (fun h => absurd h.1 (by decide)) (fun h => h.elim (fun h => absurd h.1 (by decide)) (fun h => h.elim (fun h => absurd h.1 (by decide)) (fun h => absurd h.1 (by decide))))))).trans ((funext fun i0 => frM_11 60 i0 (fun h => h.elim (fun h => absurd h (by decide)) (fun h => h.elim (fun h => absurd h.1 (by decide)) (fun h => h.elim (fun h => absurd h.1 (by decide)) (fun h => h.elim (fun h => absurd h.1 (by decide)) (fun h => absurd h.1 (by decide))))))).trans hkk))) ((funext fun i0 => frM_49 61 i0 (fun h => absurd h.1 (by decide))).trans ((funext fun i0 => fr1 61 i0 (fun h => h.elim (fun h => absurd h (by decide)) (fun h => h.elim (fun h => absurd h.1 (by decide)) (fun h => h.elim (fun h => absurd h.1 (by decide)) (fun h => h.elim (fun h => absurd h.1 (by decide)) (fun h => absurd h.1 (by decide))))))).trans ((funext fun i0 => frM_11 61 i0 (fun h => h.elim (fun h => absurd h (by decide)) (fun h => h.elim (fun h => absurd h.1 (by decide)) (fun h => h.elim (fun h => absurd h.1 (by decide)) (fun h => h.elim (fun h => absurd h.1 (by decide)) (fun h => absurd h.1 (by decide))))))).trans hvv))) ((funext fun i0 => frM_49 62 i0 (fun h => absurd h.1 (by decide))).trans ((funext fun i0 => fr1 62 i0 (fun h => h.elim (fun h => absurd h (by decide)) (fun h => h.elim (fun h => absurd h.1 (by decide)) (fun h => h.elim (fun h => absurd h.1 (by decide)) (fun h => h.elim (fun h => absurd h.1 (by decide)) (fun h => absurd h.1 (by decide))))))).trans ((funext fun i0 => frM_11 62 i0 (fun h => h.elim (fun h => absurd h (by decide)) (fun h => h.elim (fun h => absurd h.1 (by decide)) (fun h => h.elim (fun h => absurd h.1 (by decide)) (fun h => h.elim (fun h => absurd h.1 (by decide)) (fun h => absurd h.1 (by decide))))))).trans hss))) ((funext fun i0 => frM_49 64 i0 (fun h => absurd h.1 (by decide))).trans mr1_64) msM_49_0 ((frM_49 63 1 (fun h => absurd h.1 (by decide))).trans ms1_63_1) ((frM_49 58 2 (fun h => absurd h.2 (by decide))).trans ms1_58_2) ((frM_49 58 3 (fun h => absurd h.2 (by decide))).trans ms1_58_3) (by first | omega | assumption) xc (by first | omega | assumption) (by first | omega | assumption)) (pc' := 61) rfl (fun vv M_58 hq co58 hcm58 => ?_)
                obtain ⟨rfl, frM_58, fa58_0⟩ := hq
                refine ax_reS (st2 := [.inl (f_rb (f_evy (f_one nd) L1.tail))]) rfl ?_
                have cc58 : -2147483648 ≤ f_rb (f_evy (f_one nd) L1.tail) ∧ f_rb (f_evy (f_one nd) L1.tail) < 2147483648 := co58 _ rfl
                refine ax_if_eq (tgt := 86) dX3_readCheck_61 (by decide) (pc' := 64) rfl (fun h61 => ?_) (fun h61 => ?_)
                · have qb2 := f_lp_no (f_qOp_gd (by decide) (by decide) (f_evy_gd (f_one_gd nd))) qq (f_aft_no (f_cok_0 fa58_0 h61)) q6
                  obtain ⟨L3, qL3⟩ : ∃ z, z = L1 := ⟨_, rfl⟩
                  obtain ⟨o3, qo3⟩ : ∃ z, z = o1 := ⟨_, rfl⟩
                  refine ax_iconst dX3_readCheck_86 (by decide) (pc' := 87) rfl ?_
                  refine ax_istore dX3_readCheck_87 (by decide) (ls' := [some (.inr 63), some (.inr 58), some (.inl 0), some (.inl op), some (.inl 0), some (.inl tu)]) rfl (pc' := 89) rfl ?_
                  refine ax_iinc dX3_readCheck_89 rfl (by decide) (by omega) (ls' := [some (.inr 63), some (.inr 58), some (.inl 0), some (.inl op), some (.inl 0), some (.inl (tu + 1))]) rfl (pc' := 92) rfl ?_
                  refine ax_goto dX3_readCheck_92 (pc' := 19) (by decide) ?_
                  refine ih3 0 (tu + 1) (M_58 64) (M_58 63 1) (M_58 58 8) (M_58 58 2) (M_58 58 3) L3 o3 M_58 ?_ ?_ ?_ ?_ ?_ ?_ ?_ ?_ ?_ ?_ ?_ ?_ ?_ ?_ ?_
                  · omega
                  · intro x0 i0 hai
                    exact ((frM_58 x0 i0 (fun h => h.elim (fun h => hai (Or.inl h)) (fun h => h.elim (fun h => hai (Or.inr (Or.inl h))) (fun h => h.elim (fun h => hai (Or.inr (Or.inr (Or.inl h)))) (fun h => h.elim (fun h => hai (Or.inr (Or.inr (Or.inr (Or.inl h))))) (fun h => hai (Or.inr (Or.inr (Or.inr (Or.inr h)))))))))).trans ((frM_49 x0 i0 (fun h => hai (Or.inr (Or.inr (Or.inl h))))).trans ((fr1 x0 i0 (fun h => h.elim (fun h => hai (Or.inl h)) (fun h => h.elim (fun h => hai (Or.inr (Or.inl h))) (fun h => h.elim (fun h => hai (Or.inr (Or.inr (Or.inl h)))) (fun h => h.elim (fun h => hai (Or.inr (Or.inr (Or.inr (Or.inl h))))) (fun h => hai (Or.inr (Or.inr (Or.inr (Or.inr h)))))))))).trans rfl)))
                  · exact rfl
                  · exact rfl
                  · exact rfl
                  · exact rfl
                  · exact rfl
                  · omega
                  · first | exact Or.inl rfl | exact Or.inr rfl
                  · first | exact fun h => absurd h (by decide) | exact fun _ => qb2
                  · first | exact fun h => absurd h (by decide) | exact fun _ => qb3
                  · first | exact fun h => absurd h (by decide) | exact fun _ => qb4
                  · first | exact fun h => absurd h (by decide) | exact fun _ => qb5
                  · first | exact fun h => absurd h (by decide) | exact fun _ => qb6
                  · first | exact fun h => absurd h (by decide) | exact fun _ => qb7
                · have qr1 := (f_rb_01 _).resolve_left h61
                  obtain ⟨qm, qs, qc, qy2, qy3⟩ := f_cok_1 fa58_0 qr1
                  have qb7 := And.intro (qy2.trans q7.1) (qy3.trans q7.2)
                  have qgd := f_evy_gd (f_one_gd nd) L1.tail _ _ (f_rb_1 qr1)
                  have qcR := f_cc_rg qc
                  obtain ⟨L3, qL3⟩ : ∃ z, z = f_rL (f_evy (f_one nd) L1.tail) := ⟨_, rfl⟩
                  obtain ⟨o3, qo3⟩ : ∃ z, z = o1 ++ (f_rO (f_evy (f_one nd) L1.tail) ++ [((32 : Int), (0 : Int))]) := ⟨_, rfl⟩
                  have qlp := f_lp_go (f_qOp_gd (by decide) (by decide) (f_evy_gd (f_one_gd nd))) qq (f_aft_ok (f_rb_1 qr1)) q5 q6
                  have qb4 := f_lp_cd (K := 32) (x := -20) q4 qm qs rfl (by decide)
                  rw [← qL3, ← qo3] at qlp
                  rw [← qo3] at qb4
                  have qb3 := qc
                  rw [← qL3] at qb3
                  have qb5 := qlp.1
                  have qb6 := qlp.2
                  refine ax_aload_n dX3_readCheck_64 rfl rfl (pc' := 65) rfl ?_
                  refine ax_iload_n dX3_readCheck_65 rfl rfl (pc' := 66) rfl ?_
                  refine ax_if_ne (tgt := 74) dX3_readCheck_66 (by decide) (pc' := 69) rfl (fun h66 => ?_) (fun h66 => ?_)
                  · exfalso
                    omega
                  · refine ax_bipush dX3_readCheck_69 (by decide) (pc' := 71) rfl ?_
                    refine ax_goto dX3_readCheck_71 (pc' := 76) (by decide) ?_
                    refine ax_invG [.inl (-20)] [] dX3_readCheck_76 mlX3_55 sh_63 rfl rfl rfl (Nat.le_of_ble_eq_true rfl) (s_X3_put E l _ (by omega) _ (-20) rfl rfl (by first | omega | assumption)) (pc' := 79) rfl (fun vv M_76 hq co76 hcm76 => ?_)
                    obtain ⟨rfl, frM_76, mrM_76_0, msM_76_0⟩ := hq
                    refine ax_reS (st2 := [.inl 1]) rfl ?_
                    refine ax_if_eq (tgt := 86) dX3_readCheck_79 (by decide) (pc' := 82) rfl (fun h79 => ?_) (fun h79 => ?_)
                    · exfalso
                      omega
                    · refine ax_iconst dX3_readCheck_82 (by decide) (pc' := 83) rfl ?_
                      refine ax_goto dX3_readCheck_83 (pc' := 87) (by decide) ?_
                      refine ax_istore dX3_readCheck_87 (by decide) (ls' := [some (.inr 63), some (.inr 58), some (.inl 0), some (.inl op), some (.inl 1), some (.inl tu)]) rfl (pc' := 89) rfl ?_
                      refine ax_iinc dX3_readCheck_89 rfl (by decide) (by omega) (ls' := [some (.inr 63), some (.inr 58), some (.inl 0), some (.inl op), some (.inl 1), some (.inl (tu + 1))]) rfl (pc' := 92) rfl ?_
                      refine ax_goto dX3_readCheck_92 (pc' := 19) (by decide) ?_
                      refine ih3 1 (tu + 1) (f_up (M_58 64) (M_58 63 1) (-20)) ((M_58 63 1) + 1) (M_58 58 8) (M_58 58 2) (M_58 58 3) L3 o3 M_76 ?_ ?_ ?_ ?_ ?_ ?_ ?_ ?_ ?_ ?_ ?_ ?_ ?_ ?_ ?_
                      · omega
                      · intro x0 i0 hai
                        exact ((frM_76 x0 i0 (fun h => h.elim (fun h => hai (Or.inl h)) (fun h => hai (Or.inr (Or.inl h))))).trans ((frM_58 x0 i0 (fun h => h.elim (fun h => hai (Or.inl h)) (fun h => h.elim (fun h => hai (Or.inr (Or.inl h))) (fun h => h.elim (fun h => hai (Or.inr (Or.inr (Or.inl h)))) (fun h => h.elim (fun h => hai (Or.inr (Or.inr (Or.inr (Or.inl h))))) (fun h => hai (Or.inr (Or.inr (Or.inr (Or.inr h)))))))))).trans ((frM_49 x0 i0 (fun h => hai (Or.inr (Or.inr (Or.inl h))))).trans ((fr1 x0 i0 (fun h => h.elim (fun h => hai (Or.inl h)) (fun h => h.elim (fun h => hai (Or.inr (Or.inl h))) (fun h => h.elim (fun h => hai (Or.inr (Or.inr (Or.inl h)))) (fun h => h.elim (fun h => hai (Or.inr (Or.inr (Or.inr (Or.inl h))))) (fun h => hai (Or.inr (Or.inr (Or.inr (Or.inr h)))))))))).trans rfl))))
                      · exact mrM_76_0
                      · exact msM_76_0
                      · exact ((frM_76 58 8 (fun h => h.elim (fun h => absurd h (by decide)) (fun h => absurd h.1 (by decide)))).trans rfl)
                      · exact ((frM_76 58 2 (fun h => h.elim (fun h => absurd h (by decide)) (fun h => absurd h.1 (by decide)))).trans rfl)
                      · exact ((frM_76 58 3 (fun h => h.elim (fun h => absurd h (by decide)) (fun h => absurd h.1 (by decide)))).trans rfl)
                      · omega
                      · first | exact Or.inl rfl | exact Or.inr rfl
                      · first | exact fun h => absurd h (by decide) | exact fun _ => qb2
                      · first | exact fun h => absurd h (by decide) | exact fun _ => qb3
                      · first | exact fun h => absurd h (by decide) | exact fun _ => qb4
                      · first | exact fun h => absurd h (by decide) | exact fun _ => qb5
                      · first | exact fun h => absurd h (by decide) | exact fun _ => qb6
                      · first | exact fun h => absurd h (by decide) | exact fun _ => qb7
    refine LP1 (401 - 0 : Int).toNat.succ (f_rb (f_evy (f_one nd) L)) 0 (M_11 64) (M_11 63 1) (M_11 58 8) (M_11 58 2) (M_11 58 3) (f_rL (f_evy (f_one nd) L)) (f_rO (f_evy (f_one nd) L)) M_11 ?_ ?_ ?_ ?_ ?_ ?_ ?_ ?_ ?_ ?_ ?_ ?_ ?_ ?_ ?_
    · omega
    · exact fun a i _ => rfl
    · exact rfl
    · exact rfl
    · exact rfl
    · exact rfl
    · exact rfl
    · decide
    · exact f_rb_01 _
    · exact fun h => f_seq_0 (f_cok_0 fa11_0 h)
    · exact fun h => (f_cok_1 fa11_0 h).2.2.1
    · exact fun h => ⟨(f_cok_1 fa11_0 h).1, (f_cok_1 fa11_0 h).2.1⟩
    · intro h
      have g := f_evy_gd (f_one_gd nd) L _ _ (f_rb_1 h)
      exact ⟨g.2.1, by omega⟩
    · exact fun h => f_seq_1 h
    · exact fun h => (f_cok_1 fa11_0 h).2.2.2
set_option maxRecDepth 20000 in
theorem s_ck_0 (E : ax_Env) (l : Launch) (d : Nat) (hd : 4 ≤ d) (M : ax_Mem) (op : Int) (rd : Int) (L : List f_Tk) {kk : Int → Int} (hkk : M 60 = kk) {vv : Int → Int} (hvv : M 61 = vv) {ss : Int → Int} (hss : M 62 = ss) {cd : Int → Int} (hcd : M 64 = cd) {nx : Int} (hnx : M 58 8 = nx) {sz : Int} (hsz : M 63 1 = sz) {x2 : Int} (hx2 : M 58 2 = x2) {x3 : Int} (hx3 : M 58 3 = x3) (hg0 : 0 ≤ rd ∧ rd < 3) (hg1 : f_cc rd kk vv ss nx L) (hg2 : 0 ≤ sz ∧ sz + (L.length : Int) ≤ 401) (hg3 : 0 ≤ op ∧ op + ((0 : Nat) : Int) = 8) : ax_G E l d iX3_readCheck [.inr 63, .inr 58, .inl 2, .inl op] M (fun z0 M2 => z0 = some (.inl (f_rb (f_one 0 L))) ∧ (∀ x0 i0 : Int, ¬ (x0 = 64 ∨ (x0 = 63 ∧ i0 = 1) ∨ (x0 = 58 ∧ i0 = 8) ∨ (x0 = 58 ∧ i0 = 2) ∨ (x0 = 58 ∧ i0 = 3)) → M2 x0 i0 = M x0 i0) ∧ (f_cok rd kk vv ss cd sz x2 x3 (f_one 0 L) M2)) := by
  obtain ⟨d, rfl⟩ : ∃ d0, d = d0 + 1 := ⟨d - 1, by omega⟩
  refine ax_start rfl (Nat.le_of_ble_eq_true rfl) (ls := [some (.inr 63), some (.inr 58), some (.inl 2), some (.inl op), none, none]) rfl (fun hav hcm => ?_)
  have hc3 : -2147483648 ≤ op ∧ op < 2147483648 := hav (.inl op) (by simp)
  clear hav
  have qK := f_kv_lw hg0 (f_cc_hd hg1).1.1
  have qs := (f_cc_hd hg1).1.2
  have qR := f_cc_rg hg1
  refine ax_iload_n dX3_readCheck_0 rfl rfl (pc' := 1) rfl ?_
  refine ax_iconst dX3_readCheck_1 (by decide) (pc' := 2) rfl ?_
  refine ax_icmp_ge (tgt := 98) dX3_readCheck_2 (by decide) (pc' := 5) rfl (fun h2 => ?_) (fun h2 => ?_)
  · refine ax_aload_n dX3_readCheck_98 rfl rfl (pc' := 99) rfl ?_
    refine ax_iconst dX3_readCheck_99 (by decide) (pc' := 100) rfl ?_
    refine ax_invG [.inl 4] [] dX3_readCheck_100 mlX3_38 sh_58 rfl rfl rfl (Nat.le_of_ble_eq_true rfl) (s_X8_isWord E l _ (by omega) _ 4 hkk hvv hnx (by first | omega | assumption)) (pc' := 103) rfl (fun vv M_100 hq co100 hcm100 => ?_)
    obtain ⟨rfl, rfl⟩ := hq
    refine ax_reS (st2 := [.inl (f_b (kk nx = 2 ∧ vv nx = 4))]) rfl ?_
    refine ax_istore dX3_readCheck_103 (by decide) (ls' := [some (.inr 63), some (.inr 58), some (.inl 2), some (.inl op), some (.inl (f_b (kk nx = 2 ∧ vv nx = 4))), none]) rfl (pc' := 105) rfl ?_
    refine ax_iload dX3_readCheck_105 rfl (pc' := 107) rfl ?_
    refine ax_if_ne (tgt := 119) dX3_readCheck_107 (by decide) (pc' := 110) rfl (fun h107 => ?_) (fun h107 => ?_)
    · replace h107 := f_b_1 h107
      have qz : f_one 0 L = .inl (3, ss nx) := by
        rw [f_one_z, if_pos (Or.inl ((kl_w4 qK).mp h107)), qs]
      refine ax_iload_n dX3_readCheck_119 rfl rfl (pc' := 120) rfl ?_
      refine ax_bipush dX3_readCheck_120 (by decide) (pc' := 122) rfl ?_
      refine ax_icmp_lt (tgt := 131) dX3_readCheck_122 (by decide) (pc' := 125) rfl (fun h122 => ?_) (fun h122 => ?_)
      · exfalso
        omega
      · refine ax_aload_n dX3_readCheck_125 rfl rfl (pc' := 126) rfl ?_
        refine ax_iconst dX3_readCheck_126 (by decide) (pc' := 127) rfl ?_
        refine ax_invG [.inl 3] [] dX3_readCheck_127 mlX3_42 sh_58 rfl rfl rfl (Nat.le_of_ble_eq_true rfl) (s_X8_fail E l _ (by omega) _ 3 hss hnx (by first | omega | assumption)) (pc' := 130) rfl (fun vv M_127 hq co127 hcm127 => ?_)
        obtain ⟨rfl, frM_127, msM_127_0, msM_127_1⟩ := hq
        refine ax_reS (st2 := [.inl 0]) rfl ?_
        refine ax_zret dX3_readCheck_130 rfl (by decide) ?_
        refine ⟨rfl, ?_, ?_, ?_⟩
        · refine congrArg (fun z => some (Sum.inl z)) ?_
          rw [qz]
          rfl
        · intro x0 i0 hai
          exact ((frM_127 x0 i0 (fun h => h.elim (fun h => hai (Or.inr (Or.inr (Or.inr (Or.inl h))))) (fun h => hai (Or.inr (Or.inr (Or.inr (Or.inr h))))))).trans rfl)
        · exact f_cok_no qz msM_127_0 msM_127_1
    · replace h107 := f_b_0 h107
      refine ax_aload_n dX3_readCheck_110 rfl rfl (pc' := 111) rfl ?_
      refine ax_bipush dX3_readCheck_111 (by decide) (pc' := 113) rfl ?_
      refine ax_invG [.inl 40] [] dX3_readCheck_113 mlX3_62 sh_58 rfl rfl rfl (Nat.le_of_ble_eq_true rfl) (s_X8_isSign E l _ (by omega) _ 40 hkk hvv hnx (by first | omega | assumption)) (pc' := 116) rfl (fun vv M_113 hq co113 hcm113 => ?_)
      obtain ⟨rfl, rfl⟩ := hq
      refine ax_reS (st2 := [.inl (f_b (kk nx = 1 ∧ vv nx = 40))]) rfl ?_
      refine ax_if_eq (tgt := 195) dX3_readCheck_116 (by decide) (pc' := 119) rfl (fun h116 => ?_) (fun h116 => ?_)
      · replace h116 := f_b_0 h116
        have qb : f_one 0 L = f_cmp L := by
          rw [f_one_z, if_neg (fun h => h.elim (fun a => h107 ((kl_w4 qK).mpr a)) (show ¬ f_T L = 140 from fun a => h116 ((kl_s qK 40 (by decide)).mpr a)))]
        refine ax_aload_n dX3_readCheck_195 rfl rfl (pc' := 196) rfl ?_
        refine ax_aload_n dX3_readCheck_196 rfl rfl (pc' := 197) rfl ?_
        refine ax_invG [.inr 58] [] dX3_readCheck_197 mlX3_48 sh_63 rfl rfl rfl (Nat.le_of_ble_eq_true rfl) (s_X3_readSum E l _ (by omega) _ rd L hkk hvv hss hcd hnx hsz hx2 hx3 (by first | omega | assumption) hg1 (by first | omega | assumption)) (pc' := 200) rfl (fun vv M_197 hq co197 hcm197 => ?_)
        obtain ⟨rfl, frM_197, fa197_0⟩ := hq
        refine ax_reS (st2 := [.inl (f_rb (f_sumU L))]) rfl ?_
        have cc197 : -2147483648 ≤ f_rb (f_sumU L) ∧ f_rb (f_sumU L) < 2147483648 := co197 _ rfl
        refine ax_if_ne (tgt := 205) dX3_readCheck_200 (by decide) (pc' := 203) rfl (fun h200 => ?_) (fun h200 => ?_)
        · have qr1 := (f_rb_01 _).resolve_left h200
          obtain ⟨qm, qs2, qc, qy2, qy3⟩ := f_cok_1 fa197_0 qr1
          have qgd := f_sumU_gd L _ _ (f_rb_1 qr1)
          have qb2 : f_one 0 L = f_pre (f_rO (f_sumU L)) (f_cmp2 (f_rL (f_sumU L))) := qb.trans (f_seq_1 qr1)
          have yK := f_kv_lw hg0 (f_cc_hd qc).1.1
          have ys := (f_cc_hd qc).1.2
          have yR := f_cc_rg qc
          refine ax_aload_n dX3_readCheck_205 rfl rfl (pc' := 206) rfl ?_
          refine ax_bipush dX3_readCheck_206 (by decide) (pc' := 208) rfl ?_
          refine ax_invG [.inl 60] [] dX3_readCheck_208 mlX3_62 sh_58 rfl rfl rfl (Nat.le_of_ble_eq_true rfl) (s_X8_isSign E l _ (by omega) _ 60 ((funext fun i0 => frM_197 60 i0 (fun h => h.elim (fun h => absurd h (by decide)) (fun h => h.elim (fun h => absurd h.1 (by decide)) (fun h => h.elim (fun h => absurd h.1 (by decide)) (fun h => h.elim (fun h => absurd h.1 (by decide)) (fun h => absurd h.1 (by decide))))))).trans hkk) ((funext fun i0 => frM_197 61 i0 (fun h => h.elim (fun h => absurd h (by decide)) (fun h => h.elim (fun h => absurd h.1 (by decide)) (fun h => h.elim (fun h => absurd h.1 (by decide)) (fun h => h.elim (fun h => absurd h.1 (by decide)) (fun h => absurd h.1 (by decide))))))).trans hvv) rfl (by first | omega | assumption)) (pc' := 211) rfl (fun vv M_208 hq co208 hcm208 => ?_)
          obtain ⟨rfl, rfl⟩ := hq
          refine ax_reS (st2 := [.inl (f_b (kk (M_197 58 8) = 1 ∧ vv (M_197 58 8) = 60))]) rfl ?_
          refine ax_if_eq (tgt := 219) dX3_readCheck_211 (by decide) (pc' := 214) rfl (fun h211 => ?_) (fun h211 => ?_)
          · replace h211 := f_b_0 h211
            refine ax_aload_n dX3_readCheck_219 rfl rfl (pc' := 220) rfl ?_
            refine ax_bipush dX3_readCheck_220 (by decide) (pc' := 222) rfl ?_
            refine ax_invG [.inl 61] [] dX3_readCheck_222 mlX3_62 sh_58 rfl rfl rfl (Nat.le_of_ble_eq_true rfl) (s_X8_isSign E l _ (by omega) _ 61 ((funext fun i0 => frM_197 60 i0 (fun h => h.elim (fun h => absurd h (by decide)) (fun h => h.elim (fun h => absurd h.1 (by decide)) (fun h => h.elim (fun h => absurd h.1 (by decide)) (fun h => h.elim (fun h => absurd h.1 (by decide)) (fun h => absurd h.1 (by decide))))))).trans hkk) ((funext fun i0 => frM_197 61 i0 (fun h => h.elim (fun h => absurd h (by decide)) (fun h => h.elim (fun h => absurd h.1 (by decide)) (fun h => h.elim (fun h => absurd h.1 (by decide)) (fun h => h.elim (fun h => absurd h.1 (by decide)) (fun h => absurd h.1 (by decide))))))).trans hvv) rfl (by first | omega | assumption)) (pc' := 225) rfl (fun vv M_222 hq co222 hcm222 => ?_)
            obtain ⟨rfl, rfl⟩ := hq
            refine ax_reS (st2 := [.inl (f_b (kk (M_197 58 8) = 1 ∧ vv (M_197 58 8) = 61))]) rfl ?_
            refine ax_if_eq (tgt := 233) dX3_readCheck_225 (by decide) (pc' := 228) rfl (fun h225 => ?_) (fun h225 => ?_)
            · replace h225 := f_b_0 h225
              refine ax_aload_n dX3_readCheck_233 rfl rfl (pc' := 234) rfl ?_
              refine ax_bipush dX3_readCheck_234 (by decide) (pc' := 236) rfl ?_
              refine ax_invG [.inl 62] [] dX3_readCheck_236 mlX3_62 sh_58 rfl rfl rfl (Nat.le_of_ble_eq_true rfl) (s_X8_isSign E l _ (by omega) _ 62 ((funext fun i0 => frM_197 60 i0 (fun h => h.elim (fun h => absurd h (by decide)) (fun h => h.elim (fun h => absurd h.1 (by decide)) (fun h => h.elim (fun h => absurd h.1 (by decide)) (fun h => h.elim (fun h => absurd h.1 (by decide)) (fun h => absurd h.1 (by decide))))))).trans hkk) ((funext fun i0 => frM_197 61 i0 (fun h => h.elim (fun h => absurd h (by decide)) (fun h => h.elim (fun h => absurd h.1 (by decide)) (fun h => h.elim (fun h => absurd h.1 (by decide)) (fun h => h.elim (fun h => absurd h.1 (by decide)) (fun h => absurd h.1 (by decide))))))).trans hvv) rfl (by first | omega | assumption)) (pc' := 239) rfl (fun vv M_236 hq co236 hcm236 => ?_)
              obtain ⟨rfl, rfl⟩ := hq
              refine ax_reS (st2 := [.inl (f_b (kk (M_197 58 8) = 1 ∧ vv (M_197 58 8) = 62))]) rfl ?_
              refine ax_if_eq (tgt := 247) dX3_readCheck_239 (by decide) (pc' := 242) rfl (fun h239 => ?_) (fun h239 => ?_)
              · replace h239 := f_b_0 h239
                have qz : f_one 0 L = .inl (1, ss (M_197 58 8)) := by
                  rw [qb2]
                  unfold f_cmp2
                  rw [if_pos (by unfold f_cmpS; rw [if_neg (show ¬ f_T (f_rL (f_sumU L)) = 160 from fun a => h211 ((kl_s yK 60 (by decide)).mpr a)), if_neg (show ¬ f_T (f_rL (f_sumU L)) = 161 from fun a => h225 ((kl_s yK 61 (by decide)).mpr a)), if_neg (show ¬ f_T (f_rL (f_sumU L)) = 162 from fun a => h239 ((kl_s yK 62 (by decide)).mpr a))]), ys]
                  rfl
                refine ax_iconst dX3_readCheck_247 (by decide) (pc' := 248) rfl ?_
                refine ax_istore dX3_readCheck_248 (by decide) (ls' := [some (.inr 63), some (.inr 58), some (.inl 2), some (.inl op), some (.inl (f_b (kk nx = 2 ∧ vv nx = 4))), some (.inl 0)]) rfl (pc' := 250) rfl ?_
                refine ax_iload dX3_readCheck_250 rfl (pc' := 252) rfl ?_
                refine ax_if_ne (tgt := 261) dX3_readCheck_252 (by decide) (pc' := 255) rfl (fun h252 => ?_) (fun h252 => ?_)
                · exfalso
                  omega
                · refine ax_aload_n dX3_readCheck_255 rfl rfl (pc' := 256) rfl ?_
                  refine ax_iconst dX3_readCheck_256 (by decide) (pc' := 257) rfl ?_
                  refine ax_invG [.inl 1] [] dX3_readCheck_257 mlX3_42 sh_58 rfl rfl rfl (Nat.le_of_ble_eq_true rfl) (s_X8_fail E l _ (by omega) _ 1 ((funext fun i0 => frM_197 62 i0 (fun h => h.elim (fun h => absurd h (by decide)) (fun h => h.elim (fun h => absurd h.1 (by decide)) (fun h => h.elim (fun h => absurd h.1 (by decide)) (fun h => h.elim (fun h => absurd h.1 (by decide)) (fun h => absurd h.1 (by decide))))))).trans hss) rfl (by first | omega | assumption)) (pc' := 260) rfl (fun vv M_257 hq co257 hcm257 => ?_)
                  obtain ⟨rfl, frM_257, msM_257_0, msM_257_1⟩ := hq
                  refine ax_reS (st2 := [.inl 0]) rfl ?_
                  refine ax_zret dX3_readCheck_260 rfl (by decide) ?_
                  refine ⟨rfl, ?_, ?_, ?_⟩
                  · refine congrArg (fun z => some (Sum.inl z)) ?_
                    rw [qz]
                    rfl
                  · intro x0 i0 hai
                    exact ((frM_257 x0 i0 (fun h => h.elim (fun h => hai (Or.inr (Or.inr (Or.inr (Or.inl h))))) (fun h => hai (Or.inr (Or.inr (Or.inr (Or.inr h))))))).trans ((frM_197 x0 i0 (fun h => h.elim (fun h => hai (Or.inl h)) (fun h => h.elim (fun h => hai (Or.inr (Or.inl h))) (fun h => h.elim (fun h => hai (Or.inr (Or.inr (Or.inl h)))) (fun h => h.elim (fun h => hai (Or.inr (Or.inr (Or.inr (Or.inl h))))) (fun h => hai (Or.inr (Or.inr (Or.inr (Or.inr h)))))))))).trans rfl))
                  · exact f_cok_no qz msM_257_0 msM_257_1
              · replace h239 := f_b_1 h239
                have qT9 : f_T (f_rL (f_sumU L)) = 162 := (kl_s yK 62 (by decide)).mp h239
                have qk : f_cmpS (f_rL (f_sumU L)) = 29 := by
                  unfold f_cmpS
                  rw [if_neg (by omega), if_neg (by omega), if_pos qT9]
                have qe2 : f_cmp2 (f_rL (f_sumU L)) = f_aft [(29, 0)] (f_sumU (f_rL (f_sumU L)).tail) := by
                  unfold f_cmp2
                  rw [qk]
                  rfl
                obtain ⟨xc, xl, xn⟩ := f_cc_nx qc (by omega)
                have xK := f_kv_lw hg0 (f_cc_hd xc).1.1
                have xs := (f_cc_hd xc).1.2
                have xR := f_cc_rg xc
                refine ax_bipush dX3_readCheck_242 (by decide) (pc' := 244) rfl ?_
                refine ax_goto dX3_readCheck_244 (pc' := 248) (by decide) ?_
                refine ax_istore dX3_readCheck_248 (by decide) (ls' := [some (.inr 63), some (.inr 58), some (.inl 2), some (.inl op), some (.inl (f_b (kk nx = 2 ∧ vv nx = 4))), some (.inl (-17))]) rfl (pc' := 250) rfl ?_
                refine ax_iload dX3_readCheck_250 rfl (pc' := 252) rfl ?_
                refine ax_if_ne (tgt := 261) dX3_readCheck_252 (by decide) (pc' := 255) rfl (fun h252 => ?_) (fun h252 => ?_)
                · refine ax_aload_n dX3_readCheck_261 rfl rfl (pc' := 262) rfl ?_
                  refine ax_invG [] [] dX3_readCheck_262 mlX3_45 sh_58 rfl rfl rfl (Nat.le_of_ble_eq_true rfl) (s_X8_step E l _ (by omega) _ ((funext fun i0 => frM_197 60 i0 (fun h => h.elim (fun h => absurd h (by decide)) (fun h => h.elim (fun h => absurd h.1 (by decide)) (fun h => h.elim (fun h => absurd h.1 (by decide)) (fun h => h.elim (fun h => absurd h.1 (by decide)) (fun h => absurd h.1 (by decide))))))).trans hkk) rfl (by first | omega | assumption) (by first | omega | assumption)) (pc' := 265) rfl (fun vv M_262 hq co262 hcm262 => ?_)
                  obtain ⟨rfl, frM_262, msM_262_0⟩ := hq
                  refine ax_reS (st2 := []) rfl ?_
                  refine ax_aload_n dX3_readCheck_265 rfl rfl (pc' := 266) rfl ?_
                  refine ax_aload_n dX3_readCheck_266 rfl rfl (pc' := 267) rfl ?_
                  refine ax_invG [.inr 58] [] dX3_readCheck_267 mlX3_48 sh_63 rfl rfl rfl (Nat.le_of_ble_eq_true rfl) (s_X3_readSum E l _ (by omega) _ rd ((f_rL (f_sumU L)).tail) ((funext fun i0 => frM_262 60 i0 (fun h => absurd h.1 (by decide))).trans ((funext fun i0 => frM_197 60 i0 (fun h => h.elim (fun h => absurd h (by decide)) (fun h => h.elim (fun h => absurd h.1 (by decide)) (fun h => h.elim (fun h => absurd h.1 (by decide)) (fun h => h.elim (fun h => absurd h.1 (by decide)) (fun h => absurd h.1 (by decide))))))).trans hkk)) ((funext fun i0 => frM_262 61 i0 (fun h => absurd h.1 (by decide))).trans ((funext fun i0 => frM_197 61 i0 (fun h => h.elim (fun h => absurd h (by decide)) (fun h => h.elim (fun h => absurd h.1 (by decide)) (fun h => h.elim (fun h => absurd h.1 (by decide)) (fun h => h.elim (fun h => absurd h.1 (by decide)) (fun h => absurd h.1 (by decide))))))).trans hvv)) ((funext fun i0 => frM_262 62 i0 (fun h => absurd h.1 (by decide))).trans ((funext fun i0 => frM_197 62 i0 (fun h => h.elim (fun h => absurd h (by decide)) (fun h => h.elim (fun h => absurd h.1 (by decide)) (fun h => h.elim (fun h => absurd h.1 (by decide)) (fun h => h.elim (fun h => absurd h.1 (by decide)) (fun h => absurd h.1 (by decide))))))).trans hss)) ((funext fun i0 => frM_262 64 i0 (fun h => absurd h.1 (by decide))).trans rfl) msM_262_0 ((frM_262 63 1 (fun h => absurd h.1 (by decide))).trans rfl) ((frM_262 58 2 (fun h => absurd h.2 (by decide))).trans rfl) ((frM_262 58 3 (fun h => absurd h.2 (by decide))).trans rfl) (by first | omega | assumption) xc (by first | omega | assumption)) (pc' := 270) rfl (fun vv M_267 hq co267 hcm267 => ?_)
                  obtain ⟨rfl, frM_267, fa267_0⟩ := hq
                  refine ax_reS (st2 := [.inl (f_rb (f_sumU ((f_rL (f_sumU L)).tail)))]) rfl ?_
                  have cc267 : -2147483648 ≤ f_rb (f_sumU ((f_rL (f_sumU L)).tail)) ∧ f_rb (f_sumU ((f_rL (f_sumU L)).tail)) < 2147483648 := co267 _ rfl
                  refine ax_if_eq (tgt := 286) dX3_readCheck_270 (by decide) (pc' := 273) rfl (fun h270 => ?_) (fun h270 => ?_)
                  · have qz : f_one 0 L = .inl (M_267 58 2, M_267 58 3) := by
                      rw [qb2, qe2, f_aft_no (f_cok_0 fa267_0 h270)]
                      rfl
                    refine ax_iconst dX3_readCheck_286 (by decide) (pc' := 287) rfl ?_
                    refine ax_zret dX3_readCheck_287 rfl (by decide) ?_
                    refine ⟨rfl, ?_, ?_, ?_⟩
                    · refine congrArg (fun z => some (Sum.inl z)) ?_
                      rw [qz]
                      rfl
                    · intro x0 i0 hai
                      exact ((frM_267 x0 i0 (fun h => h.elim (fun h => hai (Or.inl h)) (fun h => h.elim (fun h => hai (Or.inr (Or.inl h))) (fun h => h.elim (fun h => hai (Or.inr (Or.inr (Or.inl h)))) (fun h => h.elim (fun h => hai (Or.inr (Or.inr (Or.inr (Or.inl h))))) (fun h => hai (Or.inr (Or.inr (Or.inr (Or.inr h)))))))))).trans ((frM_262 x0 i0 (fun h => hai (Or.inr (Or.inr (Or.inl h))))).trans ((frM_197 x0 i0 (fun h => h.elim (fun h => hai (Or.inl h)) (fun h => h.elim (fun h => hai (Or.inr (Or.inl h))) (fun h => h.elim (fun h => hai (Or.inr (Or.inr (Or.inl h)))) (fun h => h.elim (fun h => hai (Or.inr (Or.inr (Or.inr (Or.inl h))))) (fun h => hai (Or.inr (Or.inr (Or.inr (Or.inr h)))))))))).trans rfl)))
                    · exact f_cok_no qz rfl rfl
                  · have qr2 := (f_rb_01 _).resolve_left h270
                    obtain ⟨qm3, qs3, qc3, qz2, qz3⟩ := f_cok_1 fa267_0 qr2
                    have qgd2 := f_sumU_gd (f_rL (f_sumU L)).tail _ _ (f_rb_1 qr2)
                    have qcR := f_cc_rg qc3
                    have qz : f_one 0 L = .inr (f_rL (f_sumU (f_rL (f_sumU L)).tail), f_rO (f_sumU L) ++ (f_rO (f_sumU (f_rL (f_sumU L)).tail) ++ [(29, 0)])) := by
                      rw [qb2, qe2, f_aft_ok (f_rb_1 qr2)]
                      rfl
                    have qb4 := f_lp_cd (K := 29) (x := -17) ⟨qm, qs2⟩ qm3 qs3 rfl (by decide)
                    refine ax_aload_n dX3_readCheck_273 rfl rfl (pc' := 274) rfl ?_
                    refine ax_iload dX3_readCheck_274 rfl (pc' := 276) rfl ?_
                    refine ax_invG [.inl (-17)] [] dX3_readCheck_276 mlX3_55 sh_63 rfl rfl rfl (Nat.le_of_ble_eq_true rfl) (s_X3_put E l _ (by omega) _ (-17) rfl rfl (by first | omega | assumption)) (pc' := 279) rfl (fun vv M_276 hq co276 hcm276 => ?_)
                    obtain ⟨rfl, frM_276, mrM_276_0, msM_276_0⟩ := hq
                    refine ax_reS (st2 := [.inl 1]) rfl ?_
                    refine ax_if_eq (tgt := 286) dX3_readCheck_279 (by decide) (pc' := 282) rfl (fun h279 => ?_) (fun h279 => ?_)
                    · exfalso
                      omega
                    · refine ax_iconst dX3_readCheck_282 (by decide) (pc' := 283) rfl ?_
                      refine ax_goto dX3_readCheck_283 (pc' := 287) (by decide) ?_
                      refine ax_zret dX3_readCheck_287 rfl (by decide) ?_
                      refine ⟨rfl, ?_, ?_, ?_⟩
                      · refine congrArg (fun z => some (Sum.inl z)) ?_
                        rw [qz]
                        rfl
                      · intro x0 i0 hai
                        exact ((frM_276 x0 i0 (fun h => h.elim (fun h => hai (Or.inl h)) (fun h => hai (Or.inr (Or.inl h))))).trans ((frM_267 x0 i0 (fun h => h.elim (fun h => hai (Or.inl h)) (fun h => h.elim (fun h => hai (Or.inr (Or.inl h))) (fun h => h.elim (fun h => hai (Or.inr (Or.inr (Or.inl h)))) (fun h => h.elim (fun h => hai (Or.inr (Or.inr (Or.inr (Or.inl h))))) (fun h => hai (Or.inr (Or.inr (Or.inr (Or.inr h)))))))))).trans ((frM_262 x0 i0 (fun h => hai (Or.inr (Or.inr (Or.inl h))))).trans ((frM_197 x0 i0 (fun h => h.elim (fun h => hai (Or.inl h)) (fun h => h.elim (fun h => hai (Or.inr (Or.inl h))) (fun h => h.elim (fun h => hai (Or.inr (Or.inr (Or.inl h)))) (fun h => h.elim (fun h => hai (Or.inr (Or.inr (Or.inr (Or.inl h))))) (fun h => hai (Or.inr (Or.inr (Or.inr (Or.inr h)))))))))).trans rfl))))
                      · refine f_cok_ok qz (Eq.trans mrM_276_0 ?_) (Eq.trans msM_276_0 ?_) ((frM_276 58 8 (fun h => h.elim (fun h => absurd h (by decide)) (fun h => absurd h.1 (by decide)))).trans rfl) qc3 (Eq.trans ((frM_276 58 2 (fun h => h.elim (fun h => absurd h (by decide)) (fun h => absurd h.1 (by decide)))).trans rfl) (qz2.trans qy2)) (Eq.trans ((frM_276 58 3 (fun h => h.elim (fun h => absurd h (by decide)) (fun h => absurd h.1 (by decide)))).trans rfl) (qz3.trans qy3))
                        · exact qb4.1
                        · exact qb4.2
                · exfalso
                  omega
            · replace h225 := f_b_1 h225
              have qT9 : f_T (f_rL (f_sumU L)) = 161 := (kl_s yK 61 (by decide)).mp h225
              have qk : f_cmpS (f_rL (f_sumU L)) = 28 := by
                unfold f_cmpS
                rw [if_neg (by omega), if_pos qT9]
              have qe2 : f_cmp2 (f_rL (f_sumU L)) = f_aft [(28, 0)] (f_sumU (f_rL (f_sumU L)).tail) := by
                unfold f_cmp2
                rw [qk]
                rfl
              obtain ⟨xc, xl, xn⟩ := f_cc_nx qc (by omega)
              have xK := f_kv_lw hg0 (f_cc_hd xc).1.1
              have xs := (f_cc_hd xc).1.2
              have xR := f_cc_rg xc
              refine ax_bipush dX3_readCheck_228 (by decide) (pc' := 230) rfl ?_
              refine ax_goto dX3_readCheck_230 (pc' := 248) (by decide) ?_
              refine ax_istore dX3_readCheck_248 (by decide) (ls' := [some (.inr 63), some (.inr 58), some (.inl 2), some (.inl op), some (.inl (f_b (kk nx = 2 ∧ vv nx = 4))), some (.inl (-16))]) rfl (pc' := 250) rfl ?_
              refine ax_iload dX3_readCheck_250 rfl (pc' := 252) rfl ?_
              refine ax_if_ne (tgt := 261) dX3_readCheck_252 (by decide) (pc' := 255) rfl (fun h252 => ?_) (fun h252 => ?_)
              · refine ax_aload_n dX3_readCheck_261 rfl rfl (pc' := 262) rfl ?_
                refine ax_invG [] [] dX3_readCheck_262 mlX3_45 sh_58 rfl rfl rfl (Nat.le_of_ble_eq_true rfl) (s_X8_step E l _ (by omega) _ ((funext fun i0 => frM_197 60 i0 (fun h => h.elim (fun h => absurd h (by decide)) (fun h => h.elim (fun h => absurd h.1 (by decide)) (fun h => h.elim (fun h => absurd h.1 (by decide)) (fun h => h.elim (fun h => absurd h.1 (by decide)) (fun h => absurd h.1 (by decide))))))).trans hkk) rfl (by first | omega | assumption) (by first | omega | assumption)) (pc' := 265) rfl (fun vv M_262 hq co262 hcm262 => ?_)
                obtain ⟨rfl, frM_262, msM_262_0⟩ := hq
                refine ax_reS (st2 := []) rfl ?_
                refine ax_aload_n dX3_readCheck_265 rfl rfl (pc' := 266) rfl ?_
                refine ax_aload_n dX3_readCheck_266 rfl rfl (pc' := 267) rfl ?_
                refine ax_invG [.inr 58] [] dX3_readCheck_267 mlX3_48 sh_63 rfl rfl rfl (Nat.le_of_ble_eq_true rfl) (s_X3_readSum E l _ (by omega) _ rd ((f_rL (f_sumU L)).tail) ((funext fun i0 => frM_262 60 i0 (fun h => absurd h.1 (by decide))).trans ((funext fun i0 => frM_197 60 i0 (fun h => h.elim (fun h => absurd h (by decide)) (fun h => h.elim (fun h => absurd h.1 (by decide)) (fun h => h.elim (fun h => absurd h.1 (by decide)) (fun h => h.elim (fun h => absurd h.1 (by decide)) (fun h => absurd h.1 (by decide))))))).trans hkk)) ((funext fun i0 => frM_262 61 i0 (fun h => absurd h.1 (by decide))).trans ((funext fun i0 => frM_197 61 i0 (fun h => h.elim (fun h => absurd h (by decide)) (fun h => h.elim (fun h => absurd h.1 (by decide)) (fun h => h.elim (fun h => absurd h.1 (by decide)) (fun h => h.elim (fun h => absurd h.1 (by decide)) (fun h => absurd h.1 (by decide))))))).trans hvv)) ((funext fun i0 => frM_262 62 i0 (fun h => absurd h.1 (by decide))).trans ((funext fun i0 => frM_197 62 i0 (fun h => h.elim (fun h => absurd h (by decide)) (fun h => h.elim (fun h => absurd h.1 (by decide)) (fun h => h.elim (fun h => absurd h.1 (by decide)) (fun h => h.elim (fun h => absurd h.1 (by decide)) (fun h => absurd h.1 (by decide))))))).trans hss)) ((funext fun i0 => frM_262 64 i0 (fun h => absurd h.1 (by decide))).trans rfl) msM_262_0 ((frM_262 63 1 (fun h => absurd h.1 (by decide))).trans rfl) ((frM_262 58 2 (fun h => absurd h.2 (by decide))).trans rfl) ((frM_262 58 3 (fun h => absurd h.2 (by decide))).trans rfl) (by first | omega | assumption) xc (by first | omega | assumption)) (pc' := 270) rfl (fun vv M_267 hq co267 hcm267 => ?_)
                obtain ⟨rfl, frM_267, fa267_0⟩ := hq
                refine ax_reS (st2 := [.inl (f_rb (f_sumU ((f_rL (f_sumU L)).tail)))]) rfl ?_
                have cc267 : -2147483648 ≤ f_rb (f_sumU ((f_rL (f_sumU L)).tail)) ∧ f_rb (f_sumU ((f_rL (f_sumU L)).tail)) < 2147483648 := co267 _ rfl
                refine ax_if_eq (tgt := 286) dX3_readCheck_270 (by decide) (pc' := 273) rfl (fun h270 => ?_) (fun h270 => ?_)
                · have qz : f_one 0 L = .inl (M_267 58 2, M_267 58 3) := by
                    rw [qb2, qe2, f_aft_no (f_cok_0 fa267_0 h270)]
                    rfl
                  refine ax_iconst dX3_readCheck_286 (by decide) (pc' := 287) rfl ?_
                  refine ax_zret dX3_readCheck_287 rfl (by decide) ?_
                  refine ⟨rfl, ?_, ?_, ?_⟩
                  · refine congrArg (fun z => some (Sum.inl z)) ?_
                    rw [qz]
                    rfl
                  · intro x0 i0 hai
                    exact ((frM_267 x0 i0 (fun h => h.elim (fun h => hai (Or.inl h)) (fun h => h.elim (fun h => hai (Or.inr (Or.inl h))) (fun h => h.elim (fun h => hai (Or.inr (Or.inr (Or.inl h)))) (fun h => h.elim (fun h => hai (Or.inr (Or.inr (Or.inr (Or.inl h))))) (fun h => hai (Or.inr (Or.inr (Or.inr (Or.inr h)))))))))).trans ((frM_262 x0 i0 (fun h => hai (Or.inr (Or.inr (Or.inl h))))).trans ((frM_197 x0 i0 (fun h => h.elim (fun h => hai (Or.inl h)) (fun h => h.elim (fun h => hai (Or.inr (Or.inl h))) (fun h => h.elim (fun h => hai (Or.inr (Or.inr (Or.inl h)))) (fun h => h.elim (fun h => hai (Or.inr (Or.inr (Or.inr (Or.inl h))))) (fun h => hai (Or.inr (Or.inr (Or.inr (Or.inr h)))))))))).trans rfl)))
                  · exact f_cok_no qz rfl rfl
                · have qr2 := (f_rb_01 _).resolve_left h270
                  obtain ⟨qm3, qs3, qc3, qz2, qz3⟩ := f_cok_1 fa267_0 qr2
                  have qgd2 := f_sumU_gd (f_rL (f_sumU L)).tail _ _ (f_rb_1 qr2)
                  have qcR := f_cc_rg qc3
                  have qz : f_one 0 L = .inr (f_rL (f_sumU (f_rL (f_sumU L)).tail), f_rO (f_sumU L) ++ (f_rO (f_sumU (f_rL (f_sumU L)).tail) ++ [(28, 0)])) := by
                    rw [qb2, qe2, f_aft_ok (f_rb_1 qr2)]
                    rfl
                  have qb4 := f_lp_cd (K := 28) (x := -16) ⟨qm, qs2⟩ qm3 qs3 rfl (by decide)
                  refine ax_aload_n dX3_readCheck_273 rfl rfl (pc' := 274) rfl ?_
                  refine ax_iload dX3_readCheck_274 rfl (pc' := 276) rfl ?_
                  refine ax_invG [.inl (-16)] [] dX3_readCheck_276 mlX3_55 sh_63 rfl rfl rfl (Nat.le_of_ble_eq_true rfl) (s_X3_put E l _ (by omega) _ (-16) rfl rfl (by first | omega | assumption)) (pc' := 279) rfl (fun vv M_276 hq co276 hcm276 => ?_)
                  obtain ⟨rfl, frM_276, mrM_276_0, msM_276_0⟩ := hq
                  refine ax_reS (st2 := [.inl 1]) rfl ?_
                  refine ax_if_eq (tgt := 286) dX3_readCheck_279 (by decide) (pc' := 282) rfl (fun h279 => ?_) (fun h279 => ?_)
                  · exfalso
                    omega
                  · refine ax_iconst dX3_readCheck_282 (by decide) (pc' := 283) rfl ?_
                    refine ax_goto dX3_readCheck_283 (pc' := 287) (by decide) ?_
                    refine ax_zret dX3_readCheck_287 rfl (by decide) ?_
                    refine ⟨rfl, ?_, ?_, ?_⟩
                    · refine congrArg (fun z => some (Sum.inl z)) ?_
                      rw [qz]
                      rfl
                    · intro x0 i0 hai
                      exact ((frM_276 x0 i0 (fun h => h.elim (fun h => hai (Or.inl h)) (fun h => hai (Or.inr (Or.inl h))))).trans ((frM_267 x0 i0 (fun h => h.elim (fun h => hai (Or.inl h)) (fun h => h.elim (fun h => hai (Or.inr (Or.inl h))) (fun h => h.elim (fun h => hai (Or.inr (Or.inr (Or.inl h)))) (fun h => h.elim (fun h => hai (Or.inr (Or.inr (Or.inr (Or.inl h))))) (fun h => hai (Or.inr (Or.inr (Or.inr (Or.inr h)))))))))).trans ((frM_262 x0 i0 (fun h => hai (Or.inr (Or.inr (Or.inl h))))).trans ((frM_197 x0 i0 (fun h => h.elim (fun h => hai (Or.inl h)) (fun h => h.elim (fun h => hai (Or.inr (Or.inl h))) (fun h => h.elim (fun h => hai (Or.inr (Or.inr (Or.inl h)))) (fun h => h.elim (fun h => hai (Or.inr (Or.inr (Or.inr (Or.inl h))))) (fun h => hai (Or.inr (Or.inr (Or.inr (Or.inr h)))))))))).trans rfl))))
                    · refine f_cok_ok qz (Eq.trans mrM_276_0 ?_) (Eq.trans msM_276_0 ?_) ((frM_276 58 8 (fun h => h.elim (fun h => absurd h (by decide)) (fun h => absurd h.1 (by decide)))).trans rfl) qc3 (Eq.trans ((frM_276 58 2 (fun h => h.elim (fun h => absurd h (by decide)) (fun h => absurd h.1 (by decide)))).trans rfl) (qz2.trans qy2)) (Eq.trans ((frM_276 58 3 (fun h => h.elim (fun h => absurd h (by decide)) (fun h => absurd h.1 (by decide)))).trans rfl) (qz3.trans qy3))
                      · exact qb4.1
                      · exact qb4.2
              · exfalso
                omega
          · replace h211 := f_b_1 h211
            have qT9 : f_T (f_rL (f_sumU L)) = 160 := (kl_s yK 60 (by decide)).mp h211
            have qk : f_cmpS (f_rL (f_sumU L)) = 27 := by
              unfold f_cmpS
              rw [if_pos qT9]
            have qe2 : f_cmp2 (f_rL (f_sumU L)) = f_aft [(27, 0)] (f_sumU (f_rL (f_sumU L)).tail) := by
              unfold f_cmp2
              rw [qk]
              rfl
            obtain ⟨xc, xl, xn⟩ := f_cc_nx qc (by omega)
            have xK := f_kv_lw hg0 (f_cc_hd xc).1.1
            have xs := (f_cc_hd xc).1.2
            have xR := f_cc_rg xc
            refine ax_bipush dX3_readCheck_214 (by decide) (pc' := 216) rfl ?_
            refine ax_goto dX3_readCheck_216 (pc' := 248) (by decide) ?_
            refine ax_istore dX3_readCheck_248 (by decide) (ls' := [some (.inr 63), some (.inr 58), some (.inl 2), some (.inl op), some (.inl (f_b (kk nx = 2 ∧ vv nx = 4))), some (.inl (-15))]) rfl (pc' := 250) rfl ?_
            refine ax_iload dX3_readCheck_250 rfl (pc' := 252) rfl ?_
            refine ax_if_ne (tgt := 261) dX3_readCheck_252 (by decide) (pc' := 255) rfl (fun h252 => ?_) (fun h252 => ?_)
            · refine ax_aload_n dX3_readCheck_261 rfl rfl (pc' := 262) rfl ?_
              refine ax_invG [] [] dX3_readCheck_262 mlX3_45 sh_58 rfl rfl rfl (Nat.le_of_ble_eq_true rfl) (s_X8_step E l _ (by omega) _ ((funext fun i0 => frM_197 60 i0 (fun h => h.elim (fun h => absurd h (by decide)) (fun h => h.elim (fun h => absurd h.1 (by decide)) (fun h => h.elim (fun h => absurd h.1 (by decide)) (fun h => h.elim (fun h => absurd h.1 (by decide)) (fun h => absurd h.1 (by decide))))))).trans hkk) rfl (by first | omega | assumption) (by first | omega | assumption)) (pc' := 265) rfl (fun vv M_262 hq co262 hcm262 => ?_)
              obtain ⟨rfl, frM_262, msM_262_0⟩ := hq
              refine ax_reS (st2 := []) rfl ?_
              refine ax_aload_n dX3_readCheck_265 rfl rfl (pc' := 266) rfl ?_
              refine ax_aload_n dX3_readCheck_266 rfl rfl (pc' := 267) rfl ?_
              refine ax_invG [.inr 58] [] dX3_readCheck_267 mlX3_48 sh_63 rfl rfl rfl (Nat.le_of_ble_eq_true rfl) (s_X3_readSum E l _ (by omega) _ rd ((f_rL (f_sumU L)).tail) ((funext fun i0 => frM_262 60 i0 (fun h => absurd h.1 (by decide))).trans ((funext fun i0 => frM_197 60 i0 (fun h => h.elim (fun h => absurd h (by decide)) (fun h => h.elim (fun h => absurd h.1 (by decide)) (fun h => h.elim (fun h => absurd h.1 (by decide)) (fun h => h.elim (fun h => absurd h.1 (by decide)) (fun h => absurd h.1 (by decide))))))).trans hkk)) ((funext fun i0 => frM_262 61 i0 (fun h => absurd h.1 (by decide))).trans ((funext fun i0 => frM_197 61 i0 (fun h => h.elim (fun h => absurd h (by decide)) (fun h => h.elim (fun h => absurd h.1 (by decide)) (fun h => h.elim (fun h => absurd h.1 (by decide)) (fun h => h.elim (fun h => absurd h.1 (by decide)) (fun h => absurd h.1 (by decide))))))).trans hvv)) ((funext fun i0 => frM_262 62 i0 (fun h => absurd h.1 (by decide))).trans ((funext fun i0 => frM_197 62 i0 (fun h => h.elim (fun h => absurd h (by decide)) (fun h => h.elim (fun h => absurd h.1 (by decide)) (fun h => h.elim (fun h => absurd h.1 (by decide)) (fun h => h.elim (fun h => absurd h.1 (by decide)) (fun h => absurd h.1 (by decide))))))).trans hss)) ((funext fun i0 => frM_262 64 i0 (fun h => absurd h.1 (by decide))).trans rfl) msM_262_0 ((frM_262 63 1 (fun h => absurd h.1 (by decide))).trans rfl) ((frM_262 58 2 (fun h => absurd h.2 (by decide))).trans rfl) ((frM_262 58 3 (fun h => absurd h.2 (by decide))).trans rfl) (by first | omega | assumption) xc (by first | omega | assumption)) (pc' := 270) rfl (fun vv M_267 hq co267 hcm267 => ?_)
              obtain ⟨rfl, frM_267, fa267_0⟩ := hq
              refine ax_reS (st2 := [.inl (f_rb (f_sumU ((f_rL (f_sumU L)).tail)))]) rfl ?_
              have cc267 : -2147483648 ≤ f_rb (f_sumU ((f_rL (f_sumU L)).tail)) ∧ f_rb (f_sumU ((f_rL (f_sumU L)).tail)) < 2147483648 := co267 _ rfl
              refine ax_if_eq (tgt := 286) dX3_readCheck_270 (by decide) (pc' := 273) rfl (fun h270 => ?_) (fun h270 => ?_)
              · have qz : f_one 0 L = .inl (M_267 58 2, M_267 58 3) := by
                  rw [qb2, qe2, f_aft_no (f_cok_0 fa267_0 h270)]
                  rfl
                refine ax_iconst dX3_readCheck_286 (by decide) (pc' := 287) rfl ?_
                refine ax_zret dX3_readCheck_287 rfl (by decide) ?_
                refine ⟨rfl, ?_, ?_, ?_⟩
                · refine congrArg (fun z => some (Sum.inl z)) ?_
                  rw [qz]
                  rfl
                · intro x0 i0 hai
                  exact ((frM_267 x0 i0 (fun h => h.elim (fun h => hai (Or.inl h)) (fun h => h.elim (fun h => hai (Or.inr (Or.inl h))) (fun h => h.elim (fun h => hai (Or.inr (Or.inr (Or.inl h)))) (fun h => h.elim (fun h => hai (Or.inr (Or.inr (Or.inr (Or.inl h))))) (fun h => hai (Or.inr (Or.inr (Or.inr (Or.inr h)))))))))).trans ((frM_262 x0 i0 (fun h => hai (Or.inr (Or.inr (Or.inl h))))).trans ((frM_197 x0 i0 (fun h => h.elim (fun h => hai (Or.inl h)) (fun h => h.elim (fun h => hai (Or.inr (Or.inl h))) (fun h => h.elim (fun h => hai (Or.inr (Or.inr (Or.inl h)))) (fun h => h.elim (fun h => hai (Or.inr (Or.inr (Or.inr (Or.inl h))))) (fun h => hai (Or.inr (Or.inr (Or.inr (Or.inr h)))))))))).trans rfl)))
                · exact f_cok_no qz rfl rfl
              · have qr2 := (f_rb_01 _).resolve_left h270
                obtain ⟨qm3, qs3, qc3, qz2, qz3⟩ := f_cok_1 fa267_0 qr2
                have qgd2 := f_sumU_gd (f_rL (f_sumU L)).tail _ _ (f_rb_1 qr2)
                have qcR := f_cc_rg qc3
                have qz : f_one 0 L = .inr (f_rL (f_sumU (f_rL (f_sumU L)).tail), f_rO (f_sumU L) ++ (f_rO (f_sumU (f_rL (f_sumU L)).tail) ++ [(27, 0)])) := by
                  rw [qb2, qe2, f_aft_ok (f_rb_1 qr2)]
                  rfl
                have qb4 := f_lp_cd (K := 27) (x := -15) ⟨qm, qs2⟩ qm3 qs3 rfl (by decide)
                refine ax_aload_n dX3_readCheck_273 rfl rfl (pc' := 274) rfl ?_
                refine ax_iload dX3_readCheck_274 rfl (pc' := 276) rfl ?_
                refine ax_invG [.inl (-15)] [] dX3_readCheck_276 mlX3_55 sh_63 rfl rfl rfl (Nat.le_of_ble_eq_true rfl) (s_X3_put E l _ (by omega) _ (-15) rfl rfl (by first | omega | assumption)) (pc' := 279) rfl (fun vv M_276 hq co276 hcm276 => ?_)
                obtain ⟨rfl, frM_276, mrM_276_0, msM_276_0⟩ := hq
                refine ax_reS (st2 := [.inl 1]) rfl ?_
                refine ax_if_eq (tgt := 286) dX3_readCheck_279 (by decide) (pc' := 282) rfl (fun h279 => ?_) (fun h279 => ?_)
                · exfalso
                  omega
                · refine ax_iconst dX3_readCheck_282 (by decide) (pc' := 283) rfl ?_
                  refine ax_goto dX3_readCheck_283 (pc' := 287) (by decide) ?_
                  refine ax_zret dX3_readCheck_287 rfl (by decide) ?_
                  refine ⟨rfl, ?_, ?_, ?_⟩
                  · refine congrArg (fun z => some (Sum.inl z)) ?_
                    rw [qz]
                    rfl
                  · intro x0 i0 hai
                    exact ((frM_276 x0 i0 (fun h => h.elim (fun h => hai (Or.inl h)) (fun h => hai (Or.inr (Or.inl h))))).trans ((frM_267 x0 i0 (fun h => h.elim (fun h => hai (Or.inl h)) (fun h => h.elim (fun h => hai (Or.inr (Or.inl h))) (fun h => h.elim (fun h => hai (Or.inr (Or.inr (Or.inl h)))) (fun h => h.elim (fun h => hai (Or.inr (Or.inr (Or.inr (Or.inl h))))) (fun h => hai (Or.inr (Or.inr (Or.inr (Or.inr h)))))))))).trans ((frM_262 x0 i0 (fun h => hai (Or.inr (Or.inr (Or.inl h))))).trans ((frM_197 x0 i0 (fun h => h.elim (fun h => hai (Or.inl h)) (fun h => h.elim (fun h => hai (Or.inr (Or.inl h))) (fun h => h.elim (fun h => hai (Or.inr (Or.inr (Or.inl h)))) (fun h => h.elim (fun h => hai (Or.inr (Or.inr (Or.inr (Or.inl h))))) (fun h => hai (Or.inr (Or.inr (Or.inr (Or.inr h)))))))))).trans rfl))))
                  · refine f_cok_ok qz (Eq.trans mrM_276_0 ?_) (Eq.trans msM_276_0 ?_) ((frM_276 58 8 (fun h => h.elim (fun h => absurd h (by decide)) (fun h => absurd h.1 (by decide)))).trans rfl) qc3 (Eq.trans ((frM_276 58 2 (fun h => h.elim (fun h => absurd h (by decide)) (fun h => absurd h.1 (by decide)))).trans rfl) (qz2.trans qy2)) (Eq.trans ((frM_276 58 3 (fun h => h.elim (fun h => absurd h (by decide)) (fun h => absurd h.1 (by decide)))).trans rfl) (qz3.trans qy3))
                    · exact qb4.1
                    · exact qb4.2
            · exfalso
              omega
        · have qz := qb.trans (f_seq_0 (f_cok_0 fa197_0 h200))
          refine ax_iconst dX3_readCheck_203 (by decide) (pc' := 204) rfl ?_
          refine ax_zret dX3_readCheck_204 rfl (by decide) ?_
          refine ⟨rfl, ?_, ?_, ?_⟩
          · refine congrArg (fun z => some (Sum.inl z)) ?_
            rw [qz]
            rfl
          · intro x0 i0 hai
            exact ((frM_197 x0 i0 (fun h => h.elim (fun h => hai (Or.inl h)) (fun h => h.elim (fun h => hai (Or.inr (Or.inl h))) (fun h => h.elim (fun h => hai (Or.inr (Or.inr (Or.inl h)))) (fun h => h.elim (fun h => hai (Or.inr (Or.inr (Or.inr (Or.inl h))))) (fun h => hai (Or.inr (Or.inr (Or.inr (Or.inr h)))))))))).trans rfl)
          · exact f_cok_no qz rfl rfl
      · replace h116 := f_b_1 h116
        have qz : f_one 0 L = .inl (3, ss nx) := by
          rw [f_one_z, if_pos (Or.inr (show f_T L = 140 from (kl_s qK 40 (by decide)).mp h116)), qs]
        refine ax_iload_n dX3_readCheck_119 rfl rfl (pc' := 120) rfl ?_
        refine ax_bipush dX3_readCheck_120 (by decide) (pc' := 122) rfl ?_
        refine ax_icmp_lt (tgt := 131) dX3_readCheck_122 (by decide) (pc' := 125) rfl (fun h122 => ?_) (fun h122 => ?_)
        · exfalso
          omega
        · refine ax_aload_n dX3_readCheck_125 rfl rfl (pc' := 126) rfl ?_
          refine ax_iconst dX3_readCheck_126 (by decide) (pc' := 127) rfl ?_
          refine ax_invG [.inl 3] [] dX3_readCheck_127 mlX3_42 sh_58 rfl rfl rfl (Nat.le_of_ble_eq_true rfl) (s_X8_fail E l _ (by omega) _ 3 hss hnx (by first | omega | assumption)) (pc' := 130) rfl (fun vv M_127 hq co127 hcm127 => ?_)
          obtain ⟨rfl, frM_127, msM_127_0, msM_127_1⟩ := hq
          refine ax_reS (st2 := [.inl 0]) rfl ?_
          refine ax_zret dX3_readCheck_130 rfl (by decide) ?_
          refine ⟨rfl, ?_, ?_, ?_⟩
          · refine congrArg (fun z => some (Sum.inl z)) ?_
            rw [qz]
            rfl
          · intro x0 i0 hai
            exact ((frM_127 x0 i0 (fun h => h.elim (fun h => hai (Or.inr (Or.inr (Or.inr (Or.inl h))))) (fun h => hai (Or.inr (Or.inr (Or.inr (Or.inr h))))))).trans rfl)
          · exact f_cok_no qz msM_127_0 msM_127_1
  · exfalso
    omega
set_option maxRecDepth 20000 in
theorem s_ck_s (nd : Nat) (H1 : f_K1 nd) (E : ax_Env) (l : Launch) (d : Nat) (hd : 4 + 3 * (nd + 1) ≤ d) (M : ax_Mem) (op : Int) (rd : Int) (L : List f_Tk) {kk : Int → Int} (hkk : M 60 = kk) {vv : Int → Int} (hvv : M 61 = vv) {ss : Int → Int} (hss : M 62 = ss) {cd : Int → Int} (hcd : M 64 = cd) {nx : Int} (hnx : M 58 8 = nx) {sz : Int} (hsz : M 63 1 = sz) {x2 : Int} (hx2 : M 58 2 = x2) {x3 : Int} (hx3 : M 58 3 = x3) (hg0 : 0 ≤ rd ∧ rd < 3) (hg1 : f_cc rd kk vv ss nx L) (hg2 : 0 ≤ sz ∧ sz + (L.length : Int) ≤ 401) (hg3 : 0 ≤ op ∧ op + ((nd + 1 : Nat) : Int) = 8) : ax_G E l d iX3_readCheck [.inr 63, .inr 58, .inl 2, .inl op] M (fun z0 M2 => z0 = some (.inl (f_rb (f_one (nd + 1) L))) ∧ (∀ x0 i0 : Int, ¬ (x0 = 64 ∨ (x0 = 63 ∧ i0 = 1) ∨ (x0 = 58 ∧ i0 = 8) ∨ (x0 = 58 ∧ i0 = 2) ∨ (x0 = 58 ∧ i0 = 3)) → M2 x0 i0 = M x0 i0) ∧ (f_cok rd kk vv ss cd sz x2 x3 (f_one (nd + 1) L) M2)) := by
  obtain ⟨d, rfl⟩ : ∃ d0, d = d0 + 1 := ⟨d - 1, by omega⟩
  refine ax_start rfl (Nat.le_of_ble_eq_true rfl) (ls := [some (.inr 63), some (.inr 58), some (.inl 2), some (.inl op), none, none]) rfl (fun hav hcm => ?_)
  have hc3 : -2147483648 ≤ op ∧ op < 2147483648 := hav (.inl op) (by simp)
  clear hav
  have qK := f_kv_lw hg0 (f_cc_hd hg1).1.1
  have qs := (f_cc_hd hg1).1.2
  have qR := f_cc_rg hg1
  refine ax_iload_n dX3_readCheck_0 rfl rfl (pc' := 1) rfl ?_
  refine ax_iconst dX3_readCheck_1 (by decide) (pc' := 2) rfl ?_
  refine ax_icmp_ge (tgt := 98) dX3_readCheck_2 (by decide) (pc' := 5) rfl (fun h2 => ?_) (fun h2 => ?_)
  · refine ax_aload_n dX3_readCheck_98 rfl rfl (pc' := 99) rfl ?_
    refine ax_iconst dX3_readCheck_99 (by decide) (pc' := 100) rfl ?_
    refine ax_invG [.inl 4] [] dX3_readCheck_100 mlX3_38 sh_58 rfl rfl rfl (Nat.le_of_ble_eq_true rfl) (s_X8_isWord E l _ (by omega) _ 4 hkk hvv hnx (by first | omega | assumption)) (pc' := 103) rfl (fun vv M_100 hq co100 hcm100 => ?_)
    obtain ⟨rfl, rfl⟩ := hq
    refine ax_reS (st2 := [.inl (f_b (kk nx = 2 ∧ vv nx = 4))]) rfl ?_
    refine ax_istore dX3_readCheck_103 (by decide) (ls' := [some (.inr 63), some (.inr 58), some (.inl 2), some (.inl op), some (.inl (f_b (kk nx = 2 ∧ vv nx = 4))), none]) rfl (pc' := 105) rfl ?_
    refine ax_iload dX3_readCheck_105 rfl (pc' := 107) rfl ?_
    refine ax_if_ne (tgt := 119) dX3_readCheck_107 (by decide) (pc' := 110) rfl (fun h107 => ?_) (fun h107 => ?_)
    · replace h107 := f_b_1 h107
      have qT : f_T L = 6 := (kl_w4 qK).mp h107
      have qb : f_one (nd + 1) L = f_aft [(30, 0)] (f_one nd L.tail) := by
        rw [f_one_s, if_pos qT]
      obtain ⟨xc, xl, xn⟩ := f_cc_nx hg1 (by omega)
      have xK := f_kv_lw hg0 (f_cc_hd xc).1.1
      have xs := (f_cc_hd xc).1.2
      have xR := f_cc_rg xc
      refine ax_iload_n dX3_readCheck_119 rfl rfl (pc' := 120) rfl ?_
      refine ax_bipush dX3_readCheck_120 (by decide) (pc' := 122) rfl ?_
      refine ax_icmp_lt (tgt := 131) dX3_readCheck_122 (by decide) (pc' := 125) rfl (fun h122 => ?_) (fun h122 => ?_)
      · refine ax_aload_n dX3_readCheck_131 rfl rfl (pc' := 132) rfl ?_
        refine ax_invG [] [] dX3_readCheck_132 mlX3_45 sh_58 rfl rfl rfl (Nat.le_of_ble_eq_true rfl) (s_X8_step E l _ (by omega) _ hkk hnx (by first | omega | assumption) (by first | omega | assumption)) (pc' := 135) rfl (fun vv M_132 hq co132 hcm132 => ?_)
        obtain ⟨rfl, frM_132, msM_132_0⟩ := hq
        refine ax_reS (st2 := []) rfl ?_
        refine ax_iload dX3_readCheck_135 rfl (pc' := 137) rfl ?_
        refine ax_if_eq (tgt := 167) dX3_readCheck_137 (by decide) (pc' := 140) rfl (fun h137 => ?_) (fun h137 => ?_)
        · replace h137 := f_b_0 h137
          exfalso
          first | exact h137 h107 | exact h107 h137
        · replace h137 := f_b_1 h137
          refine ax_aload_n dX3_readCheck_140 rfl rfl (pc' := 141) rfl ?_
          refine ax_aload_n dX3_readCheck_141 rfl rfl (pc' := 142) rfl ?_
          refine ax_iconst dX3_readCheck_142 (by decide) (pc' := 143) rfl ?_
          refine ax_iload_n dX3_readCheck_143 rfl rfl (pc' := 144) rfl ?_
          refine ax_iconst dX3_readCheck_144 (by decide) (pc' := 145) rfl ?_
          refine ax_iadd dX3_readCheck_145 (by omega) (pc' := 146) rfl ?_
          refine ax_invG [.inr 58, .inl 2, .inl (op + 1)] [] dX3_readCheck_146 mlX3_51 sh_63 rfl rfl rfl (Nat.le_of_ble_eq_true rfl) (H1 E l _ (by omega) _ (op + 1) rd L.tail ((funext fun i0 => frM_132 60 i0 (fun h => absurd h.1 (by decide))).trans hkk) ((funext fun i0 => frM_132 61 i0 (fun h => absurd h.1 (by decide))).trans hvv) ((funext fun i0 => frM_132 62 i0 (fun h => absurd h.1 (by decide))).trans hss) ((funext fun i0 => frM_132 64 i0 (fun h => absurd h.1 (by decide))).trans hcd) msM_132_0 ((frM_132 63 1 (fun h => absurd h.1 (by decide))).trans hsz) ((frM_132 58 2 (fun h => absurd h.2 (by decide))).trans hx2) ((frM_132 58 3 (fun h => absurd h.2 (by decide))).trans hx3) (by first | omega | assumption) xc (by first | omega | assumption) (by first | omega | assumption)) (pc' := 149) rfl (fun vv M_146 hq co146 hcm146 => ?_)
          obtain ⟨rfl, frM_146, fa146_0⟩ := hq
          refine ax_reS (st2 := [.inl (f_rb (f_one nd L.tail))]) rfl ?_
          have cc146 : -2147483648 ≤ f_rb (f_one nd L.tail) ∧ f_rb (f_one nd L.tail) < 2147483648 := co146 _ rfl
          refine ax_if_eq (tgt := 165) dX3_readCheck_149 (by decide) (pc' := 152) rfl (fun h149 => ?_) (fun h149 => ?_)
          · have qz := qb.trans (f_aft_no (f_cok_0 fa146_0 h149))
            refine ax_iconst dX3_readCheck_165 (by decide) (pc' := 166) rfl ?_
            refine ax_zret dX3_readCheck_166 rfl (by decide) ?_
            refine ⟨rfl, ?_, ?_, ?_⟩
            · refine congrArg (fun z => some (Sum.inl z)) ?_
              rw [qz]
              rfl
            · intro x0 i0 hai
              exact ((frM_146 x0 i0 (fun h => h.elim (fun h => hai (Or.inl h)) (fun h => h.elim (fun h => hai (Or.inr (Or.inl h))) (fun h => h.elim (fun h => hai (Or.inr (Or.inr (Or.inl h)))) (fun h => h.elim (fun h => hai (Or.inr (Or.inr (Or.inr (Or.inl h))))) (fun h => hai (Or.inr (Or.inr (Or.inr (Or.inr h)))))))))).trans ((frM_132 x0 i0 (fun h => hai (Or.inr (Or.inr (Or.inl h))))).trans rfl))
            · exact f_cok_no qz rfl rfl
          · have qr1 := (f_rb_01 _).resolve_left h149
            obtain ⟨qm, qs2, qc, qy2, qy3⟩ := f_cok_1 fa146_0 qr1
            have qgd := f_one_gd nd L.tail _ _ (f_rb_1 qr1)
            have qcR := f_cc_rg qc
            have qz := qb.trans (f_aft_ok (f_rb_1 qr1))
            have qb4 := f_lp_cd (o1 := []) (cd := cd) (sz := sz) (K := 30) (x := -18) ⟨rfl, (Int.add_zero _).symm⟩ qm qs2 rfl (by decide)
            refine ax_aload_n dX3_readCheck_152 rfl rfl (pc' := 153) rfl ?_
            refine ax_bipush dX3_readCheck_153 (by decide) (pc' := 155) rfl ?_
            refine ax_invG [.inl (-18)] [] dX3_readCheck_155 mlX3_55 sh_63 rfl rfl rfl (Nat.le_of_ble_eq_true rfl) (s_X3_put E l _ (by omega) _ (-18) rfl rfl (by first | omega | assumption)) (pc' := 158) rfl (fun vv M_155 hq co155 hcm155 => ?_)
            obtain ⟨rfl, frM_155, mrM_155_0, msM_155_0⟩ := hq
            refine ax_reS (st2 := [.inl 1]) rfl ?_
            refine ax_if_eq (tgt := 165) dX3_readCheck_158 (by decide) (pc' := 161) rfl (fun h158 => ?_) (fun h158 => ?_)
            · exfalso
              omega
            · refine ax_iconst dX3_readCheck_161 (by decide) (pc' := 162) rfl ?_
              refine ax_goto dX3_readCheck_162 (pc' := 166) (by decide) ?_
              refine ax_zret dX3_readCheck_166 rfl (by decide) ?_
              refine ⟨rfl, ?_, ?_, ?_⟩
              · refine congrArg (fun z => some (Sum.inl z)) ?_
                rw [qz]
                rfl
              · intro x0 i0 hai
                exact ((frM_155 x0 i0 (fun h => h.elim (fun h => hai (Or.inl h)) (fun h => hai (Or.inr (Or.inl h))))).trans ((frM_146 x0 i0 (fun h => h.elim (fun h => hai (Or.inl h)) (fun h => h.elim (fun h => hai (Or.inr (Or.inl h))) (fun h => h.elim (fun h => hai (Or.inr (Or.inr (Or.inl h)))) (fun h => h.elim (fun h => hai (Or.inr (Or.inr (Or.inr (Or.inl h))))) (fun h => hai (Or.inr (Or.inr (Or.inr (Or.inr h)))))))))).trans ((frM_132 x0 i0 (fun h => hai (Or.inr (Or.inr (Or.inl h))))).trans rfl)))
              · refine f_cok_ok qz (Eq.trans mrM_155_0 ?_) (Eq.trans msM_155_0 ?_) ((frM_155 58 8 (fun h => h.elim (fun h => absurd h (by decide)) (fun h => absurd h.1 (by decide)))).trans rfl) qc (Eq.trans ((frM_155 58 2 (fun h => h.elim (fun h => absurd h (by decide)) (fun h => absurd h.1 (by decide)))).trans rfl) qy2) (Eq.trans ((frM_155 58 3 (fun h => h.elim (fun h => absurd h (by decide)) (fun h => absurd h.1 (by decide)))).trans rfl) qy3)
                · exact qb4.1
                · exact qb4.2
      · exfalso
        omega
    · replace h107 := f_b_0 h107
      refine ax_aload_n dX3_readCheck_110 rfl rfl (pc' := 111) rfl ?_
      refine ax_bipush dX3_readCheck_111 (by decide) (pc' := 113) rfl ?_
      refine ax_invG [.inl 40] [] dX3_readCheck_113 mlX3_62 sh_58 rfl rfl rfl (Nat.le_of_ble_eq_true rfl) (s_X8_isSign E l _ (by omega) _ 40 hkk hvv hnx (by first | omega | assumption)) (pc' := 116) rfl (fun vv M_113 hq co113 hcm113 => ?_)
      obtain ⟨rfl, rfl⟩ := hq
      refine ax_reS (st2 := [.inl (f_b (kk nx = 1 ∧ vv nx = 40))]) rfl ?_
      refine ax_if_eq (tgt := 195) dX3_readCheck_116 (by decide) (pc' := 119) rfl (fun h116 => ?_) (fun h116 => ?_)
      · replace h116 := f_b_0 h116
        have qb : f_one (nd + 1) L = f_cmp L := by
          rw [f_one_s, if_neg (fun a => h107 ((kl_w4 qK).mpr a)), if_neg (show ¬ f_T L = 140 from fun a => h116 ((kl_s qK 40 (by decide)).mpr a))]
        refine ax_aload_n dX3_readCheck_195 rfl rfl (pc' := 196) rfl ?_
        refine ax_aload_n dX3_readCheck_196 rfl rfl (pc' := 197) rfl ?_
        refine ax_invG [.inr 58] [] dX3_readCheck_197 mlX3_48 sh_63 rfl rfl rfl (Nat.le_of_ble_eq_true rfl) (s_X3_readSum E l _ (by omega) _ rd L hkk hvv hss hcd hnx hsz hx2 hx3 (by first | omega | assumption) hg1 (by first | omega | assumption)) (pc' := 200) rfl (fun vv M_197 hq co197 hcm197 => ?_)
        obtain ⟨rfl, frM_197, fa197_0⟩ := hq
        refine ax_reS (st2 := [.inl (f_rb (f_sumU L))]) rfl ?_
        have cc197 : -2147483648 ≤ f_rb (f_sumU L) ∧ f_rb (f_sumU L) < 2147483648 := co197 _ rfl
        refine ax_if_ne (tgt := 205) dX3_readCheck_200 (by decide) (pc' := 203) rfl (fun h200 => ?_) (fun h200 => ?_)
        · have qr1 := (f_rb_01 _).resolve_left h200
          obtain ⟨qm, qs2, qc, qy2, qy3⟩ := f_cok_1 fa197_0 qr1
          have qgd := f_sumU_gd L _ _ (f_rb_1 qr1)
          have qb2 : f_one (nd + 1) L = f_pre (f_rO (f_sumU L)) (f_cmp2 (f_rL (f_sumU L))) := qb.trans (f_seq_1 qr1)
          have yK := f_kv_lw hg0 (f_cc_hd qc).1.1
          have ys := (f_cc_hd qc).1.2
          have yR := f_cc_rg qc
          refine ax_aload_n dX3_readCheck_205 rfl rfl (pc' := 206) rfl ?_
          refine ax_bipush dX3_readCheck_206 (by decide) (pc' := 208) rfl ?_
          refine ax_invG [.inl 60] [] dX3_readCheck_208 mlX3_62 sh_58 rfl rfl rfl (Nat.le_of_ble_eq_true rfl) (s_X8_isSign E l _ (by omega) _ 60 ((funext fun i0 => frM_197 60 i0 (fun h => h.elim (fun h => absurd h (by decide)) (fun h => h.elim (fun h => absurd h.1 (by decide)) (fun h => h.elim (fun h => absurd h.1 (by decide)) (fun h => h.elim (fun h => absurd h.1 (by decide)) (fun h => absurd h.1 (by decide))))))).trans hkk) ((funext fun i0 => frM_197 61 i0 (fun h => h.elim (fun h => absurd h (by decide)) (fun h => h.elim (fun h => absurd h.1 (by decide)) (fun h => h.elim (fun h => absurd h.1 (by decide)) (fun h => h.elim (fun h => absurd h.1 (by decide)) (fun h => absurd h.1 (by decide))))))).trans hvv) rfl (by first | omega | assumption)) (pc' := 211) rfl (fun vv M_208 hq co208 hcm208 => ?_)
          obtain ⟨rfl, rfl⟩ := hq
          refine ax_reS (st2 := [.inl (f_b (kk (M_197 58 8) = 1 ∧ vv (M_197 58 8) = 60))]) rfl ?_
          refine ax_if_eq (tgt := 219) dX3_readCheck_211 (by decide) (pc' := 214) rfl (fun h211 => ?_) (fun h211 => ?_)
          · replace h211 := f_b_0 h211
            refine ax_aload_n dX3_readCheck_219 rfl rfl (pc' := 220) rfl ?_
            refine ax_bipush dX3_readCheck_220 (by decide) (pc' := 222) rfl ?_
            refine ax_invG [.inl 61] [] dX3_readCheck_222 mlX3_62 sh_58 rfl rfl rfl (Nat.le_of_ble_eq_true rfl) (s_X8_isSign E l _ (by omega) _ 61 ((funext fun i0 => frM_197 60 i0 (fun h => h.elim (fun h => absurd h (by decide)) (fun h => h.elim (fun h => absurd h.1 (by decide)) (fun h => h.elim (fun h => absurd h.1 (by decide)) (fun h => h.elim (fun h => absurd h.1 (by decide)) (fun h => absurd h.1 (by decide))))))).trans hkk) ((funext fun i0 => frM_197 61 i0 (fun h => h.elim (fun h => absurd h (by decide)) (fun h => h.elim (fun h => absurd h.1 (by decide)) (fun h => h.elim (fun h => absurd h.1 (by decide)) (fun h => h.elim (fun h => absurd h.1 (by decide)) (fun h => absurd h.1 (by decide))))))).trans hvv) rfl (by first | omega | assumption)) (pc' := 225) rfl (fun vv M_222 hq co222 hcm222 => ?_)
            obtain ⟨rfl, rfl⟩ := hq
            refine ax_reS (st2 := [.inl (f_b (kk (M_197 58 8) = 1 ∧ vv (M_197 58 8) = 61))]) rfl ?_
            refine ax_if_eq (tgt := 233) dX3_readCheck_225 (by decide) (pc' := 228) rfl (fun h225 => ?_) (fun h225 => ?_)
            · replace h225 := f_b_0 h225
              refine ax_aload_n dX3_readCheck_233 rfl rfl (pc' := 234) rfl ?_
              refine ax_bipush dX3_readCheck_234 (by decide) (pc' := 236) rfl ?_
              refine ax_invG [.inl 62] [] dX3_readCheck_236 mlX3_62 sh_58 rfl rfl rfl (Nat.le_of_ble_eq_true rfl) (s_X8_isSign E l _ (by omega) _ 62 ((funext fun i0 => frM_197 60 i0 (fun h => h.elim (fun h => absurd h (by decide)) (fun h => h.elim (fun h => absurd h.1 (by decide)) (fun h => h.elim (fun h => absurd h.1 (by decide)) (fun h => h.elim (fun h => absurd h.1 (by decide)) (fun h => absurd h.1 (by decide))))))).trans hkk) ((funext fun i0 => frM_197 61 i0 (fun h => h.elim (fun h => absurd h (by decide)) (fun h => h.elim (fun h => absurd h.1 (by decide)) (fun h => h.elim (fun h => absurd h.1 (by decide)) (fun h => h.elim (fun h => absurd h.1 (by decide)) (fun h => absurd h.1 (by decide))))))).trans hvv) rfl (by first | omega | assumption)) (pc' := 239) rfl (fun vv M_236 hq co236 hcm236 => ?_)
              obtain ⟨rfl, rfl⟩ := hq
              refine ax_reS (st2 := [.inl (f_b (kk (M_197 58 8) = 1 ∧ vv (M_197 58 8) = 62))]) rfl ?_
              refine ax_if_eq (tgt := 247) dX3_readCheck_239 (by decide) (pc' := 242) rfl (fun h239 => ?_) (fun h239 => ?_)
              · replace h239 := f_b_0 h239
                have qz : f_one (nd + 1) L = .inl (1, ss (M_197 58 8)) := by
                  rw [qb2]
                  unfold f_cmp2
                  rw [if_pos (by unfold f_cmpS; rw [if_neg (show ¬ f_T (f_rL (f_sumU L)) = 160 from fun a => h211 ((kl_s yK 60 (by decide)).mpr a)), if_neg (show ¬ f_T (f_rL (f_sumU L)) = 161 from fun a => h225 ((kl_s yK 61 (by decide)).mpr a)), if_neg (show ¬ f_T (f_rL (f_sumU L)) = 162 from fun a => h239 ((kl_s yK 62 (by decide)).mpr a))]), ys]
                  rfl
                refine ax_iconst dX3_readCheck_247 (by decide) (pc' := 248) rfl ?_
                refine ax_istore dX3_readCheck_248 (by decide) (ls' := [some (.inr 63), some (.inr 58), some (.inl 2), some (.inl op), some (.inl (f_b (kk nx = 2 ∧ vv nx = 4))), some (.inl 0)]) rfl (pc' := 250) rfl ?_
                refine ax_iload dX3_readCheck_250 rfl (pc' := 252) rfl ?_
                refine ax_if_ne (tgt := 261) dX3_readCheck_252 (by decide) (pc' := 255) rfl (fun h252 => ?_) (fun h252 => ?_)
                · exfalso
                  omega
                · refine ax_aload_n dX3_readCheck_255 rfl rfl (pc' := 256) rfl ?_
                  refine ax_iconst dX3_readCheck_256 (by decide) (pc' := 257) rfl ?_
                  refine ax_invG [.inl 1] [] dX3_readCheck_257 mlX3_42 sh_58 rfl rfl rfl (Nat.le_of_ble_eq_true rfl) (s_X8_fail E l _ (by omega) _ 1 ((funext fun i0 => frM_197 62 i0 (fun h => h.elim (fun h => absurd h (by decide)) (fun h => h.elim (fun h => absurd h.1 (by decide)) (fun h => h.elim (fun h => absurd h.1 (by decide)) (fun h => h.elim (fun h => absurd h.1 (by decide)) (fun h => absurd h.1 (by decide))))))).trans hss) rfl (by first | omega | assumption)) (pc' := 260) rfl (fun vv M_257 hq co257 hcm257 => ?_)
                  obtain ⟨rfl, frM_257, msM_257_0, msM_257_1⟩ := hq
                  refine ax_reS (st2 := [.inl 0]) rfl ?_
                  refine ax_zret dX3_readCheck_260 rfl (by decide) ?_
                  refine ⟨rfl, ?_, ?_, ?_⟩
                  · refine congrArg (fun z => some (Sum.inl z)) ?_
                    rw [qz]
                    rfl
                  · intro x0 i0 hai
                    exact ((frM_257 x0 i0 (fun h => h.elim (fun h => hai (Or.inr (Or.inr (Or.inr (Or.inl h))))) (fun h => hai (Or.inr (Or.inr (Or.inr (Or.inr h))))))).trans ((frM_197 x0 i0 (fun h => h.elim (fun h => hai (Or.inl h)) (fun h => h.elim (fun h => hai (Or.inr (Or.inl h))) (fun h => h.elim (fun h => hai (Or.inr (Or.inr (Or.inl h)))) (fun h => h.elim (fun h => hai (Or.inr (Or.inr (Or.inr (Or.inl h))))) (fun h => hai (Or.inr (Or.inr (Or.inr (Or.inr h)))))))))).trans rfl))
                  · exact f_cok_no qz msM_257_0 msM_257_1
              · replace h239 := f_b_1 h239
                have qT9 : f_T (f_rL (f_sumU L)) = 162 := (kl_s yK 62 (by decide)).mp h239
                have qk : f_cmpS (f_rL (f_sumU L)) = 29 := by
                  unfold f_cmpS
                  rw [if_neg (by omega), if_neg (by omega), if_pos qT9]
                have qe2 : f_cmp2 (f_rL (f_sumU L)) = f_aft [(29, 0)] (f_sumU (f_rL (f_sumU L)).tail) := by
                  unfold f_cmp2
                  rw [qk]
                  rfl
                obtain ⟨xc, xl, xn⟩ := f_cc_nx qc (by omega)
                have xK := f_kv_lw hg0 (f_cc_hd xc).1.1
                have xs := (f_cc_hd xc).1.2
                have xR := f_cc_rg xc
                refine ax_bipush dX3_readCheck_242 (by decide) (pc' := 244) rfl ?_
                refine ax_goto dX3_readCheck_244 (pc' := 248) (by decide) ?_
                refine ax_istore dX3_readCheck_248 (by decide) (ls' := [some (.inr 63), some (.inr 58), some (.inl 2), some (.inl op), some (.inl (f_b (kk nx = 2 ∧ vv nx = 4))), some (.inl (-17))]) rfl (pc' := 250) rfl ?_
                refine ax_iload dX3_readCheck_250 rfl (pc' := 252) rfl ?_
                refine ax_if_ne (tgt := 261) dX3_readCheck_252 (by decide) (pc' := 255) rfl (fun h252 => ?_) (fun h252 => ?_)
                · refine ax_aload_n dX3_readCheck_261 rfl rfl (pc' := 262) rfl ?_
                  refine ax_invG [] [] dX3_readCheck_262 mlX3_45 sh_58 rfl rfl rfl (Nat.le_of_ble_eq_true rfl) (s_X8_step E l _ (by omega) _ ((funext fun i0 => frM_197 60 i0 (fun h => h.elim (fun h => absurd h (by decide)) (fun h => h.elim (fun h => absurd h.1 (by decide)) (fun h => h.elim (fun h => absurd h.1 (by decide)) (fun h => h.elim (fun h => absurd h.1 (by decide)) (fun h => absurd h.1 (by decide))))))).trans hkk) rfl (by first | omega | assumption) (by first | omega | assumption)) (pc' := 265) rfl (fun vv M_262 hq co262 hcm262 => ?_)
                  obtain ⟨rfl, frM_262, msM_262_0⟩ := hq
                  refine ax_reS (st2 := []) rfl ?_
                  refine ax_aload_n dX3_readCheck_265 rfl rfl (pc' := 266) rfl ?_
                  refine ax_aload_n dX3_readCheck_266 rfl rfl (pc' := 267) rfl ?_
                  refine ax_invG [.inr 58] [] dX3_readCheck_267 mlX3_48 sh_63 rfl rfl rfl (Nat.le_of_ble_eq_true rfl) (s_X3_readSum E l _ (by omega) _ rd ((f_rL (f_sumU L)).tail) ((funext fun i0 => frM_262 60 i0 (fun h => absurd h.1 (by decide))).trans ((funext fun i0 => frM_197 60 i0 (fun h => h.elim (fun h => absurd h (by decide)) (fun h => h.elim (fun h => absurd h.1 (by decide)) (fun h => h.elim (fun h => absurd h.1 (by decide)) (fun h => h.elim (fun h => absurd h.1 (by decide)) (fun h => absurd h.1 (by decide))))))).trans hkk)) ((funext fun i0 => frM_262 61 i0 (fun h => absurd h.1 (by decide))).trans ((funext fun i0 => frM_197 61 i0 (fun h => h.elim (fun h => absurd h (by decide)) (fun h => h.elim (fun h => absurd h.1 (by decide)) (fun h => h.elim (fun h => absurd h.1 (by decide)) (fun h => h.elim (fun h => absurd h.1 (by decide)) (fun h => absurd h.1 (by decide))))))).trans hvv)) ((funext fun i0 => frM_262 62 i0 (fun h => absurd h.1 (by decide))).trans ((funext fun i0 => frM_197 62 i0 (fun h => h.elim (fun h => absurd h (by decide)) (fun h => h.elim (fun h => absurd h.1 (by decide)) (fun h => h.elim (fun h => absurd h.1 (by decide)) (fun h => h.elim (fun h => absurd h.1 (by decide)) (fun h => absurd h.1 (by decide))))))).trans hss)) ((funext fun i0 => frM_262 64 i0 (fun h => absurd h.1 (by decide))).trans rfl) msM_262_0 ((frM_262 63 1 (fun h => absurd h.1 (by decide))).trans rfl) ((frM_262 58 2 (fun h => absurd h.2 (by decide))).trans rfl) ((frM_262 58 3 (fun h => absurd h.2 (by decide))).trans rfl) (by first | omega | assumption) xc (by first | omega | assumption)) (pc' := 270) rfl (fun vv M_267 hq co267 hcm267 => ?_)
                  obtain ⟨rfl, frM_267, fa267_0⟩ := hq
                  refine ax_reS (st2 := [.inl (f_rb (f_sumU ((f_rL (f_sumU L)).tail)))]) rfl ?_
                  have cc267 : -2147483648 ≤ f_rb (f_sumU ((f_rL (f_sumU L)).tail)) ∧ f_rb (f_sumU ((f_rL (f_sumU L)).tail)) < 2147483648 := co267 _ rfl
                  refine ax_if_eq (tgt := 286) dX3_readCheck_270 (by decide) (pc' := 273) rfl (fun h270 => ?_) (fun h270 => ?_)
                  · have qz : f_one (nd + 1) L = .inl (M_267 58 2, M_267 58 3) := by
                      rw [qb2, qe2, f_aft_no (f_cok_0 fa267_0 h270)]
                      rfl
                    refine ax_iconst dX3_readCheck_286 (by decide) (pc' := 287) rfl ?_
                    refine ax_zret dX3_readCheck_287 rfl (by decide) ?_
                    refine ⟨rfl, ?_, ?_, ?_⟩
                    · refine congrArg (fun z => some (Sum.inl z)) ?_
                      rw [qz]
                      rfl
                    · intro x0 i0 hai
                      exact ((frM_267 x0 i0 (fun h => h.elim (fun h => hai (Or.inl h)) (fun h => h.elim (fun h => hai (Or.inr (Or.inl h))) (fun h => h.elim (fun h => hai (Or.inr (Or.inr (Or.inl h)))) (fun h => h.elim (fun h => hai (Or.inr (Or.inr (Or.inr (Or.inl h))))) (fun h => hai (Or.inr (Or.inr (Or.inr (Or.inr h)))))))))).trans ((frM_262 x0 i0 (fun h => hai (Or.inr (Or.inr (Or.inl h))))).trans ((frM_197 x0 i0 (fun h => h.elim (fun h => hai (Or.inl h)) (fun h => h.elim (fun h => hai (Or.inr (Or.inl h))) (fun h => h.elim (fun h => hai (Or.inr (Or.inr (Or.inl h)))) (fun h => h.elim (fun h => hai (Or.inr (Or.inr (Or.inr (Or.inl h))))) (fun h => hai (Or.inr (Or.inr (Or.inr (Or.inr h)))))))))).trans rfl)))
                    · exact f_cok_no qz rfl rfl
                  · have qr2 := (f_rb_01 _).resolve_left h270
                    obtain ⟨qm3, qs3, qc3, qz2, qz3⟩ := f_cok_1 fa267_0 qr2
                    have qgd2 := f_sumU_gd (f_rL (f_sumU L)).tail _ _ (f_rb_1 qr2)
                    have qcR := f_cc_rg qc3
                    have qz : f_one (nd + 1) L = .inr (f_rL (f_sumU (f_rL (f_sumU L)).tail), f_rO (f_sumU L) ++ (f_rO (f_sumU (f_rL (f_sumU L)).tail) ++ [(29, 0)])) := by
                      rw [qb2, qe2, f_aft_ok (f_rb_1 qr2)]
                      rfl
                    have qb4 := f_lp_cd (K := 29) (x := -17) ⟨qm, qs2⟩ qm3 qs3 rfl (by decide)
                    refine ax_aload_n dX3_readCheck_273 rfl rfl (pc' := 274) rfl ?_
                    refine ax_iload dX3_readCheck_274 rfl (pc' := 276) rfl ?_
                    refine ax_invG [.inl (-17)] [] dX3_readCheck_276 mlX3_55 sh_63 rfl rfl rfl (Nat.le_of_ble_eq_true rfl) (s_X3_put E l _ (by omega) _ (-17) rfl rfl (by first | omega | assumption)) (pc' := 279) rfl (fun vv M_276 hq co276 hcm276 => ?_)
                    obtain ⟨rfl, frM_276, mrM_276_0, msM_276_0⟩ := hq
                    refine ax_reS (st2 := [.inl 1]) rfl ?_
                    refine ax_if_eq (tgt := 286) dX3_readCheck_279 (by decide) (pc' := 282) rfl (fun h279 => ?_) (fun h279 => ?_)
                    · exfalso
                      omega
                    · refine ax_iconst dX3_readCheck_282 (by decide) (pc' := 283) rfl ?_
                      refine ax_goto dX3_readCheck_283 (pc' := 287) (by decide) ?_
                      refine ax_zret dX3_readCheck_287 rfl (by decide) ?_
                      refine ⟨rfl, ?_, ?_, ?_⟩
                      · refine congrArg (fun z => some (Sum.inl z)) ?_
                        rw [qz]
                        rfl
                      · intro x0 i0 hai
                        exact ((frM_276 x0 i0 (fun h => h.elim (fun h => hai (Or.inl h)) (fun h => hai (Or.inr (Or.inl h))))).trans ((frM_267 x0 i0 (fun h => h.elim (fun h => hai (Or.inl h)) (fun h => h.elim (fun h => hai (Or.inr (Or.inl h))) (fun h => h.elim (fun h => hai (Or.inr (Or.inr (Or.inl h)))) (fun h => h.elim (fun h => hai (Or.inr (Or.inr (Or.inr (Or.inl h))))) (fun h => hai (Or.inr (Or.inr (Or.inr (Or.inr h)))))))))).trans ((frM_262 x0 i0 (fun h => hai (Or.inr (Or.inr (Or.inl h))))).trans ((frM_197 x0 i0 (fun h => h.elim (fun h => hai (Or.inl h)) (fun h => h.elim (fun h => hai (Or.inr (Or.inl h))) (fun h => h.elim (fun h => hai (Or.inr (Or.inr (Or.inl h)))) (fun h => h.elim (fun h => hai (Or.inr (Or.inr (Or.inr (Or.inl h))))) (fun h => hai (Or.inr (Or.inr (Or.inr (Or.inr h)))))))))).trans rfl))))
                      · refine f_cok_ok qz (Eq.trans mrM_276_0 ?_) (Eq.trans msM_276_0 ?_) ((frM_276 58 8 (fun h => h.elim (fun h => absurd h (by decide)) (fun h => absurd h.1 (by decide)))).trans rfl) qc3 (Eq.trans ((frM_276 58 2 (fun h => h.elim (fun h => absurd h (by decide)) (fun h => absurd h.1 (by decide)))).trans rfl) (qz2.trans qy2)) (Eq.trans ((frM_276 58 3 (fun h => h.elim (fun h => absurd h (by decide)) (fun h => absurd h.1 (by decide)))).trans rfl) (qz3.trans qy3))
                        · exact qb4.1
                        · exact qb4.2
                · exfalso
                  omega
            · replace h225 := f_b_1 h225
              have qT9 : f_T (f_rL (f_sumU L)) = 161 := (kl_s yK 61 (by decide)).mp h225
              have qk : f_cmpS (f_rL (f_sumU L)) = 28 := by
                unfold f_cmpS
                rw [if_neg (by omega), if_pos qT9]
              have qe2 : f_cmp2 (f_rL (f_sumU L)) = f_aft [(28, 0)] (f_sumU (f_rL (f_sumU L)).tail) := by
                unfold f_cmp2
                rw [qk]
                rfl
              obtain ⟨xc, xl, xn⟩ := f_cc_nx qc (by omega)
              have xK := f_kv_lw hg0 (f_cc_hd xc).1.1
              have xs := (f_cc_hd xc).1.2
              have xR := f_cc_rg xc
              refine ax_bipush dX3_readCheck_228 (by decide) (pc' := 230) rfl ?_
              refine ax_goto dX3_readCheck_230 (pc' := 248) (by decide) ?_
              refine ax_istore dX3_readCheck_248 (by decide) (ls' := [some (.inr 63), some (.inr 58), some (.inl 2), some (.inl op), some (.inl (f_b (kk nx = 2 ∧ vv nx = 4))), some (.inl (-16))]) rfl (pc' := 250) rfl ?_
              refine ax_iload dX3_readCheck_250 rfl (pc' := 252) rfl ?_
              refine ax_if_ne (tgt := 261) dX3_readCheck_252 (by decide) (pc' := 255) rfl (fun h252 => ?_) (fun h252 => ?_)
              · refine ax_aload_n dX3_readCheck_261 rfl rfl (pc' := 262) rfl ?_
                refine ax_invG [] [] dX3_readCheck_262 mlX3_45 sh_58 rfl rfl rfl (Nat.le_of_ble_eq_true rfl) (s_X8_step E l _ (by omega) _ ((funext fun i0 => frM_197 60 i0 (fun h => h.elim (fun h => absurd h (by decide)) (fun h => h.elim (fun h => absurd h.1 (by decide)) (fun h => h.elim (fun h => absurd h.1 (by decide)) (fun h => h.elim (fun h => absurd h.1 (by decide)) (fun h => absurd h.1 (by decide))))))).trans hkk) rfl (by first | omega | assumption) (by first | omega | assumption)) (pc' := 265) rfl (fun vv M_262 hq co262 hcm262 => ?_)
                obtain ⟨rfl, frM_262, msM_262_0⟩ := hq
                refine ax_reS (st2 := []) rfl ?_
                refine ax_aload_n dX3_readCheck_265 rfl rfl (pc' := 266) rfl ?_
                refine ax_aload_n dX3_readCheck_266 rfl rfl (pc' := 267) rfl ?_
                refine ax_invG [.inr 58] [] dX3_readCheck_267 mlX3_48 sh_63 rfl rfl rfl (Nat.le_of_ble_eq_true rfl) (s_X3_readSum E l _ (by omega) _ rd ((f_rL (f_sumU L)).tail) ((funext fun i0 => frM_262 60 i0 (fun h => absurd h.1 (by decide))).trans ((funext fun i0 => frM_197 60 i0 (fun h => h.elim (fun h => absurd h (by decide)) (fun h => h.elim (fun h => absurd h.1 (by decide)) (fun h => h.elim (fun h => absurd h.1 (by decide)) (fun h => h.elim (fun h => absurd h.1 (by decide)) (fun h => absurd h.1 (by decide))))))).trans hkk)) ((funext fun i0 => frM_262 61 i0 (fun h => absurd h.1 (by decide))).trans ((funext fun i0 => frM_197 61 i0 (fun h => h.elim (fun h => absurd h (by decide)) (fun h => h.elim (fun h => absurd h.1 (by decide)) (fun h => h.elim (fun h => absurd h.1 (by decide)) (fun h => h.elim (fun h => absurd h.1 (by decide)) (fun h => absurd h.1 (by decide))))))).trans hvv)) ((funext fun i0 => frM_262 62 i0 (fun h => absurd h.1 (by decide))).trans ((funext fun i0 => frM_197 62 i0 (fun h => h.elim (fun h => absurd h (by decide)) (fun h => h.elim (fun h => absurd h.1 (by decide)) (fun h => h.elim (fun h => absurd h.1 (by decide)) (fun h => h.elim (fun h => absurd h.1 (by decide)) (fun h => absurd h.1 (by decide))))))).trans hss)) ((funext fun i0 => frM_262 64 i0 (fun h => absurd h.1 (by decide))).trans rfl) msM_262_0 ((frM_262 63 1 (fun h => absurd h.1 (by decide))).trans rfl) ((frM_262 58 2 (fun h => absurd h.2 (by decide))).trans rfl) ((frM_262 58 3 (fun h => absurd h.2 (by decide))).trans rfl) (by first | omega | assumption) xc (by first | omega | assumption)) (pc' := 270) rfl (fun vv M_267 hq co267 hcm267 => ?_)
                obtain ⟨rfl, frM_267, fa267_0⟩ := hq
                refine ax_reS (st2 := [.inl (f_rb (f_sumU ((f_rL (f_sumU L)).tail)))]) rfl ?_
                have cc267 : -2147483648 ≤ f_rb (f_sumU ((f_rL (f_sumU L)).tail)) ∧ f_rb (f_sumU ((f_rL (f_sumU L)).tail)) < 2147483648 := co267 _ rfl
                refine ax_if_eq (tgt := 286) dX3_readCheck_270 (by decide) (pc' := 273) rfl (fun h270 => ?_) (fun h270 => ?_)
                · have qz : f_one (nd + 1) L = .inl (M_267 58 2, M_267 58 3) := by
                    rw [qb2, qe2, f_aft_no (f_cok_0 fa267_0 h270)]
                    rfl
                  refine ax_iconst dX3_readCheck_286 (by decide) (pc' := 287) rfl ?_
                  refine ax_zret dX3_readCheck_287 rfl (by decide) ?_
                  refine ⟨rfl, ?_, ?_, ?_⟩
                  · refine congrArg (fun z => some (Sum.inl z)) ?_
                    rw [qz]
                    rfl
                  · intro x0 i0 hai
                    exact ((frM_267 x0 i0 (fun h => h.elim (fun h => hai (Or.inl h)) (fun h => h.elim (fun h => hai (Or.inr (Or.inl h))) (fun h => h.elim (fun h => hai (Or.inr (Or.inr (Or.inl h)))) (fun h => h.elim (fun h => hai (Or.inr (Or.inr (Or.inr (Or.inl h))))) (fun h => hai (Or.inr (Or.inr (Or.inr (Or.inr h)))))))))).trans ((frM_262 x0 i0 (fun h => hai (Or.inr (Or.inr (Or.inl h))))).trans ((frM_197 x0 i0 (fun h => h.elim (fun h => hai (Or.inl h)) (fun h => h.elim (fun h => hai (Or.inr (Or.inl h))) (fun h => h.elim (fun h => hai (Or.inr (Or.inr (Or.inl h)))) (fun h => h.elim (fun h => hai (Or.inr (Or.inr (Or.inr (Or.inl h))))) (fun h => hai (Or.inr (Or.inr (Or.inr (Or.inr h)))))))))).trans rfl)))
                  · exact f_cok_no qz rfl rfl
                · have qr2 := (f_rb_01 _).resolve_left h270
                  obtain ⟨qm3, qs3, qc3, qz2, qz3⟩ := f_cok_1 fa267_0 qr2
                  have qgd2 := f_sumU_gd (f_rL (f_sumU L)).tail _ _ (f_rb_1 qr2)
                  have qcR := f_cc_rg qc3
                  have qz : f_one (nd + 1) L = .inr (f_rL (f_sumU (f_rL (f_sumU L)).tail), f_rO (f_sumU L) ++ (f_rO (f_sumU (f_rL (f_sumU L)).tail) ++ [(28, 0)])) := by
                    rw [qb2, qe2, f_aft_ok (f_rb_1 qr2)]
                    rfl
                  have qb4 := f_lp_cd (K := 28) (x := -16) ⟨qm, qs2⟩ qm3 qs3 rfl (by decide)
                  refine ax_aload_n dX3_readCheck_273 rfl rfl (pc' := 274) rfl ?_
                  refine ax_iload dX3_readCheck_274 rfl (pc' := 276) rfl ?_
                  refine ax_invG [.inl (-16)] [] dX3_readCheck_276 mlX3_55 sh_63 rfl rfl rfl (Nat.le_of_ble_eq_true rfl) (s_X3_put E l _ (by omega) _ (-16) rfl rfl (by first | omega | assumption)) (pc' := 279) rfl (fun vv M_276 hq co276 hcm276 => ?_)
                  obtain ⟨rfl, frM_276, mrM_276_0, msM_276_0⟩ := hq
                  refine ax_reS (st2 := [.inl 1]) rfl ?_
                  refine ax_if_eq (tgt := 286) dX3_readCheck_279 (by decide) (pc' := 282) rfl (fun h279 => ?_) (fun h279 => ?_)
                  · exfalso
                    omega
                  · refine ax_iconst dX3_readCheck_282 (by decide) (pc' := 283) rfl ?_
                    refine ax_goto dX3_readCheck_283 (pc' := 287) (by decide) ?_
                    refine ax_zret dX3_readCheck_287 rfl (by decide) ?_
                    refine ⟨rfl, ?_, ?_, ?_⟩
                    · refine congrArg (fun z => some (Sum.inl z)) ?_
                      rw [qz]
                      rfl
                    · intro x0 i0 hai
                      exact ((frM_276 x0 i0 (fun h => h.elim (fun h => hai (Or.inl h)) (fun h => hai (Or.inr (Or.inl h))))).trans ((frM_267 x0 i0 (fun h => h.elim (fun h => hai (Or.inl h)) (fun h => h.elim (fun h => hai (Or.inr (Or.inl h))) (fun h => h.elim (fun h => hai (Or.inr (Or.inr (Or.inl h)))) (fun h => h.elim (fun h => hai (Or.inr (Or.inr (Or.inr (Or.inl h))))) (fun h => hai (Or.inr (Or.inr (Or.inr (Or.inr h)))))))))).trans ((frM_262 x0 i0 (fun h => hai (Or.inr (Or.inr (Or.inl h))))).trans ((frM_197 x0 i0 (fun h => h.elim (fun h => hai (Or.inl h)) (fun h => h.elim (fun h => hai (Or.inr (Or.inl h))) (fun h => h.elim (fun h => hai (Or.inr (Or.inr (Or.inl h)))) (fun h => h.elim (fun h => hai (Or.inr (Or.inr (Or.inr (Or.inl h))))) (fun h => hai (Or.inr (Or.inr (Or.inr (Or.inr h)))))))))).trans rfl))))
                    · refine f_cok_ok qz (Eq.trans mrM_276_0 ?_) (Eq.trans msM_276_0 ?_) ((frM_276 58 8 (fun h => h.elim (fun h => absurd h (by decide)) (fun h => absurd h.1 (by decide)))).trans rfl) qc3 (Eq.trans ((frM_276 58 2 (fun h => h.elim (fun h => absurd h (by decide)) (fun h => absurd h.1 (by decide)))).trans rfl) (qz2.trans qy2)) (Eq.trans ((frM_276 58 3 (fun h => h.elim (fun h => absurd h (by decide)) (fun h => absurd h.1 (by decide)))).trans rfl) (qz3.trans qy3))
                      · exact qb4.1
                      · exact qb4.2
              · exfalso
                omega
          · replace h211 := f_b_1 h211
            have qT9 : f_T (f_rL (f_sumU L)) = 160 := (kl_s yK 60 (by decide)).mp h211
            have qk : f_cmpS (f_rL (f_sumU L)) = 27 := by
              unfold f_cmpS
              rw [if_pos qT9]
            have qe2 : f_cmp2 (f_rL (f_sumU L)) = f_aft [(27, 0)] (f_sumU (f_rL (f_sumU L)).tail) := by
              unfold f_cmp2
              rw [qk]
              rfl
            obtain ⟨xc, xl, xn⟩ := f_cc_nx qc (by omega)
            have xK := f_kv_lw hg0 (f_cc_hd xc).1.1
            have xs := (f_cc_hd xc).1.2
            have xR := f_cc_rg xc
            refine ax_bipush dX3_readCheck_214 (by decide) (pc' := 216) rfl ?_
            refine ax_goto dX3_readCheck_216 (pc' := 248) (by decide) ?_
            refine ax_istore dX3_readCheck_248 (by decide) (ls' := [some (.inr 63), some (.inr 58), some (.inl 2), some (.inl op), some (.inl (f_b (kk nx = 2 ∧ vv nx = 4))), some (.inl (-15))]) rfl (pc' := 250) rfl ?_
            refine ax_iload dX3_readCheck_250 rfl (pc' := 252) rfl ?_
            refine ax_if_ne (tgt := 261) dX3_readCheck_252 (by decide) (pc' := 255) rfl (fun h252 => ?_) (fun h252 => ?_)
            · refine ax_aload_n dX3_readCheck_261 rfl rfl (pc' := 262) rfl ?_
              refine ax_invG [] [] dX3_readCheck_262 mlX3_45 sh_58 rfl rfl rfl (Nat.le_of_ble_eq_true rfl) (s_X8_step E l _ (by omega) _ ((funext fun i0 => frM_197 60 i0 (fun h => h.elim (fun h => absurd h (by decide)) (fun h => h.elim (fun h => absurd h.1 (by decide)) (fun h => h.elim (fun h => absurd h.1 (by decide)) (fun h => h.elim (fun h => absurd h.1 (by decide)) (fun h => absurd h.1 (by decide))))))).trans hkk) rfl (by first | omega | assumption) (by first | omega | assumption)) (pc' := 265) rfl (fun vv M_262 hq co262 hcm262 => ?_)
              obtain ⟨rfl, frM_262, msM_262_0⟩ := hq
              refine ax_reS (st2 := []) rfl ?_
              refine ax_aload_n dX3_readCheck_265 rfl rfl (pc' := 266) rfl ?_
              refine ax_aload_n dX3_readCheck_266 rfl rfl (pc' := 267) rfl ?_
              refine ax_invG [.inr 58] [] dX3_readCheck_267 mlX3_48 sh_63 rfl rfl rfl (Nat.le_of_ble_eq_true rfl) (s_X3_readSum E l _ (by omega) _ rd ((f_rL (f_sumU L)).tail) ((funext fun i0 => frM_262 60 i0 (fun h => absurd h.1 (by decide))).trans ((funext fun i0 => frM_197 60 i0 (fun h => h.elim (fun h => absurd h (by decide)) (fun h => h.elim (fun h => absurd h.1 (by decide)) (fun h => h.elim (fun h => absurd h.1 (by decide)) (fun h => h.elim (fun h => absurd h.1 (by decide)) (fun h => absurd h.1 (by decide))))))).trans hkk)) ((funext fun i0 => frM_262 61 i0 (fun h => absurd h.1 (by decide))).trans ((funext fun i0 => frM_197 61 i0 (fun h => h.elim (fun h => absurd h (by decide)) (fun h => h.elim (fun h => absurd h.1 (by decide)) (fun h => h.elim (fun h => absurd h.1 (by decide)) (fun h => h.elim (fun h => absurd h.1 (by decide)) (fun h => absurd h.1 (by decide))))))).trans hvv)) ((funext fun i0 => frM_262 62 i0 (fun h => absurd h.1 (by decide))).trans ((funext fun i0 => frM_197 62 i0 (fun h => h.elim (fun h => absurd h (by decide)) (fun h => h.elim (fun h => absurd h.1 (by decide)) (fun h => h.elim (fun h => absurd h.1 (by decide)) (fun h => h.elim (fun h => absurd h.1 (by decide)) (fun h => absurd h.1 (by decide))))))).trans hss)) ((funext fun i0 => frM_262 64 i0 (fun h => absurd h.1 (by decide))).trans rfl) msM_262_0 ((frM_262 63 1 (fun h => absurd h.1 (by decide))).trans rfl) ((frM_262 58 2 (fun h => absurd h.2 (by decide))).trans rfl) ((frM_262 58 3 (fun h => absurd h.2 (by decide))).trans rfl) (by first | omega | assumption) xc (by first | omega | assumption)) (pc' := 270) rfl (fun vv M_267 hq co267 hcm267 => ?_)
              obtain ⟨rfl, frM_267, fa267_0⟩ := hq
              refine ax_reS (st2 := [.inl (f_rb (f_sumU ((f_rL (f_sumU L)).tail)))]) rfl ?_
              have cc267 : -2147483648 ≤ f_rb (f_sumU ((f_rL (f_sumU L)).tail)) ∧ f_rb (f_sumU ((f_rL (f_sumU L)).tail)) < 2147483648 := co267 _ rfl
              refine ax_if_eq (tgt := 286) dX3_readCheck_270 (by decide) (pc' := 273) rfl (fun h270 => ?_) (fun h270 => ?_)
              · have qz : f_one (nd + 1) L = .inl (M_267 58 2, M_267 58 3) := by
                  rw [qb2, qe2, f_aft_no (f_cok_0 fa267_0 h270)]
                  rfl
                refine ax_iconst dX3_readCheck_286 (by decide) (pc' := 287) rfl ?_
                refine ax_zret dX3_readCheck_287 rfl (by decide) ?_
                refine ⟨rfl, ?_, ?_, ?_⟩
                · refine congrArg (fun z => some (Sum.inl z)) ?_
                  rw [qz]
                  rfl
                · intro x0 i0 hai
                  exact ((frM_267 x0 i0 (fun h => h.elim (fun h => hai (Or.inl h)) (fun h => h.elim (fun h => hai (Or.inr (Or.inl h))) (fun h => h.elim (fun h => hai (Or.inr (Or.inr (Or.inl h)))) (fun h => h.elim (fun h => hai (Or.inr (Or.inr (Or.inr (Or.inl h))))) (fun h => hai (Or.inr (Or.inr (Or.inr (Or.inr h)))))))))).trans ((frM_262 x0 i0 (fun h => hai (Or.inr (Or.inr (Or.inl h))))).trans ((frM_197 x0 i0 (fun h => h.elim (fun h => hai (Or.inl h)) (fun h => h.elim (fun h => hai (Or.inr (Or.inl h))) (fun h => h.elim (fun h => hai (Or.inr (Or.inr (Or.inl h)))) (fun h => h.elim (fun h => hai (Or.inr (Or.inr (Or.inr (Or.inl h))))) (fun h => hai (Or.inr (Or.inr (Or.inr (Or.inr h)))))))))).trans rfl)))
                · exact f_cok_no qz rfl rfl
              · have qr2 := (f_rb_01 _).resolve_left h270
                obtain ⟨qm3, qs3, qc3, qz2, qz3⟩ := f_cok_1 fa267_0 qr2
                have qgd2 := f_sumU_gd (f_rL (f_sumU L)).tail _ _ (f_rb_1 qr2)
                have qcR := f_cc_rg qc3
                have qz : f_one (nd + 1) L = .inr (f_rL (f_sumU (f_rL (f_sumU L)).tail), f_rO (f_sumU L) ++ (f_rO (f_sumU (f_rL (f_sumU L)).tail) ++ [(27, 0)])) := by
                  rw [qb2, qe2, f_aft_ok (f_rb_1 qr2)]
                  rfl
                have qb4 := f_lp_cd (K := 27) (x := -15) ⟨qm, qs2⟩ qm3 qs3 rfl (by decide)
                refine ax_aload_n dX3_readCheck_273 rfl rfl (pc' := 274) rfl ?_
                refine ax_iload dX3_readCheck_274 rfl (pc' := 276) rfl ?_
                refine ax_invG [.inl (-15)] [] dX3_readCheck_276 mlX3_55 sh_63 rfl rfl rfl (Nat.le_of_ble_eq_true rfl) (s_X3_put E l _ (by omega) _ (-15) rfl rfl (by first | omega | assumption)) (pc' := 279) rfl (fun vv M_276 hq co276 hcm276 => ?_)
                obtain ⟨rfl, frM_276, mrM_276_0, msM_276_0⟩ := hq
                refine ax_reS (st2 := [.inl 1]) rfl ?_
                refine ax_if_eq (tgt := 286) dX3_readCheck_279 (by decide) (pc' := 282) rfl (fun h279 => ?_) (fun h279 => ?_)
                · exfalso
                  omega
                · refine ax_iconst dX3_readCheck_282 (by decide) (pc' := 283) rfl ?_
                  refine ax_goto dX3_readCheck_283 (pc' := 287) (by decide) ?_
                  refine ax_zret dX3_readCheck_287 rfl (by decide) ?_
                  refine ⟨rfl, ?_, ?_, ?_⟩
                  · refine congrArg (fun z => some (Sum.inl z)) ?_
                    rw [qz]
                    rfl
                  · intro x0 i0 hai
                    exact ((frM_276 x0 i0 (fun h => h.elim (fun h => hai (Or.inl h)) (fun h => hai (Or.inr (Or.inl h))))).trans ((frM_267 x0 i0 (fun h => h.elim (fun h => hai (Or.inl h)) (fun h => h.elim (fun h => hai (Or.inr (Or.inl h))) (fun h => h.elim (fun h => hai (Or.inr (Or.inr (Or.inl h)))) (fun h => h.elim (fun h => hai (Or.inr (Or.inr (Or.inr (Or.inl h))))) (fun h => hai (Or.inr (Or.inr (Or.inr (Or.inr h)))))))))).trans ((frM_262 x0 i0 (fun h => hai (Or.inr (Or.inr (Or.inl h))))).trans ((frM_197 x0 i0 (fun h => h.elim (fun h => hai (Or.inl h)) (fun h => h.elim (fun h => hai (Or.inr (Or.inl h))) (fun h => h.elim (fun h => hai (Or.inr (Or.inr (Or.inl h)))) (fun h => h.elim (fun h => hai (Or.inr (Or.inr (Or.inr (Or.inl h))))) (fun h => hai (Or.inr (Or.inr (Or.inr (Or.inr h)))))))))).trans rfl))))
                  · refine f_cok_ok qz (Eq.trans mrM_276_0 ?_) (Eq.trans msM_276_0 ?_) ((frM_276 58 8 (fun h => h.elim (fun h => absurd h (by decide)) (fun h => absurd h.1 (by decide)))).trans rfl) qc3 (Eq.trans ((frM_276 58 2 (fun h => h.elim (fun h => absurd h (by decide)) (fun h => absurd h.1 (by decide)))).trans rfl) (qz2.trans qy2)) (Eq.trans ((frM_276 58 3 (fun h => h.elim (fun h => absurd h (by decide)) (fun h => absurd h.1 (by decide)))).trans rfl) (qz3.trans qy3))
                    · exact qb4.1
                    · exact qb4.2
            · exfalso
              omega
        · have qz := qb.trans (f_seq_0 (f_cok_0 fa197_0 h200))
          refine ax_iconst dX3_readCheck_203 (by decide) (pc' := 204) rfl ?_
          refine ax_zret dX3_readCheck_204 rfl (by decide) ?_
          refine ⟨rfl, ?_, ?_, ?_⟩
          · refine congrArg (fun z => some (Sum.inl z)) ?_
            rw [qz]
            rfl
          · intro x0 i0 hai
            exact ((frM_197 x0 i0 (fun h => h.elim (fun h => hai (Or.inl h)) (fun h => h.elim (fun h => hai (Or.inr (Or.inl h))) (fun h => h.elim (fun h => hai (Or.inr (Or.inr (Or.inl h)))) (fun h => h.elim (fun h => hai (Or.inr (Or.inr (Or.inr (Or.inl h))))) (fun h => hai (Or.inr (Or.inr (Or.inr (Or.inr h)))))))))).trans rfl)
          · exact f_cok_no qz rfl rfl
      · replace h116 := f_b_1 h116
        have qT : f_T L = 140 := (kl_s qK 40 (by decide)).mp h116
        have qb : f_one (nd + 1) L = f_seq (f_any (f_one nd) L.tail) (f_ned 141) := by
          rw [f_one_s, if_neg (by omega), if_pos qT]
        obtain ⟨xc, xl, xn⟩ := f_cc_nx hg1 (by omega)
        have xK := f_kv_lw hg0 (f_cc_hd xc).1.1
        have xs := (f_cc_hd xc).1.2
        have xR := f_cc_rg xc
        refine ax_iload_n dX3_readCheck_119 rfl rfl (pc' := 120) rfl ?_
        refine ax_bipush dX3_readCheck_120 (by decide) (pc' := 122) rfl ?_
        refine ax_icmp_lt (tgt := 131) dX3_readCheck_122 (by decide) (pc' := 125) rfl (fun h122 => ?_) (fun h122 => ?_)
        · refine ax_aload_n dX3_readCheck_131 rfl rfl (pc' := 132) rfl ?_
          refine ax_invG [] [] dX3_readCheck_132 mlX3_45 sh_58 rfl rfl rfl (Nat.le_of_ble_eq_true rfl) (s_X8_step E l _ (by omega) _ hkk hnx (by first | omega | assumption) (by first | omega | assumption)) (pc' := 135) rfl (fun vv M_132 hq co132 hcm132 => ?_)
          obtain ⟨rfl, frM_132, msM_132_0⟩ := hq
          refine ax_reS (st2 := []) rfl ?_
          refine ax_iload dX3_readCheck_135 rfl (pc' := 137) rfl ?_
          refine ax_if_eq (tgt := 167) dX3_readCheck_137 (by decide) (pc' := 140) rfl (fun h137 => ?_) (fun h137 => ?_)
          · replace h137 := f_b_0 h137
            refine ax_aload_n dX3_readCheck_167 rfl rfl (pc' := 168) rfl ?_
            refine ax_aload_n dX3_readCheck_168 rfl rfl (pc' := 169) rfl ?_
            refine ax_iconst dX3_readCheck_169 (by decide) (pc' := 170) rfl ?_
            refine ax_iload_n dX3_readCheck_170 rfl rfl (pc' := 171) rfl ?_
            refine ax_iconst dX3_readCheck_171 (by decide) (pc' := 172) rfl ?_
            refine ax_iadd dX3_readCheck_172 (by omega) (pc' := 173) rfl ?_
            refine ax_invG [.inr 58, .inl 0, .inl (op + 1)] [] dX3_readCheck_173 mlX3_51 sh_63 rfl rfl rfl (Nat.le_of_ble_eq_true rfl) (s_ck_an nd H1 E l _ (by omega) _ (op + 1) rd L.tail ((funext fun i0 => frM_132 60 i0 (fun h => absurd h.1 (by decide))).trans hkk) ((funext fun i0 => frM_132 61 i0 (fun h => absurd h.1 (by decide))).trans hvv) ((funext fun i0 => frM_132 62 i0 (fun h => absurd h.1 (by decide))).trans hss) ((funext fun i0 => frM_132 64 i0 (fun h => absurd h.1 (by decide))).trans hcd) msM_132_0 ((frM_132 63 1 (fun h => absurd h.1 (by decide))).trans hsz) ((frM_132 58 2 (fun h => absurd h.2 (by decide))).trans hx2) ((frM_132 58 3 (fun h => absurd h.2 (by decide))).trans hx3) (by first | omega | assumption) xc (by first | omega | assumption) (by first | omega | assumption)) (pc' := 176) rfl (fun vv M_173 hq co173 hcm173 => ?_)
            obtain ⟨rfl, frM_173, fa173_0⟩ := hq
            refine ax_reS (st2 := [.inl (f_rb (f_any (f_one nd) L.tail))]) rfl ?_
            have cc173 : -2147483648 ≤ f_rb (f_any (f_one nd) L.tail) ∧ f_rb (f_any (f_one nd) L.tail) < 2147483648 := co173 _ rfl
            refine ax_if_eq (tgt := 193) dX3_readCheck_176 (by decide) (pc' := 179) rfl (fun h176 => ?_) (fun h176 => ?_)
            · have qz := qb.trans (f_seq_0 (f_cok_0 fa173_0 h176))
              refine ax_iconst dX3_readCheck_193 (by decide) (pc' := 194) rfl ?_
              refine ax_zret dX3_readCheck_194 rfl (by decide) ?_
              refine ⟨rfl, ?_, ?_, ?_⟩
              · refine congrArg (fun z => some (Sum.inl z)) ?_
                rw [qz]
                rfl
              · intro x0 i0 hai
                exact ((frM_173 x0 i0 (fun h => h.elim (fun h => hai (Or.inl h)) (fun h => h.elim (fun h => hai (Or.inr (Or.inl h))) (fun h => h.elim (fun h => hai (Or.inr (Or.inr (Or.inl h)))) (fun h => h.elim (fun h => hai (Or.inr (Or.inr (Or.inr (Or.inl h))))) (fun h => hai (Or.inr (Or.inr (Or.inr (Or.inr h)))))))))).trans ((frM_132 x0 i0 (fun h => hai (Or.inr (Or.inr (Or.inl h))))).trans rfl))
              · exact f_cok_no qz rfl rfl
            · have qr1 := (f_rb_01 _).resolve_left h176
              obtain ⟨qm, qs2, qc, qy2, qy3⟩ := f_cok_1 fa173_0 qr1
              have qq : f_one (nd + 1) L = f_pre (f_rO (f_any (f_one nd) L.tail)) (f_ned 141 (f_rL (f_any (f_one nd) L.tail))) := qb.trans (f_seq_1 qr1)
              have yK := f_kv_lw hg0 (f_cc_hd qc).1.1
              have ys := (f_cc_hd qc).1.2
              have yR := f_cc_rg qc
              refine ax_aload_n dX3_readCheck_179 rfl rfl (pc' := 180) rfl ?_
              refine ax_iconst dX3_readCheck_180 (by decide) (pc' := 181) rfl ?_
              refine ax_bipush dX3_readCheck_181 (by decide) (pc' := 183) rfl ?_
              by_cases hp : kk (M_173 58 8) = 1 ∧ vv (M_173 58 8) = 41
              · refine ax_invG [.inl 1, .inl 41] [] dX3_readCheck_183 mlX3_58 sh_58 rfl rfl rfl (Nat.le_of_ble_eq_true rfl) (s_X8_pass_ok E l _ (by omega) _ 1 41 ((funext fun i0 => frM_173 60 i0 (fun h => h.elim (fun h => absurd h (by decide)) (fun h => h.elim (fun h => absurd h.1 (by decide)) (fun h => h.elim (fun h => absurd h.1 (by decide)) (fun h => h.elim (fun h => absurd h.1 (by decide)) (fun h => absurd h.1 (by decide))))))).trans ((funext fun i0 => frM_132 60 i0 (fun h => absurd h.1 (by decide))).trans hkk)) ((funext fun i0 => frM_173 61 i0 (fun h => h.elim (fun h => absurd h (by decide)) (fun h => h.elim (fun h => absurd h.1 (by decide)) (fun h => h.elim (fun h => absurd h.1 (by decide)) (fun h => h.elim (fun h => absurd h.1 (by decide)) (fun h => absurd h.1 (by decide))))))).trans ((funext fun i0 => frM_132 61 i0 (fun h => absurd h.1 (by decide))).trans hvv)) rfl ⟨(f_cc_rg qc).1, (f_cc_nx qc (fun h0 => absurd (h0.symm.trans ((kl_s yK 41 (by decide)).mp hp)) (by decide))).2.2⟩ hp (by decide)) (pc' := 186) rfl (fun vv M_183 hq co183 hcm183 => ?_)
                obtain ⟨rfl, frM_183, msM_183_0⟩ := hq
                refine ax_reS (st2 := [.inl 1]) rfl ?_
                have qTp : f_T (f_rL (f_any (f_one nd) L.tail)) = 141 := (kl_s yK 41 (by decide)).mp hp
                obtain ⟨zc, zl, zn⟩ := f_cc_nx qc (by omega)
                have qz : f_one (nd + 1) L = .inr ((f_rL (f_any (f_one nd) L.tail)).tail, f_rO (f_any (f_one nd) L.tail) ++ []) := by
                  rw [qq]
                  unfold f_ned
                  rw [if_pos qTp]
                  rfl
                refine ax_if_eq (tgt := 193) dX3_readCheck_186 (by decide) (pc' := 189) rfl (fun h186 => ?_) (fun h186 => ?_)
                · exfalso
                  omega
                · refine ax_iconst dX3_readCheck_189 (by decide) (pc' := 190) rfl ?_
                  refine ax_goto dX3_readCheck_190 (pc' := 194) (by decide) ?_
                  refine ax_zret dX3_readCheck_194 rfl (by decide) ?_
                  refine ⟨rfl, ?_, ?_, ?_⟩
                  · refine congrArg (fun z => some (Sum.inl z)) ?_
                    rw [qz]
                    rfl
                  · intro x0 i0 hai
                    exact ((frM_183 x0 i0 (fun h => hai (Or.inr (Or.inr (Or.inl h))))).trans ((frM_173 x0 i0 (fun h => h.elim (fun h => hai (Or.inl h)) (fun h => h.elim (fun h => hai (Or.inr (Or.inl h))) (fun h => h.elim (fun h => hai (Or.inr (Or.inr (Or.inl h)))) (fun h => h.elim (fun h => hai (Or.inr (Or.inr (Or.inr (Or.inl h))))) (fun h => hai (Or.inr (Or.inr (Or.inr (Or.inr h)))))))))).trans ((frM_132 x0 i0 (fun h => hai (Or.inr (Or.inr (Or.inl h))))).trans rfl)))
                  · refine f_cok_ok qz (Eq.trans ((funext fun i0 => frM_183 64 i0 (fun h => absurd h.1 (by decide))).trans rfl) ?_) (Eq.trans ((frM_183 63 1 (fun h => absurd h.1 (by decide))).trans rfl) ?_) msM_183_0 zc (Eq.trans ((frM_183 58 2 (fun h => absurd h.2 (by decide))).trans rfl) qy2) (Eq.trans ((frM_183 58 3 (fun h => absurd h.2 (by decide))).trans rfl) qy3)
                    · rw [List.append_nil]
                      exact qm
                    · rw [List.append_nil]
                      exact qs2
              · refine ax_invG [.inl 1, .inl 41] [] dX3_readCheck_183 mlX3_58 sh_58 rfl rfl rfl (Nat.le_of_ble_eq_true rfl) (s_X8_pass_no E l _ (by omega) _ 1 41 ((funext fun i0 => frM_173 60 i0 (fun h => h.elim (fun h => absurd h (by decide)) (fun h => h.elim (fun h => absurd h.1 (by decide)) (fun h => h.elim (fun h => absurd h.1 (by decide)) (fun h => h.elim (fun h => absurd h.1 (by decide)) (fun h => absurd h.1 (by decide))))))).trans ((funext fun i0 => frM_132 60 i0 (fun h => absurd h.1 (by decide))).trans hkk)) ((funext fun i0 => frM_173 61 i0 (fun h => h.elim (fun h => absurd h (by decide)) (fun h => h.elim (fun h => absurd h.1 (by decide)) (fun h => h.elim (fun h => absurd h.1 (by decide)) (fun h => h.elim (fun h => absurd h.1 (by decide)) (fun h => absurd h.1 (by decide))))))).trans ((funext fun i0 => frM_132 61 i0 (fun h => absurd h.1 (by decide))).trans hvv)) ((funext fun i0 => frM_173 62 i0 (fun h => h.elim (fun h => absurd h (by decide)) (fun h => h.elim (fun h => absurd h.1 (by decide)) (fun h => h.elim (fun h => absurd h.1 (by decide)) (fun h => h.elim (fun h => absurd h.1 (by decide)) (fun h => absurd h.1 (by decide))))))).trans ((funext fun i0 => frM_132 62 i0 (fun h => absurd h.1 (by decide))).trans hss)) rfl ⟨(f_cc_rg qc).1, (f_cc_rg qc).2.1⟩ hp) (pc' := 186) rfl (fun vv M_183 hq co183 hcm183 => ?_)
                obtain ⟨rfl, frM_183, msM_183_0, msM_183_1⟩ := hq
                refine ax_reS (st2 := [.inl 0]) rfl ?_
                have qTp : ¬ f_T (f_rL (f_any (f_one nd) L.tail)) = 141 := fun h => hp ((kl_s yK 41 (by decide)).mpr h)
                have qz : f_one (nd + 1) L = .inl (1, ss (M_173 58 8)) := by
                  rw [qq]
                  unfold f_ned
                  rw [if_neg qTp, ys]
                  rfl
                refine ax_if_eq (tgt := 193) dX3_readCheck_186 (by decide) (pc' := 189) rfl (fun h186 => ?_) (fun h186 => ?_)
                · refine ax_iconst dX3_readCheck_193 (by decide) (pc' := 194) rfl ?_
                  refine ax_zret dX3_readCheck_194 rfl (by decide) ?_
                  refine ⟨rfl, ?_, ?_, ?_⟩
                  · refine congrArg (fun z => some (Sum.inl z)) ?_
                    rw [qz]
                    rfl
                  · intro x0 i0 hai
                    exact ((frM_183 x0 i0 (fun h => h.elim (fun h => hai (Or.inr (Or.inr (Or.inr (Or.inl h))))) (fun h => hai (Or.inr (Or.inr (Or.inr (Or.inr h))))))).trans ((frM_173 x0 i0 (fun h => h.elim (fun h => hai (Or.inl h)) (fun h => h.elim (fun h => hai (Or.inr (Or.inl h))) (fun h => h.elim (fun h => hai (Or.inr (Or.inr (Or.inl h)))) (fun h => h.elim (fun h => hai (Or.inr (Or.inr (Or.inr (Or.inl h))))) (fun h => hai (Or.inr (Or.inr (Or.inr (Or.inr h)))))))))).trans ((frM_132 x0 i0 (fun h => hai (Or.inr (Or.inr (Or.inl h))))).trans rfl)))
                  · exact f_cok_no qz msM_183_0 msM_183_1
                · exfalso
                  omega
          · replace h137 := f_b_1 h137
            exfalso
            first | exact h137 h107 | exact h107 h137
        · exfalso
          omega
  · exfalso
    omega
theorem f_K1_all : ∀ nd : Nat, f_K1 nd
  | 0 => s_ck_0
  | nd + 1 => s_ck_s nd (f_K1_all nd)
