/-! forgetting -/
theorem f_fg_tied {Ls : Int → List f_Ln} {r p : Int} {y : Int → Int} (h : f_P y r p 0 ≠ -1) : ∀ (n : Nat) (k : Int), (n : Int) = 6 - k → f_loop (f_fgS Ls r p) k 6 y = y := by
  intro n
  induction n with
  | zero =>
    intro k e
    exact f_loop_done (by omega)
  | succ n ih =>
    intro k e
    rw [f_loop_step (by omega), show f_fgS Ls r p k y = y from if_neg (fun z => h z.1)]
    exact ih (k + 1) (by omega)
theorem f_onl_fgS {Ls : Int → List f_Ln} {r p k : Int} {y : Int → Int} (hp : 0 ≤ p ∧ p < 24) (hk : 0 ≤ k ∧ k < 6) : f_onl r y (f_fgS Ls r p k y) := by
  unfold f_fgS
  split
  · exact f_onl_hab hp hk
  · exact f_onl_refl
theorem f_sm_fgS {Ls : Int → List f_Ln} {r p k : Int} {y : Int → Int} (hr : 0 ≤ r ∧ r < 8) (hp : 0 ≤ p ∧ p < 24) (hk : 0 ≤ k ∧ k < 6) : f_sm y (f_fgS Ls r p k y) := by
  unfold f_fgS
  split
  · exact f_sm_hab ⟨hr.1, hr.2, hp.1, hp.2, hk.1, hk.2⟩
  · exact f_sm_refl
theorem f_iv_fgS {Ls : Int → List f_Ln} {r p k : Int} {y : Int → Int} (hr : 0 ≤ r ∧ r < 8) (hp : 0 ≤ p ∧ p < 24) (hk : 0 ≤ k ∧ k < 6) (hy : f_iv y) : f_iv (f_fgS Ls r p k y) := by
  unfold f_fgS
  have h1 := f_rg_h hy hr hp hk
  have h2 := f_loss_rg (Ls := Ls) (w := y) (r := r) (p := p) (k := k)
  split
  · exact f_iv_hab ⟨hr.1, hr.2, hp.1, hp.2, hk.1, hk.2⟩ (by omega) (Or.inr h1.2) hy
  · exact hy
set_option maxRecDepth 20000 in
theorem s_X2_forget (E : ax_Env) (l : Launch) (d : Nat) (hd : 2 ≤ d) (M : ax_Mem) (a : Int) (Ls : Int → List f_Ln) (w : Int → Int) (r : Int) (hg0 : f_rp a) (hg1 : f_rm M a w r) (hg2 : f_jv Ls w) (hg3 : 0 ≤ r ∧ r < 8) (hg4 : f_hm M w) (hg5 : f_lrn M 52 Ls) (hg6 : 4 < a ∧ a < 37 ∨ a = 78) : ax_G E l d iX2_forget [.inr 71, .inr 1, .inr a] M (fun z0 M2 => z0 = none ∧ (∀ x0 i0 : Int, ¬ (x0 = a + 2 ∨ x0 = 72 ∨ x0 = 73 ∨ (x0 = a ∧ i0 = 4)) → M2 x0 i0 = M x0 i0) ∧ (f_rm M2 a (f_fg Ls w r) r)) := by
  obtain ⟨d, rfl⟩ : ∃ d0, d = d0 + 1 := ⟨d - 1, by omega⟩
  refine ax_start rfl (Nat.le_of_ble_eq_true rfl) (ls := [some (.inr 71), some (.inr 1), some (.inr a), none, none, none]) rfl (fun hav hcm => ?_)
  clear hav
  have ql : M a 1 = f_R w r 1 := hg1.1
  have qlr := (hg2.1.1 r hg3.1 hg3.2).2
  have qp := hg1.2.2.2.2
  have qw4 : M a 4 = f_R w r 4 := hg1.2.2.2.1
  have qwr := (hg2.2.1 r hg3.1 hg3.2).1
  refine ax_iconst dX2_forget_0 (by decide) (pc' := 1) rfl ?_
  refine ax_istore_n dX2_forget_1 rfl (by decide) (ls' := [some (.inr 71), some (.inr 1), some (.inr a), some (.inl 0), none, none]) rfl (pc' := 2) rfl ?_
  have LP1 : ∀ (kq2 : Nat) (p : Int) (x : Int → Int) (M1 : ax_Mem) (hm1 : f_R w r 1 - p < (kq2 : Nat)) (fr1 : ∀ x0 i0 : Int, ¬ (x0 = a + 2 ∨ x0 = 72 ∨ x0 = 73) → M1 x0 i0 = M x0 i0) (iv1_0 : 0 ≤ p ∧ p ≤ f_R w r 1) (iv1_1 : f_loop (fun p x => f_loop (f_fgS Ls r p) 0 6 x) p (f_R w r 1) x = f_fg1 Ls w r) (iv1_2 : f_rm M1 a x r) (iv1_3 : f_iv x ∧ f_sm w x ∧ f_onl r w x), ax_W E l (d + 1) 0 0 iX2_forget 2 [some (.inr 71), some (.inr 1), some (.inr a), some (.inl p), none, none] [] SH M1 (ax_P (fun z0 M2 => z0 = none ∧ (∀ x0 i0 : Int, ¬ (x0 = a + 2 ∨ x0 = 72 ∨ x0 = 73 ∨ (x0 = a ∧ i0 = 4)) → M2 x0 i0 = M x0 i0) ∧ (f_rm M2 a (f_fg Ls w r) r))) := by
    intro kq2
    induction kq2 with
    | zero =>
      intro p x M1 hm1 fr1 iv1_0 iv1_1 iv1_2 iv1_3
      exfalso
      omega
    | succ kq2 ih3 =>
      intro p x M1 hm1 fr1 iv1_0 iv1_1 iv1_2 iv1_3
      refine ax_iload_n dX2_forget_2 rfl rfl (pc' := 3) rfl ?_
      refine ax_aload_n dX2_forget_3 rfl rfl (pc' := 4) rfl ?_
      refine ax_geti (v := M a 1) dX2_forget_4 flX2_73 rfl hg0.1 ((fr1 a 1 (by omega)).trans rfl) rfl (pc' := 7) rfl ?_
      refine ax_icmp_ge (tgt := 89) dX2_forget_7 (by decide) (pc' := 10) rfl (fun h7 => ?_) (fun h7 => ?_)
      · refine ax_aload_n dX2_forget_89 rfl rfl (pc' := 90) rfl ?_
        refine ax_iconst dX2_forget_90 (by decide) (pc' := 91) rfl ?_
        refine ax_aload_n dX2_forget_91 rfl rfl (pc' := 92) rfl ?_
        refine ax_geti (v := M a 4) dX2_forget_92 flX2_44 rfl hg0.1 ((fr1 a 4 (by omega)).trans rfl) rfl (pc' := 95) rfl ?_
        refine ax_iconst dX2_forget_95 (by decide) (pc' := 96) rfl ?_
        refine ax_isub dX2_forget_96 (by omega) (pc' := 97) rfl ?_
        refine ax_mmax dX2_forget_97 mlX2_100 (Nat.le_of_ble_eq_true rfl) (pc' := 100) rfl ?_
        refine ax_puti dX2_forget_100 flX2_44 (Or.inl rfl) hg0.1 rfl (pc' := 103) rfl ?_
        refine ax_vret dX2_forget_103 rfl ?_
        refine ⟨rfl, rfl, ?_, ?_⟩
        · intro x0 i0 hai
          exact (ax_up_miss (fun h => hai (Or.inr (Or.inr (Or.inr h)))) ((fr1 x0 i0 (fun h => h.elim (fun h => hai (Or.inl h)) (fun h => h.elim (fun h => hai (Or.inr (Or.inl h))) (fun h => hai (Or.inr (Or.inr (Or.inl h))))))).trans rfl))
        · have qz : x = f_fg1 Ls w r := by
            rw [← iv1_1, f_loop_done (by omega)]
          have qw : f_R x r 4 = f_R w r 4 := iv1_3.2.1.2.2.2.2 r 4 ⟨hg3.1, hg3.2, by decide, by decide⟩
          unfold f_fg
          rw [← qz]
          refine f_rr_eq (show (ax_up M1 a 4 (max 0 (M a 4 - 1))) a 1 = M1 a 1 from (ax_up_miss (fun h => absurd h.2 (by decide)) rfl)) (show (ax_up M1 a 4 (max 0 (M a 4 - 1))) a 2 = M1 a 2 from (ax_up_miss (fun h => absurd h.2 (by decide)) rfl)) (show (ax_up M1 a 4 (max 0 (M a 4 - 1))) a 3 = M1 a 3 from (ax_up_miss (fun h => absurd h.2 (by decide)) rfl)) (show (ax_up M1 a 4 (max 0 (M a 4 - 1))) a 4 = max 0 (M a 4 - 1) from (ax_up_hit _ _ _ _)) (show (ax_up M1 a 4 (max 0 (M a 4 - 1))) (a + 1) = M1 (a + 1) from (ax_up_rowmiss (by omega) rfl)) (show (ax_up M1 a 4 (max 0 (M a 4 - 1))) (a + 2) = M1 (a + 2) from (ax_up_rowmiss (by omega) rfl)) (show (ax_up M1 a 4 (max 0 (M a 4 - 1))) (a + 3) = M1 (a + 3) from (ax_up_rowmiss (by omega) rfl)) ?_
          refine f_rr_sR hg3 ⟨by decide, by decide⟩ (by rw [iv1_2.1]; have := iv1_3.2.1.2.2.2.2 r 1 ⟨hg3.1, hg3.2, by decide, by decide⟩; omega) rfl rfl rfl ?_ (fun q => absurd q (by decide)) iv1_2
          show _ = max 0 (f_R x r 4 - 1)
          rw [qw, ← qw4]
      · refine ax_iconst dX2_forget_10 (by decide) (pc' := 11) rfl ?_
        refine ax_istore dX2_forget_11 (by decide) (ls' := [some (.inr 71), some (.inr 1), some (.inr a), some (.inl p), some (.inl 0), none]) rfl (pc' := 13) rfl ?_
        have LP4 : ∀ (kq5 : Nat) (k : Int) (y : Int → Int) (M4 : ax_Mem) (hm4 : 6 - k < (kq5 : Nat)) (fr4 : ∀ x0 i0 : Int, ¬ (x0 = a + 2 ∨ x0 = 72 ∨ x0 = 73) → M4 x0 i0 = M1 x0 i0) (iv4_0 : 0 ≤ k ∧ k ≤ 6) (iv4_1 : f_loop (f_fgS Ls r p) k 6 y = f_loop (f_fgS Ls r p) 0 6 x) (iv4_2 : f_rm M4 a y r) (iv4_3 : f_iv y ∧ f_sm w y ∧ f_onl r w y), ax_W E l (d + 1) 0 0 iX2_forget 13 [some (.inr 71), some (.inr 1), some (.inr a), some (.inl p), some (.inl k), none] [] SH M4 (ax_P (fun z0 M2 => z0 = none ∧ (∀ x0 i0 : Int, ¬ (x0 = a + 2 ∨ x0 = 72 ∨ x0 = 73 ∨ (x0 = a ∧ i0 = 4)) → M2 x0 i0 = M x0 i0) ∧ (f_rm M2 a (f_fg Ls w r) r))) := by
          intro kq5
          induction kq5 with
          | zero =>
            intro k y M4 hm4 fr4 iv4_0 iv4_1 iv4_2 iv4_3
            exfalso
            omega
          | succ kq5 ih6 =>
            intro k y M4 hm4 fr4 iv4_0 iv4_1 iv4_2 iv4_3
            refine ax_iload dX2_forget_13 rfl (pc' := 15) rfl ?_
            refine ax_bipush dX2_forget_15 (by decide) (pc' := 17) rfl ?_
            refine ax_icmp_ge (tgt := 83) dX2_forget_17 (by decide) (pc' := 20) rfl (fun h17 => ?_) (fun h17 => ?_)
            · have qye : f_loop (f_fgS Ls r p) 0 6 x = y := by
                rw [← iv4_1, f_loop_done (by omega)]
              refine ax_iinc dX2_forget_83 rfl (by decide) (by omega) (ls' := [some (.inr 71), some (.inr 1), some (.inr a), some (.inl (p + 1)), some (.inl k), none]) rfl (pc' := 86) rfl ?_
              refine ax_goto dX2_forget_86 (pc' := 2) (by decide) ?_
              refine ax_less (ls2 := [some (.inr 71), some (.inr 1), some (.inr a), some (.inl (p + 1)), none, none]) [true, true, true, true, false, false] rfl ?_
              refine ih3 (p + 1) y M4 ?_ ?_ ?_ ?_ ?_ ?_
              · omega
              · intro x0 i0 hai
                exact ((fr4 x0 i0 (fun h => h.elim (fun h => hai (Or.inl h)) (fun h => h.elim (fun h => hai (Or.inr (Or.inl h))) (fun h => hai (Or.inr (Or.inr h)))))).trans ((fr1 x0 i0 (fun h => h.elim (fun h => hai (Or.inl h)) (fun h => h.elim (fun h => hai (Or.inr (Or.inl h))) (fun h => hai (Or.inr (Or.inr h)))))).trans rfl))
              · omega
              · rw [← iv1_1, f_loop_step (lo := p) (by omega), qye]
              · exact iv4_2
              · exact iv4_3
            · have qlx : f_R y r 1 = f_R w r 1 := iv4_3.2.1.2.2.2.2 r 1 ⟨hg3.1, hg3.2, by decide, by decide⟩
              have qpy := iv4_2.2.2.2.2 p (by omega) (by rw [iv4_2.1]; omega)
              have q1r := f_rg_h iv4_3.1 hg3 (p := p) (k := k) ⟨by omega, by omega⟩ ⟨by omega, by omega⟩
              have q1 := qpy.2 k (by omega) (by omega)
              refine ax_aload_n dX2_forget_20 rfl rfl (pc' := 21) rfl ?_
              refine ax_getr (v := a + 1) dX2_forget_21 flX2_80 rfl hg0.1 rfl (pc' := 24) rfl ?_
              refine ax_iload_n dX2_forget_24 rfl rfl (pc' := 25) rfl ?_
              refine ax_iald (v := (M (a + 1)) p) dX2_forget_25 hg0.2.1 rfl (by omega) (by omega) ((congrFun ((funext fun i0 => fr4 (a + 1) i0 (by omega)).trans ((funext fun i0 => fr1 (a + 1) i0 (by omega)).trans rfl)) p).trans rfl) (pc' := 26) rfl ?_
              refine ax_reS (st2 := [.inl (f_P y r p 0)]) (congrArg (fun z => Sum.inl z :: _) (by exact Eq.trans (Eq.symm (show M4 (a + 1) p = M (a + 1) p from congrFun ((funext fun i0 => fr4 (a + 1) i0 (by omega)).trans ((funext fun i0 => fr1 (a + 1) i0 (by omega)).trans rfl)) p)) qpy.1)) ?_
              refine ax_iconst dX2_forget_26 (by decide) (pc' := 27) rfl ?_
              refine ax_icmp_ne (tgt := 83) dX2_forget_27 (by decide) (pc' := 30) rfl (fun h27 => ?_) (fun h27 => ?_)
              · have qye : f_loop (f_fgS Ls r p) 0 6 x = y := by
                  rw [← iv4_1]
                  exact f_fg_tied h27 (6 - k).toNat k (by omega)
                refine ax_iinc dX2_forget_83 rfl (by decide) (by omega) (ls' := [some (.inr 71), some (.inr 1), some (.inr a), some (.inl (p + 1)), some (.inl k), none]) rfl (pc' := 86) rfl ?_
                refine ax_goto dX2_forget_86 (pc' := 2) (by decide) ?_
                refine ax_less (ls2 := [some (.inr 71), some (.inr 1), some (.inr a), some (.inl (p + 1)), none, none]) [true, true, true, true, false, false] rfl ?_
                refine ih3 (p + 1) y M4 ?_ ?_ ?_ ?_ ?_ ?_
                · omega
                · intro x0 i0 hai
                  exact ((fr4 x0 i0 (fun h => h.elim (fun h => hai (Or.inl h)) (fun h => h.elim (fun h => hai (Or.inr (Or.inl h))) (fun h => hai (Or.inr (Or.inr h)))))).trans ((fr1 x0 i0 (fun h => h.elim (fun h => hai (Or.inl h)) (fun h => h.elim (fun h => hai (Or.inr (Or.inl h))) (fun h => hai (Or.inr (Or.inr h)))))).trans rfl))
                · omega
                · rw [← iv1_1, f_loop_step (lo := p) (by omega), qye]
                · exact iv4_2
                · exact iv4_3
              · refine ax_iload_n dX2_forget_30 rfl rfl (pc' := 31) rfl ?_
                refine ax_bipush dX2_forget_31 (by decide) (pc' := 33) rfl ?_
                refine ax_imul dX2_forget_33 (by omega) (pc' := 34) rfl ?_
                refine ax_iload dX2_forget_34 rfl (pc' := 36) rfl ?_
                refine ax_iadd dX2_forget_36 (by omega) (pc' := 37) rfl ?_
                refine ax_istore dX2_forget_37 (by decide) (ls' := [some (.inr 71), some (.inr 1), some (.inr a), some (.inl p), some (.inl k), some (.inl (p * 6 + k))]) rfl (pc' := 39) rfl ?_
                refine ax_aload_n dX2_forget_39 rfl rfl (pc' := 40) rfl ?_
                refine ax_getr (v := a + 2) dX2_forget_40 flX2_27 rfl hg0.1 rfl (pc' := 43) rfl ?_
                refine ax_iload dX2_forget_43 rfl (pc' := 45) rfl ?_
                refine ax_iald (v := (M4 (a + 2)) (p * 6 + k)) dX2_forget_45 hg0.2.2.1 rfl (by omega) (by omega) ((congrFun rfl (p * 6 + k)).trans rfl) (pc' := 46) rfl ?_
                refine ax_reS (st2 := [.inl (f_P y r p (1 + k))]) (congrArg (fun z => Sum.inl z :: _) (by exact q1.1)) ?_
                refine ax_if_le (tgt := 77) dX2_forget_46 (by decide) (pc' := 49) rfl (fun h46 => ?_) (fun h46 => ?_)
                · have qy : f_fgS Ls r p k y = y := if_neg (by omega)
                  have qrn : f_rm M4 a (f_fgS Ls r p k y) r := by
                    rw [qy]
                    exact iv4_2
                  refine ax_iinc dX2_forget_77 rfl (by decide) (by omega) (ls' := [some (.inr 71), some (.inr 1), some (.inr a), some (.inl p), some (.inl (k + 1)), some (.inl (p * 6 + k))]) rfl (pc' := 80) rfl ?_
                  refine ax_goto dX2_forget_80 (pc' := 13) (by decide) ?_
                  refine ax_less (ls2 := [some (.inr 71), some (.inr 1), some (.inr a), some (.inl p), some (.inl (k + 1)), none]) [true, true, true, true, true, false] rfl ?_
                  refine ih6 (k + 1) (f_fgS Ls r p k y) M4 ?_ ?_ ?_ ?_ ?_ ?_
                  · omega
                  · intro x0 i0 hai
                    exact ((fr4 x0 i0 (fun h => h.elim (fun h => hai (Or.inl h)) (fun h => h.elim (fun h => hai (Or.inr (Or.inl h))) (fun h => hai (Or.inr (Or.inr h)))))).trans rfl)
                  · omega
                  · rw [← iv4_1, f_loop_step (lo := k) (by omega)]
                  · exact qrn
                  · exact ⟨f_iv_fgS hg3 ⟨by omega, by omega⟩ ⟨by omega, by omega⟩ iv4_3.1, f_sm_trans iv4_3.2.1 (f_sm_fgS hg3 ⟨by omega, by omega⟩ ⟨by omega, by omega⟩), f_onl_tr iv4_3.2.2 (f_onl_fgS ⟨by omega, by omega⟩ ⟨by omega, by omega⟩)⟩
                · refine ax_aload_n dX2_forget_49 rfl rfl (pc' := 50) rfl ?_
                  refine ax_getr (v := a + 2) dX2_forget_50 flX2_27 rfl hg0.1 rfl (pc' := 53) rfl ?_
                  refine ax_iload dX2_forget_53 rfl (pc' := 55) rfl ?_
                  refine ax_iconst dX2_forget_55 (by decide) (pc' := 56) rfl ?_
                  refine ax_aload_n dX2_forget_56 rfl rfl (pc' := 57) rfl ?_
                  refine ax_getr (v := a + 2) dX2_forget_57 flX2_27 rfl hg0.1 rfl (pc' := 60) rfl ?_
                  refine ax_iload dX2_forget_60 rfl (pc' := 62) rfl ?_
                  refine ax_iald (v := (M4 (a + 2)) (p * 6 + k)) dX2_forget_62 hg0.2.2.1 rfl (by omega) (by omega) ((congrFun rfl (p * 6 + k)).trans rfl) (pc' := 63) rfl ?_
                  refine ax_reS (st2 := [.inl (f_P y r p (1 + k)), .inl 0, .inl (p * 6 + k), .inr (a + 2)]) (congrArg (fun z => Sum.inl z :: _) (by exact q1.1)) ?_
                  refine ax_aload_n dX2_forget_63 rfl rfl (pc' := 64) rfl ?_
                  refine ax_aload_n dX2_forget_64 rfl rfl (pc' := 65) rfl ?_
                  refine ax_aload_n dX2_forget_65 rfl rfl (pc' := 66) rfl ?_
                  refine ax_iload_n dX2_forget_66 rfl rfl (pc' := 67) rfl ?_
                  refine ax_iload dX2_forget_67 rfl (pc' := 69) rfl ?_
                  refine ax_invG [.inr 1, .inr a, .inl p, .inl k] [.inl (f_P y r p (1 + k)), .inl 0, .inl (p * 6 + k), .inr (a + 2)] dX2_forget_69 mlX2_96 sh_71 rfl rfl rfl (Nat.le_of_ble_eq_true rfl) (s_X2_lossOf E l _ (by omega) _ a p k Ls y r hg0 iv4_2 (f_jv_sm iv4_3.1 iv4_3.2.1 hg2) hg3 (f_hm_sm iv4_3.2.1 (f_hm_fr (M := M) (fun x0 i0 hx => ((fr4 x0 i0 (by omega)).trans ((fr1 x0 i0 (by omega)).trans rfl))) hg4)) (f_lrn_fr (M := M) (fun x0 i0 hx => ((fr4 x0 i0 (by omega)).trans ((fr1 x0 i0 (by omega)).trans rfl))) hg5) hg6 ⟨by omega, by omega⟩ ⟨by omega, by omega⟩ (by omega)) (pc' := 72) rfl (fun vv M_69 hq co69 hcm69 => ?_)
                  obtain ⟨rfl, frM_69⟩ := hq
                  refine ax_reS (st2 := [.inl (f_loss Ls y r p k), .inl (f_P y r p (1 + k)), .inl 0, .inl (p * 6 + k), .inr (a + 2)]) rfl ?_
                  have cc69 : -2147483648 ≤ f_loss Ls y r p k ∧ f_loss Ls y r p k < 2147483648 := co69 _ rfl
                  have qlr2 := f_loss_rg (Ls := Ls) (w := y) (r := r) (p := p) (k := k)
                  refine ax_isub dX2_forget_72 (by omega) (pc' := 73) rfl ?_
                  refine ax_mmax dX2_forget_73 mlX2_100 (Nat.le_of_ble_eq_true rfl) (pc' := 76) rfl ?_
                  refine ax_iast dX2_forget_76 hg0.2.2.1 rfl (by omega) (by omega) (pc' := 77) rfl ?_
                  have qy : f_fgS Ls r p k y = f_hab y r p k (max 0 (f_P y r p (1 + k) - f_loss Ls y r p k)) (f_P y r p (7 + k)) := if_pos ⟨by omega, by omega⟩
                  have qr6 : f_rm M_69 a y r := f_rm_fr (fun x0 i0 hx => frM_69 x0 i0 (by omega)) iv4_2
                  have qrn : f_rm (ax_up M_69 (a + 2) (p * 6 + k) (max 0 (f_P y r p (1 + k) - (f_loss Ls y r p k)))) a (f_fgS Ls r p k y) r := by
                    rw [qy]
                    refine f_rr_eq (show (ax_up M_69 (a + 2) (p * 6 + k) (max 0 (f_P y r p (1 + k) - (f_loss Ls y r p k)))) a 1 = M_69 a 1 from (ax_up_miss (by omega) rfl)) (show (ax_up M_69 (a + 2) (p * 6 + k) (max 0 (f_P y r p (1 + k) - (f_loss Ls y r p k)))) a 2 = M_69 a 2 from (ax_up_miss (by omega) rfl)) (show (ax_up M_69 (a + 2) (p * 6 + k) (max 0 (f_P y r p (1 + k) - (f_loss Ls y r p k)))) a 3 = M_69 a 3 from (ax_up_miss (by omega) rfl)) (show (ax_up M_69 (a + 2) (p * 6 + k) (max 0 (f_P y r p (1 + k) - (f_loss Ls y r p k)))) a 4 = M_69 a 4 from (ax_up_miss (by omega) rfl)) (show (ax_up M_69 (a + 2) (p * 6 + k) (max 0 (f_P y r p (1 + k) - (f_loss Ls y r p k)))) (a + 1) = M_69 (a + 1) from (ax_up_rowmiss (by omega) rfl)) (show (ax_up M_69 (a + 2) (p * 6 + k) (max 0 (f_P y r p (1 + k) - (f_loss Ls y r p k)))) (a + 2) = f_up (M_69 (a + 2)) (p * 6 + k) (max 0 (f_P y r p (1 + k) - (f_loss Ls y r p k))) from (ax_up_rowhit rfl)) (show (ax_up M_69 (a + 2) (p * 6 + k) (max 0 (f_P y r p (1 + k) - (f_loss Ls y r p k)))) (a + 3) = M_69 (a + 3) from (ax_up_rowmiss (by omega) rfl)) ?_
                    exact f_rr_hab hg3 ⟨by omega, by omega⟩ ⟨by omega, by omega⟩ (by rw [qr6.1]; omega) (fun x hx => f_up_o hx) (f_up_same _ _ _) (fun x hx => rfl) (fun hv => (((qr6.2.2.2.2 p (by omega) (by rw [qr6.1]; omega)).2 k (by omega) (by omega)).2 (by omega))) qr6
                  refine ax_iinc dX2_forget_77 rfl (by decide) (by omega) (ls' := [some (.inr 71), some (.inr 1), some (.inr a), some (.inl p), some (.inl (k + 1)), some (.inl (p * 6 + k))]) rfl (pc' := 80) rfl ?_
                  refine ax_goto dX2_forget_80 (pc' := 13) (by decide) ?_
                  refine ax_less (ls2 := [some (.inr 71), some (.inr 1), some (.inr a), some (.inl p), some (.inl (k + 1)), none]) [true, true, true, true, true, false] rfl ?_
                  refine ih6 (k + 1) (f_fgS Ls r p k y) (ax_up M_69 (a + 2) (p * 6 + k) (max 0 (f_P y r p (1 + k) - (f_loss Ls y r p k)))) ?_ ?_ ?_ ?_ ?_ ?_
                  · omega
                  · intro x0 i0 hai
                    exact (ax_up_miss (fun h => hai (Or.inl h.1)) ((frM_69 x0 i0 (fun h => h.elim (fun h => hai (Or.inr (Or.inl h))) (fun h => hai (Or.inr (Or.inr h))))).trans ((fr4 x0 i0 (fun h => h.elim (fun h => hai (Or.inl h)) (fun h => h.elim (fun h => hai (Or.inr (Or.inl h))) (fun h => hai (Or.inr (Or.inr h)))))).trans rfl)))
                  · omega
                  · rw [← iv4_1, f_loop_step (lo := k) (by omega)]
                  · exact qrn
                  · exact ⟨f_iv_fgS hg3 ⟨by omega, by omega⟩ ⟨by omega, by omega⟩ iv4_3.1, f_sm_trans iv4_3.2.1 (f_sm_fgS hg3 ⟨by omega, by omega⟩ ⟨by omega, by omega⟩), f_onl_tr iv4_3.2.2 (f_onl_fgS ⟨by omega, by omega⟩ ⟨by omega, by omega⟩)⟩
        refine LP4 (6 - 0 : Int).toNat.succ 0 x M1 ?_ ?_ ?_ ?_ ?_ ?_
        · omega
        · exact fun a i _ => rfl
        · omega
        · rfl
        · exact iv1_2
        · exact iv1_3
  refine LP1 (f_R w r 1 - 0 : Int).toNat.succ 0 w M ?_ ?_ ?_ ?_ ?_ ?_
  · omega
  · exact fun a i _ => rfl
  · omega
  · rfl
  · exact hg1
  · exact ⟨hg2.1, f_sm_refl, f_onl_refl⟩
