/-! in thought -/
theorem f_weak_str {Ls : Int → List f_Ln} {w : Int → Int} {r : Int} (h : f_isR w r) : F_weak Ls w r 0 = f_str Ls w r (f_wk Ls w r) := by
  unfold F_weak
  rw [if_neg (fun z => z ⟨h, by decide, by decide⟩), if_pos rfl]
theorem f_str_rg {Ls : Int → List f_Ln} {w : Int → Int} {r p : Int} : 0 ≤ f_str Ls w r p ∧ f_str Ls w r p < 1000 := by
  unfold f_str
  omega
theorem f_sm_1 {w : Int → Int} : f_sm w (f_up w 1 200) := ⟨f_ag_1, f_up_o (by decide), f_up_o (by decide), f_up_o (by decide), fun r f h => f_R_1 h⟩
theorem f_jv_1 {Ls : Int → List f_Ln} {w : Int → Int} (h : f_jv Ls w) : f_jv Ls (f_up w 1 200) := f_jv_sm (f_iv_1 h.1) f_sm_1 h
theorem f_nts_full {w0 x : Int → Int} {r : Int} (h : x 1 = 200) : ∀ (T : List Int), f_nts w0 r T x = x
  | [] => rfl
  | p :: tl => by
    show f_nts w0 r tl (f_note x r p (f_cl w0 r p) 1 (-1)) = x
    rw [show f_note x r p (f_cl w0 r p) 1 (-1) = x from if_pos h]
    exact f_nts_full h tl
theorem f_rp_78 : f_rp 78 := ⟨sh_78, sh_79, sh_80, sh_81⟩
theorem f_thk_eq {Ls : Int → List f_Ln} {w : Int → Int} {r f : Int} (hr : 0 ≤ r ∧ r < 8) (hw : f_iv w) (ho : f_onl r (f_up w 1 200) (f_tAl Ls (f_up w 1 200) r f).1) : f_stch Ls (f_up w 1 200) r f = ((f_tAl Ls (f_up w 1 200) r f).1, ((f_tAl Ls (f_up w 1 200) r f).2.length : Int), f_hd1 Ls (f_up w 1 200) r f, f_hd2 Ls (f_up w 1 200) r f) := by
  rw [f_stch_tAl hr (f_iv_1 hw), f_nts_full]
  rw [ho 1 (by omega)]
  exact f_up_same _ _ _
set_option maxRecDepth 20000 in
theorem s_X11_ladder (E : ax_Env) (l : Launch) (d : Nat) (hd : 3 ≤ d) (M : ax_Mem) (n : Int) (Ls : Int → List f_Ln) (w : Int → Int) (hg0 : f_nb M w) (hg1 : f_jv Ls w) (hg2 : f_lrn M 52 Ls) : ax_G E l d iX11_ladder [.inr 0, .inl n] M (fun z0 M2 => z0 = some (.inl (F_ladder Ls w n)) ∧ (∀ x0 i0 : Int, ¬ (x0 = 72 ∨ x0 = 73) → M2 x0 i0 = M x0 i0)) := by
  obtain ⟨d, rfl⟩ : ∃ d0, d = d0 + 1 := ⟨d - 1, by omega⟩
  refine ax_start rfl (Nat.le_of_ble_eq_true rfl) (ls := [some (.inr 0), some (.inl n), none, none, none, none, none]) rfl (fun hav hcm => ?_)
  have hc1 : -2147483648 ≤ n ∧ n < 2147483648 := hav (.inl n) (by simp)
  clear hav
  have qlo := hg1.1.2.2.1
  have qlb := hg1.1.2.2.2.1
  refine ax_iconst dX11_ladder_0 (by decide) (pc' := 1) rfl ?_
  refine ax_istore_n dX11_ladder_1 rfl (by decide) (ls' := [some (.inr 0), some (.inl n), some (.inl (-1)), none, none, none, none]) rfl (pc' := 2) rfl ?_
  refine ax_iconst dX11_ladder_2 (by decide) (pc' := 3) rfl ?_
  refine ax_istore_n dX11_ladder_3 rfl (by decide) (ls' := [some (.inr 0), some (.inl n), some (.inl (-1)), some (.inl (-1)), none, none, none]) rfl (pc' := 4) rfl ?_
  refine ax_iconst dX11_ladder_4 (by decide) (pc' := 5) rfl ?_
  refine ax_istore dX11_ladder_5 (by decide) (ls' := [some (.inr 0), some (.inl n), some (.inl (-1)), some (.inl (-1)), some (.inl 0), none, none]) rfl (pc' := 7) rfl ?_
  have LP1 : ∀ (kq2 : Nat) (i bt bs : Int) (M1 : ax_Mem) (hm1 : 8 - i < (kq2 : Nat)) (fr1 : ∀ x0 i0 : Int, ¬ (x0 = 72 ∨ x0 = 73) → M1 x0 i0 = M x0 i0) (iv1_0 : 0 ≤ i ∧ i ≤ 8) (iv1_1 : f_loop (f_ldS Ls w n) i 8 bt = F_ladder Ls w n) (iv1_2 : bt = -1 ∧ bs = -1 ∨ (f_isR w bt ∧ bs = F_weak Ls w bt 0)), ax_W E l (d + 1) 0 0 iX11_ladder 7 [some (.inr 0), some (.inl n), some (.inl bt), some (.inl bs), some (.inl i), none, none] [] SH M1 (ax_P (fun z0 M2 => z0 = some (.inl (F_ladder Ls w n)) ∧ (∀ x0 i0 : Int, ¬ (x0 = 72 ∨ x0 = 73) → M2 x0 i0 = M x0 i0))) := by
    intro kq2
    induction kq2 with
    | zero =>
      intro i bt bs M1 hm1 fr1 iv1_0 iv1_1 iv1_2
      exfalso
      omega
    | succ kq2 ih3 =>
      intro i bt bs M1 hm1 fr1 iv1_0 iv1_1 iv1_2
      refine ax_iload dX11_ladder_7 rfl (pc' := 9) rfl ?_
      refine ax_bipush dX11_ladder_9 (by decide) (pc' := 11) rfl ?_
      refine ax_icmp_ge (tgt := 92) dX11_ladder_11 (by decide) (pc' := 14) rfl (fun h11 => ?_) (fun h11 => ?_)
      · refine ax_iload_n dX11_ladder_92 rfl rfl (pc' := 93) rfl ?_
        refine ax_iret dX11_ladder_93 rfl ?_
        refine ⟨rfl, ?_, ?_⟩
        · refine congrArg (fun z => some (Sum.inl z)) ?_
          exact (f_loop_done (by omega)).symm.trans iv1_1
        · intro x0 i0 hai
          exact ((fr1 x0 i0 (fun h => h.elim (fun h => hai (Or.inl h)) (fun h => hai (Or.inr h)))).trans rfl)
      · have qt := f_wm_th hg0.1 (i := i) ⟨by omega, by omega⟩
        have qk := (hg1.1.1 i (by omega) (by omega)).1
        refine ax_aload_n dX11_ladder_14 rfl rfl (pc' := 15) rfl ?_
        refine ax_getr (v := 1) dX11_ladder_15 flX11_10 rfl sh_0 rfl (pc' := 18) rfl ?_
        refine ax_getr (v := 4) dX11_ladder_18 flX11_118 rfl sh_1 rfl (pc' := 21) rfl ?_
        refine ax_iload dX11_ladder_21 rfl (pc' := 23) rfl ?_
        refine ax_aald (v := 5 + 4 * i) dX11_ladder_23 sh_4 (by decide) (by omega) (by omega) (f_av_now _ ⟨by omega, by omega⟩) (pc' := 24) rfl ?_
        refine ax_astore dX11_ladder_24 (by decide) (ls' := [some (.inr 0), some (.inl n), some (.inl bt), some (.inl bs), some (.inl i), some (.inr (5 + 4 * i)), none]) rfl (pc' := 26) rfl ?_
        refine ax_aload dX11_ladder_26 rfl (pc' := 28) rfl ?_
        refine ax_geti (v := M (5 + 4 * i) 0) dX11_ladder_28 flX11_185 rfl (f_rp_now ⟨by omega, by omega⟩).1 ((fr1 (5 + 4 * i) 0 (by omega)).trans rfl) rfl (pc' := 31) rfl ?_
        refine ax_if_eq (tgt := 86) dX11_ladder_31 (by decide) (pc' := 34) rfl (fun h31 => ?_) (fun h31 => ?_)
        · have qls : f_ldS Ls w n i bt = bt := if_neg (fun z => by have := z.1.2.2; omega)
          have qb2 := iv1_2
          refine ax_iinc dX11_ladder_86 rfl (by decide) (by omega) (ls' := [some (.inr 0), some (.inl n), some (.inl bt), some (.inl bs), some (.inl (i + 1)), some (.inr (5 + 4 * i)), none]) rfl (pc' := 89) rfl ?_
          refine ax_goto dX11_ladder_89 (pc' := 7) (by decide) ?_
          refine ax_less (ls2 := [some (.inr 0), some (.inl n), some (.inl bt), some (.inl bs), some (.inl (i + 1)), none, none]) [true, true, true, true, true, false, false] rfl ?_
          refine ih3 (i + 1) bt bs M1 ?_ ?_ ?_ ?_ ?_
          · omega
          · intro x0 i0 hai
            exact ((fr1 x0 i0 (fun h => h.elim (fun h => hai (Or.inl h)) (fun h => hai (Or.inr h)))).trans rfl)
          · omega
          · rw [← iv1_1, f_loop_step (lo := i) (by omega), qls]
          · exact qb2
        · have hir : f_isR w i := ⟨by omega, by omega, by omega⟩
          have qrm := f_wm_rm hg0.1 hir
          have ql : M (5 + 4 * i) 1 = f_R w i 1 := qrm.1
          have qlen := (hg1.2.1 i (by omega) (by omega)).2 hir.2.2
          have qws := f_weak_str (Ls := Ls) hir
          refine ax_aload dX11_ladder_34 rfl (pc' := 36) rfl ?_
          refine ax_geti (v := M (5 + 4 * i) 1) dX11_ladder_36 flX11_170 rfl (f_rp_now ⟨by omega, by omega⟩).1 ((fr1 (5 + 4 * i) 1 (by omega)).trans rfl) rfl (pc' := 39) rfl ?_
          refine ax_iload_n dX11_ladder_39 rfl rfl (pc' := 40) rfl ?_
          refine ax_icmp_lt (tgt := 86) dX11_ladder_40 (by decide) (pc' := 43) rfl (fun h40 => ?_) (fun h40 => ?_)
          · have qls : f_ldS Ls w n i bt = bt := if_neg (fun z => by have := z.2.1; omega)
            have qb2 := iv1_2
            refine ax_iinc dX11_ladder_86 rfl (by decide) (by omega) (ls' := [some (.inr 0), some (.inl n), some (.inl bt), some (.inl bs), some (.inl (i + 1)), some (.inr (5 + 4 * i)), none]) rfl (pc' := 89) rfl ?_
            refine ax_goto dX11_ladder_89 (pc' := 7) (by decide) ?_
            refine ax_less (ls2 := [some (.inr 0), some (.inl n), some (.inl bt), some (.inl bs), some (.inl (i + 1)), none, none]) [true, true, true, true, true, false, false] rfl ?_
            refine ih3 (i + 1) bt bs M1 ?_ ?_ ?_ ?_ ?_
            · omega
            · intro x0 i0 hai
              exact ((fr1 x0 i0 (fun h => h.elim (fun h => hai (Or.inl h)) (fun h => hai (Or.inr h)))).trans rfl)
            · omega
            · rw [← iv1_1, f_loop_step (lo := i) (by omega), qls]
            · exact qb2
          · refine ax_aload_n dX11_ladder_43 rfl rfl (pc' := 44) rfl ?_
            refine ax_getr (v := 71) dX11_ladder_44 flX11_56 rfl sh_0 rfl (pc' := 47) rfl ?_
            refine ax_aload_n dX11_ladder_47 rfl rfl (pc' := 48) rfl ?_
            refine ax_getr (v := 1) dX11_ladder_48 flX11_10 rfl sh_0 rfl (pc' := 51) rfl ?_
            refine ax_aload dX11_ladder_51 rfl (pc' := 53) rfl ?_
            refine ax_aload_n dX11_ladder_53 rfl rfl (pc' := 54) rfl ?_
            refine ax_getr (v := 71) dX11_ladder_54 flX11_56 rfl sh_0 rfl (pc' := 57) rfl ?_
            refine ax_aload_n dX11_ladder_57 rfl rfl (pc' := 58) rfl ?_
            refine ax_getr (v := 1) dX11_ladder_58 flX11_10 rfl sh_0 rfl (pc' := 61) rfl ?_
            refine ax_aload dX11_ladder_61 rfl (pc' := 63) rfl ?_
            refine ax_sipush dX11_ladder_63 (by decide) (pc' := 66) rfl ?_
            refine ax_invG [.inr 1, .inr (5 + 4 * i), .inl 1000] [.inr (5 + 4 * i), .inr 1, .inr 71] dX11_ladder_66 mlX11_303 sh_71 rfl rfl rfl (Nat.le_of_ble_eq_true rfl) (s_X2_weakestBelow E l _ (by omega) _ (5 + 4 * i) 1000 Ls w i (f_rp_now ⟨by omega, by omega⟩) (f_rm_fr (M := M) (fun x0 i0 hx => ((fr1 x0 i0 (by omega)).trans rfl)) qrm) hg1 ⟨by omega, by omega⟩ (f_hm_fr (M := M) (fun x0 i0 hx => ((fr1 x0 i0 (by omega)).trans rfl)) (f_wm_hm hg0.1)) (f_lrn_fr (M := M) (fun x0 i0 hx => ((fr1 x0 i0 (by omega)).trans rfl)) hg2) (Or.inl ⟨by omega, by omega⟩) (by omega)) (pc' := 69) rfl (fun vv M_66 hq co66 hcm66 => ?_)
            obtain ⟨rfl, frM_66⟩ := hq
            refine ax_reS (st2 := [.inl (if f_str Ls w i (f_wk Ls w i) < 1000 then f_wk Ls w i else -1), .inr (5 + 4 * i), .inr 1, .inr 71]) rfl ?_
            have cc66 : -2147483648 ≤ (if f_str Ls w i (f_wk Ls w i) < 1000 then f_wk Ls w i else -1) ∧ (if f_str Ls w i (f_wk Ls w i) < 1000 then f_wk Ls w i else -1) < 2147483648 := co66 _ rfl
            have qwk := f_wk_rg (Ls := Ls) (w := w) (r := i)
            have qif : (if f_str Ls w i (f_wk Ls w i) < 1000 then f_wk Ls w i else -1) = f_wk Ls w i := if_pos f_str_rg.2
            refine ax_reS (st2 := [.inl (f_wk Ls w i), .inr (5 + 4 * i), .inr 1, .inr 71]) (congrArg (fun z => Sum.inl z :: _) (by exact qif)) ?_
            refine ax_invG [.inr 1, .inr (5 + 4 * i), .inl (f_wk Ls w i)] [] dX11_ladder_69 mlX11_274 sh_71 rfl rfl rfl (Nat.le_of_ble_eq_true rfl) (s_X2_strengthOf E l _ (by omega) _ (5 + 4 * i) (f_wk Ls w i) Ls w i (f_rp_now ⟨by omega, by omega⟩) (f_rm_fr (M := M) (fun x0 i0 hx => ((frM_66 x0 i0 (by omega)).trans ((fr1 x0 i0 (by omega)).trans rfl))) qrm) hg1 ⟨by omega, by omega⟩ (f_hm_fr (M := M) (fun x0 i0 hx => ((frM_66 x0 i0 (by omega)).trans ((fr1 x0 i0 (by omega)).trans rfl))) (f_wm_hm hg0.1)) (f_lrn_fr (M := M) (fun x0 i0 hx => ((frM_66 x0 i0 (by omega)).trans ((fr1 x0 i0 (by omega)).trans rfl))) hg2) (Or.inl ⟨by omega, by omega⟩) ⟨by omega, by omega⟩) (pc' := 72) rfl (fun vv M_69 hq co69 hcm69 => ?_)
            obtain ⟨rfl, frM_69⟩ := hq
            refine ax_reS (st2 := [.inl (f_str Ls w i (f_wk Ls w i))]) rfl ?_
            have cc69 : -2147483648 ≤ f_str Ls w i (f_wk Ls w i) ∧ f_str Ls w i (f_wk Ls w i) < 2147483648 := co69 _ rfl
            have qsr := f_str_rg (Ls := Ls) (w := w) (r := i) (p := f_wk Ls w i)
            refine ax_istore dX11_ladder_72 (by decide) (ls' := [some (.inr 0), some (.inl n), some (.inl bt), some (.inl bs), some (.inl i), some (.inr (5 + 4 * i)), some (.inl (f_str Ls w i (f_wk Ls w i)))]) rfl (pc' := 74) rfl ?_
            refine ax_iload dX11_ladder_74 rfl (pc' := 76) rfl ?_
            refine ax_iload_n dX11_ladder_76 rfl rfl (pc' := 77) rfl ?_
            refine ax_icmp_le (tgt := 86) dX11_ladder_77 (by decide) (pc' := 80) rfl (fun h77 => ?_) (fun h77 => ?_)
            · have qls : f_ldS Ls w n i bt = bt := if_neg (fun z => by
                have z3 := z.2.2
                rcases iv1_2 with q | q
                · omega
                · rcases z3 with z4 | z4
                  · have := q.1.1
                    omega
                  · omega)
              have qb2 := iv1_2
              refine ax_iinc dX11_ladder_86 rfl (by decide) (by omega) (ls' := [some (.inr 0), some (.inl n), some (.inl bt), some (.inl bs), some (.inl (i + 1)), some (.inr (5 + 4 * i)), some (.inl (f_str Ls w i (f_wk Ls w i)))]) rfl (pc' := 89) rfl ?_
              refine ax_goto dX11_ladder_89 (pc' := 7) (by decide) ?_
              refine ax_less (ls2 := [some (.inr 0), some (.inl n), some (.inl bt), some (.inl bs), some (.inl (i + 1)), none, none]) [true, true, true, true, true, false, false] rfl ?_
              refine ih3 (i + 1) bt bs M_69 ?_ ?_ ?_ ?_ ?_
              · omega
              · intro x0 i0 hai
                exact ((frM_69 x0 i0 (fun h => h.elim (fun h => hai (Or.inl h)) (fun h => hai (Or.inr h)))).trans ((frM_66 x0 i0 (fun h => h.elim (fun h => hai (Or.inl h)) (fun h => hai (Or.inr h)))).trans ((fr1 x0 i0 (fun h => h.elim (fun h => hai (Or.inl h)) (fun h => hai (Or.inr h)))).trans rfl)))
              · omega
              · rw [← iv1_1, f_loop_step (lo := i) (by omega), qls]
              · exact qb2
            · have qls : f_ldS Ls w n i bt = i := if_pos ⟨hir, by omega, by
                rcases iv1_2 with q | q
                · exact Or.inl q.1
                · exact Or.inr (by omega)⟩
              have qb2 : i = -1 ∧ f_str Ls w i (f_wk Ls w i) = -1 ∨ (f_isR w i ∧ f_str Ls w i (f_wk Ls w i) = F_weak Ls w i 0) := Or.inr ⟨hir, qws.symm⟩
              refine ax_iload dX11_ladder_80 rfl (pc' := 82) rfl ?_
              refine ax_istore_n dX11_ladder_82 rfl (by decide) (ls' := [some (.inr 0), some (.inl n), some (.inl i), some (.inl bs), some (.inl i), some (.inr (5 + 4 * i)), some (.inl (f_str Ls w i (f_wk Ls w i)))]) rfl (pc' := 83) rfl ?_
              refine ax_iload dX11_ladder_83 rfl (pc' := 85) rfl ?_
              refine ax_istore_n dX11_ladder_85 rfl (by decide) (ls' := [some (.inr 0), some (.inl n), some (.inl i), some (.inl (f_str Ls w i (f_wk Ls w i))), some (.inl i), some (.inr (5 + 4 * i)), some (.inl (f_str Ls w i (f_wk Ls w i)))]) rfl (pc' := 86) rfl ?_
              refine ax_iinc dX11_ladder_86 rfl (by decide) (by omega) (ls' := [some (.inr 0), some (.inl n), some (.inl i), some (.inl (f_str Ls w i (f_wk Ls w i))), some (.inl (i + 1)), some (.inr (5 + 4 * i)), some (.inl (f_str Ls w i (f_wk Ls w i)))]) rfl (pc' := 89) rfl ?_
              refine ax_goto dX11_ladder_89 (pc' := 7) (by decide) ?_
              refine ax_less (ls2 := [some (.inr 0), some (.inl n), some (.inl i), some (.inl (f_str Ls w i (f_wk Ls w i))), some (.inl (i + 1)), none, none]) [true, true, true, true, true, false, false] rfl ?_
              refine ih3 (i + 1) i (f_str Ls w i (f_wk Ls w i)) M_69 ?_ ?_ ?_ ?_ ?_
              · omega
              · intro x0 i0 hai
                exact ((frM_69 x0 i0 (fun h => h.elim (fun h => hai (Or.inl h)) (fun h => hai (Or.inr h)))).trans ((frM_66 x0 i0 (fun h => h.elim (fun h => hai (Or.inl h)) (fun h => hai (Or.inr h)))).trans ((fr1 x0 i0 (fun h => h.elim (fun h => hai (Or.inl h)) (fun h => hai (Or.inr h)))).trans rfl)))
              · omega
              · rw [← iv1_1, f_loop_step (lo := i) (by omega), qls]
              · exact qb2
  refine LP1 (8 - 0 : Int).toNat.succ 0 (-1) (-1) M ?_ ?_ ?_ ?_ ?_
  · omega
  · exact fun a i _ => rfl
  · omega
  · rfl
  · exact Or.inl ⟨rfl, rfl⟩
set_option maxRecDepth 20000 in
theorem s_X11_would (E : ax_Env) (l : Launch) (d : Nat) (hd : 4 ≤ d) (M : ax_Mem) (r f what : Int) (Ls : Int → List f_Ln) (w : Int → Int) (hg0 : f_nb M w) (hg1 : f_jv Ls w) (hg2 : f_lrn M 52 Ls) : ax_G E l d iX11_would [.inr 0, .inl r, .inl f, .inl what] M (fun z0 M2 => z0 = some (.inl (F_would Ls w r f what)) ∧ (∀ x0 i0 : Int, ¬ ((78 ≤ x0 ∧ x0 < 82) ∨ x0 = 72 ∨ x0 = 73 ∨ x0 = 76 ∨ x0 = 77 ∨ (x0 = 75 ∧ i0 = 3) ∨ (x0 = 75 ∧ i0 = 4)) → M2 x0 i0 = M x0 i0)) := by
  obtain ⟨d, rfl⟩ : ∃ d0, d = d0 + 1 := ⟨d - 1, by omega⟩
  refine ax_start rfl (Nat.le_of_ble_eq_true rfl) (ls := [some (.inr 0), some (.inl r), some (.inl f), some (.inl what), none, none]) rfl (fun hav hcm => ?_)
  have hc1 : -2147483648 ≤ r ∧ r < 2147483648 := hav (.inl r) (by simp)
  have hc2 : -2147483648 ≤ f ∧ f < 2147483648 := hav (.inl f) (by simp)
  have hc3 : -2147483648 ≤ what ∧ what < 2147483648 := hav (.inl what) (by simp)
  clear hav
  have qlo := hg1.1.2.2.1
  have qlb := hg1.1.2.2.2.1
  refine ax_aload_n dX11_would_0 rfl rfl (pc' := 1) rfl ?_
  refine ax_getr (v := 1) dX11_would_1 flX11_10 rfl sh_0 rfl (pc' := 4) rfl ?_
  refine ax_iload_n dX11_would_4 rfl rfl (pc' := 5) rfl ?_
  by_cases hir : f_isR w r
  · refine ax_invG [.inl r] [] dX11_would_5 mlX11_139 sh_1 rfl rfl rfl (Nat.le_of_ble_eq_true rfl) (s_X9_ropeAt_ok E l _ (by omega) _ r w hg0.1 hg1.1.1 hir) (pc' := 8) rfl (fun vv M_5 hq co5 hcm5 => ?_)
    obtain ⟨rfl, rfl⟩ := hq
    refine ax_reS (st2 := [.inr (5 + 4 * r)]) rfl ?_
    have hgr : 0 ≤ r ∧ r < 8 := ⟨hir.1, by omega⟩
    have qrm := f_wm_rm hg0.1 hir
    have ql : M (5 + 4 * r) 1 = f_R w r 1 := qrm.1
    have qlr := (hg1.1.1 r hgr.1 hgr.2).2
    have qlen := (hg1.2.1 r hgr.1 hgr.2).2 hir.2.2
    have qr1 : f_rm M (5 + 4 * r) (f_up w 1 200) r := f_rm_w (w := w) (fun j j1 j2 => f_up_o (by omega)) (by omega) qrm
    have qth := f_wm_th hg0.1 (i := r) hgr
    have qthk := (hg1.1.1 r hgr.1 hgr.2).1
    have qR1 : f_R (f_up w 1 200) r 1 = f_R w r 1 := f_R_1 ⟨hgr.1, hgr.2, by decide, by decide⟩
    refine ax_astore dX11_would_8 (by decide) (ls' := [some (.inr 0), some (.inl r), some (.inl f), some (.inl what), some (.inr (5 + 4 * r)), none]) rfl (pc' := 10) rfl ?_
    refine ax_aload dX11_would_10 rfl (pc' := 12) rfl ?_
    refine ax_ifnull (tgt := 33) dX11_would_12 (by omega) (by decide) (pc' := 15) rfl (fun h12 => ?_) (fun h12 => ?_)
    · exfalso
      omega
    · refine ax_iload_n dX11_would_15 rfl rfl (pc' := 16) rfl ?_
      refine ax_bipush dX11_would_16 (by decide) (pc' := 18) rfl ?_
      refine ax_insG [.inl f, .inl 100] [] dX11_would_18 mlX11_114 rfl rfl (Nat.le_of_ble_eq_true rfl) (s_X11_isIn E l _ (by omega) _ f 100) (pc' := 21) rfl (fun vv M_18 hq co18 hcm18 => ?_)
      obtain ⟨rfl, rfl⟩ := hq
      refine ax_reS (st2 := [.inl (f_b (0 ≤ f ∧ f < 100))]) rfl ?_
      refine ax_if_eq (tgt := 33) dX11_would_21 (by decide) (pc' := 24) rfl (fun h21 => ?_) (fun h21 => ?_)
      · replace h21 := f_b_0 h21
        refine ax_bipush dX11_would_33 (by decide) (pc' := 35) rfl ?_
        refine ax_iret dX11_would_35 rfl ?_
        refine ⟨rfl, ?_, ?_⟩
        · refine congrArg (fun z => some (Sum.inl z)) ?_
          unfold F_would
          rw [if_pos (fun hh => by first | exact hir hh.1 | omega | exact h21 ⟨hh.2.1.1, by omega⟩)]
        · intro x0 i0 hai
          exact rfl
      · replace h21 := f_b_1 h21
        refine ax_iload_n dX11_would_24 rfl rfl (pc' := 25) rfl ?_
        refine ax_if_lt (tgt := 33) dX11_would_25 (by decide) (pc' := 28) rfl (fun h25 => ?_) (fun h25 => ?_)
        · refine ax_bipush dX11_would_33 (by decide) (pc' := 35) rfl ?_
          refine ax_iret dX11_would_35 rfl ?_
          refine ⟨rfl, ?_, ?_⟩
          · refine congrArg (fun z => some (Sum.inl z)) ?_
            unfold F_would
            rw [if_pos (fun hh => by first | exact hir hh.1 | omega | exact h21 ⟨hh.2.1.1, by omega⟩)]
          · intro x0 i0 hai
            exact rfl
        · refine ax_iload_n dX11_would_28 rfl rfl (pc' := 29) rfl ?_
          refine ax_iconst dX11_would_29 (by decide) (pc' := 30) rfl ?_
          refine ax_icmp_le (tgt := 36) dX11_would_30 (by decide) (pc' := 33) rfl (fun h30 => ?_) (fun h30 => ?_)
          · refine ax_aload_n dX11_would_36 rfl rfl (pc' := 37) rfl ?_
            refine ax_getr (v := 78) dX11_would_37 flX11_72 rfl sh_0 rfl (pc' := 40) rfl ?_
            refine ax_aload dX11_would_40 rfl (pc' := 42) rfl ?_
            refine ax_invG [.inr (5 + 4 * r)] [] dX11_would_42 mlX11_291 sh_78 rfl rfl rfl (Nat.le_of_ble_eq_true rfl) (s_X7_copyFrom E l _ (by omega) _ 78 (5 + 4 * r) (f_up w 1 200) r f_rp_78 (f_rp_now hgr) (by omega) (f_rm_fr (M := M) (fun x0 i0 hx => rfl) qr1) (by rw [f_R_1 ⟨hgr.1, hgr.2, by decide, by decide⟩]; omega) (by rw [show M (5 + 4 * r) 0 = M (5 + 4 * r) 0 from rfl]; omega)) (pc' := 45) rfl (fun vv M_42 hq co42 hcm42 => ?_)
            obtain ⟨rfl, frM_42, fa42_0, fa42_1⟩ := hq
            refine ax_reS (st2 := []) rfl ?_
            refine ax_aload_n dX11_would_45 rfl rfl (pc' := 46) rfl ?_
            refine ax_getr (v := 75) dX11_would_46 flX11_65 rfl sh_0 rfl (pc' := 49) rfl ?_
            refine ax_aload_n dX11_would_49 rfl rfl (pc' := 50) rfl ?_
            refine ax_getr (v := 1) dX11_would_50 flX11_10 rfl sh_0 rfl (pc' := 53) rfl ?_
            refine ax_aload_n dX11_would_53 rfl rfl (pc' := 54) rfl ?_
            refine ax_getr (v := 78) dX11_would_54 flX11_72 rfl sh_0 rfl (pc' := 57) rfl ?_
            refine ax_iload_n dX11_would_57 rfl rfl (pc' := 58) rfl ?_
            refine ax_invG [.inr 1, .inr 78, .inl f] [] dX11_would_58 mlX11_293 sh_75 rfl rfl rfl (Nat.le_of_ble_eq_true rfl) (s_X6_tieAll E l _ (by omega) _ 78 f Ls (f_up w 1 200) r f_rp_78 fa42_0 (f_jv_1 hg1) hgr (f_hm_sm f_sm_1 (f_hm_fr (M := M) (fun x0 i0 hx => ((frM_42 x0 i0 (by omega)).trans rfl)) (f_wm_hm hg0.1))) (f_lrn_fr (M := M) (fun x0 i0 hx => ((frM_42 x0 i0 (by omega)).trans rfl)) hg2) (Or.inr rfl)) (pc' := 61) rfl (fun vv M_58 hq co58 hcm58 => ?_)
            obtain ⟨rfl, frM_58, fa58_0, fa58_1, fa58_2, fa58_3, fa58_4⟩ := hq
            refine ax_reS (st2 := []) rfl ?_
            have qtk := f_thk_eq (Ls := Ls) (w := w) (r := r) (f := f) hgr hg1.1 fa58_4.2.2
            have qtl := fa58_3.1
            refine ax_aload_n dX11_would_61 rfl rfl (pc' := 62) rfl ?_
            refine ax_getr (v := 75) dX11_would_62 flX11_65 rfl sh_0 rfl (pc' := 65) rfl ?_
            refine ax_geti (v := M_58 75 3) dX11_would_65 flX11_163 rfl sh_75 rfl rfl (pc' := 68) rfl ?_
            refine ax_if_le (tgt := 75) dX11_would_68 (by decide) (pc' := 71) rfl (fun h68 => ?_) (fun h68 => ?_)
            · have qT0 : (f_tAl Ls (f_up w 1 200) r f).2 = [] := List.eq_nil_of_length_eq_zero (by omega)
              have qh1 : f_hd1 Ls (f_up w 1 200) r f = -1 := by
                unfold f_hd1
                rw [qT0]
                rfl
              have qh2 : f_hd2 Ls (f_up w 1 200) r f = -1 := by
                unfold f_hd2
                rw [qT0, if_pos rfl]
              refine ax_iconst dX11_would_75 (by decide) (pc' := 76) rfl ?_
              refine ax_istore dX11_would_76 (by decide) (ls' := [some (.inr 0), some (.inl r), some (.inl f), some (.inl what), some (.inr (5 + 4 * r)), some (.inl 0)]) rfl (pc' := 78) rfl ?_
              refine ax_iload_n dX11_would_78 rfl rfl (pc' := 79) rfl ?_
              by_cases h79_0 : what = 0
              · refine ax_reS (st2 := [.inl 0]) (by rw [h79_0]) ?_
                refine ax_tabIn (tgt := 104) dX11_would_79 (by decide) (by decide) rfl (by decide) ?_
                refine ax_aload_n dX11_would_104 rfl rfl (pc' := 105) rfl ?_
                refine ax_getr (v := 75) dX11_would_105 flX11_65 rfl sh_0 rfl (pc' := 108) rfl ?_
                refine ax_geti (v := M_58 75 3) dX11_would_108 flX11_163 rfl sh_75 rfl rfl (pc' := 111) rfl ?_
                refine ax_iret dX11_would_111 rfl ?_
                refine ⟨rfl, ?_, ?_⟩
                · refine congrArg (fun z => some (Sum.inl z)) ?_
                  unfold F_would
                  rw [if_neg (fun h => h ⟨hir, ⟨by omega, by omega⟩, by omega, by omega⟩)]
                  rw [if_pos h79_0]
                  show _ = (f_stch Ls (f_up w 1 200) r f).2.1
                  rw [qtk]
                  exact qtl
                · intro x0 i0 hai
                  exact ((frM_58 x0 i0 (by omega)).trans ((frM_42 x0 i0 (by omega)).trans rfl))
              by_cases h79_1 : what = 1
              · refine ax_reS (st2 := [.inl 1]) (by rw [h79_1]) ?_
                refine ax_tabIn (tgt := 112) dX11_would_79 (by decide) (by decide) rfl (by decide) ?_
                refine ax_iload dX11_would_112 rfl (pc' := 114) rfl ?_
                refine ax_if_eq (tgt := 129) dX11_would_114 (by decide) (pc' := 117) rfl (fun h114 => ?_) (fun h114 => ?_)
                · refine ax_iconst dX11_would_129 (by decide) (pc' := 130) rfl ?_
                  refine ax_iret dX11_would_130 rfl ?_
                  refine ⟨rfl, ?_, ?_⟩
                  · refine congrArg (fun z => some (Sum.inl z)) ?_
                    unfold F_would
                    rw [if_neg (fun h => h ⟨hir, ⟨by omega, by omega⟩, by omega, by omega⟩)]
                    rw [if_neg h79_0, if_pos h79_1]
                    show _ = (f_stch Ls (f_up w 1 200) r f).2.2.1
                    rw [qtk]
                    show _ = f_hd1 Ls (f_up w 1 200) r f
                    first | exact qh1.symm | (rw [qh1]; exact qp9.1)
                  · intro x0 i0 hai
                    exact ((frM_58 x0 i0 (by omega)).trans ((frM_42 x0 i0 (by omega)).trans rfl))
                · exfalso
                  omega
              by_cases h79_2 : what = 2
              · refine ax_reS (st2 := [.inl 2]) (by rw [h79_2]) ?_
                refine ax_tabIn (tgt := 131) dX11_would_79 (by decide) (by decide) rfl (by decide) ?_
                refine ax_iload dX11_would_131 rfl (pc' := 133) rfl ?_
                refine ax_if_eq (tgt := 148) dX11_would_133 (by decide) (pc' := 136) rfl (fun h133 => ?_) (fun h133 => ?_)
                · refine ax_iconst dX11_would_148 (by decide) (pc' := 149) rfl ?_
                  refine ax_iret dX11_would_149 rfl ?_
                  refine ⟨rfl, ?_, ?_⟩
                  · refine congrArg (fun z => some (Sum.inl z)) ?_
                    unfold F_would
                    rw [if_neg (fun h => h ⟨hir, ⟨by omega, by omega⟩, by omega, by omega⟩)]
                    rw [if_neg h79_0, if_neg h79_1, if_pos h79_2]
                    show _ = (f_stch Ls (f_up w 1 200) r f).2.2.2
                    rw [qtk]
                    show _ = f_hd2 Ls (f_up w 1 200) r f
                    first | exact qh2.symm | (rw [qh2]; exact qk9.1)
                  · intro x0 i0 hai
                    exact ((frM_58 x0 i0 (by omega)).trans ((frM_42 x0 i0 (by omega)).trans rfl))
                · exfalso
                  omega
              refine ax_tabOut (tgt := 150) dX11_would_79 (by omega) (by decide) ?_
              refine ax_aload_n dX11_would_150 rfl rfl (pc' := 151) rfl ?_
              refine ax_getr (v := 71) dX11_would_151 flX11_56 rfl sh_0 rfl (pc' := 154) rfl ?_
              refine ax_aload_n dX11_would_154 rfl rfl (pc' := 155) rfl ?_
              refine ax_getr (v := 1) dX11_would_155 flX11_10 rfl sh_0 rfl (pc' := 158) rfl ?_
              refine ax_aload_n dX11_would_158 rfl rfl (pc' := 159) rfl ?_
              refine ax_getr (v := 78) dX11_would_159 flX11_72 rfl sh_0 rfl (pc' := 162) rfl ?_
              refine ax_iload_n dX11_would_162 rfl rfl (pc' := 163) rfl ?_
              refine ax_invG [.inr 1, .inr 78, .inl f] [] dX11_would_163 mlX11_303 sh_71 rfl rfl rfl (Nat.le_of_ble_eq_true rfl) (s_X2_weakestBelow E l _ (by omega) _ 78 f Ls ((f_tAl Ls (f_up w 1 200) r f).1) r f_rp_78 fa58_0 (f_jv_sm fa58_4.1 fa58_4.2.1 (f_jv_1 hg1)) hgr (f_hm_sm (f_sm_trans f_sm_1 fa58_4.2.1) (f_hm_fr (M := M) (fun x0 i0 hx => ((frM_58 x0 i0 (by omega)).trans ((frM_42 x0 i0 (by omega)).trans rfl))) (f_wm_hm hg0.1))) (f_lrn_fr (M := M) (fun x0 i0 hx => ((frM_58 x0 i0 (by omega)).trans ((frM_42 x0 i0 (by omega)).trans rfl))) hg2) (Or.inr rfl) (by rw [fa58_4.2.1.2.2.2.2 r 1 ⟨hgr.1, hgr.2, by decide, by decide⟩]; omega)) (pc' := 166) rfl (fun vv M_163 hq co163 hcm163 => ?_)
              obtain ⟨rfl, frM_163⟩ := hq
              refine ax_reS (st2 := [.inl (if f_str Ls ((f_tAl Ls (f_up w 1 200) r f).1) r (f_wk Ls ((f_tAl Ls (f_up w 1 200) r f).1) r) < f then f_wk Ls ((f_tAl Ls (f_up w 1 200) r f).1) r else -1)]) rfl ?_
              have cc163 : -2147483648 ≤ (if f_str Ls ((f_tAl Ls (f_up w 1 200) r f).1) r (f_wk Ls ((f_tAl Ls (f_up w 1 200) r f).1) r) < f then f_wk Ls ((f_tAl Ls (f_up w 1 200) r f).1) r else -1) ∧ (if f_str Ls ((f_tAl Ls (f_up w 1 200) r f).1) r (f_wk Ls ((f_tAl Ls (f_up w 1 200) r f).1) r) < f then f_wk Ls ((f_tAl Ls (f_up w 1 200) r f).1) r else -1) < 2147483648 := co163 _ rfl
              refine ax_reS (st2 := [.inl (f_brk Ls (f_tAl Ls (f_up w 1 200) r f).1 r f)]) (congrArg (fun z => Sum.inl z :: _) (by rfl)) ?_
              refine ax_iret dX11_would_166 rfl ?_
              refine ⟨rfl, ?_, ?_⟩
              · refine congrArg (fun z => some (Sum.inl z)) ?_
                unfold F_would
                rw [if_neg (fun h => h ⟨hir, ⟨by omega, by omega⟩, by omega, by omega⟩)]
                rw [if_neg h79_0, if_neg h79_1, if_neg h79_2]
                show _ = f_brk Ls (f_stch Ls (f_up w 1 200) r f).1 r f
                rw [qtk]
              · intro x0 i0 hai
                exact ((frM_163 x0 i0 (fun h => h.elim (fun h => hai (Or.inr (Or.inl h))) (fun h => hai (Or.inr (Or.inr (Or.inl h)))))).trans ((frM_58 x0 i0 (by omega)).trans ((frM_42 x0 i0 (by omega)).trans rfl)))
            · obtain ⟨t9, T9, qT9⟩ : ∃ x y, (f_tAl Ls (f_up w 1 200) r f).2 = x :: y := by
                cases hT : (f_tAl Ls (f_up w 1 200) r f).2 with
                | nil => rw [hT] at qtl; simp only [List.length_nil] at qtl; omega
                | cons x y => exact ⟨x, y, rfl⟩
              have qh1 : f_hd1 Ls (f_up w 1 200) r f = t9 := by
                unfold f_hd1
                rw [qT9]
                rfl
              have qh2 : f_hd2 Ls (f_up w 1 200) r f = f_cl (f_up w 1 200) r t9 := by
                unfold f_hd2
                rw [qh1, qT9, if_neg (by intro q; cases q)]
              have qp9 := fa58_1
              rw [qT9] at qp9
              have qk9 := fa58_2
              rw [qT9] at qk9
              refine ax_iconst dX11_would_71 (by decide) (pc' := 72) rfl ?_
              refine ax_goto dX11_would_72 (pc' := 76) (by decide) ?_
              refine ax_istore dX11_would_76 (by decide) (ls' := [some (.inr 0), some (.inl r), some (.inl f), some (.inl what), some (.inr (5 + 4 * r)), some (.inl 1)]) rfl (pc' := 78) rfl ?_
              refine ax_iload_n dX11_would_78 rfl rfl (pc' := 79) rfl ?_
              by_cases h79_0 : what = 0
              · refine ax_reS (st2 := [.inl 0]) (by rw [h79_0]) ?_
                refine ax_tabIn (tgt := 104) dX11_would_79 (by decide) (by decide) rfl (by decide) ?_
                refine ax_aload_n dX11_would_104 rfl rfl (pc' := 105) rfl ?_
                refine ax_getr (v := 75) dX11_would_105 flX11_65 rfl sh_0 rfl (pc' := 108) rfl ?_
                refine ax_geti (v := M_58 75 3) dX11_would_108 flX11_163 rfl sh_75 rfl rfl (pc' := 111) rfl ?_
                refine ax_iret dX11_would_111 rfl ?_
                refine ⟨rfl, ?_, ?_⟩
                · refine congrArg (fun z => some (Sum.inl z)) ?_
                  unfold F_would
                  rw [if_neg (fun h => h ⟨hir, ⟨by omega, by omega⟩, by omega, by omega⟩)]
                  rw [if_pos h79_0]
                  show _ = (f_stch Ls (f_up w 1 200) r f).2.1
                  rw [qtk]
                  exact qtl
                · intro x0 i0 hai
                  exact ((frM_58 x0 i0 (by omega)).trans ((frM_42 x0 i0 (by omega)).trans rfl))
              by_cases h79_1 : what = 1
              · refine ax_reS (st2 := [.inl 1]) (by rw [h79_1]) ?_
                refine ax_tabIn (tgt := 112) dX11_would_79 (by decide) (by decide) rfl (by decide) ?_
                refine ax_iload dX11_would_112 rfl (pc' := 114) rfl ?_
                refine ax_if_eq (tgt := 129) dX11_would_114 (by decide) (pc' := 117) rfl (fun h114 => ?_) (fun h114 => ?_)
                · exfalso
                  omega
                · refine ax_aload_n dX11_would_117 rfl rfl (pc' := 118) rfl ?_
                  refine ax_getr (v := 75) dX11_would_118 flX11_65 rfl sh_0 rfl (pc' := 121) rfl ?_
                  refine ax_getr (v := 76) dX11_would_121 flX11_297 rfl sh_75 rfl (pc' := 124) rfl ?_
                  refine ax_iconst dX11_would_124 (by decide) (pc' := 125) rfl ?_
                  refine ax_iald (v := (M_58 76) 0) dX11_would_125 sh_76 rfl (by omega) (by omega) ((congrFun rfl 0).trans rfl) (pc' := 126) rfl ?_
                  refine ax_goto dX11_would_126 (pc' := 130) (by decide) ?_
                  refine ax_iret dX11_would_130 rfl ?_
                  refine ⟨rfl, ?_, ?_⟩
                  · refine congrArg (fun z => some (Sum.inl z)) ?_
                    unfold F_would
                    rw [if_neg (fun h => h ⟨hir, ⟨by omega, by omega⟩, by omega, by omega⟩)]
                    rw [if_neg h79_0, if_pos h79_1]
                    show _ = (f_stch Ls (f_up w 1 200) r f).2.2.1
                    rw [qtk]
                    show _ = f_hd1 Ls (f_up w 1 200) r f
                    first | exact qh1.symm | (rw [qh1]; exact qp9.1)
                  · intro x0 i0 hai
                    exact ((frM_58 x0 i0 (by omega)).trans ((frM_42 x0 i0 (by omega)).trans rfl))
              by_cases h79_2 : what = 2
              · refine ax_reS (st2 := [.inl 2]) (by rw [h79_2]) ?_
                refine ax_tabIn (tgt := 131) dX11_would_79 (by decide) (by decide) rfl (by decide) ?_
                refine ax_iload dX11_would_131 rfl (pc' := 133) rfl ?_
                refine ax_if_eq (tgt := 148) dX11_would_133 (by decide) (pc' := 136) rfl (fun h133 => ?_) (fun h133 => ?_)
                · exfalso
                  omega
                · refine ax_aload_n dX11_would_136 rfl rfl (pc' := 137) rfl ?_
                  refine ax_getr (v := 75) dX11_would_137 flX11_65 rfl sh_0 rfl (pc' := 140) rfl ?_
                  refine ax_getr (v := 77) dX11_would_140 flX11_300 rfl sh_75 rfl (pc' := 143) rfl ?_
                  refine ax_iconst dX11_would_143 (by decide) (pc' := 144) rfl ?_
                  refine ax_iald (v := (M_58 77) 0) dX11_would_144 sh_77 rfl (by omega) (by omega) ((congrFun rfl 0).trans rfl) (pc' := 145) rfl ?_
                  refine ax_goto dX11_would_145 (pc' := 149) (by decide) ?_
                  refine ax_iret dX11_would_149 rfl ?_
                  refine ⟨rfl, ?_, ?_⟩
                  · refine congrArg (fun z => some (Sum.inl z)) ?_
                    unfold F_would
                    rw [if_neg (fun h => h ⟨hir, ⟨by omega, by omega⟩, by omega, by omega⟩)]
                    rw [if_neg h79_0, if_neg h79_1, if_pos h79_2]
                    show _ = (f_stch Ls (f_up w 1 200) r f).2.2.2
                    rw [qtk]
                    show _ = f_hd2 Ls (f_up w 1 200) r f
                    first | exact qh2.symm | (rw [qh2]; exact qk9.1)
                  · intro x0 i0 hai
                    exact ((frM_58 x0 i0 (by omega)).trans ((frM_42 x0 i0 (by omega)).trans rfl))
              refine ax_tabOut (tgt := 150) dX11_would_79 (by omega) (by decide) ?_
              refine ax_aload_n dX11_would_150 rfl rfl (pc' := 151) rfl ?_
              refine ax_getr (v := 71) dX11_would_151 flX11_56 rfl sh_0 rfl (pc' := 154) rfl ?_
              refine ax_aload_n dX11_would_154 rfl rfl (pc' := 155) rfl ?_
              refine ax_getr (v := 1) dX11_would_155 flX11_10 rfl sh_0 rfl (pc' := 158) rfl ?_
              refine ax_aload_n dX11_would_158 rfl rfl (pc' := 159) rfl ?_
              refine ax_getr (v := 78) dX11_would_159 flX11_72 rfl sh_0 rfl (pc' := 162) rfl ?_
              refine ax_iload_n dX11_would_162 rfl rfl (pc' := 163) rfl ?_
              refine ax_invG [.inr 1, .inr 78, .inl f] [] dX11_would_163 mlX11_303 sh_71 rfl rfl rfl (Nat.le_of_ble_eq_true rfl) (s_X2_weakestBelow E l _ (by omega) _ 78 f Ls ((f_tAl Ls (f_up w 1 200) r f).1) r f_rp_78 fa58_0 (f_jv_sm fa58_4.1 fa58_4.2.1 (f_jv_1 hg1)) hgr (f_hm_sm (f_sm_trans f_sm_1 fa58_4.2.1) (f_hm_fr (M := M) (fun x0 i0 hx => ((frM_58 x0 i0 (by omega)).trans ((frM_42 x0 i0 (by omega)).trans rfl))) (f_wm_hm hg0.1))) (f_lrn_fr (M := M) (fun x0 i0 hx => ((frM_58 x0 i0 (by omega)).trans ((frM_42 x0 i0 (by omega)).trans rfl))) hg2) (Or.inr rfl) (by rw [fa58_4.2.1.2.2.2.2 r 1 ⟨hgr.1, hgr.2, by decide, by decide⟩]; omega)) (pc' := 166) rfl (fun vv M_163 hq co163 hcm163 => ?_)
              obtain ⟨rfl, frM_163⟩ := hq
              refine ax_reS (st2 := [.inl (if f_str Ls ((f_tAl Ls (f_up w 1 200) r f).1) r (f_wk Ls ((f_tAl Ls (f_up w 1 200) r f).1) r) < f then f_wk Ls ((f_tAl Ls (f_up w 1 200) r f).1) r else -1)]) rfl ?_
              have cc163 : -2147483648 ≤ (if f_str Ls ((f_tAl Ls (f_up w 1 200) r f).1) r (f_wk Ls ((f_tAl Ls (f_up w 1 200) r f).1) r) < f then f_wk Ls ((f_tAl Ls (f_up w 1 200) r f).1) r else -1) ∧ (if f_str Ls ((f_tAl Ls (f_up w 1 200) r f).1) r (f_wk Ls ((f_tAl Ls (f_up w 1 200) r f).1) r) < f then f_wk Ls ((f_tAl Ls (f_up w 1 200) r f).1) r else -1) < 2147483648 := co163 _ rfl
              refine ax_reS (st2 := [.inl (f_brk Ls (f_tAl Ls (f_up w 1 200) r f).1 r f)]) (congrArg (fun z => Sum.inl z :: _) (by rfl)) ?_
              refine ax_iret dX11_would_166 rfl ?_
              refine ⟨rfl, ?_, ?_⟩
              · refine congrArg (fun z => some (Sum.inl z)) ?_
                unfold F_would
                rw [if_neg (fun h => h ⟨hir, ⟨by omega, by omega⟩, by omega, by omega⟩)]
                rw [if_neg h79_0, if_neg h79_1, if_neg h79_2]
                show _ = f_brk Ls (f_stch Ls (f_up w 1 200) r f).1 r f
                rw [qtk]
              · intro x0 i0 hai
                exact ((frM_163 x0 i0 (fun h => h.elim (fun h => hai (Or.inr (Or.inl h))) (fun h => hai (Or.inr (Or.inr (Or.inl h)))))).trans ((frM_58 x0 i0 (by omega)).trans ((frM_42 x0 i0 (by omega)).trans rfl)))
          · refine ax_bipush dX11_would_33 (by decide) (pc' := 35) rfl ?_
            refine ax_iret dX11_would_35 rfl ?_
            refine ⟨rfl, ?_, ?_⟩
            · refine congrArg (fun z => some (Sum.inl z)) ?_
              unfold F_would
              rw [if_pos (fun hh => by first | exact hir hh.1 | omega | exact h21 ⟨hh.2.1.1, by omega⟩)]
            · intro x0 i0 hai
              exact rfl
  · refine ax_invG [.inl r] [] dX11_would_5 mlX11_139 sh_1 rfl rfl rfl (Nat.le_of_ble_eq_true rfl) (s_X9_ropeAt_no E l _ (by omega) _ r w hg0.1 hg1.1.1 hir) (pc' := 8) rfl (fun vv M_5 hq co5 hcm5 => ?_)
    obtain ⟨rfl, rfl⟩ := hq
    refine ax_reS (st2 := [.inr (-1)]) rfl ?_
    refine ax_astore dX11_would_8 (by decide) (ls' := [some (.inr 0), some (.inl r), some (.inl f), some (.inl what), some (.inr (-1)), none]) rfl (pc' := 10) rfl ?_
    refine ax_aload dX11_would_10 rfl (pc' := 12) rfl ?_
    refine ax_ifnull (tgt := 33) dX11_would_12 (by decide) (by decide) (pc' := 15) rfl (fun h12 => ?_) (fun h12 => ?_)
    · refine ax_bipush dX11_would_33 (by decide) (pc' := 35) rfl ?_
      refine ax_iret dX11_would_35 rfl ?_
      refine ⟨rfl, ?_, ?_⟩
      · refine congrArg (fun z => some (Sum.inl z)) ?_
        unfold F_would
        rw [if_pos (fun hh => by first | exact hir hh.1 | omega | exact h21 ⟨hh.2.1.1, by omega⟩)]
      · intro x0 i0 hai
        exact rfl
    · exfalso
      omega
set_option maxRecDepth 20000 in
theorem s_X11_least (E : ax_Env) (l : Launch) (d : Nat) (hd : 4 ≤ d) (M : ax_Mem) (r what : Int) (Ls : Int → List f_Ln) (w : Int → Int) (hg0 : f_nb M w) (hg1 : f_jv Ls w) (hg2 : f_lrn M 52 Ls) : ax_G E l d iX11_least [.inr 0, .inl r, .inl what] M (fun z0 M2 => z0 = some (.inl (F_least Ls w r what)) ∧ (∀ x0 i0 : Int, ¬ ((78 ≤ x0 ∧ x0 < 82) ∨ x0 = 72 ∨ x0 = 73 ∨ x0 = 76 ∨ x0 = 77 ∨ (x0 = 75 ∧ i0 = 3) ∨ (x0 = 75 ∧ i0 = 4)) → M2 x0 i0 = M x0 i0)) := by
  obtain ⟨d, rfl⟩ : ∃ d0, d = d0 + 1 := ⟨d - 1, by omega⟩
  refine ax_start rfl (Nat.le_of_ble_eq_true rfl) (ls := [some (.inr 0), some (.inl r), some (.inl what), none, none, none]) rfl (fun hav hcm => ?_)
  have hc1 : -2147483648 ≤ r ∧ r < 2147483648 := hav (.inl r) (by simp)
  have hc2 : -2147483648 ≤ what ∧ what < 2147483648 := hav (.inl what) (by simp)
  clear hav
  have qlo := hg1.1.2.2.1
  have qlb := hg1.1.2.2.2.1
  refine ax_aload_n dX11_least_0 rfl rfl (pc' := 1) rfl ?_
  refine ax_getr (v := 1) dX11_least_1 flX11_10 rfl sh_0 rfl (pc' := 4) rfl ?_
  refine ax_iload_n dX11_least_4 rfl rfl (pc' := 5) rfl ?_
  by_cases hir : f_isR w r
  · refine ax_invG [.inl r] [] dX11_least_5 mlX11_139 sh_1 rfl rfl rfl (Nat.le_of_ble_eq_true rfl) (s_X9_ropeAt_ok E l _ (by omega) _ r w hg0.1 hg1.1.1 hir) (pc' := 8) rfl (fun vv M_5 hq co5 hcm5 => ?_)
    obtain ⟨rfl, rfl⟩ := hq
    refine ax_reS (st2 := [.inr (5 + 4 * r)]) rfl ?_
    have hgr : 0 ≤ r ∧ r < 8 := ⟨hir.1, by omega⟩
    have qrm := f_wm_rm hg0.1 hir
    have ql : M (5 + 4 * r) 1 = f_R w r 1 := qrm.1
    have qlr := (hg1.1.1 r hgr.1 hgr.2).2
    have qlen := (hg1.2.1 r hgr.1 hgr.2).2 hir.2.2
    have qr1 : f_rm M (5 + 4 * r) (f_up w 1 200) r := f_rm_w (w := w) (fun j j1 j2 => f_up_o (by omega)) (by omega) qrm
    have qth := f_wm_th hg0.1 (i := r) hgr
    have qthk := (hg1.1.1 r hgr.1 hgr.2).1
    have qR1 : f_R (f_up w 1 200) r 1 = f_R w r 1 := f_R_1 ⟨hgr.1, hgr.2, by decide, by decide⟩
    refine ax_astore_n dX11_least_8 rfl (by decide) (ls' := [some (.inr 0), some (.inl r), some (.inl what), some (.inr (5 + 4 * r)), none, none]) rfl (pc' := 9) rfl ?_
    refine ax_aload_n dX11_least_9 rfl rfl (pc' := 10) rfl ?_
    refine ax_ifnull (tgt := 22) dX11_least_10 (by omega) (by decide) (pc' := 13) rfl (fun h10 => ?_) (fun h10 => ?_)
    · exfalso
      omega
    · refine ax_iload_n dX11_least_13 rfl rfl (pc' := 14) rfl ?_
      refine ax_if_lt (tgt := 22) dX11_least_14 (by decide) (pc' := 17) rfl (fun h14 => ?_) (fun h14 => ?_)
      · refine ax_iconst dX11_least_22 (by decide) (pc' := 23) rfl ?_
        refine ax_iret dX11_least_23 rfl ?_
        refine ⟨rfl, ?_, ?_⟩
        · refine congrArg (fun z => some (Sum.inl z)) ?_
          unfold F_least
          rw [if_pos (fun hh => by first | exact hir hh.1 | omega)]
        · intro x0 i0 hai
          exact rfl
      · refine ax_iload_n dX11_least_17 rfl rfl (pc' := 18) rfl ?_
        refine ax_iconst dX11_least_18 (by decide) (pc' := 19) rfl ?_
        refine ax_icmp_le (tgt := 24) dX11_least_19 (by decide) (pc' := 22) rfl (fun h19 => ?_) (fun h19 => ?_)
        · refine ax_iconst dX11_least_24 (by decide) (pc' := 25) rfl ?_
          refine ax_istore dX11_least_25 (by decide) (ls' := [some (.inr 0), some (.inl r), some (.inl what), some (.inr (5 + 4 * r)), some (.inl 0), none]) rfl (pc' := 27) rfl ?_
          have LP1 : ∀ (kq2 : Nat) (f : Int) (M1 : ax_Mem) (hm1 : 100 - f < (kq2 : Nat)) (fr1 : ∀ x0 i0 : Int, ¬ ((78 ≤ x0 ∧ x0 < 82) ∨ x0 = 72 ∨ x0 = 73 ∨ x0 = 76 ∨ x0 = 77 ∨ (x0 = 75 ∧ i0 = 3) ∨ (x0 = 75 ∧ i0 = 4)) → M1 x0 i0 = M x0 i0) (iv1_0 : 0 ≤ f ∧ f ≤ 100) (iv1_1 : f_first (f_lsC Ls w r what) f 100 = F_least Ls w r what), ax_W E l (d + 1) 0 0 iX11_least 27 [some (.inr 0), some (.inl r), some (.inl what), some (.inr (5 + 4 * r)), some (.inl f), none] [] SH M1 (ax_P (fun z0 M2 => z0 = some (.inl (F_least Ls w r what)) ∧ (∀ x0 i0 : Int, ¬ ((78 ≤ x0 ∧ x0 < 82) ∨ x0 = 72 ∨ x0 = 73 ∨ x0 = 76 ∨ x0 = 77 ∨ (x0 = 75 ∧ i0 = 3) ∨ (x0 = 75 ∧ i0 = 4)) → M2 x0 i0 = M x0 i0))) := by
            intro kq2
            induction kq2 with
            | zero =>
              intro f M1 hm1 fr1 iv1_0 iv1_1
              exfalso
              omega
            | succ kq2 ih3 =>
              intro f M1 hm1 fr1 iv1_0 iv1_1
              refine ax_iload dX11_least_27 rfl (pc' := 29) rfl ?_
              refine ax_bipush dX11_least_29 (by decide) (pc' := 31) rfl ?_
              refine ax_icmp_ge (tgt := 123) dX11_least_31 (by decide) (pc' := 34) rfl (fun h31 => ?_) (fun h31 => ?_)
              · refine ax_iconst dX11_least_123 (by decide) (pc' := 124) rfl ?_
                refine ax_iret dX11_least_124 rfl ?_
                refine ⟨rfl, ?_, ?_⟩
                · refine congrArg (fun z => some (Sum.inl z)) ?_
                  exact (f_first_done (by omega)).symm.trans iv1_1
                · intro x0 i0 hai
                  exact ((fr1 x0 i0 (fun h => h.elim (fun h => hai (Or.inl h)) (fun h => h.elim (fun h => hai (Or.inr (Or.inl h))) (fun h => h.elim (fun h => hai (Or.inr (Or.inr (Or.inl h)))) (fun h => h.elim (fun h => hai (Or.inr (Or.inr (Or.inr (Or.inl h))))) (fun h => h.elim (fun h => hai (Or.inr (Or.inr (Or.inr (Or.inr (Or.inl h)))))) (fun h => h.elim (fun h => hai (Or.inr (Or.inr (Or.inr (Or.inr (Or.inr (Or.inl h))))))) (fun h => hai (Or.inr (Or.inr (Or.inr (Or.inr (Or.inr (Or.inr h)))))))))))))).trans rfl)
              · refine ax_aload_n dX11_least_34 rfl rfl (pc' := 35) rfl ?_
                refine ax_getr (v := 78) dX11_least_35 flX11_72 rfl sh_0 rfl (pc' := 38) rfl ?_
                refine ax_aload_n dX11_least_38 rfl rfl (pc' := 39) rfl ?_
                refine ax_invG [.inr (5 + 4 * r)] [] dX11_least_39 mlX11_291 sh_78 rfl rfl rfl (Nat.le_of_ble_eq_true rfl) (s_X7_copyFrom E l _ (by omega) _ 78 (5 + 4 * r) (f_up w 1 200) r f_rp_78 (f_rp_now hgr) (by omega) (f_rm_fr (M := M) (fun x0 i0 hx => ((fr1 x0 i0 (by omega)).trans rfl)) qr1) (by rw [f_R_1 ⟨hgr.1, hgr.2, by decide, by decide⟩]; omega) (by rw [show M1 (5 + 4 * r) 0 = M (5 + 4 * r) 0 from ((fr1 (5 + 4 * r) 0 (by omega)).trans rfl)]; omega)) (pc' := 42) rfl (fun vv M_39 hq co39 hcm39 => ?_)
                obtain ⟨rfl, frM_39, fa39_0, fa39_1⟩ := hq
                refine ax_reS (st2 := []) rfl ?_
                refine ax_aload_n dX11_least_42 rfl rfl (pc' := 43) rfl ?_
                refine ax_getr (v := 75) dX11_least_43 flX11_65 rfl sh_0 rfl (pc' := 46) rfl ?_
                refine ax_aload_n dX11_least_46 rfl rfl (pc' := 47) rfl ?_
                refine ax_getr (v := 1) dX11_least_47 flX11_10 rfl sh_0 rfl (pc' := 50) rfl ?_
                refine ax_aload_n dX11_least_50 rfl rfl (pc' := 51) rfl ?_
                refine ax_getr (v := 78) dX11_least_51 flX11_72 rfl sh_0 rfl (pc' := 54) rfl ?_
                refine ax_iload dX11_least_54 rfl (pc' := 56) rfl ?_
                refine ax_invG [.inr 1, .inr 78, .inl f] [] dX11_least_56 mlX11_293 sh_75 rfl rfl rfl (Nat.le_of_ble_eq_true rfl) (s_X6_tieAll E l _ (by omega) _ 78 f Ls (f_up w 1 200) r f_rp_78 fa39_0 (f_jv_1 hg1) hgr (f_hm_sm f_sm_1 (f_hm_fr (M := M) (fun x0 i0 hx => ((frM_39 x0 i0 (by omega)).trans ((fr1 x0 i0 (by omega)).trans rfl))) (f_wm_hm hg0.1))) (f_lrn_fr (M := M) (fun x0 i0 hx => ((frM_39 x0 i0 (by omega)).trans ((fr1 x0 i0 (by omega)).trans rfl))) hg2) (Or.inr rfl)) (pc' := 59) rfl (fun vv M_56 hq co56 hcm56 => ?_)
                obtain ⟨rfl, frM_56, fa56_0, fa56_1, fa56_2, fa56_3, fa56_4⟩ := hq
                refine ax_reS (st2 := []) rfl ?_
                have qtk := f_thk_eq (Ls := Ls) (w := w) (r := r) (f := f) hgr hg1.1 fa56_4.2.2
                have qtl := fa56_3.1
                have qt1 : (f_stch Ls (f_up w 1 200) r f).2.1 = M_56 75 3 := by
                  rw [qtk]
                  exact qtl.symm
                have qt2 : (f_stch Ls (f_up w 1 200) r f).1 = (f_tAl Ls (f_up w 1 200) r f).1 := by rw [qtk]
                refine ax_iload_n dX11_least_59 rfl rfl (pc' := 60) rfl ?_
                refine ax_if_ne (tgt := 81) dX11_least_60 (by decide) (pc' := 63) rfl (fun h60 => ?_) (fun h60 => ?_)
                · refine ax_aload_n dX11_least_81 rfl rfl (pc' := 82) rfl ?_
                  refine ax_getr (v := 71) dX11_least_82 flX11_56 rfl sh_0 rfl (pc' := 85) rfl ?_
                  refine ax_aload_n dX11_least_85 rfl rfl (pc' := 86) rfl ?_
                  refine ax_getr (v := 1) dX11_least_86 flX11_10 rfl sh_0 rfl (pc' := 89) rfl ?_
                  refine ax_aload_n dX11_least_89 rfl rfl (pc' := 90) rfl ?_
                  refine ax_getr (v := 78) dX11_least_90 flX11_72 rfl sh_0 rfl (pc' := 93) rfl ?_
                  refine ax_iload dX11_least_93 rfl (pc' := 95) rfl ?_
                  refine ax_invG [.inr 1, .inr 78, .inl f] [] dX11_least_95 mlX11_303 sh_71 rfl rfl rfl (Nat.le_of_ble_eq_true rfl) (s_X2_weakestBelow E l _ (by omega) _ 78 f Ls ((f_tAl Ls (f_up w 1 200) r f).1) r f_rp_78 fa56_0 (f_jv_sm fa56_4.1 fa56_4.2.1 (f_jv_1 hg1)) hgr (f_hm_sm (f_sm_trans f_sm_1 fa56_4.2.1) (f_hm_fr (M := M) (fun x0 i0 hx => ((frM_56 x0 i0 (by omega)).trans ((frM_39 x0 i0 (by omega)).trans ((fr1 x0 i0 (by omega)).trans rfl)))) (f_wm_hm hg0.1))) (f_lrn_fr (M := M) (fun x0 i0 hx => ((frM_56 x0 i0 (by omega)).trans ((frM_39 x0 i0 (by omega)).trans ((fr1 x0 i0 (by omega)).trans rfl)))) hg2) (Or.inr rfl) (by rw [fa56_4.2.1.2.2.2.2 r 1 ⟨hgr.1, hgr.2, by decide, by decide⟩]; omega)) (pc' := 98) rfl (fun vv M_95 hq co95 hcm95 => ?_)
                  obtain ⟨rfl, frM_95⟩ := hq
                  refine ax_reS (st2 := [.inl (if f_str Ls ((f_tAl Ls (f_up w 1 200) r f).1) r (f_wk Ls ((f_tAl Ls (f_up w 1 200) r f).1) r) < f then f_wk Ls ((f_tAl Ls (f_up w 1 200) r f).1) r else -1)]) rfl ?_
                  have cc95 : -2147483648 ≤ (if f_str Ls ((f_tAl Ls (f_up w 1 200) r f).1) r (f_wk Ls ((f_tAl Ls (f_up w 1 200) r f).1) r) < f then f_wk Ls ((f_tAl Ls (f_up w 1 200) r f).1) r else -1) ∧ (if f_str Ls ((f_tAl Ls (f_up w 1 200) r f).1) r (f_wk Ls ((f_tAl Ls (f_up w 1 200) r f).1) r) < f then f_wk Ls ((f_tAl Ls (f_up w 1 200) r f).1) r else -1) < 2147483648 := co95 _ rfl
                  refine ax_reS (st2 := [.inl (f_brk Ls (f_tAl Ls (f_up w 1 200) r f).1 r f)]) (congrArg (fun z => Sum.inl z :: _) (by rfl)) ?_
                  refine ax_iconst dX11_least_98 (by decide) (pc' := 99) rfl ?_
                  refine ax_icmp_eq (tgt := 106) dX11_least_99 (by decide) (pc' := 102) rfl (fun h99 => ?_) (fun h99 => ?_)
                  · have qnc : ¬ f_lsC Ls w r what f := fun z => by
                      rcases z with z | z
                      · omega
                      · rw [qt2] at z
                        omega
                    refine ax_iconst dX11_least_106 (by decide) (pc' := 107) rfl ?_
                    refine ax_istore dX11_least_107 (by decide) (ls' := [some (.inr 0), some (.inl r), some (.inl what), some (.inr (5 + 4 * r)), some (.inl f), some (.inl 0)]) rfl (pc' := 109) rfl ?_
                    refine ax_iload dX11_least_109 rfl (pc' := 111) rfl ?_
                    refine ax_if_eq (tgt := 117) dX11_least_111 (by decide) (pc' := 114) rfl (fun h111 => ?_) (fun h111 => ?_)
                    · refine ax_iinc dX11_least_117 rfl (by decide) (by omega) (ls' := [some (.inr 0), some (.inl r), some (.inl what), some (.inr (5 + 4 * r)), some (.inl (f + 1)), some (.inl 0)]) rfl (pc' := 120) rfl ?_
                      refine ax_goto dX11_least_120 (pc' := 27) (by decide) ?_
                      refine ax_less (ls2 := [some (.inr 0), some (.inl r), some (.inl what), some (.inr (5 + 4 * r)), some (.inl (f + 1)), none]) [true, true, true, true, true, false] rfl ?_
                      refine ih3 (f + 1) M_95 ?_ ?_ ?_ ?_
                      · omega
                      · intro x0 i0 hai
                        exact ((frM_95 x0 i0 (fun h => h.elim (fun h => hai (Or.inr (Or.inl h))) (fun h => hai (Or.inr (Or.inr (Or.inl h)))))).trans ((frM_56 x0 i0 (by omega)).trans ((frM_39 x0 i0 (by omega)).trans ((fr1 x0 i0 (fun h => h.elim (fun h => hai (Or.inl h)) (fun h => h.elim (fun h => hai (Or.inr (Or.inl h))) (fun h => h.elim (fun h => hai (Or.inr (Or.inr (Or.inl h)))) (fun h => h.elim (fun h => hai (Or.inr (Or.inr (Or.inr (Or.inl h))))) (fun h => h.elim (fun h => hai (Or.inr (Or.inr (Or.inr (Or.inr (Or.inl h)))))) (fun h => h.elim (fun h => hai (Or.inr (Or.inr (Or.inr (Or.inr (Or.inr (Or.inl h))))))) (fun h => hai (Or.inr (Or.inr (Or.inr (Or.inr (Or.inr (Or.inr h)))))))))))))).trans rfl))))
                      · omega
                      · rw [← iv1_1]
                        exact (f_first_miss (by omega) qnc).symm
                    · exfalso
                      omega
                  · have qyc : f_lsC Ls w r what f := Or.inr ⟨by omega, by rw [qt2]; omega⟩
                    refine ax_iconst dX11_least_102 (by decide) (pc' := 103) rfl ?_
                    refine ax_goto dX11_least_103 (pc' := 107) (by decide) ?_
                    refine ax_istore dX11_least_107 (by decide) (ls' := [some (.inr 0), some (.inl r), some (.inl what), some (.inr (5 + 4 * r)), some (.inl f), some (.inl 1)]) rfl (pc' := 109) rfl ?_
                    refine ax_iload dX11_least_109 rfl (pc' := 111) rfl ?_
                    refine ax_if_eq (tgt := 117) dX11_least_111 (by decide) (pc' := 114) rfl (fun h111 => ?_) (fun h111 => ?_)
                    · exfalso
                      omega
                    · refine ax_iload dX11_least_114 rfl (pc' := 116) rfl ?_
                      refine ax_iret dX11_least_116 rfl ?_
                      refine ⟨rfl, ?_, ?_⟩
                      · refine congrArg (fun z => some (Sum.inl z)) ?_
                        rw [← iv1_1]
                        exact (f_first_hit (by omega) qyc).symm
                      · intro x0 i0 hai
                        exact ((frM_95 x0 i0 (fun h => h.elim (fun h => hai (Or.inr (Or.inl h))) (fun h => hai (Or.inr (Or.inr (Or.inl h)))))).trans ((frM_56 x0 i0 (by omega)).trans ((frM_39 x0 i0 (by omega)).trans ((fr1 x0 i0 (fun h => h.elim (fun h => hai (Or.inl h)) (fun h => h.elim (fun h => hai (Or.inr (Or.inl h))) (fun h => h.elim (fun h => hai (Or.inr (Or.inr (Or.inl h)))) (fun h => h.elim (fun h => hai (Or.inr (Or.inr (Or.inr (Or.inl h))))) (fun h => h.elim (fun h => hai (Or.inr (Or.inr (Or.inr (Or.inr (Or.inl h)))))) (fun h => h.elim (fun h => hai (Or.inr (Or.inr (Or.inr (Or.inr (Or.inr (Or.inl h))))))) (fun h => hai (Or.inr (Or.inr (Or.inr (Or.inr (Or.inr (Or.inr h)))))))))))))).trans rfl))))
                · refine ax_aload_n dX11_least_63 rfl rfl (pc' := 64) rfl ?_
                  refine ax_getr (v := 75) dX11_least_64 flX11_65 rfl sh_0 rfl (pc' := 67) rfl ?_
                  refine ax_geti (v := M_56 75 3) dX11_least_67 flX11_163 rfl sh_75 rfl rfl (pc' := 70) rfl ?_
                  refine ax_if_le (tgt := 77) dX11_least_70 (by decide) (pc' := 73) rfl (fun h70 => ?_) (fun h70 => ?_)
                  · have qnc : ¬ f_lsC Ls w r what f := fun z => by
                      rcases z with z | z
                      · rw [qt1] at z
                        omega
                      · omega
                    refine ax_iconst dX11_least_77 (by decide) (pc' := 78) rfl ?_
                    refine ax_goto dX11_least_78 (pc' := 107) (by decide) ?_
                    refine ax_istore dX11_least_107 (by decide) (ls' := [some (.inr 0), some (.inl r), some (.inl what), some (.inr (5 + 4 * r)), some (.inl f), some (.inl 0)]) rfl (pc' := 109) rfl ?_
                    refine ax_iload dX11_least_109 rfl (pc' := 111) rfl ?_
                    refine ax_if_eq (tgt := 117) dX11_least_111 (by decide) (pc' := 114) rfl (fun h111 => ?_) (fun h111 => ?_)
                    · refine ax_iinc dX11_least_117 rfl (by decide) (by omega) (ls' := [some (.inr 0), some (.inl r), some (.inl what), some (.inr (5 + 4 * r)), some (.inl (f + 1)), some (.inl 0)]) rfl (pc' := 120) rfl ?_
                      refine ax_goto dX11_least_120 (pc' := 27) (by decide) ?_
                      refine ax_less (ls2 := [some (.inr 0), some (.inl r), some (.inl what), some (.inr (5 + 4 * r)), some (.inl (f + 1)), none]) [true, true, true, true, true, false] rfl ?_
                      refine ih3 (f + 1) M_56 ?_ ?_ ?_ ?_
                      · omega
                      · intro x0 i0 hai
                        exact ((frM_56 x0 i0 (by omega)).trans ((frM_39 x0 i0 (by omega)).trans ((fr1 x0 i0 (fun h => h.elim (fun h => hai (Or.inl h)) (fun h => h.elim (fun h => hai (Or.inr (Or.inl h))) (fun h => h.elim (fun h => hai (Or.inr (Or.inr (Or.inl h)))) (fun h => h.elim (fun h => hai (Or.inr (Or.inr (Or.inr (Or.inl h))))) (fun h => h.elim (fun h => hai (Or.inr (Or.inr (Or.inr (Or.inr (Or.inl h)))))) (fun h => h.elim (fun h => hai (Or.inr (Or.inr (Or.inr (Or.inr (Or.inr (Or.inl h))))))) (fun h => hai (Or.inr (Or.inr (Or.inr (Or.inr (Or.inr (Or.inr h)))))))))))))).trans rfl)))
                      · omega
                      · rw [← iv1_1]
                        exact (f_first_miss (by omega) qnc).symm
                    · exfalso
                      omega
                  · have qyc : f_lsC Ls w r what f := Or.inl ⟨by omega, by rw [qt1]; omega⟩
                    refine ax_iconst dX11_least_73 (by decide) (pc' := 74) rfl ?_
                    refine ax_goto dX11_least_74 (pc' := 107) (by decide) ?_
                    refine ax_istore dX11_least_107 (by decide) (ls' := [some (.inr 0), some (.inl r), some (.inl what), some (.inr (5 + 4 * r)), some (.inl f), some (.inl 1)]) rfl (pc' := 109) rfl ?_
                    refine ax_iload dX11_least_109 rfl (pc' := 111) rfl ?_
                    refine ax_if_eq (tgt := 117) dX11_least_111 (by decide) (pc' := 114) rfl (fun h111 => ?_) (fun h111 => ?_)
                    · exfalso
                      omega
                    · refine ax_iload dX11_least_114 rfl (pc' := 116) rfl ?_
                      refine ax_iret dX11_least_116 rfl ?_
                      refine ⟨rfl, ?_, ?_⟩
                      · refine congrArg (fun z => some (Sum.inl z)) ?_
                        rw [← iv1_1]
                        exact (f_first_hit (by omega) qyc).symm
                      · intro x0 i0 hai
                        exact ((frM_56 x0 i0 (by omega)).trans ((frM_39 x0 i0 (by omega)).trans ((fr1 x0 i0 (fun h => h.elim (fun h => hai (Or.inl h)) (fun h => h.elim (fun h => hai (Or.inr (Or.inl h))) (fun h => h.elim (fun h => hai (Or.inr (Or.inr (Or.inl h)))) (fun h => h.elim (fun h => hai (Or.inr (Or.inr (Or.inr (Or.inl h))))) (fun h => h.elim (fun h => hai (Or.inr (Or.inr (Or.inr (Or.inr (Or.inl h)))))) (fun h => h.elim (fun h => hai (Or.inr (Or.inr (Or.inr (Or.inr (Or.inr (Or.inl h))))))) (fun h => hai (Or.inr (Or.inr (Or.inr (Or.inr (Or.inr (Or.inr h)))))))))))))).trans rfl)))
          refine LP1 (100 - 0 : Int).toNat.succ 0 M ?_ ?_ ?_ ?_
          · omega
          · exact fun a i _ => rfl
          · omega
          · unfold F_least
            rw [if_neg (fun h => h ⟨hir, by omega, by omega⟩)]
        · refine ax_iconst dX11_least_22 (by decide) (pc' := 23) rfl ?_
          refine ax_iret dX11_least_23 rfl ?_
          refine ⟨rfl, ?_, ?_⟩
          · refine congrArg (fun z => some (Sum.inl z)) ?_
            unfold F_least
            rw [if_pos (fun hh => by first | exact hir hh.1 | omega)]
          · intro x0 i0 hai
            exact rfl
  · refine ax_invG [.inl r] [] dX11_least_5 mlX11_139 sh_1 rfl rfl rfl (Nat.le_of_ble_eq_true rfl) (s_X9_ropeAt_no E l _ (by omega) _ r w hg0.1 hg1.1.1 hir) (pc' := 8) rfl (fun vv M_5 hq co5 hcm5 => ?_)
    obtain ⟨rfl, rfl⟩ := hq
    refine ax_reS (st2 := [.inr (-1)]) rfl ?_
    refine ax_astore_n dX11_least_8 rfl (by decide) (ls' := [some (.inr 0), some (.inl r), some (.inl what), some (.inr (-1)), none, none]) rfl (pc' := 9) rfl ?_
    refine ax_aload_n dX11_least_9 rfl rfl (pc' := 10) rfl ?_
    refine ax_ifnull (tgt := 22) dX11_least_10 (by decide) (by decide) (pc' := 13) rfl (fun h10 => ?_) (fun h10 => ?_)
    · refine ax_iconst dX11_least_22 (by decide) (pc' := 23) rfl ?_
      refine ax_iret dX11_least_23 rfl ?_
      refine ⟨rfl, ?_, ?_⟩
      · refine congrArg (fun z => some (Sum.inl z)) ?_
        unfold F_least
        rw [if_pos (fun hh => by first | exact hir hh.1 | omega)]
      · intro x0 i0 hai
        exact rfl
    · exfalso
      omega
set_option maxRecDepth 20000 in
theorem s_X11_train (E : ax_Env) (l : Launch) (d : Nat) (hd : 4 ≤ d) (M : ax_Mem) (r p k f : Int) (Ls : Int → List f_Ln) (w : Int → Int) (hg0 : f_nb M w) (hg1 : f_jv Ls w) (hg2 : f_lrn M 52 Ls) : ax_G E l d iX11_train [.inr 0, .inl r, .inl p, .inl k, .inl f] M (fun z0 M2 => z0 = some (.inl (F_train Ls w r p k f)) ∧ (∀ x0 i0 : Int, ¬ ((78 ≤ x0 ∧ x0 < 82) ∨ x0 = 72 ∨ x0 = 73 ∨ x0 = 76 ∨ x0 = 77 ∨ (x0 = 75 ∧ i0 = 3) ∨ (x0 = 75 ∧ i0 = 4)) → M2 x0 i0 = M x0 i0)) := by
  obtain ⟨d, rfl⟩ : ∃ d0, d = d0 + 1 := ⟨d - 1, by omega⟩
  refine ax_start rfl (Nat.le_of_ble_eq_true rfl) (ls := [some (.inr 0), some (.inl r), some (.inl p), some (.inl k), some (.inl f), none, none]) rfl (fun hav hcm => ?_)
  have hc1 : -2147483648 ≤ r ∧ r < 2147483648 := hav (.inl r) (by simp)
  have hc2 : -2147483648 ≤ p ∧ p < 2147483648 := hav (.inl p) (by simp)
  have hc3 : -2147483648 ≤ k ∧ k < 2147483648 := hav (.inl k) (by simp)
  have hc4 : -2147483648 ≤ f ∧ f < 2147483648 := hav (.inl f) (by simp)
  clear hav
  have qlo := hg1.1.2.2.1
  have qlb := hg1.1.2.2.2.1
  refine ax_aload_n dX11_train_0 rfl rfl (pc' := 1) rfl ?_
  refine ax_getr (v := 1) dX11_train_1 flX11_10 rfl sh_0 rfl (pc' := 4) rfl ?_
  refine ax_iload_n dX11_train_4 rfl rfl (pc' := 5) rfl ?_
  by_cases hir : f_isR w r
  · refine ax_invG [.inl r] [] dX11_train_5 mlX11_139 sh_1 rfl rfl rfl (Nat.le_of_ble_eq_true rfl) (s_X9_ropeAt_ok E l _ (by omega) _ r w hg0.1 hg1.1.1 hir) (pc' := 8) rfl (fun vv M_5 hq co5 hcm5 => ?_)
    obtain ⟨rfl, rfl⟩ := hq
    refine ax_reS (st2 := [.inr (5 + 4 * r)]) rfl ?_
    have hgr : 0 ≤ r ∧ r < 8 := ⟨hir.1, by omega⟩
    have qrm := f_wm_rm hg0.1 hir
    have ql : M (5 + 4 * r) 1 = f_R w r 1 := qrm.1
    have qlr := (hg1.1.1 r hgr.1 hgr.2).2
    have qlen := (hg1.2.1 r hgr.1 hgr.2).2 hir.2.2
    have qr1 : f_rm M (5 + 4 * r) (f_up w 1 200) r := f_rm_w (w := w) (fun j j1 j2 => f_up_o (by omega)) (by omega) qrm
    have qth := f_wm_th hg0.1 (i := r) hgr
    have qthk := (hg1.1.1 r hgr.1 hgr.2).1
    have qR1 : f_R (f_up w 1 200) r 1 = f_R w r 1 := f_R_1 ⟨hgr.1, hgr.2, by decide, by decide⟩
    refine ax_astore dX11_train_8 (by decide) (ls' := [some (.inr 0), some (.inl r), some (.inl p), some (.inl k), some (.inl f), some (.inr (5 + 4 * r)), none]) rfl (pc' := 10) rfl ?_
    refine ax_aload dX11_train_10 rfl (pc' := 12) rfl ?_
    refine ax_ifnull (tgt := 43) dX11_train_12 (by omega) (by decide) (pc' := 15) rfl (fun h12 => ?_) (fun h12 => ?_)
    · exfalso
      omega
    · refine ax_aload dX11_train_15 rfl (pc' := 17) rfl ?_
      refine ax_iload_n dX11_train_17 rfl rfl (pc' := 18) rfl ?_
      refine ax_invG [.inl p] [] dX11_train_18 mlX11_143 (f_rp_now ⟨by omega, by omega⟩).1 rfl rfl rfl (Nat.le_of_ble_eq_true rfl) (s_X7_isUntied E l _ (by omega) _ (5 + 4 * r) p w r (f_rp_now hgr) qrm hg1.1 hgr) (pc' := 21) rfl (fun vv M_18 hq co18 hcm18 => ?_)
      obtain ⟨rfl, rfl⟩ := hq
      refine ax_reS (st2 := [.inl (f_b (0 ≤ p ∧ p < f_R w r 1 ∧ f_P w r p 0 = -1))]) rfl ?_
      refine ax_if_eq (tgt := 43) dX11_train_21 (by decide) (pc' := 24) rfl (fun h21 => ?_) (fun h21 => ?_)
      · replace h21 := f_b_0 h21
        refine ax_iconst dX11_train_43 (by decide) (pc' := 44) rfl ?_
        refine ax_iret dX11_train_44 rfl ?_
        refine ⟨rfl, ?_, ?_⟩
        · refine congrArg (fun z => some (Sum.inl z)) ?_
          unfold F_train
          rw [if_pos (fun hh => by first | exact hir hh.1.1.1 | exact h21 ⟨hh.1.1.2.1, by have := hh.1.1.2.2; omega, hh.1.2.1⟩ | exact h30 ⟨hh.1.2.2.1, by have := hh.1.2.2.2; omega⟩ | exact h40 ⟨hh.2.1, by have := hh.2.2; omega⟩)]
        · intro x0 i0 hai
          exact rfl
      · replace h21 := f_b_1 h21
        refine ax_iload_n dX11_train_24 rfl rfl (pc' := 25) rfl ?_
        refine ax_bipush dX11_train_25 (by decide) (pc' := 27) rfl ?_
        refine ax_insG [.inl k, .inl 6] [] dX11_train_27 mlX11_114 rfl rfl (Nat.le_of_ble_eq_true rfl) (s_X11_isIn E l _ (by omega) _ k 6) (pc' := 30) rfl (fun vv M_27 hq co27 hcm27 => ?_)
        obtain ⟨rfl, rfl⟩ := hq
        refine ax_reS (st2 := [.inl (f_b (0 ≤ k ∧ k < 6))]) rfl ?_
        refine ax_if_eq (tgt := 43) dX11_train_30 (by decide) (pc' := 33) rfl (fun h30 => ?_) (fun h30 => ?_)
        · replace h30 := f_b_0 h30
          refine ax_iconst dX11_train_43 (by decide) (pc' := 44) rfl ?_
          refine ax_iret dX11_train_44 rfl ?_
          refine ⟨rfl, ?_, ?_⟩
          · refine congrArg (fun z => some (Sum.inl z)) ?_
            unfold F_train
            rw [if_pos (fun hh => by first | exact hir hh.1.1.1 | exact h21 ⟨hh.1.1.2.1, by have := hh.1.1.2.2; omega, hh.1.2.1⟩ | exact h30 ⟨hh.1.2.2.1, by have := hh.1.2.2.2; omega⟩ | exact h40 ⟨hh.2.1, by have := hh.2.2; omega⟩)]
          · intro x0 i0 hai
            exact rfl
        · replace h30 := f_b_1 h30
          refine ax_iload dX11_train_33 rfl (pc' := 35) rfl ?_
          refine ax_bipush dX11_train_35 (by decide) (pc' := 37) rfl ?_
          refine ax_insG [.inl f, .inl 100] [] dX11_train_37 mlX11_114 rfl rfl (Nat.le_of_ble_eq_true rfl) (s_X11_isIn E l _ (by omega) _ f 100) (pc' := 40) rfl (fun vv M_37 hq co37 hcm37 => ?_)
          obtain ⟨rfl, rfl⟩ := hq
          refine ax_reS (st2 := [.inl (f_b (0 ≤ f ∧ f < 100))]) rfl ?_
          refine ax_if_ne (tgt := 45) dX11_train_40 (by decide) (pc' := 43) rfl (fun h40 => ?_) (fun h40 => ?_)
          · replace h40 := f_b_1 h40
            have qtk := (hg0.1.2.1 k (by omega) (by omega)).1
            have qtr := hg1.1.2.2.2.2 k (by omega) (by omega)
            refine ax_aload_n dX11_train_45 rfl rfl (pc' := 46) rfl ?_
            refine ax_getr (v := 78) dX11_train_46 flX11_72 rfl sh_0 rfl (pc' := 49) rfl ?_
            refine ax_aload dX11_train_49 rfl (pc' := 51) rfl ?_
            refine ax_invG [.inr (5 + 4 * r)] [] dX11_train_51 mlX11_291 sh_78 rfl rfl rfl (Nat.le_of_ble_eq_true rfl) (s_X7_copyFrom E l _ (by omega) _ 78 (5 + 4 * r) (f_up w 1 200) r f_rp_78 (f_rp_now hgr) (by omega) (f_rm_fr (M := M) (fun x0 i0 hx => rfl) qr1) (by rw [f_R_1 ⟨hgr.1, hgr.2, by decide, by decide⟩]; omega) (by rw [show M (5 + 4 * r) 0 = M (5 + 4 * r) 0 from rfl]; omega)) (pc' := 54) rfl (fun vv M_51 hq co51 hcm51 => ?_)
            obtain ⟨rfl, frM_51, fa51_0, fa51_1⟩ := hq
            refine ax_reS (st2 := []) rfl ?_
            refine ax_iconst dX11_train_54 (by decide) (pc' := 55) rfl ?_
            refine ax_istore dX11_train_55 (by decide) (ls' := [some (.inr 0), some (.inl r), some (.inl p), some (.inl k), some (.inl f), some (.inr (5 + 4 * r)), some (.inl 0)]) rfl (pc' := 57) rfl ?_
            have LP1 : ∀ (kq2 : Nat) (t : Int) (x : Int → Int) (M1 : ax_Mem) (hm1 : 31 - t < (kq2 : Nat)) (fr1 : ∀ x0 i0 : Int, ¬ ((78 ≤ x0 ∧ x0 < 82) ∨ x0 = 72 ∨ x0 = 73 ∨ x0 = 76 ∨ x0 = 77 ∨ (x0 = 75 ∧ i0 = 3) ∨ (x0 = 75 ∧ i0 = 4)) → M1 x0 i0 = M_51 x0 i0) (iv1_0 : 0 ≤ t ∧ t ≤ 31) (iv1_1 : x = f_trn w r p k t) (iv1_2 : f_first (f_trC Ls w r p k f) t 31 = F_train Ls w r p k f) (iv1_3 : f_rm M1 78 x r) (iv1_4 : f_iv x ∧ f_sm w x) (iv1_5 : x 1 = 200), ax_W E l (d + 1) 0 0 iX11_train 57 [some (.inr 0), some (.inl r), some (.inl p), some (.inl k), some (.inl f), some (.inr (5 + 4 * r)), some (.inl t)] [] SH M1 (ax_P (fun z0 M2 => z0 = some (.inl (F_train Ls w r p k f)) ∧ (∀ x0 i0 : Int, ¬ ((78 ≤ x0 ∧ x0 < 82) ∨ x0 = 72 ∨ x0 = 73 ∨ x0 = 76 ∨ x0 = 77 ∨ (x0 = 75 ∧ i0 = 3) ∨ (x0 = 75 ∧ i0 = 4)) → M2 x0 i0 = M x0 i0))) := by
              intro kq2
              induction kq2 with
              | zero =>
                intro t x M1 hm1 fr1 iv1_0 iv1_1 iv1_2 iv1_3 iv1_4 iv1_5
                exfalso
                omega
              | succ kq2 ih3 =>
                intro t x M1 hm1 fr1 iv1_0 iv1_1 iv1_2 iv1_3 iv1_4 iv1_5
                refine ax_iload dX11_train_57 rfl (pc' := 59) rfl ?_
                refine ax_bipush dX11_train_59 (by decide) (pc' := 61) rfl ?_
                refine ax_icmp_gt (tgt := 120) dX11_train_61 (by decide) (pc' := 64) rfl (fun h61 => ?_) (fun h61 => ?_)
                · refine ax_iconst dX11_train_120 (by decide) (pc' := 121) rfl ?_
                  refine ax_iret dX11_train_121 rfl ?_
                  refine ⟨rfl, ?_, ?_⟩
                  · refine congrArg (fun z => some (Sum.inl z)) ?_
                    exact (f_first_done (by omega)).symm.trans iv1_2
                  · intro x0 i0 hai
                    exact ((fr1 x0 i0 (fun h => h.elim (fun h => hai (Or.inl h)) (fun h => h.elim (fun h => hai (Or.inr (Or.inl h))) (fun h => h.elim (fun h => hai (Or.inr (Or.inr (Or.inl h)))) (fun h => h.elim (fun h => hai (Or.inr (Or.inr (Or.inr (Or.inl h))))) (fun h => h.elim (fun h => hai (Or.inr (Or.inr (Or.inr (Or.inr (Or.inl h)))))) (fun h => h.elim (fun h => hai (Or.inr (Or.inr (Or.inr (Or.inr (Or.inr (Or.inl h))))))) (fun h => hai (Or.inr (Or.inr (Or.inr (Or.inr (Or.inr (Or.inr h)))))))))))))).trans ((frM_51 x0 i0 (by omega)).trans rfl))
                · have qst := f_stch_tAl (Ls := Ls) (w := x) (r := r) (f := f) hgr iv1_4.1
                  have qs1 : (f_stch Ls (f_trn w r p k t) r f).2.2.1 = f_hd1 Ls x r f := by
                    rw [← iv1_1, qst]
                  have qs2 : (f_stch Ls (f_trn w r p k t) r f).2.2.2 = f_hd2 Ls x r f := by
                    rw [← iv1_1, qst]
                  have qtx : x (2564 + k) = w (2564 + k) := iv1_4.2.1 (2564 + k) (by omega) (by omega)
                  have qdx : w 0 = x 0 := iv1_4.2.2.1.symm
                  have qlx : f_R x r 1 = f_R w r 1 := iv1_4.2.2.2.2.2 r 1 ⟨hgr.1, hgr.2, by decide, by decide⟩
                  refine ax_aload_n dX11_train_64 rfl rfl (pc' := 65) rfl ?_
                  refine ax_getr (v := 75) dX11_train_65 flX11_65 rfl sh_0 rfl (pc' := 68) rfl ?_
                  refine ax_aload_n dX11_train_68 rfl rfl (pc' := 69) rfl ?_
                  refine ax_getr (v := 1) dX11_train_69 flX11_10 rfl sh_0 rfl (pc' := 72) rfl ?_
                  refine ax_aload_n dX11_train_72 rfl rfl (pc' := 73) rfl ?_
                  refine ax_getr (v := 78) dX11_train_73 flX11_72 rfl sh_0 rfl (pc' := 76) rfl ?_
                  refine ax_iload dX11_train_76 rfl (pc' := 78) rfl ?_
                  refine ax_iload_n dX11_train_78 rfl rfl (pc' := 79) rfl ?_
                  refine ax_iload_n dX11_train_79 rfl rfl (pc' := 80) rfl ?_
                  refine ax_invG [.inr 1, .inr 78, .inl f, .inl p, .inl k] [] dX11_train_80 mlX11_306 sh_75 rfl rfl rfl (Nat.le_of_ble_eq_true rfl) (s_X6_tiesFirst E l _ (by omega) _ 78 f p k Ls x r f_rp_78 iv1_3 (f_jv_sm iv1_4.1 iv1_4.2 hg1) hgr (f_hm_sm iv1_4.2 (f_hm_fr (M := M) (fun x0 i0 hx => ((fr1 x0 i0 (by omega)).trans ((frM_51 x0 i0 (by omega)).trans rfl))) (f_wm_hm hg0.1))) (f_lrn_fr (M := M) (fun x0 i0 hx => ((fr1 x0 i0 (by omega)).trans ((frM_51 x0 i0 (by omega)).trans rfl))) hg2) (Or.inr rfl) (by omega)) (pc' := 83) rfl (fun vv M_80 hq co80 hcm80 => ?_)
                  obtain ⟨rfl, frM_80⟩ := hq
                  refine ax_reS (st2 := [.inl (f_b (f_hd1 Ls x r f = p ∧ f_hd2 Ls x r f = k))]) rfl ?_
                  refine ax_if_eq (tgt := 89) dX11_train_83 (by decide) (pc' := 86) rfl (fun h83 => ?_) (fun h83 => ?_)
                  · replace h83 := f_b_0 h83
                    have qnc : ¬ f_trC Ls w r p k f t := fun z => h83 ⟨qs1.symm.trans z.1, qs2.symm.trans z.2⟩
                    refine ax_aload_n dX11_train_89 rfl rfl (pc' := 90) rfl ?_
                    refine ax_getr (v := 78) dX11_train_90 flX11_72 rfl sh_0 rfl (pc' := 93) rfl ?_
                    refine ax_iload_n dX11_train_93 rfl rfl (pc' := 94) rfl ?_
                    refine ax_iload_n dX11_train_94 rfl rfl (pc' := 95) rfl ?_
                    refine ax_aload_n dX11_train_95 rfl rfl (pc' := 96) rfl ?_
                    refine ax_getr (v := 1) dX11_train_96 flX11_10 rfl sh_0 rfl (pc' := 99) rfl ?_
                    refine ax_getr (v := 2) dX11_train_99 flX11_132 rfl sh_1 rfl (pc' := 102) rfl ?_
                    refine ax_iload_n dX11_train_102 rfl rfl (pc' := 103) rfl ?_
                    refine ax_iald (v := (M 2) k) dX11_train_103 sh_2 rfl (by omega) (by omega) ((congrFun ((funext fun i0 => frM_80 2 i0 (fun h => h.elim (fun h => absurd h (by decide)) (fun h => h.elim (fun h => absurd h (by decide)) (fun h => h.elim (fun h => absurd h (by decide)) (fun h => h.elim (fun h => absurd h (by decide)) (fun h => absurd h.1 (by decide))))))).trans ((funext fun i0 => fr1 2 i0 (fun h => h.elim (fun h => absurd h.1 (by decide)) (fun h => h.elim (fun h => absurd h (by decide)) (fun h => h.elim (fun h => absurd h (by decide)) (fun h => h.elim (fun h => absurd h (by decide)) (fun h => h.elim (fun h => absurd h (by decide)) (fun h => h.elim (fun h => absurd h.1 (by decide)) (fun h => absurd h.1 (by decide))))))))).trans ((funext fun i0 => frM_51 2 i0 (fun h => absurd h.1 (by decide))).trans rfl))) k).trans rfl) (pc' := 104) rfl ?_
                    refine ax_reS (st2 := [.inl (w (2564 + k)), .inl k, .inl p, .inr 78]) (congrArg (fun z => Sum.inl z :: _) (by exact qtk)) ?_
                    refine ax_aload_n dX11_train_104 rfl rfl (pc' := 105) rfl ?_
                    refine ax_getr (v := 1) dX11_train_105 flX11_10 rfl sh_0 rfl (pc' := 108) rfl ?_
                    refine ax_geti (v := M 1 0) dX11_train_108 flX11_122 rfl sh_1 ((frM_80 1 0 (fun h => h.elim (fun h => absurd h (by decide)) (fun h => h.elim (fun h => absurd h (by decide)) (fun h => h.elim (fun h => absurd h (by decide)) (fun h => h.elim (fun h => absurd h (by decide)) (fun h => absurd h.1 (by decide))))))).trans ((fr1 1 0 (fun h => h.elim (fun h => absurd h.1 (by decide)) (fun h => h.elim (fun h => absurd h (by decide)) (fun h => h.elim (fun h => absurd h (by decide)) (fun h => h.elim (fun h => absurd h (by decide)) (fun h => h.elim (fun h => absurd h (by decide)) (fun h => h.elim (fun h => absurd h.1 (by decide)) (fun h => absurd h.1 (by decide))))))))).trans ((frM_51 1 0 (fun h => absurd h.1 (by decide))).trans rfl))) rfl (pc' := 111) rfl ?_
                    refine ax_reS (st2 := [.inl (w 0), .inl (w (2564 + k)), .inl k, .inl p, .inr 78]) (congrArg (fun z => Sum.inl z :: _) (by exact hg0.1.1.1)) ?_
                    refine ax_invG [.inl p, .inl k, .inl (w (2564 + k)), .inl (w 0)] [] dX11_train_111 mlX11_310 sh_78 rfl rfl rfl (Nat.le_of_ble_eq_true rfl) (s_X7_addHabit E l _ (by omega) _ 78 p k (w (2564 + k)) (w 0) x r f_rp_78 (f_rm_fr (fun x0 i0 hx => frM_80 x0 i0 (by omega)) iv1_3) iv1_4.1 hgr ⟨by omega, by omega⟩ ⟨by omega, by omega⟩ ⟨by omega, by omega⟩ qdx) (pc' := 114) rfl (fun vv M_111 hq co111 hcm111 => ?_)
                    obtain ⟨rfl, frM_111, fa111_0⟩ := hq
                    refine ax_reS (st2 := []) rfl ?_
                    refine ax_iinc dX11_train_114 rfl (by decide) (by omega) (ls' := [some (.inr 0), some (.inl r), some (.inl p), some (.inl k), some (.inl f), some (.inr (5 + 4 * r)), some (.inl (t + 1))]) rfl (pc' := 117) rfl ?_
                    refine ax_goto dX11_train_117 (pc' := 57) (by decide) ?_
                    refine ih3 (t + 1) (f_more x r p k (x (2564 + k))) M_111 ?_ ?_ ?_ ?_ ?_ ?_ ?_ ?_
                    · omega
                    · intro x0 i0 hai
                      exact ((frM_111 x0 i0 (by omega)).trans ((frM_80 x0 i0 (fun h => h.elim (fun h => hai (Or.inr (Or.inl h))) (fun h => h.elim (fun h => hai (Or.inr (Or.inr (Or.inl h)))) (fun h => h.elim (fun h => hai (Or.inr (Or.inr (Or.inr (Or.inl h))))) (fun h => h.elim (fun h => hai (Or.inr (Or.inr (Or.inr (Or.inr (Or.inl h)))))) (fun h => hai (Or.inr (Or.inr (Or.inr (Or.inr (Or.inr (Or.inr h)))))))))))).trans ((fr1 x0 i0 (fun h => h.elim (fun h => hai (Or.inl h)) (fun h => h.elim (fun h => hai (Or.inr (Or.inl h))) (fun h => h.elim (fun h => hai (Or.inr (Or.inr (Or.inl h)))) (fun h => h.elim (fun h => hai (Or.inr (Or.inr (Or.inr (Or.inl h))))) (fun h => h.elim (fun h => hai (Or.inr (Or.inr (Or.inr (Or.inr (Or.inl h)))))) (fun h => h.elim (fun h => hai (Or.inr (Or.inr (Or.inr (Or.inr (Or.inr (Or.inl h))))))) (fun h => hai (Or.inr (Or.inr (Or.inr (Or.inr (Or.inr (Or.inr h)))))))))))))).trans rfl)))
                    · omega
                    · rw [iv1_1]
                      unfold f_trn
                      rw [f_loop_last (by omega)]
                    · rw [← iv1_2]
                      exact (f_first_miss (by omega) qnc).symm
                    · rw [qtx]
                      exact fa111_0
                    · exact ⟨f_iv_more hgr ⟨by omega, by omega⟩ ⟨by omega, by omega⟩ ⟨by omega, by omega⟩ iv1_4.1, f_sm_trans iv1_4.2 (f_sm_hab ⟨hgr.1, hgr.2, by omega, by omega, by omega, by omega⟩)⟩
                    · rw [f_onl_more ⟨by omega, by omega⟩ ⟨by omega, by omega⟩ 1 (by omega)]
                      exact iv1_5
                  · replace h83 := f_b_1 h83
                    have qyc : f_trC Ls w r p k f t := ⟨qs1.trans h83.1, qs2.trans h83.2⟩
                    refine ax_iload dX11_train_86 rfl (pc' := 88) rfl ?_
                    refine ax_iret dX11_train_88 rfl ?_
                    refine ⟨rfl, ?_, ?_⟩
                    · refine congrArg (fun z => some (Sum.inl z)) ?_
                      rw [← iv1_2]
                      exact (f_first_hit (by omega) qyc).symm
                    · intro x0 i0 hai
                      exact ((frM_80 x0 i0 (fun h => h.elim (fun h => hai (Or.inr (Or.inl h))) (fun h => h.elim (fun h => hai (Or.inr (Or.inr (Or.inl h)))) (fun h => h.elim (fun h => hai (Or.inr (Or.inr (Or.inr (Or.inl h))))) (fun h => h.elim (fun h => hai (Or.inr (Or.inr (Or.inr (Or.inr (Or.inl h)))))) (fun h => hai (Or.inr (Or.inr (Or.inr (Or.inr (Or.inr (Or.inr h)))))))))))).trans ((fr1 x0 i0 (fun h => h.elim (fun h => hai (Or.inl h)) (fun h => h.elim (fun h => hai (Or.inr (Or.inl h))) (fun h => h.elim (fun h => hai (Or.inr (Or.inr (Or.inl h)))) (fun h => h.elim (fun h => hai (Or.inr (Or.inr (Or.inr (Or.inl h))))) (fun h => h.elim (fun h => hai (Or.inr (Or.inr (Or.inr (Or.inr (Or.inl h)))))) (fun h => h.elim (fun h => hai (Or.inr (Or.inr (Or.inr (Or.inr (Or.inr (Or.inl h))))))) (fun h => hai (Or.inr (Or.inr (Or.inr (Or.inr (Or.inr (Or.inr h)))))))))))))).trans ((frM_51 x0 i0 (by omega)).trans rfl)))
            refine LP1 (31 - 0 : Int).toNat.succ 0 (f_up w 1 200) M_51 ?_ ?_ ?_ ?_ ?_ ?_ ?_ ?_
            · omega
            · exact fun a i _ => rfl
            · omega
            · unfold f_trn
              rw [f_loop_done (by decide)]
            · unfold F_train
              rw [if_neg (fun h => h ⟨⟨⟨hir, by omega, by omega⟩, by omega, by omega, by omega⟩, by omega, by omega⟩)]
            · exact fa51_0
            · exact ⟨f_iv_1 hg1.1, f_sm_1⟩
            · exact f_up_same _ _ _
          · replace h40 := f_b_0 h40
            refine ax_iconst dX11_train_43 (by decide) (pc' := 44) rfl ?_
            refine ax_iret dX11_train_44 rfl ?_
            refine ⟨rfl, ?_, ?_⟩
            · refine congrArg (fun z => some (Sum.inl z)) ?_
              unfold F_train
              rw [if_pos (fun hh => by first | exact hir hh.1.1.1 | exact h21 ⟨hh.1.1.2.1, by have := hh.1.1.2.2; omega, hh.1.2.1⟩ | exact h30 ⟨hh.1.2.2.1, by have := hh.1.2.2.2; omega⟩ | exact h40 ⟨hh.2.1, by have := hh.2.2; omega⟩)]
            · intro x0 i0 hai
              exact rfl
  · refine ax_invG [.inl r] [] dX11_train_5 mlX11_139 sh_1 rfl rfl rfl (Nat.le_of_ble_eq_true rfl) (s_X9_ropeAt_no E l _ (by omega) _ r w hg0.1 hg1.1.1 hir) (pc' := 8) rfl (fun vv M_5 hq co5 hcm5 => ?_)
    obtain ⟨rfl, rfl⟩ := hq
    refine ax_reS (st2 := [.inr (-1)]) rfl ?_
    refine ax_astore dX11_train_8 (by decide) (ls' := [some (.inr 0), some (.inl r), some (.inl p), some (.inl k), some (.inl f), some (.inr (-1)), none]) rfl (pc' := 10) rfl ?_
    refine ax_aload dX11_train_10 rfl (pc' := 12) rfl ?_
    refine ax_ifnull (tgt := 43) dX11_train_12 (by decide) (by decide) (pc' := 15) rfl (fun h12 => ?_) (fun h12 => ?_)
    · refine ax_iconst dX11_train_43 (by decide) (pc' := 44) rfl ?_
      refine ax_iret dX11_train_44 rfl ?_
      refine ⟨rfl, ?_, ?_⟩
      · refine congrArg (fun z => some (Sum.inl z)) ?_
        unfold F_train
        rw [if_pos (fun hh => by first | exact hir hh.1.1.1 | exact h21 ⟨hh.1.1.2.1, by have := hh.1.1.2.2; omega, hh.1.2.1⟩ | exact h30 ⟨hh.1.2.2.1, by have := hh.1.2.2.2; omega⟩ | exact h40 ⟨hh.2.1, by have := hh.2.2; omega⟩)]
      · intro x0 i0 hai
        exact rfl
    · exfalso
      omega
set_option maxRecDepth 20000 in
theorem s_X11_days_no (E : ax_Env) (l : Launch) (d : Nat) (hd : 6 ≤ d) (M : ax_Mem) (n : Int) (Ls : Int → List f_Ln) (w : Int → Int) (hg0 : f_nb M w) (hg1 : f_jv Ls w) (hg2 : ¬ (1 ≤ n ∧ n ≤ 60 ∧ w 0 + n ≤ 9999)) : ax_G E l d iX11_days [.inr 0, .inl n] M (fun z0 M2 => z0 = some (.inl (-1)) ∧ M = M2) := by
  obtain ⟨d, rfl⟩ : ∃ d0, d = d0 + 1 := ⟨d - 1, by omega⟩
  refine ax_start rfl (Nat.le_of_ble_eq_true rfl) (ls := [some (.inr 0), some (.inl n), none, none]) rfl (fun hav hcm => ?_)
  have hc1 : -2147483648 ≤ n ∧ n < 2147483648 := hav (.inl n) (by simp)
  clear hav
  have qlo := hg1.1.2.2.1
  have qlb := hg1.1.2.2.2.1
  have qd : M 1 0 = w 0 := hg0.1.1.1
  refine ax_iload_n dX11_days_0 rfl rfl (pc' := 1) rfl ?_
  refine ax_iconst dX11_days_1 (by decide) (pc' := 2) rfl ?_
  refine ax_icmp_lt (tgt := 26) dX11_days_2 (by decide) (pc' := 5) rfl (fun h2 => ?_) (fun h2 => ?_)
  · refine ax_iconst dX11_days_26 (by decide) (pc' := 27) rfl ?_
    refine ax_iret dX11_days_27 rfl ?_
    refine ⟨rfl, ?_, ?_⟩
    · rfl
    · rfl
  · refine ax_iload_n dX11_days_5 rfl rfl (pc' := 6) rfl ?_
    refine ax_bipush dX11_days_6 (by decide) (pc' := 8) rfl ?_
    refine ax_icmp_gt (tgt := 26) dX11_days_8 (by decide) (pc' := 11) rfl (fun h8 => ?_) (fun h8 => ?_)
    · refine ax_iconst dX11_days_26 (by decide) (pc' := 27) rfl ?_
      refine ax_iret dX11_days_27 rfl ?_
      refine ⟨rfl, ?_, ?_⟩
      · rfl
      · rfl
    · refine ax_aload_n dX11_days_11 rfl rfl (pc' := 12) rfl ?_
      refine ax_getr (v := 1) dX11_days_12 flX11_10 rfl sh_0 rfl (pc' := 15) rfl ?_
      refine ax_geti (v := M 1 0) dX11_days_15 flX11_122 rfl sh_1 rfl rfl (pc' := 18) rfl ?_
      refine ax_iload_n dX11_days_18 rfl rfl (pc' := 19) rfl ?_
      refine ax_iadd dX11_days_19 (by omega) (pc' := 20) rfl ?_
      refine ax_sipush dX11_days_20 (by decide) (pc' := 23) rfl ?_
      refine ax_icmp_le (tgt := 28) dX11_days_23 (by decide) (pc' := 26) rfl (fun h23 => ?_) (fun h23 => ?_)
      · exfalso
        omega
      · refine ax_iconst dX11_days_26 (by decide) (pc' := 27) rfl ?_
        refine ax_iret dX11_days_27 rfl ?_
        refine ⟨rfl, ?_, ?_⟩
        · rfl
        · rfl
set_option maxRecDepth 20000 in
theorem s_X11_days_ok (E : ax_Env) (l : Launch) (d : Nat) (hd : 6 ≤ d) (M : ax_Mem) (n : Int) (Ls : Int → List f_Ln) (w bk : Int → Int) (m : Int) (hg0 : f_nb M w) (hg1 : f_jv Ls w) (hg2 : f_pr M bk m w) (hg3 : 1 ≤ n ∧ n ≤ 60 ∧ w 0 + n ≤ 9999) (hg4 : f_lrn M 52 Ls) : ax_G E l d iX11_days [.inr 0, .inl n] M (fun z0 M2 => z0 = some (.inl ((f_dys Ls w bk m n).2.2.2)) ∧ (∀ x0 i0 : Int, ¬ ((1 ≤ x0 ∧ x0 < 39) ∨ (92 ≤ x0 ∧ x0 < 273) ∨ (x0 = 0 ∧ i0 = 12) ∨ x0 = 72 ∨ x0 = 73 ∨ x0 = 76 ∨ x0 = 77 ∨ (x0 = 75 ∧ i0 = 3) ∨ (x0 = 75 ∧ i0 = 4)) → M2 x0 i0 = M x0 i0) ∧ (f_nb M2 (f_dys Ls w bk m n).1) ∧ (f_pr M2 (f_dys Ls w bk m n).2.1 (f_dys Ls w bk m n).2.2.1 (f_dys Ls w bk m n).1)) := by
  obtain ⟨d, rfl⟩ : ∃ d0, d = d0 + 1 := ⟨d - 1, by omega⟩
  refine ax_start rfl (Nat.le_of_ble_eq_true rfl) (ls := [some (.inr 0), some (.inl n), none, none]) rfl (fun hav hcm => ?_)
  have hc1 : -2147483648 ≤ n ∧ n < 2147483648 := hav (.inl n) (by simp)
  clear hav
  have qlo := hg1.1.2.2.1
  have qlb := hg1.1.2.2.2.1
  have qd : M 1 0 = w 0 := hg0.1.1.1
  refine ax_iload_n dX11_days_0 rfl rfl (pc' := 1) rfl ?_
  refine ax_iconst dX11_days_1 (by decide) (pc' := 2) rfl ?_
  refine ax_icmp_lt (tgt := 26) dX11_days_2 (by decide) (pc' := 5) rfl (fun h2 => ?_) (fun h2 => ?_)
  · exfalso
    omega
  · refine ax_iload_n dX11_days_5 rfl rfl (pc' := 6) rfl ?_
    refine ax_bipush dX11_days_6 (by decide) (pc' := 8) rfl ?_
    refine ax_icmp_gt (tgt := 26) dX11_days_8 (by decide) (pc' := 11) rfl (fun h8 => ?_) (fun h8 => ?_)
    · exfalso
      omega
    · refine ax_aload_n dX11_days_11 rfl rfl (pc' := 12) rfl ?_
      refine ax_getr (v := 1) dX11_days_12 flX11_10 rfl sh_0 rfl (pc' := 15) rfl ?_
      refine ax_geti (v := M 1 0) dX11_days_15 flX11_122 rfl sh_1 rfl rfl (pc' := 18) rfl ?_
      refine ax_iload_n dX11_days_18 rfl rfl (pc' := 19) rfl ?_
      refine ax_iadd dX11_days_19 (by omega) (pc' := 20) rfl ?_
      refine ax_sipush dX11_days_20 (by decide) (pc' := 23) rfl ?_
      refine ax_icmp_le (tgt := 28) dX11_days_23 (by decide) (pc' := 26) rfl (fun h23 => ?_) (fun h23 => ?_)
      · refine ax_iconst dX11_days_28 (by decide) (pc' := 29) rfl ?_
        refine ax_istore_n dX11_days_29 rfl (by decide) (ls' := [some (.inr 0), some (.inl n), some (.inl 0), none]) rfl (pc' := 30) rfl ?_
        refine ax_iconst dX11_days_30 (by decide) (pc' := 31) rfl ?_
        refine ax_istore_n dX11_days_31 rfl (by decide) (ls' := [some (.inr 0), some (.inl n), some (.inl 0), some (.inl 0)]) rfl (pc' := 32) rfl ?_
        have LP1 : ∀ (kq2 : Nat) (i br : Int) (y : Int → Int) (c : Int → Int) (q : Int) (M1 : ax_Mem) (hm1 : n - i < (kq2 : Nat)) (fr1 : ∀ x0 i0 : Int, ¬ ((1 ≤ x0 ∧ x0 < 39) ∨ (92 ≤ x0 ∧ x0 < 273) ∨ (x0 = 0 ∧ i0 = 12) ∨ x0 = 72 ∨ x0 = 73 ∨ x0 = 76 ∨ x0 = 77 ∨ (x0 = 75 ∧ i0 = 3) ∨ (x0 = 75 ∧ i0 = 4)) → M1 x0 i0 = M x0 i0) (iv1_0 : 0 ≤ i ∧ i ≤ n) (iv1_1 : f_loop (f_dysS Ls) i n (y, c, q, br) = f_dys Ls w bk m n) (iv1_2 : f_nb M1 y) (iv1_3 : f_pr M1 c q y) (iv1_4 : f_jv Ls y) (iv1_5 : y 0 = w 0 + i) (iv1_6 : 0 ≤ br ∧ br ≤ 8 * i), ax_W E l (d + 1) 0 0 iX11_days 32 [some (.inr 0), some (.inl n), some (.inl br), some (.inl i)] [] SH M1 (ax_P (fun z0 M2 => z0 = some (.inl ((f_dys Ls w bk m n).2.2.2)) ∧ (∀ x0 i0 : Int, ¬ ((1 ≤ x0 ∧ x0 < 39) ∨ (92 ≤ x0 ∧ x0 < 273) ∨ (x0 = 0 ∧ i0 = 12) ∨ x0 = 72 ∨ x0 = 73 ∨ x0 = 76 ∨ x0 = 77 ∨ (x0 = 75 ∧ i0 = 3) ∨ (x0 = 75 ∧ i0 = 4)) → M2 x0 i0 = M x0 i0) ∧ (f_nb M2 (f_dys Ls w bk m n).1) ∧ (f_pr M2 (f_dys Ls w bk m n).2.1 (f_dys Ls w bk m n).2.2.1 (f_dys Ls w bk m n).1))) := by
          intro kq2
          induction kq2 with
          | zero =>
            intro i br y c q M1 hm1 fr1 iv1_0 iv1_1 iv1_2 iv1_3 iv1_4 iv1_5 iv1_6
            exfalso
            omega
          | succ kq2 ih3 =>
            intro i br y c q M1 hm1 fr1 iv1_0 iv1_1 iv1_2 iv1_3 iv1_4 iv1_5 iv1_6
            refine ax_iload_n dX11_days_32 rfl rfl (pc' := 33) rfl ?_
            refine ax_iload_n dX11_days_33 rfl rfl (pc' := 34) rfl ?_
            refine ax_icmp_ge (tgt := 54) dX11_days_34 (by decide) (pc' := 37) rfl (fun h34 => ?_) (fun h34 => ?_)
            · have qz : (y, c, q, br) = f_dys Ls w bk m n := by
                rw [← iv1_1, f_loop_done (by omega)]
              refine ax_iload_n dX11_days_54 rfl rfl (pc' := 55) rfl ?_
              refine ax_iret dX11_days_55 rfl ?_
              refine ⟨rfl, ?_, ?_, ?_, ?_⟩
              · refine congrArg (fun z => some (Sum.inl z)) ?_
                rw [← qz]
              · intro x0 i0 hai
                exact ((fr1 x0 i0 (fun h => h.elim (fun h => hai (Or.inl h)) (fun h => h.elim (fun h => hai (Or.inr (Or.inl h))) (fun h => h.elim (fun h => hai (Or.inr (Or.inr (Or.inl h)))) (fun h => h.elim (fun h => hai (Or.inr (Or.inr (Or.inr (Or.inl h))))) (fun h => h.elim (fun h => hai (Or.inr (Or.inr (Or.inr (Or.inr (Or.inl h)))))) (fun h => h.elim (fun h => hai (Or.inr (Or.inr (Or.inr (Or.inr (Or.inr (Or.inl h))))))) (fun h => h.elim (fun h => hai (Or.inr (Or.inr (Or.inr (Or.inr (Or.inr (Or.inr (Or.inl h)))))))) (fun h => h.elim (fun h => hai (Or.inr (Or.inr (Or.inr (Or.inr (Or.inr (Or.inr (Or.inr (Or.inl h))))))))) (fun h => hai (Or.inr (Or.inr (Or.inr (Or.inr (Or.inr (Or.inr (Or.inr (Or.inr h)))))))))))))))))).trans rfl)
              · rw [← qz]
                exact iv1_2
              · rw [← qz]
                exact iv1_3
            · refine ax_aload_n dX11_days_37 rfl rfl (pc' := 38) rfl ?_
              refine ax_invG [] [] dX11_days_38 mlX11_147 sh_0 rfl rfl rfl (Nat.le_of_ble_eq_true rfl) (s_X11_keepPast E l _ (by omega) _ y c q iv1_2 iv1_4.1.1 iv1_3) (pc' := 41) rfl (fun vv M_38 hq co38 hcm38 => ?_)
              obtain ⟨rfl, frM_38, fa38_0⟩ := hq
              refine ax_reS (st2 := []) rfl ?_
              refine ax_iload_n dX11_days_41 rfl rfl (pc' := 42) rfl ?_
              refine ax_aload_n dX11_days_42 rfl rfl (pc' := 43) rfl ?_
              refine ax_invG [] [.inl br] dX11_days_43 mlX11_192 sh_0 rfl rfl rfl (Nat.le_of_ble_eq_true rfl) (s_X11_passDay E l _ (by omega) _ Ls y (f_nb_fr (fun x0 i0 x1 x2 => frM_38 x0 i0 (by omega)) iv1_2) iv1_4 (f_lrn_fr (M := M) (fun x0 i0 hx => ((frM_38 x0 i0 (by omega)).trans ((fr1 x0 i0 (by omega)).trans rfl))) hg4)) (pc' := 46) rfl (fun vv M_43 hq co43 hcm43 => ?_)
              obtain ⟨rfl, frM_43, fa43_0⟩ := hq
              refine ax_reS (st2 := [.inl ((f_day Ls y).2), .inl br]) rfl ?_
              have cc43 : -2147483648 ≤ (f_day Ls y).2 ∧ (f_day Ls y).2 < 2147483648 := co43 _ rfl
              have qdo := f_day_ok (Ls := Ls) (w := y) iv1_4 (by omega)
              have qpr : f_pr M_43 (f_keep c y q) (f_keepN q) (f_day Ls y).1 := f_pr_w (fun i0 i1 i2 => qdo.2.2.1 i0 i1 (by omega)) (f_pr_fr (fun x0 i0 x1 x2 => frM_43 x0 i0 (by omega)) (frM_43 0 12 (by omega)) fa38_0)
              refine ax_iadd dX11_days_46 (by omega) (pc' := 47) rfl ?_
              refine ax_istore_n dX11_days_47 rfl (by decide) (ls' := [some (.inr 0), some (.inl n), some (.inl (br + ((f_day Ls y).2))), some (.inl i)]) rfl (pc' := 48) rfl ?_
              refine ax_iinc dX11_days_48 rfl (by decide) (by omega) (ls' := [some (.inr 0), some (.inl n), some (.inl (br + ((f_day Ls y).2))), some (.inl (i + 1))]) rfl (pc' := 51) rfl ?_
              refine ax_goto dX11_days_51 (pc' := 32) (by decide) ?_
              refine ih3 (i + 1) (br + ((f_day Ls y).2)) ((f_day Ls y).1) (f_keep c y q) (f_keepN q) M_43 ?_ ?_ ?_ ?_ ?_ ?_ ?_ ?_ ?_
              · omega
              · intro x0 i0 hai
                exact ((frM_43 x0 i0 (fun h => h.elim (fun h => hai (Or.inl h)) (fun h => h.elim (fun h => hai (Or.inr (Or.inr (Or.inr (Or.inl h))))) (fun h => h.elim (fun h => hai (Or.inr (Or.inr (Or.inr (Or.inr (Or.inl h)))))) (fun h => h.elim (fun h => hai (Or.inr (Or.inr (Or.inr (Or.inr (Or.inr (Or.inl h))))))) (fun h => h.elim (fun h => hai (Or.inr (Or.inr (Or.inr (Or.inr (Or.inr (Or.inr (Or.inl h)))))))) (fun h => h.elim (fun h => hai (Or.inr (Or.inr (Or.inr (Or.inr (Or.inr (Or.inr (Or.inr (Or.inl h))))))))) (fun h => hai (Or.inr (Or.inr (Or.inr (Or.inr (Or.inr (Or.inr (Or.inr (Or.inr h)))))))))))))))).trans ((frM_38 x0 i0 (fun h => h.elim (fun h => hai (Or.inr (Or.inl h))) (fun h => hai (Or.inr (Or.inr (Or.inl h)))))).trans ((fr1 x0 i0 (fun h => h.elim (fun h => hai (Or.inl h)) (fun h => h.elim (fun h => hai (Or.inr (Or.inl h))) (fun h => h.elim (fun h => hai (Or.inr (Or.inr (Or.inl h)))) (fun h => h.elim (fun h => hai (Or.inr (Or.inr (Or.inr (Or.inl h))))) (fun h => h.elim (fun h => hai (Or.inr (Or.inr (Or.inr (Or.inr (Or.inl h)))))) (fun h => h.elim (fun h => hai (Or.inr (Or.inr (Or.inr (Or.inr (Or.inr (Or.inl h))))))) (fun h => h.elim (fun h => hai (Or.inr (Or.inr (Or.inr (Or.inr (Or.inr (Or.inr (Or.inl h)))))))) (fun h => h.elim (fun h => hai (Or.inr (Or.inr (Or.inr (Or.inr (Or.inr (Or.inr (Or.inr (Or.inl h))))))))) (fun h => hai (Or.inr (Or.inr (Or.inr (Or.inr (Or.inr (Or.inr (Or.inr (Or.inr h)))))))))))))))))).trans rfl)))
              · omega
              · have e9 : f_dysS Ls i (y, c, q, br) = ((f_day Ls y).1, f_keep c y q, f_keepN q, br + (f_day Ls y).2) := rfl
                rw [← iv1_1, f_loop_step (lo := i) (by omega), e9]
              · exact fa43_0
              · exact qpr
              · exact qdo.1
              · rw [qdo.2.1]
                omega
              · omega
        refine LP1 (n - 0 : Int).toNat.succ 0 0 w bk m M ?_ ?_ ?_ ?_ ?_ ?_ ?_ ?_ ?_
        · omega
        · exact fun a i _ => rfl
        · omega
        · rfl
        · exact hg0
        · exact hg2
        · exact hg1
        · omega
        · omega
      · exfalso
        omega
