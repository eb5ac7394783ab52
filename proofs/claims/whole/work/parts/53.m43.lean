/-! pulls of the class -/
theorem f_callG_nz {h s : Int → Int} : f_callG h s = -1 ∨ (0 ≤ f_callG h s ∧ f_callG h s < 6 ∧ h (f_callG h s) ≠ 0) := by
  have key := f_loop_ix (P := fun i b => b = -1 ∨ (0 ≤ b ∧ b < i ∧ h b ≠ 0)) (g := f_callS h s) (lo := 0) (hi := 6) (a := -1) (by decide) (Or.inl rfl) (fun i b i1 i2 hb => by
    unfold f_callS
    split
    · rcases hb with q | q
      · exact Or.inl q
      · exact Or.inr ⟨q.1, by omega, q.2.2⟩
    · split
      · exact Or.inr ⟨i1, by omega, by assumption⟩
      · rcases hb with q | q
        · exact Or.inl q
        · exact Or.inr ⟨q.1, by omega, q.2.2⟩)
  exact key
theorem f_cl_nz {w : Int → Int} {r p : Int} (h : f_cl w r p ≠ -1) : (0 ≤ f_cl w r p ∧ f_cl w r p < 6) ∧ f_P w r p (1 + f_cl w r p) ≠ 0 ∧ f_P w r p 0 = -1 := by
  unfold f_cl at h ⊢
  by_cases h0 : f_P w r p 0 = -1
  · rw [if_pos h0] at h ⊢
    have h1 := f_callG_nz (h := fun k => f_P w r p (1 + k)) (s := fun k => f_P w r p (7 + k))
    have h2 : f_call w r p = -1 ∨ (0 ≤ f_call w r p ∧ f_call w r p < 6 ∧ f_P w r p (1 + f_call w r p) ≠ 0) := h1
    rcases h2 with q | q
    · exact absurd q h
    · exact ⟨⟨q.1, q.2.1⟩, q.2.2, h0⟩
  · rw [if_neg h0] at h
    exact absurd rfl h
theorem f_pil_len {pl : Int → Int} {u v : Int} {up dn : List Int} (h : f_pil pl (up ++ u :: dn)) (hv : v = (dn.length : Int)) : pl v = u := by
  induction up with
  | nil =>
    rw [hv]
    exact h.1
  | cons x y ih => exact ih h.2
set_option maxRecDepth 20000 in
theorem s_X6_lineUp (E : ax_Env) (l : Launch) (d : Nat) (hd : 1 ≤ d) (M : ax_Mem) (a : Int) (w : Int → Int) (r : Int) (hg0 : f_rp a) (hg1 : f_rm M a w r) (hg2 : f_iv w) (hg3 : 0 ≤ r ∧ r < 8) (hg4 : 4 < a ∧ a < 37 ∨ a = 78) : ax_G E l d iX6_lineUp [.inr 75, .inr a] M (fun z0 M2 => z0 = none ∧ (∀ x0 i0 : Int, ¬ (x0 = 76 ∨ x0 = 77 ∨ (x0 = 75 ∧ i0 = 4)) → M2 x0 i0 = M x0 i0) ∧ (f_pil (M2 76) (f_lrow w r)) ∧ (f_pil (M2 77) ((f_lrow w r).map (f_cl w r))) ∧ (M2 75 4 = ((f_lrow w r).length : Int)) ∧ (((f_lrow w r).length : Int) ≤ 24)) := by
  obtain ⟨d, rfl⟩ : ∃ d0, d = d0 + 1 := ⟨d - 1, by omega⟩
  refine ax_start rfl (Nat.le_of_ble_eq_true rfl) (ls := [some (.inr 75), some (.inr a), none, none, none, none]) rfl (fun hav hcm => ?_)
  clear hav
  have ql : M a 1 = f_R w r 1 := hg1.1
  have qlr := (hg2.1 r hg3.1 hg3.2).2
  have qp := hg1.2.2.2.2
  refine ax_aload_n dX6_lineUp_0 rfl rfl (pc' := 1) rfl ?_
  refine ax_iconst dX6_lineUp_1 (by decide) (pc' := 2) rfl ?_
  refine ax_puti dX6_lineUp_2 flX6_22 (Or.inl rfl) sh_75 rfl (pc' := 5) rfl ?_
  refine ax_iconst dX6_lineUp_5 (by decide) (pc' := 6) rfl ?_
  refine ax_istore_n dX6_lineUp_6 rfl (by decide) (ls' := [some (.inr 75), some (.inr a), some (.inl 0), none, none, none]) rfl (pc' := 7) rfl ?_
  have LP1 : ∀ (kq2 : Nat) (p : Int) (pv1 kv1 : Int → Int) (n : Int) (st : List Int) (M1 : ax_Mem) (hm1 : f_R w r 1 - p < (kq2 : Nat)) (fr1 : ∀ x0 i0 : Int, ¬ (x0 = 76 ∨ x0 = 77 ∨ (x0 = 75 ∧ i0 = 4)) → M1 x0 i0 = (ax_up M 75 4 0) x0 i0) (mr1_76 : M1 76 = pv1) (mr1_77 : M1 77 = kv1) (ms1_75_4 : M1 75 4 = n) (iv1_0 : 0 ≤ p ∧ p ≤ f_R w r 1) (iv1_1 : f_loop (f_lrS w r) p (f_R w r 1) st = f_lrow w r) (iv1_2 : n = (st.length : Int) ∧ n ≤ p) (iv1_3 : f_pil pv1 st) (iv1_4 : f_pil kv1 (st.map (f_cl w r))) (iv1_5 : ∀ q ∈ st, 0 ≤ q ∧ q < p ∧ f_cl w r q ≠ -1), ax_W E l (d + 1) 0 0 iX6_lineUp 7 [some (.inr 75), some (.inr a), some (.inl p), none, none, none] [] SH M1 (ax_P (fun z0 M2 => z0 = none ∧ (∀ x0 i0 : Int, ¬ (x0 = 76 ∨ x0 = 77 ∨ (x0 = 75 ∧ i0 = 4)) → M2 x0 i0 = M x0 i0) ∧ (f_pil (M2 76) (f_lrow w r)) ∧ (f_pil (M2 77) ((f_lrow w r).map (f_cl w r))) ∧ (M2 75 4 = ((f_lrow w r).length : Int)) ∧ (((f_lrow w r).length : Int) ≤ 24))) := by
    intro kq2
    induction kq2 with
    | zero =>
      intro p pv1 kv1 n st M1 hm1 fr1 mr1_76 mr1_77 ms1_75_4 iv1_0 iv1_1 iv1_2 iv1_3 iv1_4 iv1_5
      exfalso
      omega
    | succ kq2 ih3 =>
      intro p pv1 kv1 n st M1 hm1 fr1 mr1_76 mr1_77 ms1_75_4 iv1_0 iv1_1 iv1_2 iv1_3 iv1_4 iv1_5
      refine ax_iload_n dX6_lineUp_7 rfl rfl (pc' := 8) rfl ?_
      refine ax_aload_n dX6_lineUp_8 rfl rfl (pc' := 9) rfl ?_
      refine ax_geti (v := M a 1) dX6_lineUp_9 flX6_26 rfl hg0.1 (show M1 a 1 = M a 1 from ((fr1 a 1 (by omega)).trans (ax_up_miss (by omega) rfl))) rfl (pc' := 12) rfl ?_
      refine ax_icmp_ge (tgt := 166) dX6_lineUp_12 (by decide) (pc' := 15) rfl (fun h12 => ?_) (fun h12 => ?_)
      · refine ax_vret dX6_lineUp_166 rfl ?_
        refine ⟨rfl, rfl, ?_, ?_, ?_, ?_, ?_⟩
        · intro x0 i0 hai
          exact ((fr1 x0 i0 (fun h => h.elim (fun h => hai (Or.inl h)) (fun h => h.elim (fun h => hai (Or.inr (Or.inl h))) (fun h => hai (Or.inr (Or.inr h)))))).trans (ax_up_miss (fun h => hai (Or.inr (Or.inr h))) rfl))
        · have qr := mr1_76
          rw [qr, ← iv1_1, f_loop_done (by omega)]
          exact iv1_3
        · have qr := mr1_77
          rw [qr, ← iv1_1, f_loop_done (by omega)]
          exact iv1_4
        · have qr := ms1_75_4
          rw [qr, ← iv1_1, f_loop_done (by omega)]
          exact iv1_2.1
        · rw [← iv1_1, f_loop_done (by omega)]
          omega
      · have qt := (qp p (by omega) (by omega)).1
        refine ax_aload_n dX6_lineUp_15 rfl rfl (pc' := 16) rfl ?_
        refine ax_getr (v := a + 1) dX6_lineUp_16 flX6_31 rfl hg0.1 rfl (pc' := 19) rfl ?_
        refine ax_iload_n dX6_lineUp_19 rfl rfl (pc' := 20) rfl ?_
        refine ax_iald (v := (M (a + 1)) p) dX6_lineUp_20 hg0.2.1 rfl (by omega) (by omega) ((congrFun ((funext fun i0 => fr1 (a + 1) i0 (by omega)).trans (ax_up_rowmiss (by omega) rfl)) p).trans rfl) (pc' := 21) rfl ?_
        refine ax_iconst dX6_lineUp_21 (by decide) (pc' := 22) rfl ?_
        refine ax_icmp_ne (tgt := 33) dX6_lineUp_22 (by decide) (pc' := 25) rfl (fun h22 => ?_) (fun h22 => ?_)
        · have qc0 : f_cl w r p = -1 := if_neg (by rw [← qt]; exact h22)
          refine ax_iconst dX6_lineUp_33 (by decide) (pc' := 34) rfl ?_
          refine ax_istore_n dX6_lineUp_34 rfl (by decide) (ls' := [some (.inr 75), some (.inr a), some (.inl p), some (.inl (-1)), none, none]) rfl (pc' := 35) rfl ?_
          refine ax_iload_n dX6_lineUp_35 rfl rfl (pc' := 36) rfl ?_
          refine ax_iconst dX6_lineUp_36 (by decide) (pc' := 37) rfl ?_
          refine ax_icmp_eq (tgt := 160) dX6_lineUp_37 (by decide) (pc' := 40) rfl (fun h37 => ?_) (fun h37 => ?_)
          · have ql : f_lrS w r p st = st := if_pos (by omega)
            refine ax_iinc dX6_lineUp_160 rfl (by decide) (by omega) (ls' := [some (.inr 75), some (.inr a), some (.inl (p + 1)), some (.inl (-1)), none, none]) rfl (pc' := 163) rfl ?_
            refine ax_goto dX6_lineUp_163 (pc' := 7) (by decide) ?_
            refine ax_less (ls2 := [some (.inr 75), some (.inr a), some (.inl (p + 1)), none, none, none]) [true, true, true, false, false, false] rfl ?_
            refine ih3 (p + 1) pv1 kv1 n (f_lrS w r p st) M1 ?_ ?_ ?_ ?_ ?_ ?_ ?_ ?_ ?_ ?_ ?_
            · omega
            · intro x0 i0 hai
              exact ((fr1 x0 i0 (fun h => h.elim (fun h => hai (Or.inl h)) (fun h => h.elim (fun h => hai (Or.inr (Or.inl h))) (fun h => hai (Or.inr (Or.inr h)))))).trans rfl)
            · exact mr1_76
            · exact mr1_77
            · exact ms1_75_4
            · omega
            · exact f_loop_back (by omega) iv1_1 rfl
            · first
                | (rw [ql]; omega)
                | (rw [ql2, List.length_append, List.length_cons]; omega)
            · first
                | (rw [ql]; exact iv1_3)
                | (rw [ql2]; exact f_pil_mid iv0_0.1 iv0_1 iv0_2)
            · first
                | (rw [ql]; exact iv1_4)
                | (rw [ql2, List.map_append, List.map_cons, qc]; exact f_pil_mid (by rw [List.length_map]; exact iv0_0.1) iv0_5 iv0_6)
            · exact f_lrS_mem iv1_0.1 iv1_5
          · exfalso
            omega
        · have qc0 : f_cl w r p = f_call w r p := if_pos (by omega)
          refine ax_aload_n dX6_lineUp_25 rfl rfl (pc' := 26) rfl ?_
          refine ax_iload_n dX6_lineUp_26 rfl rfl (pc' := 27) rfl ?_
          refine ax_invG [.inl p] [] dX6_lineUp_27 mlX6_34 hg0.1 rfl rfl rfl (Nat.le_of_ble_eq_true rfl) (s_X7_callAt E l _ (by omega) _ a p w r (by first | omega | assumption) (f_rm_fr (M := M) (fun x0 i0 hx => ((fr1 x0 i0 (by omega)).trans (ax_up_miss (by omega) rfl))) hg1) (by first | omega | assumption) (by first | omega | assumption) (by first | omega | assumption)) (pc' := 30) rfl (fun vv M_27 hq co27 hcm27 => ?_)
          obtain ⟨rfl, rfl, fa27_0⟩ := hq
          refine ax_reS (st2 := [.inl (f_call w r p)]) rfl ?_
          have cc27 : -2147483648 ≤ f_call w r p ∧ f_call w r p < 2147483648 := co27 _ rfl
          refine ax_goto dX6_lineUp_30 (pc' := 34) (by decide) ?_
          refine ax_istore_n dX6_lineUp_34 rfl (by decide) (ls' := [some (.inr 75), some (.inr a), some (.inl p), some (.inl (f_call w r p)), none, none]) rfl (pc' := 35) rfl ?_
          refine ax_iload_n dX6_lineUp_35 rfl rfl (pc' := 36) rfl ?_
          refine ax_iconst dX6_lineUp_36 (by decide) (pc' := 37) rfl ?_
          refine ax_icmp_eq (tgt := 160) dX6_lineUp_37 (by decide) (pc' := 40) rfl (fun h37 => ?_) (fun h37 => ?_)
          · have ql : f_lrS w r p st = st := if_pos (by omega)
            refine ax_iinc dX6_lineUp_160 rfl (by decide) (by omega) (ls' := [some (.inr 75), some (.inr a), some (.inl (p + 1)), some (.inl (f_call w r p)), none, none]) rfl (pc' := 163) rfl ?_
            refine ax_goto dX6_lineUp_163 (pc' := 7) (by decide) ?_
            refine ax_less (ls2 := [some (.inr 75), some (.inr a), some (.inl (p + 1)), none, none, none]) [true, true, true, false, false, false] rfl ?_
            refine ih3 (p + 1) pv1 kv1 n (f_lrS w r p st) M1 ?_ ?_ ?_ ?_ ?_ ?_ ?_ ?_ ?_ ?_ ?_
            · omega
            · intro x0 i0 hai
              exact ((fr1 x0 i0 (fun h => h.elim (fun h => hai (Or.inl h)) (fun h => h.elim (fun h => hai (Or.inr (Or.inl h))) (fun h => hai (Or.inr (Or.inr h)))))).trans rfl)
            · exact mr1_76
            · exact mr1_77
            · exact ms1_75_4
            · omega
            · exact f_loop_back (by omega) iv1_1 rfl
            · first
                | (rw [ql]; omega)
                | (rw [ql2, List.length_append, List.length_cons]; omega)
            · first
                | (rw [ql]; exact iv1_3)
                | (rw [ql2]; exact f_pil_mid iv0_0.1 iv0_1 iv0_2)
            · first
                | (rw [ql]; exact iv1_4)
                | (rw [ql2, List.map_append, List.map_cons, qc]; exact f_pil_mid (by rw [List.length_map]; exact iv0_0.1) iv0_5 iv0_6)
            · exact f_lrS_mem iv1_0.1 iv1_5
          · have qc : f_cl w r p = f_call w r p := by omega
            have ql3 : f_lrS w r p st = f_ins w r p st := if_neg (by omega)
            have qcr := f_cl_nz (w := w) (r := r) (p := p) (by omega)
            rw [qc] at qcr
            have qs0 := ((qp p (by omega) (by omega)).2 (f_call w r p) (by omega) (by omega)).2 qcr.2.1
            refine ax_aload_n dX6_lineUp_40 rfl rfl (pc' := 41) rfl ?_
            refine ax_getr (v := a + 3) dX6_lineUp_41 flX6_38 rfl hg0.1 rfl (pc' := 44) rfl ?_
            refine ax_iload_n dX6_lineUp_44 rfl rfl (pc' := 45) rfl ?_
            refine ax_bipush dX6_lineUp_45 (by decide) (pc' := 47) rfl ?_
            refine ax_imul dX6_lineUp_47 (by omega) (pc' := 48) rfl ?_
            refine ax_iload_n dX6_lineUp_48 rfl rfl (pc' := 49) rfl ?_
            refine ax_iadd dX6_lineUp_49 (by omega) (pc' := 50) rfl ?_
            refine ax_iald (v := (M (a + 3)) (p * 6 + (f_call w r p))) dX6_lineUp_50 hg0.2.2.2 rfl (by omega) (by omega) ((congrFun ((funext fun i0 => fr1 (a + 3) i0 (by omega)).trans (ax_up_rowmiss (by omega) rfl)) (p * 6 + (f_call w r p))).trans rfl) (pc' := 51) rfl ?_
            refine ax_reS (st2 := [.inl (f_P w r p (7 + f_call w r p))]) (congrArg (fun z => Sum.inl z :: _) (by exact qs0)) ?_
            refine ax_istore dX6_lineUp_51 (by decide) (ls' := [some (.inr 75), some (.inr a), some (.inl p), some (.inl (f_call w r p)), some (.inl (f_P w r p (7 + f_call w r p))), none]) rfl (pc' := 53) rfl ?_
            refine ax_aload_n dX6_lineUp_53 rfl rfl (pc' := 54) rfl ?_
            refine ax_geti (v := n) dX6_lineUp_54 flX6_22 rfl sh_75 ms1_75_4 rfl (pc' := 57) rfl ?_
            refine ax_istore dX6_lineUp_57 (by decide) (ls' := [some (.inr 75), some (.inr a), some (.inl p), some (.inl (f_call w r p)), some (.inl (f_P w r p (7 + f_call w r p))), some (.inl n)]) rfl (pc' := 59) rfl ?_
            have LP4 : ∀ (kq5 : Nat) (i : Int) (pv2 kv2 : Int → Int) (up : List Int) (dn : List Int) (M4 : ax_Mem) (hm4 : i < (kq5 : Nat)) (fr4 : ∀ x0 i0 : Int, ¬ (x0 = 76 ∨ x0 = 77) → M4 x0 i0 = M1 x0 i0) (mr4_76 : M4 76 = pv2) (mr4_77 : M4 77 = kv2) (iv4_0 : i = (dn.length : Int) ∧ i + (up.length : Int) = n) (iv4_1 : f_pil pv2 dn) (iv4_2 : f_pil2 pv2 (i + 1) up) (iv4_3 : f_ins w r p st = up ++ f_ins w r p dn) (iv4_4 : ∀ q ∈ dn, 0 ≤ q ∧ q < p ∧ f_cl w r q ≠ -1) (iv4_5 : f_pil kv2 (dn.map (f_cl w r))) (iv4_6 : f_pil2 kv2 (i + 1) (up.map (f_cl w r))), ax_W E l (d + 1) 0 0 iX6_lineUp 59 [some (.inr 75), some (.inr a), some (.inl p), some (.inl (f_call w r p)), some (.inl (f_P w r p (7 + f_call w r p))), some (.inl i)] [] SH M4 (ax_P (fun z0 M2 => z0 = none ∧ (∀ x0 i0 : Int, ¬ (x0 = 76 ∨ x0 = 77 ∨ (x0 = 75 ∧ i0 = 4)) → M2 x0 i0 = M x0 i0) ∧ (f_pil (M2 76) (f_lrow w r)) ∧ (f_pil (M2 77) ((f_lrow w r).map (f_cl w r))) ∧ (M2 75 4 = ((f_lrow w r).length : Int)) ∧ (((f_lrow w r).length : Int) ≤ 24))) := by
              intro kq5
              induction kq5 with
              | zero =>
                intro i pv2 kv2 up dn M4 hm4 fr4 mr4_76 mr4_77 iv4_0 iv4_1 iv4_2 iv4_3 iv4_4 iv4_5 iv4_6
                exfalso
                omega
              | succ kq5 ih6 =>
                intro i pv2 kv2 up dn M4 hm4 fr4 mr4_76 mr4_77 iv4_0 iv4_1 iv4_2 iv4_3 iv4_4 iv4_5 iv4_6
                refine ax_iload dX6_lineUp_59 rfl (pc' := 61) rfl ?_
                refine ax_if_le (tgt := 134) dX6_lineUp_61 (by decide) (pc' := 64) rfl (fun h61 => ?_) (fun h61 => ?_)
                · have qd : dn = [] := List.eq_nil_of_length_eq_zero (by omega)
                  have qi : f_ins w r p dn = p :: dn := by rw [qd]; rfl
                  have ql2 : f_lrS w r p st = up ++ p :: dn := by rw [ql3, iv4_3, qi]
                  refine ax_aload_n dX6_lineUp_134 rfl rfl (pc' := 135) rfl ?_
                  refine ax_getr (v := 76) dX6_lineUp_135 flX6_9 rfl sh_75 rfl (pc' := 138) rfl ?_
                  refine ax_iload dX6_lineUp_138 rfl (pc' := 140) rfl ?_
                  refine ax_iload_n dX6_lineUp_140 rfl rfl (pc' := 141) rfl ?_
                  refine ax_iast dX6_lineUp_141 sh_76 rfl (by omega) (by omega) (pc' := 142) rfl ?_
                  refine ax_aload_n dX6_lineUp_142 rfl rfl (pc' := 143) rfl ?_
                  refine ax_getr (v := 77) dX6_lineUp_143 flX6_15 rfl sh_75 rfl (pc' := 146) rfl ?_
                  refine ax_iload dX6_lineUp_146 rfl (pc' := 148) rfl ?_
                  refine ax_iload_n dX6_lineUp_148 rfl rfl (pc' := 149) rfl ?_
                  refine ax_iast dX6_lineUp_149 sh_77 rfl (by omega) (by omega) (pc' := 150) rfl ?_
                  refine ax_aload_n dX6_lineUp_150 rfl rfl (pc' := 151) rfl ?_
                  refine ax_dup dX6_lineUp_151 (pc' := 152) rfl ?_
                  refine ax_geti (v := n) dX6_lineUp_152 flX6_22 rfl sh_75 (show (ax_up (ax_up M4 76 i p) 77 i (f_call w r p)) 75 4 = n from (ax_up_miss (fun h => absurd h.1 (by decide)) (ax_up_miss (fun h => absurd h.1 (by decide)) ((fr4 75 4 (fun h => h.elim (fun h => absurd h (by decide)) (fun h => absurd h (by decide)))).trans ms1_75_4)))) rfl (pc' := 155) rfl ?_
                  refine ax_iconst dX6_lineUp_155 (by decide) (pc' := 156) rfl ?_
                  refine ax_iadd dX6_lineUp_156 (by omega) (pc' := 157) rfl ?_
                  refine ax_puti dX6_lineUp_157 flX6_22 (Or.inl rfl) sh_75 rfl (pc' := 160) rfl ?_
                  refine ax_iinc dX6_lineUp_160 rfl (by decide) (by omega) (ls' := [some (.inr 75), some (.inr a), some (.inl (p + 1)), some (.inl (f_call w r p)), some (.inl (f_P w r p (7 + f_call w r p))), some (.inl i)]) rfl (pc' := 163) rfl ?_
                  refine ax_goto dX6_lineUp_163 (pc' := 7) (by decide) ?_
                  refine ax_less (ls2 := [some (.inr 75), some (.inr a), some (.inl (p + 1)), none, none, none]) [true, true, true, false, false, false] rfl ?_
                  refine ih3 (p + 1) (f_up pv2 i p) (f_up kv2 i (f_call w r p)) (n + 1) (f_lrS w r p st) (ax_up (ax_up (ax_up M4 76 i p) 77 i (f_call w r p)) 75 4 (n + 1)) ?_ ?_ ?_ ?_ ?_ ?_ ?_ ?_ ?_ ?_ ?_
                  · omega
                  · intro x0 i0 hai
                    exact (ax_up_miss (fun h => hai (Or.inr (Or.inr h))) (ax_up_miss (fun h => hai (Or.inr (Or.inl h.1))) (ax_up_miss (fun h => hai (Or.inl h.1)) ((fr4 x0 i0 (fun h => h.elim (fun h => hai (Or.inl h)) (fun h => hai (Or.inr (Or.inl h))))).trans ((fr1 x0 i0 (fun h => h.elim (fun h => hai (Or.inl h)) (fun h => h.elim (fun h => hai (Or.inr (Or.inl h))) (fun h => hai (Or.inr (Or.inr h)))))).trans rfl)))))
                  · exact (ax_up_rowmiss (by decide) (ax_up_rowmiss (by decide) (ax_up_rowhit mr4_76)))
                  · exact (ax_up_rowmiss (by decide) (ax_up_rowhit (ax_up_rowmiss (by decide) mr4_77)))
                  · exact (ax_up_hit _ _ _ _)
                  · omega
                  · exact f_loop_back (by omega) iv1_1 rfl
                  · first
                      | (rw [ql]; omega)
                      | (rw [ql2, List.length_append, List.length_cons]; omega)
                  · first
                      | (rw [ql]; exact iv1_3)
                      | (rw [ql2]; exact f_pil_mid iv4_0.1 iv4_1 iv4_2)
                  · first
                      | (rw [ql]; exact iv1_4)
                      | (rw [ql2, List.map_append, List.map_cons, qc]; exact f_pil_mid (by rw [List.length_map]; exact iv4_0.1) iv4_5 iv4_6)
                  · exact f_lrS_mem iv1_0.1 iv1_5
                · obtain ⟨q7, dn7, qd⟩ : ∃ x0 y0, dn = x0 :: y0 := by
                    cases dn with
                    | nil =>
                      simp only [List.length_nil] at iv4_0
                      omega
                    | cons x0 y0 => exact ⟨x0, y0, rfl⟩
                  have qd1 : f_pil pv2 (q7 :: dn7) := qd ▸ iv4_1
                  have qe1 : f_pil kv2 (f_cl w r q7 :: dn7.map (f_cl w r)) := by
                    have q := iv4_5
                    rw [qd] at q
                    exact q
                  have qd2 : dn.length = dn7.length + 1 := by rw [qd]; rfl
                  have qd3 : pv2 (i - 1) = q7 := by rw [show i - 1 = (dn7.length : Int) by omega]; exact qd1.1
                  have qe3 : kv2 (i - 1) = f_cl w r q7 := by
                    have q := qe1.1
                    rw [List.length_map] at q
                    rw [show i - 1 = (dn7.length : Int) by omega]
                    exact q
                  have qd4 := iv4_4 q7 (qd ▸ List.mem_cons_self)
                  have qd5 := f_cl_nz qd4.2.2
                  have qs7 := ((qp q7 (by omega) (by omega)).2 (f_cl w r q7) (by omega) (by omega)).2 qd5.2.1
                  refine ax_aload_n dX6_lineUp_64 rfl rfl (pc' := 65) rfl ?_
                  refine ax_getr (v := a + 3) dX6_lineUp_65 flX6_38 rfl hg0.1 rfl (pc' := 68) rfl ?_
                  refine ax_aload_n dX6_lineUp_68 rfl rfl (pc' := 69) rfl ?_
                  refine ax_getr (v := 76) dX6_lineUp_69 flX6_9 rfl sh_75 rfl (pc' := 72) rfl ?_
                  refine ax_iload dX6_lineUp_72 rfl (pc' := 74) rfl ?_
                  refine ax_iconst dX6_lineUp_74 (by decide) (pc' := 75) rfl ?_
                  refine ax_isub dX6_lineUp_75 (by omega) (pc' := 76) rfl ?_
                  refine ax_iald (v := pv2 (i - 1)) dX6_lineUp_76 sh_76 rfl (by omega) (by omega) ((congrFun mr4_76 (i - 1)).trans rfl) (pc' := 77) rfl ?_
                  refine ax_reS (st2 := [.inl q7, .inr (a + 3)]) (congrArg (fun z => Sum.inl z :: _) (by exact qd3)) ?_
                  refine ax_bipush dX6_lineUp_77 (by decide) (pc' := 79) rfl ?_
                  refine ax_imul dX6_lineUp_79 (by omega) (pc' := 80) rfl ?_
                  refine ax_aload_n dX6_lineUp_80 rfl rfl (pc' := 81) rfl ?_
                  refine ax_getr (v := 77) dX6_lineUp_81 flX6_15 rfl sh_75 rfl (pc' := 84) rfl ?_
                  refine ax_iload dX6_lineUp_84 rfl (pc' := 86) rfl ?_
                  refine ax_iconst dX6_lineUp_86 (by decide) (pc' := 87) rfl ?_
                  refine ax_isub dX6_lineUp_87 (by omega) (pc' := 88) rfl ?_
                  refine ax_iald (v := kv2 (i - 1)) dX6_lineUp_88 sh_77 rfl (by omega) (by omega) ((congrFun mr4_77 (i - 1)).trans rfl) (pc' := 89) rfl ?_
                  refine ax_reS (st2 := [.inl (f_cl w r q7), .inl (q7 * 6), .inr (a + 3)]) (congrArg (fun z => Sum.inl z :: _) (by exact qe3)) ?_
                  refine ax_iadd dX6_lineUp_89 (by omega) (pc' := 90) rfl ?_
                  refine ax_iald (v := (M (a + 3)) (q7 * 6 + (f_cl w r q7))) dX6_lineUp_90 hg0.2.2.2 rfl (by omega) (by omega) ((congrFun ((funext fun i0 => fr4 (a + 3) i0 (by omega)).trans ((funext fun i0 => fr1 (a + 3) i0 (by omega)).trans (ax_up_rowmiss (by omega) rfl))) (q7 * 6 + (f_cl w r q7))).trans rfl) (pc' := 91) rfl ?_
                  refine ax_reS (st2 := [.inl (f_P w r q7 (7 + f_cl w r q7))]) (congrArg (fun z => Sum.inl z :: _) (by exact qs7)) ?_
                  refine ax_iload dX6_lineUp_91 rfl (pc' := 93) rfl ?_
                  refine ax_icmp_le (tgt := 134) dX6_lineUp_93 (by decide) (pc' := 96) rfl (fun h93 => ?_) (fun h93 => ?_)
                  · have qi : f_ins w r p dn = p :: dn := by
                      rw [qd]
                      exact if_neg (by unfold f_ah; rw [qc]; omega)
                    have ql2 : f_lrS w r p st = up ++ p :: dn := by rw [ql3, iv4_3, qi]
                    refine ax_aload_n dX6_lineUp_134 rfl rfl (pc' := 135) rfl ?_
                    refine ax_getr (v := 76) dX6_lineUp_135 flX6_9 rfl sh_75 rfl (pc' := 138) rfl ?_
                    refine ax_iload dX6_lineUp_138 rfl (pc' := 140) rfl ?_
                    refine ax_iload_n dX6_lineUp_140 rfl rfl (pc' := 141) rfl ?_
                    refine ax_iast dX6_lineUp_141 sh_76 rfl (by omega) (by omega) (pc' := 142) rfl ?_
                    refine ax_aload_n dX6_lineUp_142 rfl rfl (pc' := 143) rfl ?_
                    refine ax_getr (v := 77) dX6_lineUp_143 flX6_15 rfl sh_75 rfl (pc' := 146) rfl ?_
                    refine ax_iload dX6_lineUp_146 rfl (pc' := 148) rfl ?_
                    refine ax_iload_n dX6_lineUp_148 rfl rfl (pc' := 149) rfl ?_
                    refine ax_iast dX6_lineUp_149 sh_77 rfl (by omega) (by omega) (pc' := 150) rfl ?_
                    refine ax_aload_n dX6_lineUp_150 rfl rfl (pc' := 151) rfl ?_
                    refine ax_dup dX6_lineUp_151 (pc' := 152) rfl ?_
                    refine ax_geti (v := n) dX6_lineUp_152 flX6_22 rfl sh_75 (show (ax_up (ax_up M4 76 i p) 77 i (f_call w r p)) 75 4 = n from (ax_up_miss (fun h => absurd h.1 (by decide)) (ax_up_miss (fun h => absurd h.1 (by decide)) ((fr4 75 4 (fun h => h.elim (fun h => absurd h (by decide)) (fun h => absurd h (by decide)))).trans ms1_75_4)))) rfl (pc' := 155) rfl ?_
                    refine ax_iconst dX6_lineUp_155 (by decide) (pc' := 156) rfl ?_
                    refine ax_iadd dX6_lineUp_156 (by omega) (pc' := 157) rfl ?_
                    refine ax_puti dX6_lineUp_157 flX6_22 (Or.inl rfl) sh_75 rfl (pc' := 160) rfl ?_
                    refine ax_iinc dX6_lineUp_160 rfl (by decide) (by omega) (ls' := [some (.inr 75), some (.inr a), some (.inl (p + 1)), some (.inl (f_call w r p)), some (.inl (f_P w r p (7 + f_call w r p))), some (.inl i)]) rfl (pc' := 163) rfl ?_
                    refine ax_goto dX6_lineUp_163 (pc' := 7) (by decide) ?_
                    refine ax_less (ls2 := [some (.inr 75), some (.inr a), some (.inl (p + 1)), none, none, none]) [true, true, true, false, false, false] rfl ?_
                    refine ih3 (p + 1) (f_up pv2 i p) (f_up kv2 i (f_call w r p)) (n + 1) (f_lrS w r p st) (ax_up (ax_up (ax_up M4 76 i p) 77 i (f_call w r p)) 75 4 (n + 1)) ?_ ?_ ?_ ?_ ?_ ?_ ?_ ?_ ?_ ?_ ?_
                    · omega
                    · intro x0 i0 hai
                      exact (ax_up_miss (fun h => hai (Or.inr (Or.inr h))) (ax_up_miss (fun h => hai (Or.inr (Or.inl h.1))) (ax_up_miss (fun h => hai (Or.inl h.1)) ((fr4 x0 i0 (fun h => h.elim (fun h => hai (Or.inl h)) (fun h => hai (Or.inr (Or.inl h))))).trans ((fr1 x0 i0 (fun h => h.elim (fun h => hai (Or.inl h)) (fun h => h.elim (fun h => hai (Or.inr (Or.inl h))) (fun h => hai (Or.inr (Or.inr h)))))).trans rfl)))))
                    · exact (ax_up_rowmiss (by decide) (ax_up_rowmiss (by decide) (ax_up_rowhit mr4_76)))
                    · exact (ax_up_rowmiss (by decide) (ax_up_rowhit (ax_up_rowmiss (by decide) mr4_77)))
                    · exact (ax_up_hit _ _ _ _)
                    · omega
                    · exact f_loop_back (by omega) iv1_1 rfl
                    · first
                        | (rw [ql]; omega)
                        | (rw [ql2, List.length_append, List.length_cons]; omega)
                    · first
                        | (rw [ql]; exact iv1_3)
                        | (rw [ql2]; exact f_pil_mid iv4_0.1 iv4_1 iv4_2)
                    · first
                        | (rw [ql]; exact iv1_4)
                        | (rw [ql2, List.map_append, List.map_cons, qc]; exact f_pil_mid (by rw [List.length_map]; exact iv4_0.1) iv4_5 iv4_6)
                    · exact f_lrS_mem iv1_0.1 iv1_5
                  · have qah : f_ah w r p q7 := by
                      unfold f_ah
                      rw [qc]
                      omega
                    refine ax_aload_n dX6_lineUp_96 rfl rfl (pc' := 97) rfl ?_
                    refine ax_getr (v := 76) dX6_lineUp_97 flX6_9 rfl sh_75 rfl (pc' := 100) rfl ?_
                    refine ax_iload dX6_lineUp_100 rfl (pc' := 102) rfl ?_
                    refine ax_aload_n dX6_lineUp_102 rfl rfl (pc' := 103) rfl ?_
                    refine ax_getr (v := 76) dX6_lineUp_103 flX6_9 rfl sh_75 rfl (pc' := 106) rfl ?_
                    refine ax_iload dX6_lineUp_106 rfl (pc' := 108) rfl ?_
                    refine ax_iconst dX6_lineUp_108 (by decide) (pc' := 109) rfl ?_
                    refine ax_isub dX6_lineUp_109 (by omega) (pc' := 110) rfl ?_
                    refine ax_iald (v := pv2 (i - 1)) dX6_lineUp_110 sh_76 rfl (by omega) (by omega) ((congrFun mr4_76 (i - 1)).trans rfl) (pc' := 111) rfl ?_
                    refine ax_reS (st2 := [.inl q7, .inl i, .inr 76]) (congrArg (fun z => Sum.inl z :: _) (by exact qd3)) ?_
                    refine ax_iast dX6_lineUp_111 sh_76 rfl (by omega) (by omega) (pc' := 112) rfl ?_
                    refine ax_aload_n dX6_lineUp_112 rfl rfl (pc' := 113) rfl ?_
                    refine ax_getr (v := 77) dX6_lineUp_113 flX6_15 rfl sh_75 rfl (pc' := 116) rfl ?_
                    refine ax_iload dX6_lineUp_116 rfl (pc' := 118) rfl ?_
                    refine ax_aload_n dX6_lineUp_118 rfl rfl (pc' := 119) rfl ?_
                    refine ax_getr (v := 77) dX6_lineUp_119 flX6_15 rfl sh_75 rfl (pc' := 122) rfl ?_
                    refine ax_iload dX6_lineUp_122 rfl (pc' := 124) rfl ?_
                    refine ax_iconst dX6_lineUp_124 (by decide) (pc' := 125) rfl ?_
                    refine ax_isub dX6_lineUp_125 (by omega) (pc' := 126) rfl ?_
                    refine ax_iald (v := kv2 (i - 1)) dX6_lineUp_126 sh_77 rfl (by omega) (by omega) ((congrFun (ax_up_rowmiss (by decide) mr4_77) (i - 1)).trans rfl) (pc' := 127) rfl ?_
                    refine ax_reS (st2 := [.inl (f_cl w r q7), .inl i, .inr 77]) (congrArg (fun z => Sum.inl z :: _) (by exact qe3)) ?_
                    refine ax_iast dX6_lineUp_127 sh_77 rfl (by omega) (by omega) (pc' := 128) rfl ?_
                    refine ax_iinc dX6_lineUp_128 rfl (by decide) (by omega) (ls' := [some (.inr 75), some (.inr a), some (.inl p), some (.inl (f_call w r p)), some (.inl (f_P w r p (7 + f_call w r p))), some (.inl (i + (-1)))]) rfl (pc' := 131) rfl ?_
                    refine ax_goto dX6_lineUp_131 (pc' := 59) (by decide) ?_
                    refine ih6 (i + (-1)) (f_up pv2 i q7) (f_up kv2 i (f_cl w r q7)) (up ++ [q7]) dn7 (ax_up (ax_up M4 76 i q7) 77 i (f_cl w r q7)) ?_ ?_ ?_ ?_ ?_ ?_ ?_ ?_ ?_ ?_ ?_
                    · omega
                    · intro x0 i0 hai
                      exact (ax_up_miss (fun h => hai (Or.inr h.1)) (ax_up_miss (fun h => hai (Or.inl h.1)) ((fr4 x0 i0 (fun h => h.elim (fun h => hai (Or.inl h)) (fun h => hai (Or.inr h)))).trans rfl)))
                    · exact (ax_up_rowmiss (by decide) (ax_up_rowhit mr4_76))
                    · exact (ax_up_rowhit (ax_up_rowmiss (by decide) mr4_77))
                    · rw [List.length_append, List.length_singleton]
                      omega
                    · exact f_pil_up (by omega) qd1.2
                    · rw [show i + (-1) + 1 = i by omega]
                      exact f_pil2_app (f_up_same _ _ _) (f_pil2_up (by omega) iv4_2)
                    · rw [iv4_3, qd, show f_ins w r p (q7 :: dn7) = q7 :: f_ins w r p dn7 from if_pos qah, List.append_assoc]
                      rfl
                    · exact fun q hq => iv4_4 q (qd ▸ List.mem_cons_of_mem _ hq)
                    · exact f_pil_up (by rw [List.length_map]; omega) qe1.2
                    · rw [show i + (-1) + 1 = i by omega, List.map_append]
                      exact f_pil2_app (f_up_same _ _ _) (f_pil2_up (by omega) iv4_6)
            refine LP4 (n : Int).toNat.succ n pv1 kv1 ([]) st M1 ?_ ?_ ?_ ?_ ?_ ?_ ?_ ?_ ?_ ?_ ?_
            · omega
            · exact fun a i _ => rfl
            · exact mr1_76
            · exact mr1_77
            · simp only [List.length_nil]
              omega
            · exact iv1_3
            · trivial
            · rfl
            · exact iv1_5
            · exact iv1_4
            · trivial
  refine LP1 (f_R w r 1 - 0 : Int).toNat.succ 0 (M 76) (M 77) 0 ([]) (ax_up M 75 4 0) ?_ ?_ ?_ ?_ ?_ ?_ ?_ ?_ ?_ ?_ ?_
  · omega
  · exact fun a i _ => rfl
  · exact (ax_up_rowmiss (by decide) rfl)
  · exact (ax_up_rowmiss (by decide) rfl)
  · exact (ax_up_hit _ _ _ _)
  · omega
  · rfl
  · exact ⟨rfl, Int.le_refl 0⟩
  · trivial
  · trivial
  · exact fun q hq => absurd hq List.not_mem_nil
