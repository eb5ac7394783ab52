/-! the class reads shapes and texts -/
theorem f_up_up {f : Int → Int} {k x y : Int} : f_up (f_up f k x) k y = f_up f k y := by
  funext i
  unfold f_up
  split <;> rfl
theorem f_pi_lt : ∀ (l : List Int) (cd : Int → Int) (n x : Int), x < n → f_pi cd n l x = cd x
  | [], _, _, _, _ => rfl
  | y :: tl, cd, n, x, h => by
    show f_pi (f_up cd n y) (n + 1) tl x = cd x
    rw [f_pi_lt tl _ (n + 1) x (by omega)]
    exact f_up_ne (by omega) rfl
theorem f_fwd_pi : ∀ (l : List Int) (cd : Int → Int) (n : Int), f_fwd (f_pi cd n l) n l
  | [], _, _ => trivial
  | y :: tl, cd, n => ⟨(f_pi_lt tl _ (n + 1) n (by omega)).trans (f_up_same _ _ _), f_fwd_pi tl (f_up cd n y) (n + 1)⟩
def f_hco (lt lc : Int → Int) (x2 x3 k : Int) (r : f_Rh) (M2 : ax_Mem) : Prop := match r with
  | .inl (a, s) => (M2 58 2 = a ∧ M2 58 3 = s) ∧ M2 47 = lt ∧ M2 48 = lc
  | .inr ls => (M2 58 2 = x2 ∧ M2 58 3 = x3) ∧ M2 47 = f_putS lt (k * 7) ls ∧ M2 48 = f_up lc k (ls.length : Int) ∧ ls.length ≤ 7
def f_tcL (M : ax_Mem) (k : Int) (r : f_Rw) (M2 : ax_Mem) : Prop := match r with
  | .inl (a, s) => (M2 58 2 = a ∧ M2 58 3 = s) ∧ M2 (52 + 2 * k) 0 = M (52 + 2 * k) 0 ∧ M2 (52 + 2 * k) 1 = M (52 + 2 * k) 1 ∧ M2 (53 + 2 * k) = M (53 + 2 * k)
  | .inr ls => (M2 58 2 = 0 ∧ M2 58 3 = -1) ∧ M2 (52 + 2 * k) 0 = (ls.length : Int) ∧ M2 (52 + 2 * k) 1 = ((f_enLs k ls).length : Int) ∧ (f_enLs k ls).length ≤ 400 ∧ f_fwd (M2 (53 + 2 * k)) 0 (f_enLs k ls)
def f_tcD (M : ax_Mem) (r : f_Rq) (M2 : ax_Mem) : Prop := match r with
  | .inl (a, s) => (M2 58 2 = a ∧ M2 58 3 = s) ∧ M2 41 0 = M 41 0 ∧ M2 42 = M 42 ∧ M2 43 = M 43 ∧ M2 44 = M 44
  | .inr ss => (M2 58 2 = 0 ∧ M2 58 3 = -1) ∧ M2 41 0 = (ss.length : Int) ∧ f_dw (M2 42) (M2 43) (M2 44) ss
theorem f_dw_cp {K F S k2 f2 s2 : Int → Int} {ss : List f_Sp} (h : f_dw K F S ss) (hl : ss.length ≤ 150) : f_dw (f_cp K 0 k2 0 150) (f_cp F 0 f2 0 150) (f_cp S 0 s2 0 150) ss := by
  intro i s hs
  have h1 := (List.getElem?_eq_some_iff.mp hs).1
  rw [f_cp_in ⟨by omega, by omega⟩, f_cp_in ⟨by omega, by omega⟩, f_cp_in ⟨by omega, by omega⟩]
  exact h i s hs
set_option maxRecDepth 20000 in
theorem s_X4_letterFor (E : ax_Env) (l : Launch) (d : Nat) (hd : 0 ≤ d) (M : ax_Mem) (c : Int) : ax_G E l d iX4_letterFor [.inl c] M (fun z0 M2 => z0 = some (.inl (f_ltr c)) ∧ M = M2) := by
  refine ax_start rfl (Nat.le_of_ble_eq_true rfl) (ls := [some (.inl c)]) rfl (fun hav hcm => ?_)
  have hc0 : -2147483648 ≤ c ∧ c < 2147483648 := hav (.inl c) (by simp)
  clear hav
  refine ax_iload_n dX4_letterFor_0 rfl rfl (pc' := 1) rfl ?_
  by_cases h1_111 : c = 111
  · refine ax_reS (st2 := [.inl 111]) (by rw [h1_111]) ?_
    refine ax_look (tgt := 36) dX4_letterFor_1 (by decide) rfl (by decide) ?_
    refine ax_iconst dX4_letterFor_36 (by decide) (pc' := 37) rfl ?_
    refine ax_iret dX4_letterFor_37 rfl ?_
    refine ⟨rfl, ?_, ?_⟩
    · refine congrArg (fun z => some (Sum.inl z)) ?_
      unfold f_ltr
      repeat' split
      all_goals first | rfl | omega | (exfalso; omega)
    · rfl
  by_cases h1_116 : c = 116
  · refine ax_reS (st2 := [.inl 116]) (by rw [h1_116]) ?_
    refine ax_look (tgt := 40) dX4_letterFor_1 (by decide) rfl (by decide) ?_
    refine ax_iconst dX4_letterFor_40 (by decide) (pc' := 41) rfl ?_
    refine ax_iret dX4_letterFor_41 rfl ?_
    refine ⟨rfl, ?_, ?_⟩
    · refine congrArg (fun z => some (Sum.inl z)) ?_
      unfold f_ltr
      repeat' split
      all_goals first | rfl | omega | (exfalso; omega)
    · rfl
  by_cases h1_117 : c = 117
  · refine ax_reS (st2 := [.inl 117]) (by rw [h1_117]) ?_
    refine ax_look (tgt := 38) dX4_letterFor_1 (by decide) rfl (by decide) ?_
    refine ax_iconst dX4_letterFor_38 (by decide) (pc' := 39) rfl ?_
    refine ax_iret dX4_letterFor_39 rfl ?_
    refine ⟨rfl, ?_, ?_⟩
    · refine congrArg (fun z => some (Sum.inl z)) ?_
      unfold f_ltr
      repeat' split
      all_goals first | rfl | omega | (exfalso; omega)
    · rfl
  refine ax_look (tgt := 42) (off := 41) dX4_letterFor_1 (by decide) (by simp [Op.lookupswitch.offset, h1_111, (show ¬ ((111 : Int) = c) from fun z => h1_111 z.symm), h1_116, (show ¬ ((116 : Int) = c) from fun z => h1_116 z.symm), h1_117, (show ¬ ((117 : Int) = c) from fun z => h1_117 z.symm)]) (by decide) ?_
  refine ax_iconst dX4_letterFor_42 (by decide) (pc' := 43) rfl ?_
  refine ax_iret dX4_letterFor_43 rfl ?_
  refine ⟨rfl, ?_, ?_⟩
  · refine congrArg (fun z => some (Sum.inl z)) ?_
    unfold f_ltr
    repeat' split
    all_goals first | rfl | omega | (exfalso; omega)
  · rfl
set_option maxRecDepth 20000 in
theorem s_X4_readLetters (E : ax_Env) (l : Launch) (d : Nat) (hd : 1 ≤ d) (M : ax_Mem) (k : Int) {ta : Int → Int} (hta : M 59 = ta) {lt : Int → Int} (hlt : M 47 = lt) {lc : Int → Int} (hlc : M 48 = lc) {tn : Int} (htn : M 58 1 = tn) {x2 : Int} (hx2 : M 58 2 = x2) {x3 : Int} (hx3 : M 58 3 = x3) (hg0 : 0 ≤ k ∧ k < 4) (hg1 : 0 ≤ tn ∧ tn ≤ 400) : ax_G E l d iX4_readLetters [.inr 39, .inl k, .inr 58] M (fun z0 M2 => z0 = some (.inl (f_thr (f_rshp ta tn))) ∧ (∀ x0 i0 : Int, ¬ (x0 = 47 ∨ x0 = 48 ∨ (x0 = 58 ∧ i0 = 2) ∨ (x0 = 58 ∧ i0 = 3)) → M2 x0 i0 = M x0 i0) ∧ (f_hco lt lc x2 x3 k (f_rshp ta tn) M2)) := by
  obtain ⟨d, rfl⟩ : ∃ d0, d = d0 + 1 := ⟨d - 1, by omega⟩
  refine ax_start rfl (Nat.le_of_ble_eq_true rfl) (ls := [some (.inr 39), some (.inl k), some (.inr 58), none, none, none]) rfl (fun hav hcm => ?_)
  have hc1 : -2147483648 ≤ k ∧ k < 2147483648 := hav (.inl k) (by simp)
  clear hav
  refine ax_iconst dX4_readLetters_0 (by decide) (pc' := 1) rfl ?_
  refine ax_istore_n dX4_readLetters_1 rfl (by decide) (ls' := [some (.inr 39), some (.inl k), some (.inr 58), some (.inl 0), none, none]) rfl (pc' := 2) rfl ?_
  refine ax_iconst dX4_readLetters_2 (by decide) (pc' := 3) rfl ?_
  refine ax_istore dX4_readLetters_3 (by decide) (ls' := [some (.inr 39), some (.inl k), some (.inr 58), some (.inl 0), some (.inl 0), none]) rfl (pc' := 5) rfl ?_
  have LP1 : ∀ (kq2 : Nat) (mn i : Int) (ls : List Int) (hm1 : tn - i < (kq2 : Nat)) (iv1_0 : 0 ≤ i ∧ i ≤ tn) (iv1_1 : mn = (ls.length : Int) ∧ ls.length ≤ 7) (iv1_2 : f_rshp ta tn = f_rsh ta (tn - i).toNat i ls), ax_W E l (d + 1) 0 0 iX4_readLetters 5 [some (.inr 39), some (.inl k), some (.inr 58), some (.inl mn), some (.inl i), none] [] SH M (ax_P (fun z0 M2 => z0 = some (.inl (f_thr (f_rshp ta tn))) ∧ (∀ x0 i0 : Int, ¬ (x0 = 47 ∨ x0 = 48 ∨ (x0 = 58 ∧ i0 = 2) ∨ (x0 = 58 ∧ i0 = 3)) → M2 x0 i0 = M x0 i0) ∧ (f_hco lt lc x2 x3 k (f_rshp ta tn) M2))) := by
    intro kq2
    induction kq2 with
    | zero =>
      intro mn i ls hm1 iv1_0 iv1_1 iv1_2
      exfalso
      omega
    | succ kq2 ih3 =>
      intro mn i ls hm1 iv1_0 iv1_1 iv1_2
      refine ax_iload dX4_readLetters_5 rfl (pc' := 7) rfl ?_
      refine ax_aload_n dX4_readLetters_7 rfl rfl (pc' := 8) rfl ?_
      refine ax_geti (v := tn) dX4_readLetters_8 flX4_61 rfl sh_58 htn rfl (pc' := 11) rfl ?_
      refine ax_icmp_ge (tgt := 86) dX4_readLetters_11 (by decide) (pc' := 14) rfl (fun h11 => ?_) (fun h11 => ?_)
      · have qz : f_rshp ta tn = .inr ls := by
          rw [iv1_2, f_rsh_end (by omega)]
        refine ax_aload_n dX4_readLetters_86 rfl rfl (pc' := 87) rfl ?_
        refine ax_getr (v := 48) dX4_readLetters_87 flX4_28 rfl sh_39 rfl (pc' := 90) rfl ?_
        refine ax_iload_n dX4_readLetters_90 rfl rfl (pc' := 91) rfl ?_
        refine ax_iconst dX4_readLetters_91 (by decide) (pc' := 92) rfl ?_
        refine ax_iast dX4_readLetters_92 sh_48 rfl (by omega) (by omega) (pc' := 93) rfl ?_
        refine ax_iconst dX4_readLetters_93 (by decide) (pc' := 94) rfl ?_
        refine ax_istore dX4_readLetters_94 (by decide) (ls' := [some (.inr 39), some (.inl k), some (.inr 58), some (.inl mn), some (.inl 0), none]) rfl (pc' := 96) rfl ?_
        have LP4 : ∀ (kq5 : Nat) (j : Int) (l1 c1 : Int → Int) (ls2 : List Int) (M4 : ax_Mem) (hm4 : tn - j < (kq5 : Nat)) (fr4 : ∀ x0 i0 : Int, ¬ (x0 = 47 ∨ x0 = 48) → M4 x0 i0 = (ax_up M 48 k 0) x0 i0) (mr4_47 : M4 47 = l1) (mr4_48 : M4 48 = c1) (iv4_0 : 0 ≤ j ∧ j ≤ tn) (iv4_1 : f_rshp ta tn = f_rsh ta (tn - j).toNat j ls2) (iv4_2 : l1 = f_putS lt (k * 7) ls2 ∧ c1 = f_up lc k (ls2.length : Int) ∧ ls2.length ≤ 7), ax_W E l (d + 1) 0 0 iX4_readLetters 96 [some (.inr 39), some (.inl k), some (.inr 58), some (.inl mn), some (.inl j), none] [] SH M4 (ax_P (fun z0 M2 => z0 = some (.inl (f_thr (f_rshp ta tn))) ∧ (∀ x0 i0 : Int, ¬ (x0 = 47 ∨ x0 = 48 ∨ (x0 = 58 ∧ i0 = 2) ∨ (x0 = 58 ∧ i0 = 3)) → M2 x0 i0 = M x0 i0) ∧ (f_hco lt lc x2 x3 k (f_rshp ta tn) M2))) := by
          intro kq5
          induction kq5 with
          | zero =>
            intro j l1 c1 ls2 M4 hm4 fr4 mr4_47 mr4_48 iv4_0 iv4_1 iv4_2
            exfalso
            omega
          | succ kq5 ih6 =>
            intro j l1 c1 ls2 M4 hm4 fr4 mr4_47 mr4_48 iv4_0 iv4_1 iv4_2
            refine ax_iload dX4_readLetters_96 rfl (pc' := 98) rfl ?_
            refine ax_aload_n dX4_readLetters_98 rfl rfl (pc' := 99) rfl ?_
            refine ax_geti (v := tn) dX4_readLetters_99 flX4_61 rfl sh_58 (show M4 58 1 = tn from ((fr4 58 1 (fun h => h.elim (fun h => absurd h (by decide)) (fun h => absurd h (by decide)))).trans (ax_up_miss (fun h => absurd h.1 (by decide)) htn))) rfl (pc' := 102) rfl ?_
            refine ax_icmp_ge (tgt := 160) dX4_readLetters_102 (by decide) (pc' := 105) rfl (fun h102 => ?_) (fun h102 => ?_)
            · have qz2 : f_rshp ta tn = .inr ls2 := by
                rw [iv4_1, f_rsh_end (by omega)]
              obtain rfl : ls = ls2 := Sum.inr.inj (qz.symm.trans qz2)
              refine ax_iload_n dX4_readLetters_160 rfl rfl (pc' := 161) rfl ?_
              refine ax_iret dX4_readLetters_161 rfl ?_
              refine ⟨rfl, ?_, ?_, ?_⟩
              · refine congrArg (fun z => some (Sum.inl z)) ?_
                rw [qz]
                exact iv1_1.1
              · intro x0 i0 hai
                exact ((fr4 x0 i0 (fun h => h.elim (fun h => hai (Or.inl h)) (fun h => hai (Or.inr (Or.inl h))))).trans (ax_up_miss (fun h => hai (Or.inr (Or.inl h.1))) rfl))
              · rw [qz]
                exact ⟨⟨((fr4 58 2 (fun h => h.elim (fun h => absurd h (by decide)) (fun h => absurd h (by decide)))).trans (ax_up_miss (fun h => absurd h.1 (by decide)) hx2)), ((fr4 58 3 (fun h => h.elim (fun h => absurd h (by decide)) (fun h => absurd h (by decide)))).trans (ax_up_miss (fun h => absurd h.1 (by decide)) hx3))⟩, Eq.trans mr4_47 iv4_2.1, Eq.trans mr4_48 iv4_2.2.1, iv4_2.2.2⟩
            · have qst2 : f_rshp ta tn = _ := iv4_1.trans (f_rsh_stp (by omega))
              refine ax_aload_n dX4_readLetters_105 rfl rfl (pc' := 106) rfl ?_
              refine ax_getr (v := 59) dX4_readLetters_106 flX4_66 rfl sh_58 rfl (pc' := 109) rfl ?_
              refine ax_iload dX4_readLetters_109 rfl (pc' := 111) rfl ?_
              refine ax_iald (v := ta j) dX4_readLetters_111 sh_59 rfl (by omega) (by omega) ((congrFun ((funext fun i0 => fr4 59 i0 (fun h => h.elim (fun h => absurd h (by decide)) (fun h => absurd h (by decide)))).trans (ax_up_rowmiss (by decide) hta)) j).trans rfl) (pc' := 112) rfl ?_
              refine ax_insG [.inl (ta j)] [] dX4_readLetters_112 mlX4_69 rfl rfl (Nat.le_of_ble_eq_true rfl) (s_X8_isBlank E l _ (by omega) _ (ta j)) (pc' := 115) rfl (fun vv M_112 hq co112 hcm112 => ?_)
              obtain ⟨rfl, rfl⟩ := hq
              refine ax_reS (st2 := [.inl (f_b (f_blk (ta j)))]) rfl ?_
              refine ax_if_ne (tgt := 154) dX4_readLetters_115 (by decide) (pc' := 118) rfl (fun h115 => ?_) (fun h115 => ?_)
              · replace h115 := f_b_1 h115
                have qb2 : f_rshp ta tn = f_rsh ta (tn - (j + 1)).toNat (j + 1) ls2 := by
                  rw [qst2, if_pos h115]
                refine ax_iinc dX4_readLetters_154 rfl (by decide) (by omega) (ls' := [some (.inr 39), some (.inl k), some (.inr 58), some (.inl mn), some (.inl (j + 1)), none]) rfl (pc' := 157) rfl ?_
                refine ax_goto dX4_readLetters_157 (pc' := 96) (by decide) ?_
                refine ih6 (j + 1) l1 c1 ls2 M4 ?_ ?_ ?_ ?_ ?_ ?_ ?_
                · omega
                · intro x0 i0 hai
                  exact ((fr4 x0 i0 (fun h => h.elim (fun h => hai (Or.inl h)) (fun h => hai (Or.inr h)))).trans rfl)
                · exact mr4_47
                · exact mr4_48
                · omega
                · exact qb2
                · first | exact iv4_2 | exact qb3
              · replace h115 := f_b_0 h115
                rw [if_neg h115] at qst2
                have ql1 : f_ltr (ta j) ≠ -1 := by
                  intro h
                  rw [if_pos h] at qst2
                  exact absurd (qz.symm.trans qst2) (fun h => by cases h)
                rw [if_neg ql1] at qst2
                have ql2 : (ls2.length : Int) ≠ 7 := by
                  intro h
                  rw [if_pos h] at qst2
                  exact absurd (qz.symm.trans qst2) (fun h => by cases h)
                rw [if_neg ql2] at qst2
                have qb2 := qst2
                have qc1 : c1 k = (ls2.length : Int) := by
                  rw [iv4_2.2.1]
                  exact f_up_same _ _ _
                have qb3 : f_up l1 (k * 7 + (ls2.length : Int)) (f_ltr (ta j)) = f_putS lt (k * 7) (ls2 ++ [f_ltr (ta j)]) ∧ f_up c1 k ((ls2.length : Int) + 1) = f_up lc k ((ls2 ++ [f_ltr (ta j)]).length : Int) ∧ (ls2 ++ [f_ltr (ta j)]).length ≤ 7 := by
                  refine ⟨?_, ?_, ?_⟩
                  · rw [f_putS_snoc, ← iv4_2.1]
                  · rw [iv4_2.2.1, f_up_up, List.length_append, List.length_cons, List.length_nil]
                    rfl
                  · rw [List.length_append, List.length_cons, List.length_nil]
                    omega
                refine ax_aload_n dX4_readLetters_118 rfl rfl (pc' := 119) rfl ?_
                refine ax_getr (v := 47) dX4_readLetters_119 flX4_24 rfl sh_39 rfl (pc' := 122) rfl ?_
                refine ax_iload_n dX4_readLetters_122 rfl rfl (pc' := 123) rfl ?_
                refine ax_bipush dX4_readLetters_123 (by decide) (pc' := 125) rfl ?_
                refine ax_imul dX4_readLetters_125 (by omega) (pc' := 126) rfl ?_
                refine ax_aload_n dX4_readLetters_126 rfl rfl (pc' := 127) rfl ?_
                refine ax_getr (v := 48) dX4_readLetters_127 flX4_28 rfl sh_39 rfl (pc' := 130) rfl ?_
                refine ax_iload_n dX4_readLetters_130 rfl rfl (pc' := 131) rfl ?_
                refine ax_iald (v := c1 k) dX4_readLetters_131 sh_48 rfl (by omega) (by omega) ((congrFun mr4_48 k).trans rfl) (pc' := 132) rfl ?_
                refine ax_reS (st2 := [.inl (ls2.length : Int), .inl (k * 7), .inr 47]) (congrArg (fun z => Sum.inl z :: _) (by exact qc1)) ?_
                refine ax_iadd dX4_readLetters_132 (by omega) (pc' := 133) rfl ?_
                refine ax_aload_n dX4_readLetters_133 rfl rfl (pc' := 134) rfl ?_
                refine ax_getr (v := 59) dX4_readLetters_134 flX4_66 rfl sh_58 rfl (pc' := 137) rfl ?_
                refine ax_iload dX4_readLetters_137 rfl (pc' := 139) rfl ?_
                refine ax_iald (v := ta j) dX4_readLetters_139 sh_59 rfl (by omega) (by omega) ((congrFun ((funext fun i0 => fr4 59 i0 (fun h => h.elim (fun h => absurd h (by decide)) (fun h => absurd h (by decide)))).trans (ax_up_rowmiss (by decide) hta)) j).trans rfl) (pc' := 140) rfl ?_
                refine ax_insG [.inl (ta j)] [.inl (k * 7 + (ls2.length : Int)), .inr 47] dX4_readLetters_140 mlX4_73 rfl rfl (Nat.le_of_ble_eq_true rfl) (s_X4_letterFor E l _ (by omega) _ (ta j)) (pc' := 143) rfl (fun vv M_140 hq co140 hcm140 => ?_)
                obtain ⟨rfl, rfl⟩ := hq
                refine ax_reS (st2 := [.inl (f_ltr (ta j)), .inl (k * 7 + (ls2.length : Int)), .inr 47]) rfl ?_
                have cc140 : -2147483648 ≤ f_ltr (ta j) ∧ f_ltr (ta j) < 2147483648 := co140 _ rfl
                refine ax_iast dX4_readLetters_143 sh_47 rfl (by omega) (by omega) (pc' := 144) rfl ?_
                refine ax_aload_n dX4_readLetters_144 rfl rfl (pc' := 145) rfl ?_
                refine ax_getr (v := 48) dX4_readLetters_145 flX4_28 rfl sh_39 rfl (pc' := 148) rfl ?_
                refine ax_iload_n dX4_readLetters_148 rfl rfl (pc' := 149) rfl ?_
                refine ax_dup2 dX4_readLetters_149 (pc' := 150) rfl ?_
                refine ax_iald (v := c1 k) dX4_readLetters_150 sh_48 rfl (by omega) (by omega) ((congrFun (ax_up_rowmiss (by decide) mr4_48) k).trans rfl) (pc' := 151) rfl ?_
                refine ax_reS (st2 := [.inl (ls2.length : Int), .inl k, .inr 48]) (congrArg (fun z => Sum.inl z :: _) (by exact qc1)) ?_
                refine ax_iconst dX4_readLetters_151 (by decide) (pc' := 152) rfl ?_
                refine ax_iadd dX4_readLetters_152 (by omega) (pc' := 153) rfl ?_
                refine ax_iast dX4_readLetters_153 sh_48 rfl (by omega) (by omega) (pc' := 154) rfl ?_
                refine ax_iinc dX4_readLetters_154 rfl (by decide) (by omega) (ls' := [some (.inr 39), some (.inl k), some (.inr 58), some (.inl mn), some (.inl (j + 1)), none]) rfl (pc' := 157) rfl ?_
                refine ax_goto dX4_readLetters_157 (pc' := 96) (by decide) ?_
                refine ih6 (j + 1) (f_up l1 (k * 7 + (ls2.length : Int)) (f_ltr (ta j))) (f_up c1 k ((ls2.length : Int) + 1)) (ls2 ++ [f_ltr (ta j)]) (ax_up (ax_up M4 47 (k * 7 + (ls2.length : Int)) (f_ltr (ta j))) 48 k ((ls2.length : Int) + 1)) ?_ ?_ ?_ ?_ ?_ ?_ ?_
                · omega
                · intro x0 i0 hai
                  exact (ax_up_miss (fun h => hai (Or.inr h.1)) (ax_up_miss (fun h => hai (Or.inl h.1)) ((fr4 x0 i0 (fun h => h.elim (fun h => hai (Or.inl h)) (fun h => hai (Or.inr h)))).trans rfl)))
                · exact (ax_up_rowmiss (by decide) (ax_up_rowhit mr4_47))
                · exact (ax_up_rowhit (ax_up_rowmiss (by decide) mr4_48))
                · omega
                · exact qb2
                · first | exact iv4_2 | exact qb3
        refine LP4 (tn - 0 : Int).toNat.succ 0 lt (f_up lc k 0) ([]) (ax_up M 48 k 0) ?_ ?_ ?_ ?_ ?_ ?_ ?_
        · omega
        · exact fun a i _ => rfl
        · exact (ax_up_rowmiss (by decide) hlt)
        · exact (ax_up_rowhit hlc)
        · omega
        · unfold f_rshp
          rw [Int.sub_zero]
        · exact ⟨rfl, rfl, by decide⟩
      · have qst : f_rshp ta tn = _ := iv1_2.trans (f_rsh_stp (by omega))
        refine ax_aload_n dX4_readLetters_14 rfl rfl (pc' := 15) rfl ?_
        refine ax_getr (v := 59) dX4_readLetters_15 flX4_66 rfl sh_58 rfl (pc' := 18) rfl ?_
        refine ax_iload dX4_readLetters_18 rfl (pc' := 20) rfl ?_
        refine ax_iald (v := ta i) dX4_readLetters_20 sh_59 rfl (by omega) (by omega) ((congrFun hta i).trans rfl) (pc' := 21) rfl ?_
        refine ax_insG [.inl (ta i)] [] dX4_readLetters_21 mlX4_69 rfl rfl (Nat.le_of_ble_eq_true rfl) (s_X8_isBlank E l _ (by omega) _ (ta i)) (pc' := 24) rfl (fun vv M_21 hq co21 hcm21 => ?_)
        obtain ⟨rfl, rfl⟩ := hq
        refine ax_reS (st2 := [.inl (f_b (f_blk (ta i)))]) rfl ?_
        refine ax_if_ne (tgt := 80) dX4_readLetters_24 (by decide) (pc' := 27) rfl (fun h24 => ?_) (fun h24 => ?_)
        · replace h24 := f_b_1 h24
          have qb2 : f_rshp ta tn = f_rsh ta (tn - (i + 1)).toNat (i + 1) ls := by
            rw [qst, if_pos h24]
          refine ax_iinc dX4_readLetters_80 rfl (by decide) (by omega) (ls' := [some (.inr 39), some (.inl k), some (.inr 58), some (.inl mn), some (.inl (i + 1)), none]) rfl (pc' := 83) rfl ?_
          refine ax_goto dX4_readLetters_83 (pc' := 5) (by decide) ?_
          refine ih3 mn (i + 1) ls ?_ ?_ ?_ ?_
          · omega
          · omega
          · first | exact iv1_1 | (rw [List.length_append, List.length_cons, List.length_nil]; omega)
          · exact qb2
        · replace h24 := f_b_0 h24
          refine ax_aload_n dX4_readLetters_27 rfl rfl (pc' := 28) rfl ?_
          refine ax_getr (v := 59) dX4_readLetters_28 flX4_66 rfl sh_58 rfl (pc' := 31) rfl ?_
          refine ax_iload dX4_readLetters_31 rfl (pc' := 33) rfl ?_
          refine ax_iald (v := ta i) dX4_readLetters_33 sh_59 rfl (by omega) (by omega) ((congrFun hta i).trans rfl) (pc' := 34) rfl ?_
          refine ax_insG [.inl (ta i)] [] dX4_readLetters_34 mlX4_73 rfl rfl (Nat.le_of_ble_eq_true rfl) (s_X4_letterFor E l _ (by omega) _ (ta i)) (pc' := 37) rfl (fun vv M_34 hq co34 hcm34 => ?_)
          obtain ⟨rfl, rfl⟩ := hq
          refine ax_reS (st2 := [.inl (f_ltr (ta i))]) rfl ?_
          have cc34 : -2147483648 ≤ f_ltr (ta i) ∧ f_ltr (ta i) < 2147483648 := co34 _ rfl
          refine ax_iconst dX4_readLetters_37 (by decide) (pc' := 38) rfl ?_
          refine ax_icmp_eq (tgt := 45) dX4_readLetters_38 (by decide) (pc' := 41) rfl (fun h38 => ?_) (fun h38 => ?_)
          · have qz : f_rshp ta tn = .inl (1, i) := by
              rw [qst, if_neg h24, if_pos h38]
            refine ax_iconst dX4_readLetters_45 (by decide) (pc' := 46) rfl ?_
            refine ax_istore dX4_readLetters_46 (by decide) (ls' := [some (.inr 39), some (.inl k), some (.inr 58), some (.inl mn), some (.inl i), some (.inl 0)]) rfl (pc' := 48) rfl ?_
            refine ax_iload dX4_readLetters_48 rfl (pc' := 50) rfl ?_
            refine ax_if_eq (tgt := 59) dX4_readLetters_50 (by decide) (pc' := 53) rfl (fun h50 => ?_) (fun h50 => ?_)
            · refine ax_aload_n dX4_readLetters_59 rfl rfl (pc' := 60) rfl ?_
              refine ax_iload dX4_readLetters_60 rfl (pc' := 62) rfl ?_
              refine ax_if_eq (tgt := 69) dX4_readLetters_62 (by decide) (pc' := 65) rfl (fun h62 => ?_) (fun h62 => ?_)
              · refine ax_iconst dX4_readLetters_69 (by decide) (pc' := 70) rfl ?_
                refine ax_iload dX4_readLetters_70 rfl (pc' := 72) rfl ?_
                refine ax_invG [.inl 1, .inl i] [] dX4_readLetters_72 mlX4_77 sh_58 rfl rfl rfl (Nat.le_of_ble_eq_true rfl) (s_X8_failAt E l _ (by omega) _ 1 i) (pc' := 75) rfl (fun vv M_72 hq co72 hcm72 => ?_)
                obtain ⟨rfl, frM_72, msM_72_0, msM_72_1⟩ := hq
                refine ax_reS (st2 := []) rfl ?_
                refine ax_iconst dX4_readLetters_75 (by decide) (pc' := 76) rfl ?_
                refine ax_iret dX4_readLetters_76 rfl ?_
                refine ⟨rfl, ?_, ?_, ?_⟩
                · refine congrArg (fun z => some (Sum.inl z)) ?_
                  rw [qz]
                  rfl
                · intro x0 i0 hai
                  exact ((frM_72 x0 i0 (fun h => h.elim (fun h => hai (Or.inr (Or.inr (Or.inl h)))) (fun h => hai (Or.inr (Or.inr (Or.inr h)))))).trans rfl)
                · rw [qz]
                  exact ⟨⟨msM_72_0, msM_72_1⟩, ((funext fun i0 => frM_72 47 i0 (fun h => h.elim (fun h => absurd h.1 (by decide)) (fun h => absurd h.1 (by decide)))).trans hlt), ((funext fun i0 => frM_72 48 i0 (fun h => h.elim (fun h => absurd h.1 (by decide)) (fun h => absurd h.1 (by decide)))).trans hlc)⟩
              · exfalso
                omega
            · exfalso
              omega
          · refine ax_iconst dX4_readLetters_41 (by decide) (pc' := 42) rfl ?_
            refine ax_goto dX4_readLetters_42 (pc' := 46) (by decide) ?_
            refine ax_istore dX4_readLetters_46 (by decide) (ls' := [some (.inr 39), some (.inl k), some (.inr 58), some (.inl mn), some (.inl i), some (.inl 1)]) rfl (pc' := 48) rfl ?_
            refine ax_iload dX4_readLetters_48 rfl (pc' := 50) rfl ?_
            refine ax_if_eq (tgt := 59) dX4_readLetters_50 (by decide) (pc' := 53) rfl (fun h50 => ?_) (fun h50 => ?_)
            · exfalso
              omega
            · refine ax_iload_n dX4_readLetters_53 rfl rfl (pc' := 54) rfl ?_
              refine ax_bipush dX4_readLetters_54 (by decide) (pc' := 56) rfl ?_
              refine ax_icmp_lt (tgt := 77) dX4_readLetters_56 (by decide) (pc' := 59) rfl (fun h56 => ?_) (fun h56 => ?_)
              · have qb2 : f_rshp ta tn = f_rsh ta (tn - (i + 1)).toNat (i + 1) (ls ++ [f_ltr (ta i)]) := by
                  rw [qst, if_neg h24, if_neg h38, if_neg (by omega)]
                refine ax_iinc dX4_readLetters_77 rfl (by decide) (by omega) (ls' := [some (.inr 39), some (.inl k), some (.inr 58), some (.inl (mn + 1)), some (.inl i), some (.inl 1)]) rfl (pc' := 80) rfl ?_
                refine ax_iinc dX4_readLetters_80 rfl (by decide) (by omega) (ls' := [some (.inr 39), some (.inl k), some (.inr 58), some (.inl (mn + 1)), some (.inl (i + 1)), some (.inl 1)]) rfl (pc' := 83) rfl ?_
                refine ax_goto dX4_readLetters_83 (pc' := 5) (by decide) ?_
                refine ax_less (ls2 := [some (.inr 39), some (.inl k), some (.inr 58), some (.inl (mn + 1)), some (.inl (i + 1)), none]) [true, true, true, true, true, false] rfl ?_
                refine ih3 (mn + 1) (i + 1) (ls ++ [f_ltr (ta i)]) ?_ ?_ ?_ ?_
                · omega
                · omega
                · first | exact iv1_1 | (rw [List.length_append, List.length_cons, List.length_nil]; omega)
                · exact qb2
              · have qz : f_rshp ta tn = .inl (3, i) := by
                  rw [qst, if_neg h24, if_neg h38, if_pos (by omega)]
                refine ax_aload_n dX4_readLetters_59 rfl rfl (pc' := 60) rfl ?_
                refine ax_iload dX4_readLetters_60 rfl (pc' := 62) rfl ?_
                refine ax_if_eq (tgt := 69) dX4_readLetters_62 (by decide) (pc' := 65) rfl (fun h62 => ?_) (fun h62 => ?_)
                · exfalso
                  omega
                · refine ax_iconst dX4_readLetters_65 (by decide) (pc' := 66) rfl ?_
                  refine ax_goto dX4_readLetters_66 (pc' := 70) (by decide) ?_
                  refine ax_iload dX4_readLetters_70 rfl (pc' := 72) rfl ?_
                  refine ax_invG [.inl 3, .inl i] [] dX4_readLetters_72 mlX4_77 sh_58 rfl rfl rfl (Nat.le_of_ble_eq_true rfl) (s_X8_failAt E l _ (by omega) _ 3 i) (pc' := 75) rfl (fun vv M_72 hq co72 hcm72 => ?_)
                  obtain ⟨rfl, frM_72, msM_72_0, msM_72_1⟩ := hq
                  refine ax_reS (st2 := []) rfl ?_
                  refine ax_iconst dX4_readLetters_75 (by decide) (pc' := 76) rfl ?_
                  refine ax_iret dX4_readLetters_76 rfl ?_
                  refine ⟨rfl, ?_, ?_, ?_⟩
                  · refine congrArg (fun z => some (Sum.inl z)) ?_
                    rw [qz]
                    rfl
                  · intro x0 i0 hai
                    exact ((frM_72 x0 i0 (fun h => h.elim (fun h => hai (Or.inr (Or.inr (Or.inl h)))) (fun h => hai (Or.inr (Or.inr (Or.inr h)))))).trans rfl)
                  · rw [qz]
                    exact ⟨⟨msM_72_0, msM_72_1⟩, ((funext fun i0 => frM_72 47 i0 (fun h => h.elim (fun h => absurd h.1 (by decide)) (fun h => absurd h.1 (by decide)))).trans hlt), ((funext fun i0 => frM_72 48 i0 (fun h => h.elim (fun h => absurd h.1 (by decide)) (fun h => absurd h.1 (by decide)))).trans hlc)⟩
  refine LP1 (tn - 0 : Int).toNat.succ 0 0 ([]) ?_ ?_ ?_ ?_
  · omega
  · omega
  · exact ⟨rfl, by decide⟩
  · unfold f_rshp
    rw [Int.sub_zero]
set_option maxRecDepth 20000 in
theorem s_X11_text_lw0 (E : ax_Env) (l : Launch) (d : Nat) (hd : 33 ≤ d) (M : ax_Mem) (v0 : Int) (L : List f_Tk) {ta : Int → Int} (hta : M 59 = ta) {tn : Int} (htn : M 58 1 = tn) (hg0 : 0 ≤ tn ∧ tn ≤ 400) (hg1 : f_tp ta tn) (hg2 : f_lx ta tn 0 0 v0 L) (hg3 : 0 ≤ v0 ∧ v0 ≤ 9999) : ax_G E l d iX11_text [.inr 0, .inl 0] M (fun z0 M2 => z0 = some (.inl (f_twr (f_laws L))) ∧ (∀ x0 i0 : Int, ¬ ((x0 = 58 ∧ i0 = 1) ∨ x0 = 60 ∨ x0 = 61 ∨ x0 = 62 ∨ (x0 = 58 ∧ i0 = 7) ∨ (x0 = 58 ∧ i0 = 8) ∨ (x0 = 58 ∧ i0 = 2) ∨ (x0 = 58 ∧ i0 = 3) ∨ x0 = 64 ∨ (x0 = 63 ∧ i0 = 0) ∨ (x0 = 63 ∧ i0 = 1) ∨ x0 = 53 ∨ (x0 = 52 ∧ i0 = 0) ∨ (x0 = 52 ∧ i0 = 1)) → M2 x0 i0 = M x0 i0) ∧ M2 58 1 = 0 ∧ (f_tcL M 0 (f_laws L) M2)) := by
  obtain ⟨d, rfl⟩ : ∃ d0, d = d0 + 1 := ⟨d - 1, by omega⟩
  refine ax_start rfl (Nat.le_of_ble_eq_true rfl) (ls := [some (.inr 0), some (.inl 0), none]) rfl (fun hav hcm => ?_)
  clear hav
  refine ax_aload_n dX11_text_0 rfl rfl (pc' := 1) rfl ?_
  refine ax_getr (v := 58) dX11_text_1 flX11_33 rfl sh_0 rfl (pc' := 4) rfl ?_
  refine ax_iconst dX11_text_4 (by decide) (pc' := 5) rfl ?_
  refine ax_puti dX11_text_5 flX11_200 (Or.inl rfl) sh_58 rfl (pc' := 8) rfl ?_
  refine ax_aload_n dX11_text_8 rfl rfl (pc' := 9) rfl ?_
  refine ax_getr (v := 58) dX11_text_9 flX11_33 rfl sh_0 rfl (pc' := 12) rfl ?_
  refine ax_iconst dX11_text_12 (by decide) (pc' := 13) rfl ?_
  refine ax_puti dX11_text_13 flX11_203 (Or.inl rfl) sh_58 rfl (pc' := 16) rfl ?_
  refine ax_iconst dX11_text_16 (by decide) (pc' := 17) rfl ?_
  refine ax_istore_n dX11_text_17 rfl (by decide) (ls' := [some (.inr 0), some (.inl 0), some (.inl (-1))]) rfl (pc' := 18) rfl ?_
  refine ax_iload_n dX11_text_18 rfl rfl (pc' := 19) rfl ?_
  refine ax_if_lt (tgt := 96) dX11_text_19 (by decide) (pc' := 22) rfl (fun h19 => ?_) (fun h19 => ?_)
  · exfalso
    omega
  · refine ax_iload_n dX11_text_22 rfl rfl (pc' := 23) rfl ?_
    refine ax_iconst dX11_text_23 (by decide) (pc' := 24) rfl ?_
    refine ax_icmp_ge (tgt := 96) dX11_text_24 (by decide) (pc' := 27) rfl (fun h24 => ?_) (fun h24 => ?_)
    · exfalso
      omega
    · refine ax_aload_n dX11_text_27 rfl rfl (pc' := 28) rfl ?_
      refine ax_getr (v := 58) dX11_text_28 flX11_33 rfl sh_0 rfl (pc' := 31) rfl ?_
      refine ax_iload_n dX11_text_31 rfl rfl (pc' := 32) rfl ?_
      refine ax_if_ne (tgt := 40) dX11_text_32 (by decide) (pc' := 35) rfl (fun h32 => ?_) (fun h32 => ?_)
      · exfalso
        omega
      · refine ax_ldcS (i := 0) (r := (-3)) dX11_text_35 rfl (by decide) (pc' := 37) rfl ?_
        refine ax_goto dX11_text_37 (pc' := 52) (by decide) ?_
        refine ax_invG [.inr (-3)] [] dX11_text_52 mlX11_212 sh_58 rfl rfl rfl (Nat.le_of_ble_eq_true rfl) (s_X8_scan E l _ (by omega) _ 0 0 v0 L (ax_up_rowmiss (by decide) (ax_up_rowmiss (by decide) rfl)) (ax_up_rowmiss (by decide) (ax_up_rowmiss (by decide) rfl)) (ax_up_rowmiss (by decide) (ax_up_rowmiss (by decide) rfl)) (ax_up_rowmiss (by decide) (ax_up_rowmiss (by decide) hta)) (ax_up_miss (by decide) (ax_up_miss (by decide) htn)) (by unfold f_rq; decide) hg0 hg1 hg2 hg3) (pc' := 55) rfl (fun vv M_52 hq co52 hcm52 => ?_)
        obtain ⟨rfl, frM_52, msM_52_0, fa52_0, fa52_1⟩ := hq
        refine ax_reS (st2 := []) rfl ?_
        have qcc : f_cc 0 (M_52 60) (M_52 61) (M_52 62) 0 L := ⟨fa52_0, f_lx_wl hg2, Int.le_refl 0, by omega⟩
        refine ax_aload_n dX11_text_55 rfl rfl (pc' := 56) rfl ?_
        refine ax_getr (v := 63) dX11_text_56 flX11_40 rfl sh_0 rfl (pc' := 59) rfl ?_
        refine ax_aload_n dX11_text_59 rfl rfl (pc' := 60) rfl ?_
        refine ax_getr (v := 58) dX11_text_60 flX11_33 rfl sh_0 rfl (pc' := 63) rfl ?_
        refine ax_invG [.inr 58] [] dX11_text_63 mlX11_216 sh_63 rfl rfl rfl (Nat.le_of_ble_eq_true rfl) (s_X3_readAll E l _ (by omega) _ 0 L rfl rfl rfl ((funext fun i0 => frM_52 64 i0 (fun h => h.elim (fun h => absurd h.1 (by decide)) (fun h => h.elim (fun h => absurd h (by decide)) (fun h => h.elim (fun h => absurd h (by decide)) (fun h => h.elim (fun h => absurd h (by decide)) (fun h => absurd h.1 (by decide))))))).trans (ax_up_rowmiss (by decide) (ax_up_rowmiss (by decide) rfl))) msM_52_0 ((frM_52 58 2 (fun h => h.elim (fun h => absurd h.2 (by decide)) (fun h => h.elim (fun h => absurd h (by decide)) (fun h => h.elim (fun h => absurd h (by decide)) (fun h => h.elim (fun h => absurd h (by decide)) (fun h => absurd h.2 (by decide))))))).trans (ax_up_miss (by decide) (ax_up_hit _ _ _ _))) ((frM_52 58 3 (fun h => h.elim (fun h => absurd h.2 (by decide)) (fun h => h.elim (fun h => absurd h (by decide)) (fun h => h.elim (fun h => absurd h (by decide)) (fun h => h.elim (fun h => absurd h (by decide)) (fun h => absurd h.2 (by decide))))))).trans (ax_up_hit _ _ _ _)) (by decide) qcc) (pc' := 66) rfl (fun vv M_63 hq co63 hcm63 => ?_)
        obtain ⟨rfl, frM_63, fa63_0⟩ := hq
        refine ax_reS (st2 := [.inl (f_rwb (f_laws L))]) rfl ?_
        have cc63 : -2147483648 ≤ f_rwb (f_laws L) ∧ f_rwb (f_laws L) < 2147483648 := co63 _ rfl
        refine ax_if_eq (tgt := 175) dX11_text_66 (by decide) (pc' := 69) rfl (fun h66 => ?_) (fun h66 => ?_)
        · obtain ⟨qk0, qs0, qz⟩ := f_rwb_no h66
          rw [qz] at fa63_0
          obtain ⟨qk3, qs3⟩ := fa63_0
          refine ax_aload_n dX11_text_175 rfl rfl (pc' := 176) rfl ?_
          refine ax_getr (v := 58) dX11_text_176 flX11_33 rfl sh_0 rfl (pc' := 179) rfl ?_
          refine ax_iconst dX11_text_179 (by decide) (pc' := 180) rfl ?_
          refine ax_puti dX11_text_180 flX11_195 (Or.inl rfl) sh_58 rfl (pc' := 183) rfl ?_
          refine ax_iload_n dX11_text_183 rfl rfl (pc' := 184) rfl ?_
          refine ax_iret dX11_text_184 rfl ?_
          refine ⟨rfl, ?_, ?_, ?_, ?_⟩
          · refine congrArg (fun z => some (Sum.inl z)) ?_
            rw [qz]
            first | rfl | exact qa3
          · intro x0 i0 hai
            exact (ax_up_miss (fun h => hai (Or.inl h)) ((frM_63 x0 i0 (fun h => h.elim (fun h => hai (Or.inr (Or.inr (Or.inr (Or.inr (Or.inr (Or.inr (Or.inr (Or.inr (Or.inl h)))))))))) (fun h => h.elim (fun h => hai (Or.inr (Or.inr (Or.inr (Or.inr (Or.inr (Or.inr (Or.inr (Or.inr (Or.inr (Or.inr (Or.inl h)))))))))))) (fun h => h.elim (fun h => hai (Or.inr (Or.inr (Or.inr (Or.inr (Or.inr (Or.inl h))))))) (fun h => h.elim (fun h => hai (Or.inr (Or.inr (Or.inr (Or.inr (Or.inr (Or.inr (Or.inl h)))))))) (fun h => h.elim (fun h => hai (Or.inr (Or.inr (Or.inr (Or.inr (Or.inr (Or.inr (Or.inr (Or.inl h))))))))) (fun h => hai (Or.inr (Or.inr (Or.inr (Or.inr (Or.inr (Or.inr (Or.inr (Or.inr (Or.inr (Or.inl h))))))))))))))))).trans ((frM_52 x0 i0 (fun h => h.elim (fun h => hai (Or.inr (Or.inr (Or.inr (Or.inr (Or.inr (Or.inl h))))))) (fun h => h.elim (fun h => hai (Or.inr (Or.inl h))) (fun h => h.elim (fun h => hai (Or.inr (Or.inr (Or.inl h)))) (fun h => h.elim (fun h => hai (Or.inr (Or.inr (Or.inr (Or.inl h))))) (fun h => hai (Or.inr (Or.inr (Or.inr (Or.inr (Or.inl h))))))))))).trans (ax_up_miss (fun h => hai (Or.inr (Or.inr (Or.inr (Or.inr (Or.inr (Or.inr (Or.inr (Or.inl h))))))))) (ax_up_miss (fun h => hai (Or.inr (Or.inr (Or.inr (Or.inr (Or.inr (Or.inr (Or.inl h)))))))) rfl)))))
          · exact (ax_up_hit _ _ _ _)
          · rw [qz]
            exact ⟨⟨Eq.trans (ax_up_miss (by decide) rfl) qk3, Eq.trans (ax_up_miss (by decide) rfl) qs3⟩, (ax_up_miss (fun h => absurd h.1 (by decide)) ((frM_63 52 0 (fun h => h.elim (fun h => absurd h (by decide)) (fun h => h.elim (fun h => absurd h.1 (by decide)) (fun h => h.elim (fun h => absurd h.1 (by decide)) (fun h => h.elim (fun h => absurd h.1 (by decide)) (fun h => h.elim (fun h => absurd h.1 (by decide)) (fun h => absurd h.1 (by decide)))))))).trans ((frM_52 52 0 (fun h => h.elim (fun h => absurd h.1 (by decide)) (fun h => h.elim (fun h => absurd h (by decide)) (fun h => h.elim (fun h => absurd h (by decide)) (fun h => h.elim (fun h => absurd h (by decide)) (fun h => absurd h.1 (by decide))))))).trans (ax_up_miss (fun h => absurd h.1 (by decide)) (ax_up_miss (fun h => absurd h.1 (by decide)) rfl))))), (ax_up_miss (fun h => absurd h.1 (by decide)) ((frM_63 52 1 (fun h => h.elim (fun h => absurd h (by decide)) (fun h => h.elim (fun h => absurd h.1 (by decide)) (fun h => h.elim (fun h => absurd h.1 (by decide)) (fun h => h.elim (fun h => absurd h.1 (by decide)) (fun h => h.elim (fun h => absurd h.1 (by decide)) (fun h => absurd h.1 (by decide)))))))).trans ((frM_52 52 1 (fun h => h.elim (fun h => absurd h.1 (by decide)) (fun h => h.elim (fun h => absurd h (by decide)) (fun h => h.elim (fun h => absurd h (by decide)) (fun h => h.elim (fun h => absurd h (by decide)) (fun h => absurd h.1 (by decide))))))).trans (ax_up_miss (fun h => absurd h.1 (by decide)) (ax_up_miss (fun h => absurd h.1 (by decide)) rfl))))), (ax_up_rowmiss (by decide) ((funext fun i0 => frM_63 53 i0 (fun h => h.elim (fun h => absurd h (by decide)) (fun h => h.elim (fun h => absurd h.1 (by decide)) (fun h => h.elim (fun h => absurd h.1 (by decide)) (fun h => h.elim (fun h => absurd h.1 (by decide)) (fun h => h.elim (fun h => absurd h.1 (by decide)) (fun h => absurd h.1 (by decide)))))))).trans ((funext fun i0 => frM_52 53 i0 (fun h => h.elim (fun h => absurd h.1 (by decide)) (fun h => h.elim (fun h => absurd h (by decide)) (fun h => h.elim (fun h => absurd h (by decide)) (fun h => h.elim (fun h => absurd h (by decide)) (fun h => absurd h.1 (by decide))))))).trans (ax_up_rowmiss (by decide) (ax_up_rowmiss (by decide) rfl)))))⟩
        · obtain ⟨lsF, qz⟩ := f_rwb_ok h66
          rw [qz] at fa63_0
          obtain ⟨qa1, qa2, qa3, qa4, qy2, qy3⟩ := fa63_0
          refine ax_aload_n dX11_text_69 rfl rfl (pc' := 70) rfl ?_
          refine ax_getr (v := 39) dX11_text_70 flX11_26 rfl sh_0 rfl (pc' := 73) rfl ?_
          refine ax_getr (v := 40) dX11_text_73 flX11_220 rfl sh_39 rfl (pc' := 76) rfl ?_
          refine ax_iload_n dX11_text_76 rfl rfl (pc' := 77) rfl ?_
          refine ax_aald (v := 52) dX11_text_77 sh_40 (by decide) (by decide) (by decide) rfl (pc' := 78) rfl ?_
          refine ax_aload_n dX11_text_78 rfl rfl (pc' := 79) rfl ?_
          refine ax_getr (v := 63) dX11_text_79 flX11_40 rfl sh_0 rfl (pc' := 82) rfl ?_
          refine ax_invG [.inr 63] [] dX11_text_82 mlX11_224 sh_52 rfl rfl rfl (Nat.le_of_ble_eq_true rfl) (s_X3_copyFrom E l _ (by omega) _ 52 63 ((funext fun i0 => frM_63 53 i0 (fun h => h.elim (fun h => absurd h (by decide)) (fun h => h.elim (fun h => absurd h.1 (by decide)) (fun h => h.elim (fun h => absurd h.1 (by decide)) (fun h => h.elim (fun h => absurd h.1 (by decide)) (fun h => h.elim (fun h => absurd h.1 (by decide)) (fun h => absurd h.1 (by decide)))))))).trans ((funext fun i0 => frM_52 53 i0 (fun h => h.elim (fun h => absurd h.1 (by decide)) (fun h => h.elim (fun h => absurd h (by decide)) (fun h => h.elim (fun h => absurd h (by decide)) (fun h => h.elim (fun h => absurd h (by decide)) (fun h => absurd h.1 (by decide))))))).trans (ax_up_rowmiss (by decide) (ax_up_rowmiss (by decide) rfl)))) rfl rfl rfl ⟨sh_52, sh_53⟩ ⟨sh_63, sh_64⟩ (by decide)) (pc' := 85) rfl (fun vv M_82 hq co82 hcm82 => ?_)
          obtain ⟨rfl, frM_82, mrM_82_0, msM_82_0, msM_82_1⟩ := hq
          refine ax_reS (st2 := []) rfl ?_
          refine ax_aload_n dX11_text_85 rfl rfl (pc' := 86) rfl ?_
          refine ax_getr (v := 63) dX11_text_86 flX11_40 rfl sh_0 rfl (pc' := 89) rfl ?_
          refine ax_geti (v := M_63 63 0) dX11_text_89 flX11_228 rfl sh_63 ((frM_82 63 0 (fun h => h.elim (fun h => absurd h (by decide)) (fun h => h.elim (fun h => absurd h.1 (by decide)) (fun h => absurd h.1 (by decide))))).trans rfl) rfl (pc' := 92) rfl ?_
          refine ax_istore_n dX11_text_92 rfl (by decide) (ls' := [some (.inr 0), some (.inl 0), some (.inl (M_63 63 0))]) rfl (pc' := 93) rfl ?_
          refine ax_goto dX11_text_93 (pc' := 175) (by decide) ?_
          refine ax_aload_n dX11_text_175 rfl rfl (pc' := 176) rfl ?_
          refine ax_getr (v := 58) dX11_text_176 flX11_33 rfl sh_0 rfl (pc' := 179) rfl ?_
          refine ax_iconst dX11_text_179 (by decide) (pc' := 180) rfl ?_
          refine ax_puti dX11_text_180 flX11_195 (Or.inl rfl) sh_58 rfl (pc' := 183) rfl ?_
          refine ax_iload_n dX11_text_183 rfl rfl (pc' := 184) rfl ?_
          refine ax_iret dX11_text_184 rfl ?_
          refine ⟨rfl, ?_, ?_, ?_, ?_⟩
          · refine congrArg (fun z => some (Sum.inl z)) ?_
            rw [qz]
            first | rfl | exact qa3
          · intro x0 i0 hai
            exact (ax_up_miss (fun h => hai (Or.inl h)) ((frM_82 x0 i0 (fun h => h.elim (fun h => hai (Or.inr (Or.inr (Or.inr (Or.inr (Or.inr (Or.inr (Or.inr (Or.inr (Or.inr (Or.inr (Or.inr (Or.inl h))))))))))))) (fun h => h.elim (fun h => hai (Or.inr (Or.inr (Or.inr (Or.inr (Or.inr (Or.inr (Or.inr (Or.inr (Or.inr (Or.inr (Or.inr (Or.inr (Or.inl h)))))))))))))) (fun h => hai (Or.inr (Or.inr (Or.inr (Or.inr (Or.inr (Or.inr (Or.inr (Or.inr (Or.inr (Or.inr (Or.inr (Or.inr (Or.inr h))))))))))))))))).trans ((frM_63 x0 i0 (fun h => h.elim (fun h => hai (Or.inr (Or.inr (Or.inr (Or.inr (Or.inr (Or.inr (Or.inr (Or.inr (Or.inl h)))))))))) (fun h => h.elim (fun h => hai (Or.inr (Or.inr (Or.inr (Or.inr (Or.inr (Or.inr (Or.inr (Or.inr (Or.inr (Or.inr (Or.inl h)))))))))))) (fun h => h.elim (fun h => hai (Or.inr (Or.inr (Or.inr (Or.inr (Or.inr (Or.inl h))))))) (fun h => h.elim (fun h => hai (Or.inr (Or.inr (Or.inr (Or.inr (Or.inr (Or.inr (Or.inl h)))))))) (fun h => h.elim (fun h => hai (Or.inr (Or.inr (Or.inr (Or.inr (Or.inr (Or.inr (Or.inr (Or.inl h))))))))) (fun h => hai (Or.inr (Or.inr (Or.inr (Or.inr (Or.inr (Or.inr (Or.inr (Or.inr (Or.inr (Or.inl h))))))))))))))))).trans ((frM_52 x0 i0 (fun h => h.elim (fun h => hai (Or.inr (Or.inr (Or.inr (Or.inr (Or.inr (Or.inl h))))))) (fun h => h.elim (fun h => hai (Or.inr (Or.inl h))) (fun h => h.elim (fun h => hai (Or.inr (Or.inr (Or.inl h)))) (fun h => h.elim (fun h => hai (Or.inr (Or.inr (Or.inr (Or.inl h))))) (fun h => hai (Or.inr (Or.inr (Or.inr (Or.inr (Or.inl h))))))))))).trans (ax_up_miss (fun h => hai (Or.inr (Or.inr (Or.inr (Or.inr (Or.inr (Or.inr (Or.inr (Or.inl h))))))))) (ax_up_miss (fun h => hai (Or.inr (Or.inr (Or.inr (Or.inr (Or.inr (Or.inr (Or.inl h)))))))) rfl))))))
          · exact (ax_up_hit _ _ _ _)
          · rw [qz]
            refine ⟨⟨Eq.trans (ax_up_miss (by decide) ((frM_82 58 2 (fun h => h.elim (fun h => absurd h (by decide)) (fun h => h.elim (fun h => absurd h.1 (by decide)) (fun h => absurd h.1 (by decide))))).trans rfl)) qy2, Eq.trans (ax_up_miss (by decide) ((frM_82 58 3 (fun h => h.elim (fun h => absurd h (by decide)) (fun h => h.elim (fun h => absurd h.1 (by decide)) (fun h => absurd h.1 (by decide))))).trans rfl)) qy3⟩, Eq.trans (ax_up_miss (fun h => absurd h.1 (by decide)) msM_82_0) qa3, Eq.trans (ax_up_miss (fun h => absurd h.1 (by decide)) msM_82_1) qa2, qa4, ?_⟩
            show f_fwd ((ax_up M_82 58 1 0) 53) 0 _
            rw [show (ax_up M_82 58 1 0) 53 = _ from (ax_up_rowmiss (by decide) mrM_82_0)]
            refine f_fwd_cp (Int.le_refl 0) (by omega) ?_
            show f_fwd (M_63 64) 0 _
            rw [qa1]
            exact f_fwd_pi _ _ _
set_option maxRecDepth 20000 in
theorem s_X11_text_lw1 (E : ax_Env) (l : Launch) (d : Nat) (hd : 33 ≤ d) (M : ax_Mem) (v0 : Int) (L : List f_Tk) {ta : Int → Int} (hta : M 59 = ta) {tn : Int} (htn : M 58 1 = tn) (hg0 : 0 ≤ tn ∧ tn ≤ 400) (hg1 : f_tp ta tn) (hg2 : f_lx ta tn 1 0 v0 L) (hg3 : 0 ≤ v0 ∧ v0 ≤ 9999) : ax_G E l d iX11_text [.inr 0, .inl 1] M (fun z0 M2 => z0 = some (.inl (f_twr (f_laws L))) ∧ (∀ x0 i0 : Int, ¬ ((x0 = 58 ∧ i0 = 1) ∨ x0 = 60 ∨ x0 = 61 ∨ x0 = 62 ∨ (x0 = 58 ∧ i0 = 7) ∨ (x0 = 58 ∧ i0 = 8) ∨ (x0 = 58 ∧ i0 = 2) ∨ (x0 = 58 ∧ i0 = 3) ∨ x0 = 64 ∨ (x0 = 63 ∧ i0 = 0) ∨ (x0 = 63 ∧ i0 = 1) ∨ x0 = 55 ∨ (x0 = 54 ∧ i0 = 0) ∨ (x0 = 54 ∧ i0 = 1)) → M2 x0 i0 = M x0 i0) ∧ M2 58 1 = 0 ∧ (f_tcL M 1 (f_laws L) M2)) := by
  obtain ⟨d, rfl⟩ : ∃ d0, d = d0 + 1 := ⟨d - 1, by omega⟩
  refine ax_start rfl (Nat.le_of_ble_eq_true rfl) (ls := [some (.inr 0), some (.inl 1), none]) rfl (fun hav hcm => ?_)
  clear hav
  refine ax_aload_n dX11_text_0 rfl rfl (pc' := 1) rfl ?_
  refine ax_getr (v := 58) dX11_text_1 flX11_33 rfl sh_0 rfl (pc' := 4) rfl ?_
  refine ax_iconst dX11_text_4 (by decide) (pc' := 5) rfl ?_
  refine ax_puti dX11_text_5 flX11_200 (Or.inl rfl) sh_58 rfl (pc' := 8) rfl ?_
  refine ax_aload_n dX11_text_8 rfl rfl (pc' := 9) rfl ?_
  refine ax_getr (v := 58) dX11_text_9 flX11_33 rfl sh_0 rfl (pc' := 12) rfl ?_
  refine ax_iconst dX11_text_12 (by decide) (pc' := 13) rfl ?_
  refine ax_puti dX11_text_13 flX11_203 (Or.inl rfl) sh_58 rfl (pc' := 16) rfl ?_
  refine ax_iconst dX11_text_16 (by decide) (pc' := 17) rfl ?_
  refine ax_istore_n dX11_text_17 rfl (by decide) (ls' := [some (.inr 0), some (.inl 1), some (.inl (-1))]) rfl (pc' := 18) rfl ?_
  refine ax_iload_n dX11_text_18 rfl rfl (pc' := 19) rfl ?_
  refine ax_if_lt (tgt := 96) dX11_text_19 (by decide) (pc' := 22) rfl (fun h19 => ?_) (fun h19 => ?_)
  · exfalso
    omega
  · refine ax_iload_n dX11_text_22 rfl rfl (pc' := 23) rfl ?_
    refine ax_iconst dX11_text_23 (by decide) (pc' := 24) rfl ?_
    refine ax_icmp_ge (tgt := 96) dX11_text_24 (by decide) (pc' := 27) rfl (fun h24 => ?_) (fun h24 => ?_)
    · exfalso
      omega
    · refine ax_aload_n dX11_text_27 rfl rfl (pc' := 28) rfl ?_
      refine ax_getr (v := 58) dX11_text_28 flX11_33 rfl sh_0 rfl (pc' := 31) rfl ?_
      refine ax_iload_n dX11_text_31 rfl rfl (pc' := 32) rfl ?_
      refine ax_if_ne (tgt := 40) dX11_text_32 (by decide) (pc' := 35) rfl (fun h32 => ?_) (fun h32 => ?_)
      · refine ax_iload_n dX11_text_40 rfl rfl (pc' := 41) rfl ?_
        refine ax_iconst dX11_text_41 (by decide) (pc' := 42) rfl ?_
        refine ax_icmp_ne (tgt := 50) dX11_text_42 (by decide) (pc' := 45) rfl (fun h42 => ?_) (fun h42 => ?_)
        · exfalso
          omega
        · refine ax_ldcS (i := 1) (r := (-4)) dX11_text_45 rfl (by decide) (pc' := 47) rfl ?_
          refine ax_goto dX11_text_47 (pc' := 52) (by decide) ?_
          refine ax_invG [.inr (-4)] [] dX11_text_52 mlX11_212 sh_58 rfl rfl rfl (Nat.le_of_ble_eq_true rfl) (s_X8_scan E l _ (by omega) _ 1 1 v0 L (ax_up_rowmiss (by decide) (ax_up_rowmiss (by decide) rfl)) (ax_up_rowmiss (by decide) (ax_up_rowmiss (by decide) rfl)) (ax_up_rowmiss (by decide) (ax_up_rowmiss (by decide) rfl)) (ax_up_rowmiss (by decide) (ax_up_rowmiss (by decide) hta)) (ax_up_miss (by decide) (ax_up_miss (by decide) htn)) (by unfold f_rq; decide) hg0 hg1 hg2 hg3) (pc' := 55) rfl (fun vv M_52 hq co52 hcm52 => ?_)
          obtain ⟨rfl, frM_52, msM_52_0, fa52_0, fa52_1⟩ := hq
          refine ax_reS (st2 := []) rfl ?_
          have qcc : f_cc 1 (M_52 60) (M_52 61) (M_52 62) 0 L := ⟨fa52_0, f_lx_wl hg2, Int.le_refl 0, by omega⟩
          refine ax_aload_n dX11_text_55 rfl rfl (pc' := 56) rfl ?_
          refine ax_getr (v := 63) dX11_text_56 flX11_40 rfl sh_0 rfl (pc' := 59) rfl ?_
          refine ax_aload_n dX11_text_59 rfl rfl (pc' := 60) rfl ?_
          refine ax_getr (v := 58) dX11_text_60 flX11_33 rfl sh_0 rfl (pc' := 63) rfl ?_
          refine ax_invG [.inr 58] [] dX11_text_63 mlX11_216 sh_63 rfl rfl rfl (Nat.le_of_ble_eq_true rfl) (s_X3_readAll E l _ (by omega) _ 1 L rfl rfl rfl ((funext fun i0 => frM_52 64 i0 (fun h => h.elim (fun h => absurd h.1 (by decide)) (fun h => h.elim (fun h => absurd h (by decide)) (fun h => h.elim (fun h => absurd h (by decide)) (fun h => h.elim (fun h => absurd h (by decide)) (fun h => absurd h.1 (by decide))))))).trans (ax_up_rowmiss (by decide) (ax_up_rowmiss (by decide) rfl))) msM_52_0 ((frM_52 58 2 (fun h => h.elim (fun h => absurd h.2 (by decide)) (fun h => h.elim (fun h => absurd h (by decide)) (fun h => h.elim (fun h => absurd h (by decide)) (fun h => h.elim (fun h => absurd h (by decide)) (fun h => absurd h.2 (by decide))))))).trans (ax_up_miss (by decide) (ax_up_hit _ _ _ _))) ((frM_52 58 3 (fun h => h.elim (fun h => absurd h.2 (by decide)) (fun h => h.elim (fun h => absurd h (by decide)) (fun h => h.elim (fun h => absurd h (by decide)) (fun h => h.elim (fun h => absurd h (by decide)) (fun h => absurd h.2 (by decide))))))).trans (ax_up_hit _ _ _ _)) (by decide) qcc) (pc' := 66) rfl (fun vv M_63 hq co63 hcm63 => ?_)
          obtain ⟨rfl, frM_63, fa63_0⟩ := hq
          refine ax_reS (st2 := [.inl (f_rwb (f_laws L))]) rfl ?_
          have cc63 : -2147483648 ≤ f_rwb (f_laws L) ∧ f_rwb (f_laws L) < 2147483648 := co63 _ rfl
          refine ax_if_eq (tgt := 175) dX11_text_66 (by decide) (pc' := 69) rfl (fun h66 => ?_) (fun h66 => ?_)
          · obtain ⟨qk0, qs0, qz⟩ := f_rwb_no h66
            rw [qz] at fa63_0
            obtain ⟨qk3, qs3⟩ := fa63_0
            refine ax_aload_n dX11_text_175 rfl rfl (pc' := 176) rfl ?_
            refine ax_getr (v := 58) dX11_text_176 flX11_33 rfl sh_0 rfl (pc' := 179) rfl ?_
            refine ax_iconst dX11_text_179 (by decide) (pc' := 180) rfl ?_
            refine ax_puti dX11_text_180 flX11_195 (Or.inl rfl) sh_58 rfl (pc' := 183) rfl ?_
            refine ax_iload_n dX11_text_183 rfl rfl (pc' := 184) rfl ?_
            refine ax_iret dX11_text_184 rfl ?_
            refine ⟨rfl, ?_, ?_, ?_, ?_⟩
            · refine congrArg (fun z => some (Sum.inl z)) ?_
              rw [qz]
              first | rfl | exact qa3
            · intro x0 i0 hai
              exact (ax_up_miss (fun h => hai (Or.inl h)) ((frM_63 x0 i0 (fun h => h.elim (fun h => hai (Or.inr (Or.inr (Or.inr (Or.inr (Or.inr (Or.inr (Or.inr (Or.inr (Or.inl h)))))))))) (fun h => h.elim (fun h => hai (Or.inr (Or.inr (Or.inr (Or.inr (Or.inr (Or.inr (Or.inr (Or.inr (Or.inr (Or.inr (Or.inl h)))))))))))) (fun h => h.elim (fun h => hai (Or.inr (Or.inr (Or.inr (Or.inr (Or.inr (Or.inl h))))))) (fun h => h.elim (fun h => hai (Or.inr (Or.inr (Or.inr (Or.inr (Or.inr (Or.inr (Or.inl h)))))))) (fun h => h.elim (fun h => hai (Or.inr (Or.inr (Or.inr (Or.inr (Or.inr (Or.inr (Or.inr (Or.inl h))))))))) (fun h => hai (Or.inr (Or.inr (Or.inr (Or.inr (Or.inr (Or.inr (Or.inr (Or.inr (Or.inr (Or.inl h))))))))))))))))).trans ((frM_52 x0 i0 (fun h => h.elim (fun h => hai (Or.inr (Or.inr (Or.inr (Or.inr (Or.inr (Or.inl h))))))) (fun h => h.elim (fun h => hai (Or.inr (Or.inl h))) (fun h => h.elim (fun h => hai (Or.inr (Or.inr (Or.inl h)))) (fun h => h.elim (fun h => hai (Or.inr (Or.inr (Or.inr (Or.inl h))))) (fun h => hai (Or.inr (Or.inr (Or.inr (Or.inr (Or.inl h))))))))))).trans (ax_up_miss (fun h => hai (Or.inr (Or.inr (Or.inr (Or.inr (Or.inr (Or.inr (Or.inr (Or.inl h))))))))) (ax_up_miss (fun h => hai (Or.inr (Or.inr (Or.inr (Or.inr (Or.inr (Or.inr (Or.inl h)))))))) rfl)))))
            · exact (ax_up_hit _ _ _ _)
            · rw [qz]
              exact ⟨⟨Eq.trans (ax_up_miss (by decide) rfl) qk3, Eq.trans (ax_up_miss (by decide) rfl) qs3⟩, (ax_up_miss (fun h => absurd h.1 (by decide)) ((frM_63 54 0 (fun h => h.elim (fun h => absurd h (by decide)) (fun h => h.elim (fun h => absurd h.1 (by decide)) (fun h => h.elim (fun h => absurd h.1 (by decide)) (fun h => h.elim (fun h => absurd h.1 (by decide)) (fun h => h.elim (fun h => absurd h.1 (by decide)) (fun h => absurd h.1 (by decide)))))))).trans ((frM_52 54 0 (fun h => h.elim (fun h => absurd h.1 (by decide)) (fun h => h.elim (fun h => absurd h (by decide)) (fun h => h.elim (fun h => absurd h (by decide)) (fun h => h.elim (fun h => absurd h (by decide)) (fun h => absurd h.1 (by decide))))))).trans (ax_up_miss (fun h => absurd h.1 (by decide)) (ax_up_miss (fun h => absurd h.1 (by decide)) rfl))))), (ax_up_miss (fun h => absurd h.1 (by decide)) ((frM_63 54 1 (fun h => h.elim (fun h => absurd h (by decide)) (fun h => h.elim (fun h => absurd h.1 (by decide)) (fun h => h.elim (fun h => absurd h.1 (by decide)) (fun h => h.elim (fun h => absurd h.1 (by decide)) (fun h => h.elim (fun h => absurd h.1 (by decide)) (fun h => absurd h.1 (by decide)))))))).trans ((frM_52 54 1 (fun h => h.elim (fun h => absurd h.1 (by decide)) (fun h => h.elim (fun h => absurd h (by decide)) (fun h => h.elim (fun h => absurd h (by decide)) (fun h => h.elim (fun h => absurd h (by decide)) (fun h => absurd h.1 (by decide))))))).trans (ax_up_miss (fun h => absurd h.1 (by decide)) (ax_up_miss (fun h => absurd h.1 (by decide)) rfl))))), (ax_up_rowmiss (by decide) ((funext fun i0 => frM_63 55 i0 (fun h => h.elim (fun h => absurd h (by decide)) (fun h => h.elim (fun h => absurd h.1 (by decide)) (fun h => h.elim (fun h => absurd h.1 (by decide)) (fun h => h.elim (fun h => absurd h.1 (by decide)) (fun h => h.elim (fun h => absurd h.1 (by decide)) (fun h => absurd h.1 (by decide)))))))).trans ((funext fun i0 => frM_52 55 i0 (fun h => h.elim (fun h => absurd h.1 (by decide)) (fun h => h.elim (fun h => absurd h (by decide)) (fun h => h.elim (fun h => absurd h (by decide)) (fun h => h.elim (fun h => absurd h (by decide)) (fun h => absurd h.1 (by decide))))))).trans (ax_up_rowmiss (by decide) (ax_up_rowmiss (by decide) rfl)))))⟩
          · obtain ⟨lsF, qz⟩ := f_rwb_ok h66
            rw [qz] at fa63_0
            obtain ⟨qa1, qa2, qa3, qa4, qy2, qy3⟩ := fa63_0
            refine ax_aload_n dX11_text_69 rfl rfl (pc' := 70) rfl ?_
            refine ax_getr (v := 39) dX11_text_70 flX11_26 rfl sh_0 rfl (pc' := 73) rfl ?_
            refine ax_getr (v := 40) dX11_text_73 flX11_220 rfl sh_39 rfl (pc' := 76) rfl ?_
            refine ax_iload_n dX11_text_76 rfl rfl (pc' := 77) rfl ?_
            refine ax_aald (v := 54) dX11_text_77 sh_40 (by decide) (by decide) (by decide) rfl (pc' := 78) rfl ?_
            refine ax_aload_n dX11_text_78 rfl rfl (pc' := 79) rfl ?_
            refine ax_getr (v := 63) dX11_text_79 flX11_40 rfl sh_0 rfl (pc' := 82) rfl ?_
            refine ax_invG [.inr 63] [] dX11_text_82 mlX11_224 sh_54 rfl rfl rfl (Nat.le_of_ble_eq_true rfl) (s_X3_copyFrom E l _ (by omega) _ 54 63 ((funext fun i0 => frM_63 55 i0 (fun h => h.elim (fun h => absurd h (by decide)) (fun h => h.elim (fun h => absurd h.1 (by decide)) (fun h => h.elim (fun h => absurd h.1 (by decide)) (fun h => h.elim (fun h => absurd h.1 (by decide)) (fun h => h.elim (fun h => absurd h.1 (by decide)) (fun h => absurd h.1 (by decide)))))))).trans ((funext fun i0 => frM_52 55 i0 (fun h => h.elim (fun h => absurd h.1 (by decide)) (fun h => h.elim (fun h => absurd h (by decide)) (fun h => h.elim (fun h => absurd h (by decide)) (fun h => h.elim (fun h => absurd h (by decide)) (fun h => absurd h.1 (by decide))))))).trans (ax_up_rowmiss (by decide) (ax_up_rowmiss (by decide) rfl)))) rfl rfl rfl ⟨sh_54, sh_55⟩ ⟨sh_63, sh_64⟩ (by decide)) (pc' := 85) rfl (fun vv M_82 hq co82 hcm82 => ?_)
            obtain ⟨rfl, frM_82, mrM_82_0, msM_82_0, msM_82_1⟩ := hq
            refine ax_reS (st2 := []) rfl ?_
            refine ax_aload_n dX11_text_85 rfl rfl (pc' := 86) rfl ?_
            refine ax_getr (v := 63) dX11_text_86 flX11_40 rfl sh_0 rfl (pc' := 89) rfl ?_
            refine ax_geti (v := M_63 63 0) dX11_text_89 flX11_228 rfl sh_63 ((frM_82 63 0 (fun h => h.elim (fun h => absurd h (by decide)) (fun h => h.elim (fun h => absurd h.1 (by decide)) (fun h => absurd h.1 (by decide))))).trans rfl) rfl (pc' := 92) rfl ?_
            refine ax_istore_n dX11_text_92 rfl (by decide) (ls' := [some (.inr 0), some (.inl 1), some (.inl (M_63 63 0))]) rfl (pc' := 93) rfl ?_
            refine ax_goto dX11_text_93 (pc' := 175) (by decide) ?_
            refine ax_aload_n dX11_text_175 rfl rfl (pc' := 176) rfl ?_
            refine ax_getr (v := 58) dX11_text_176 flX11_33 rfl sh_0 rfl (pc' := 179) rfl ?_
            refine ax_iconst dX11_text_179 (by decide) (pc' := 180) rfl ?_
            refine ax_puti dX11_text_180 flX11_195 (Or.inl rfl) sh_58 rfl (pc' := 183) rfl ?_
            refine ax_iload_n dX11_text_183 rfl rfl (pc' := 184) rfl ?_
            refine ax_iret dX11_text_184 rfl ?_
            refine ⟨rfl, ?_, ?_, ?_, ?_⟩
            · refine congrArg (fun z => some (Sum.inl z)) ?_
              rw [qz]
              first | rfl | exact qa3
            · intro x0 i0 hai
              exact (ax_up_miss (fun h => hai (Or.inl h)) ((frM_82 x0 i0 (fun h => h.elim (fun h => hai (Or.inr (Or.inr (Or.inr (Or.inr (Or.inr (Or.inr (Or.inr (Or.inr (Or.inr (Or.inr (Or.inr (Or.inl h))))))))))))) (fun h => h.elim (fun h => hai (Or.inr (Or.inr (Or.inr (Or.inr (Or.inr (Or.inr (Or.inr (Or.inr (Or.inr (Or.inr (Or.inr (Or.inr (Or.inl h)))))))))))))) (fun h => hai (Or.inr (Or.inr (Or.inr (Or.inr (Or.inr (Or.inr (Or.inr (Or.inr (Or.inr (Or.inr (Or.inr (Or.inr (Or.inr h))))))))))))))))).trans ((frM_63 x0 i0 (fun h => h.elim (fun h => hai (Or.inr (Or.inr (Or.inr (Or.inr (Or.inr (Or.inr (Or.inr (Or.inr (Or.inl h)))))))))) (fun h => h.elim (fun h => hai (Or.inr (Or.inr (Or.inr (Or.inr (Or.inr (Or.inr (Or.inr (Or.inr (Or.inr (Or.inr (Or.inl h)))))))))))) (fun h => h.elim (fun h => hai (Or.inr (Or.inr (Or.inr (Or.inr (Or.inr (Or.inl h))))))) (fun h => h.elim (fun h => hai (Or.inr (Or.inr (Or.inr (Or.inr (Or.inr (Or.inr (Or.inl h)))))))) (fun h => h.elim (fun h => hai (Or.inr (Or.inr (Or.inr (Or.inr (Or.inr (Or.inr (Or.inr (Or.inl h))))))))) (fun h => hai (Or.inr (Or.inr (Or.inr (Or.inr (Or.inr (Or.inr (Or.inr (Or.inr (Or.inr (Or.inl h))))))))))))))))).trans ((frM_52 x0 i0 (fun h => h.elim (fun h => hai (Or.inr (Or.inr (Or.inr (Or.inr (Or.inr (Or.inl h))))))) (fun h => h.elim (fun h => hai (Or.inr (Or.inl h))) (fun h => h.elim (fun h => hai (Or.inr (Or.inr (Or.inl h)))) (fun h => h.elim (fun h => hai (Or.inr (Or.inr (Or.inr (Or.inl h))))) (fun h => hai (Or.inr (Or.inr (Or.inr (Or.inr (Or.inl h))))))))))).trans (ax_up_miss (fun h => hai (Or.inr (Or.inr (Or.inr (Or.inr (Or.inr (Or.inr (Or.inr (Or.inl h))))))))) (ax_up_miss (fun h => hai (Or.inr (Or.inr (Or.inr (Or.inr (Or.inr (Or.inr (Or.inl h)))))))) rfl))))))
            · exact (ax_up_hit _ _ _ _)
            · rw [qz]
              refine ⟨⟨Eq.trans (ax_up_miss (by decide) ((frM_82 58 2 (fun h => h.elim (fun h => absurd h (by decide)) (fun h => h.elim (fun h => absurd h.1 (by decide)) (fun h => absurd h.1 (by decide))))).trans rfl)) qy2, Eq.trans (ax_up_miss (by decide) ((frM_82 58 3 (fun h => h.elim (fun h => absurd h (by decide)) (fun h => h.elim (fun h => absurd h.1 (by decide)) (fun h => absurd h.1 (by decide))))).trans rfl)) qy3⟩, Eq.trans (ax_up_miss (fun h => absurd h.1 (by decide)) msM_82_0) qa3, Eq.trans (ax_up_miss (fun h => absurd h.1 (by decide)) msM_82_1) qa2, qa4, ?_⟩
              show f_fwd ((ax_up M_82 58 1 0) 55) 0 _
              rw [show (ax_up M_82 58 1 0) 55 = _ from (ax_up_rowmiss (by decide) mrM_82_0)]
              refine f_fwd_cp (Int.le_refl 0) (by omega) ?_
              show f_fwd (M_63 64) 0 _
              rw [qa1]
              exact f_fwd_pi _ _ _
      · exfalso
        omega
set_option maxRecDepth 20000 in
theorem s_X11_text_lw2 (E : ax_Env) (l : Launch) (d : Nat) (hd : 33 ≤ d) (M : ax_Mem) (v0 : Int) (L : List f_Tk) {ta : Int → Int} (hta : M 59 = ta) {tn : Int} (htn : M 58 1 = tn) (hg0 : 0 ≤ tn ∧ tn ≤ 400) (hg1 : f_tp ta tn) (hg2 : f_lx ta tn 2 0 v0 L) (hg3 : 0 ≤ v0 ∧ v0 ≤ 9999) : ax_G E l d iX11_text [.inr 0, .inl 2] M (fun z0 M2 => z0 = some (.inl (f_twr (f_laws L))) ∧ (∀ x0 i0 : Int, ¬ ((x0 = 58 ∧ i0 = 1) ∨ x0 = 60 ∨ x0 = 61 ∨ x0 = 62 ∨ (x0 = 58 ∧ i0 = 7) ∨ (x0 = 58 ∧ i0 = 8) ∨ (x0 = 58 ∧ i0 = 2) ∨ (x0 = 58 ∧ i0 = 3) ∨ x0 = 64 ∨ (x0 = 63 ∧ i0 = 0) ∨ (x0 = 63 ∧ i0 = 1) ∨ x0 = 57 ∨ (x0 = 56 ∧ i0 = 0) ∨ (x0 = 56 ∧ i0 = 1)) → M2 x0 i0 = M x0 i0) ∧ M2 58 1 = 0 ∧ (f_tcL M 2 (f_laws L) M2)) := by
  obtain ⟨d, rfl⟩ : ∃ d0, d = d0 + 1 := ⟨d - 1, by omega⟩
  refine ax_start rfl (Nat.le_of_ble_eq_true rfl) (ls := [some (.inr 0), some (.inl 2), none]) rfl (fun hav hcm => ?_)
  clear hav
  refine ax_aload_n dX11_text_0 rfl rfl (pc' := 1) rfl ?_
  refine ax_getr (v := 58) dX11_text_1 flX11_33 rfl sh_0 rfl (pc' := 4) rfl ?_
  refine ax_iconst dX11_text_4 (by decide) (pc' := 5) rfl ?_
  refine ax_puti dX11_text_5 flX11_200 (Or.inl rfl) sh_58 rfl (pc' := 8) rfl ?_
  refine ax_aload_n dX11_text_8 rfl rfl (pc' := 9) rfl ?_
  refine ax_getr (v := 58) dX11_text_9 flX11_33 rfl sh_0 rfl (pc' := 12) rfl ?_
  refine ax_iconst dX11_text_12 (by decide) (pc' := 13) rfl ?_
  refine ax_puti dX11_text_13 flX11_203 (Or.inl rfl) sh_58 rfl (pc' := 16) rfl ?_
  refine ax_iconst dX11_text_16 (by decide) (pc' := 17) rfl ?_
  refine ax_istore_n dX11_text_17 rfl (by decide) (ls' := [some (.inr 0), some (.inl 2), some (.inl (-1))]) rfl (pc' := 18) rfl ?_
  refine ax_iload_n dX11_text_18 rfl rfl (pc' := 19) rfl ?_
  refine ax_if_lt (tgt := 96) dX11_text_19 (by decide) (pc' := 22) rfl (fun h19 => ?_) (fun h19 => ?_)
  · exfalso
    omega
  · refine ax_iload_n dX11_text_22 rfl rfl (pc' := 23) rfl ?_
    refine ax_iconst dX11_text_23 (by decide) (pc' := 24) rfl ?_
    refine ax_icmp_ge (tgt := 96) dX11_text_24 (by decide) (pc' := 27) rfl (fun h24 => ?_) (fun h24 => ?_)
    · exfalso
      omega
    · refine ax_aload_n dX11_text_27 rfl rfl (pc' := 28) rfl ?_
      refine ax_getr (v := 58) dX11_text_28 flX11_33 rfl sh_0 rfl (pc' := 31) rfl ?_
      refine ax_iload_n dX11_text_31 rfl rfl (pc' := 32) rfl ?_
      refine ax_if_ne (tgt := 40) dX11_text_32 (by decide) (pc' := 35) rfl (fun h32 => ?_) (fun h32 => ?_)
      · refine ax_iload_n dX11_text_40 rfl rfl (pc' := 41) rfl ?_
        refine ax_iconst dX11_text_41 (by decide) (pc' := 42) rfl ?_
        refine ax_icmp_ne (tgt := 50) dX11_text_42 (by decide) (pc' := 45) rfl (fun h42 => ?_) (fun h42 => ?_)
        · refine ax_ldcS (i := 2) (r := (-5)) dX11_text_50 rfl (by decide) (pc' := 52) rfl ?_
          refine ax_invG [.inr (-5)] [] dX11_text_52 mlX11_212 sh_58 rfl rfl rfl (Nat.le_of_ble_eq_true rfl) (s_X8_scan E l _ (by omega) _ 2 2 v0 L (ax_up_rowmiss (by decide) (ax_up_rowmiss (by decide) rfl)) (ax_up_rowmiss (by decide) (ax_up_rowmiss (by decide) rfl)) (ax_up_rowmiss (by decide) (ax_up_rowmiss (by decide) rfl)) (ax_up_rowmiss (by decide) (ax_up_rowmiss (by decide) hta)) (ax_up_miss (by decide) (ax_up_miss (by decide) htn)) (by unfold f_rq; decide) hg0 hg1 hg2 hg3) (pc' := 55) rfl (fun vv M_52 hq co52 hcm52 => ?_)
          obtain ⟨rfl, frM_52, msM_52_0, fa52_0, fa52_1⟩ := hq
          refine ax_reS (st2 := []) rfl ?_
          have qcc : f_cc 2 (M_52 60) (M_52 61) (M_52 62) 0 L := ⟨fa52_0, f_lx_wl hg2, Int.le_refl 0, by omega⟩
          refine ax_aload_n dX11_text_55 rfl rfl (pc' := 56) rfl ?_
          refine ax_getr (v := 63) dX11_text_56 flX11_40 rfl sh_0 rfl (pc' := 59) rfl ?_
          refine ax_aload_n dX11_text_59 rfl rfl (pc' := 60) rfl ?_
          refine ax_getr (v := 58) dX11_text_60 flX11_33 rfl sh_0 rfl (pc' := 63) rfl ?_
          refine ax_invG [.inr 58] [] dX11_text_63 mlX11_216 sh_63 rfl rfl rfl (Nat.le_of_ble_eq_true rfl) (s_X3_readAll E l _ (by omega) _ 2 L rfl rfl rfl ((funext fun i0 => frM_52 64 i0 (fun h => h.elim (fun h => absurd h.1 (by decide)) (fun h => h.elim (fun h => absurd h (by decide)) (fun h => h.elim (fun h => absurd h (by decide)) (fun h => h.elim (fun h => absurd h (by decide)) (fun h => absurd h.1 (by decide))))))).trans (ax_up_rowmiss (by decide) (ax_up_rowmiss (by decide) rfl))) msM_52_0 ((frM_52 58 2 (fun h => h.elim (fun h => absurd h.2 (by decide)) (fun h => h.elim (fun h => absurd h (by decide)) (fun h => h.elim (fun h => absurd h (by decide)) (fun h => h.elim (fun h => absurd h (by decide)) (fun h => absurd h.2 (by decide))))))).trans (ax_up_miss (by decide) (ax_up_hit _ _ _ _))) ((frM_52 58 3 (fun h => h.elim (fun h => absurd h.2 (by decide)) (fun h => h.elim (fun h => absurd h (by decide)) (fun h => h.elim (fun h => absurd h (by decide)) (fun h => h.elim (fun h => absurd h (by decide)) (fun h => absurd h.2 (by decide))))))).trans (ax_up_hit _ _ _ _)) (by decide) qcc) (pc' := 66) rfl (fun vv M_63 hq co63 hcm63 => ?_)
          obtain ⟨rfl, frM_63, fa63_0⟩ := hq
          refine ax_reS (st2 := [.inl (f_rwb (f_laws L))]) rfl ?_
          have cc63 : -2147483648 ≤ f_rwb (f_laws L) ∧ f_rwb (f_laws L) < 2147483648 := co63 _ rfl
          refine ax_if_eq (tgt := 175) dX11_text_66 (by decide) (pc' := 69) rfl (fun h66 => ?_) (fun h66 => ?_)
          · obtain ⟨qk0, qs0, qz⟩ := f_rwb_no h66
            rw [qz] at fa63_0
            obtain ⟨qk3, qs3⟩ := fa63_0
            refine ax_aload_n dX11_text_175 rfl rfl (pc' := 176) rfl ?_
            refine ax_getr (v := 58) dX11_text_176 flX11_33 rfl sh_0 rfl (pc' := 179) rfl ?_
            refine ax_iconst dX11_text_179 (by decide) (pc' := 180) rfl ?_
            refine ax_puti dX11_text_180 flX11_195 (Or.inl rfl) sh_58 rfl (pc' := 183) rfl ?_
            refine ax_iload_n dX11_text_183 rfl rfl (pc' := 184) rfl ?_
            refine ax_iret dX11_text_184 rfl ?_
            refine ⟨rfl, ?_, ?_, ?_, ?_⟩
            · refine congrArg (fun z => some (Sum.inl z)) ?_
              rw [qz]
              first | rfl | exact qa3
            · intro x0 i0 hai
              exact (ax_up_miss (fun h => hai (Or.inl h)) ((frM_63 x0 i0 (fun h => h.elim (fun h => hai (Or.inr (Or.inr (Or.inr (Or.inr (Or.inr (Or.inr (Or.inr (Or.inr (Or.inl h)))))))))) (fun h => h.elim (fun h => hai (Or.inr (Or.inr (Or.inr (Or.inr (Or.inr (Or.inr (Or.inr (Or.inr (Or.inr (Or.inr (Or.inl h)))))))))))) (fun h => h.elim (fun h => hai (Or.inr (Or.inr (Or.inr (Or.inr (Or.inr (Or.inl h))))))) (fun h => h.elim (fun h => hai (Or.inr (Or.inr (Or.inr (Or.inr (Or.inr (Or.inr (Or.inl h)))))))) (fun h => h.elim (fun h => hai (Or.inr (Or.inr (Or.inr (Or.inr (Or.inr (Or.inr (Or.inr (Or.inl h))))))))) (fun h => hai (Or.inr (Or.inr (Or.inr (Or.inr (Or.inr (Or.inr (Or.inr (Or.inr (Or.inr (Or.inl h))))))))))))))))).trans ((frM_52 x0 i0 (fun h => h.elim (fun h => hai (Or.inr (Or.inr (Or.inr (Or.inr (Or.inr (Or.inl h))))))) (fun h => h.elim (fun h => hai (Or.inr (Or.inl h))) (fun h => h.elim (fun h => hai (Or.inr (Or.inr (Or.inl h)))) (fun h => h.elim (fun h => hai (Or.inr (Or.inr (Or.inr (Or.inl h))))) (fun h => hai (Or.inr (Or.inr (Or.inr (Or.inr (Or.inl h))))))))))).trans (ax_up_miss (fun h => hai (Or.inr (Or.inr (Or.inr (Or.inr (Or.inr (Or.inr (Or.inr (Or.inl h))))))))) (ax_up_miss (fun h => hai (Or.inr (Or.inr (Or.inr (Or.inr (Or.inr (Or.inr (Or.inl h)))))))) rfl)))))
            · exact (ax_up_hit _ _ _ _)
            · rw [qz]
              exact ⟨⟨Eq.trans (ax_up_miss (by decide) rfl) qk3, Eq.trans (ax_up_miss (by decide) rfl) qs3⟩, (ax_up_miss (fun h => absurd h.1 (by decide)) ((frM_63 56 0 (fun h => h.elim (fun h => absurd h (by decide)) (fun h => h.elim (fun h => absurd h.1 (by decide)) (fun h => h.elim (fun h => absurd h.1 (by decide)) (fun h => h.elim (fun h => absurd h.1 (by decide)) (fun h => h.elim (fun h => absurd h.1 (by decide)) (fun h => absurd h.1 (by decide)))))))).trans ((frM_52 56 0 (fun h => h.elim (fun h => absurd h.1 (by decide)) (fun h => h.elim (fun h => absurd h (by decide)) (fun h => h.elim (fun h => absurd h (by decide)) (fun h => h.elim (fun h => absurd h (by decide)) (fun h => absurd h.1 (by decide))))))).trans (ax_up_miss (fun h => absurd h.1 (by decide)) (ax_up_miss (fun h => absurd h.1 (by decide)) rfl))))), (ax_up_miss (fun h => absurd h.1 (by decide)) ((frM_63 56 1 (fun h => h.elim (fun h => absurd h (by decide)) (fun h => h.elim (fun h => absurd h.1 (by decide)) (fun h => h.elim (fun h => absurd h.1 (by decide)) (fun h => h.elim (fun h => absurd h.1 (by decide)) (fun h => h.elim (fun h => absurd h.1 (by decide)) (fun h => absurd h.1 (by decide)))))))).trans ((frM_52 56 1 (fun h => h.elim (fun h => absurd h.1 (by decide)) (fun h => h.elim (fun h => absurd h (by decide)) (fun h => h.elim (fun h => absurd h (by decide)) (fun h => h.elim (fun h => absurd h (by decide)) (fun h => absurd h.1 (by decide))))))).trans (ax_up_miss (fun h => absurd h.1 (by decide)) (ax_up_miss (fun h => absurd h.1 (by decide)) rfl))))), (ax_up_rowmiss (by decide) ((funext fun i0 => frM_63 57 i0 (fun h => h.elim (fun h => absurd h (by decide)) (fun h => h.elim (fun h => absurd h.1 (by decide)) (fun h => h.elim (fun h => absurd h.1 (by decide)) (fun h => h.elim (fun h => absurd h.1 (by decide)) (fun h => h.elim (fun h => absurd h.1 (by decide)) (fun h => absurd h.1 (by decide)))))))).trans ((funext fun i0 => frM_52 57 i0 (fun h => h.elim (fun h => absurd h.1 (by decide)) (fun h => h.elim (fun h => absurd h (by decide)) (fun h => h.elim (fun h => absurd h (by decide)) (fun h => h.elim (fun h => absurd h (by decide)) (fun h => absurd h.1 (by decide))))))).trans (ax_up_rowmiss (by decide) (ax_up_rowmiss (by decide) rfl)))))⟩
          · obtain ⟨lsF, qz⟩ := f_rwb_ok h66
            rw [qz] at fa63_0
            obtain ⟨qa1, qa2, qa3, qa4, qy2, qy3⟩ := fa63_0
            refine ax_aload_n dX11_text_69 rfl rfl (pc' := 70) rfl ?_
            refine ax_getr (v := 39) dX11_text_70 flX11_26 rfl sh_0 rfl (pc' := 73) rfl ?_
            refine ax_getr (v := 40) dX11_text_73 flX11_220 rfl sh_39 rfl (pc' := 76) rfl ?_
            refine ax_iload_n dX11_text_76 rfl rfl (pc' := 77) rfl ?_
            refine ax_aald (v := 56) dX11_text_77 sh_40 (by decide) (by decide) (by decide) rfl (pc' := 78) rfl ?_
            refine ax_aload_n dX11_text_78 rfl rfl (pc' := 79) rfl ?_
            refine ax_getr (v := 63) dX11_text_79 flX11_40 rfl sh_0 rfl (pc' := 82) rfl ?_
            refine ax_invG [.inr 63] [] dX11_text_82 mlX11_224 sh_56 rfl rfl rfl (Nat.le_of_ble_eq_true rfl) (s_X3_copyFrom E l _ (by omega) _ 56 63 ((funext fun i0 => frM_63 57 i0 (fun h => h.elim (fun h => absurd h (by decide)) (fun h => h.elim (fun h => absurd h.1 (by decide)) (fun h => h.elim (fun h => absurd h.1 (by decide)) (fun h => h.elim (fun h => absurd h.1 (by decide)) (fun h => h.elim (fun h => absurd h.1 (by decide)) (fun h => absurd h.1 (by decide)))))))).trans ((funext fun i0 => frM_52 57 i0 (fun h => h.elim (fun h => absurd h.1 (by decide)) (fun h => h.elim (fun h => absurd h (by decide)) (fun h => h.elim (fun h => absurd h (by decide)) (fun h => h.elim (fun h => absurd h (by decide)) (fun h => absurd h.1 (by decide))))))).trans (ax_up_rowmiss (by decide) (ax_up_rowmiss (by decide) rfl)))) rfl rfl rfl ⟨sh_56, sh_57⟩ ⟨sh_63, sh_64⟩ (by decide)) (pc' := 85) rfl (fun vv M_82 hq co82 hcm82 => ?_)
            obtain ⟨rfl, frM_82, mrM_82_0, msM_82_0, msM_82_1⟩ := hq
            refine ax_reS (st2 := []) rfl ?_
            refine ax_aload_n dX11_text_85 rfl rfl (pc' := 86) rfl ?_
            refine ax_getr (v := 63) dX11_text_86 flX11_40 rfl sh_0 rfl (pc' := 89) rfl ?_
            refine ax_geti (v := M_63 63 0) dX11_text_89 flX11_228 rfl sh_63 ((frM_82 63 0 (fun h => h.elim (fun h => absurd h (by decide)) (fun h => h.elim (fun h => absurd h.1 (by decide)) (fun h => absurd h.1 (by decide))))).trans rfl) rfl (pc' := 92) rfl ?_
            refine ax_istore_n dX11_text_92 rfl (by decide) (ls' := [some (.inr 0), some (.inl 2), some (.inl (M_63 63 0))]) rfl (pc' := 93) rfl ?_
            refine ax_goto dX11_text_93 (pc' := 175) (by decide) ?_
            refine ax_aload_n dX11_text_175 rfl rfl (pc' := 176) rfl ?_
            refine ax_getr (v := 58) dX11_text_176 flX11_33 rfl sh_0 rfl (pc' := 179) rfl ?_
            refine ax_iconst dX11_text_179 (by decide) (pc' := 180) rfl ?_
            refine ax_puti dX11_text_180 flX11_195 (Or.inl rfl) sh_58 rfl (pc' := 183) rfl ?_
            refine ax_iload_n dX11_text_183 rfl rfl (pc' := 184) rfl ?_
            refine ax_iret dX11_text_184 rfl ?_
            refine ⟨rfl, ?_, ?_, ?_, ?_⟩
            · refine congrArg (fun z => some (Sum.inl z)) ?_
              rw [qz]
              first | rfl | exact qa3
            · intro x0 i0 hai
              exact (ax_up_miss (fun h => hai (Or.inl h)) ((frM_82 x0 i0 (fun h => h.elim (fun h => hai (Or.inr (Or.inr (Or.inr (Or.inr (Or.inr (Or.inr (Or.inr (Or.inr (Or.inr (Or.inr (Or.inr (Or.inl h))))))))))))) (fun h => h.elim (fun h => hai (Or.inr (Or.inr (Or.inr (Or.inr (Or.inr (Or.inr (Or.inr (Or.inr (Or.inr (Or.inr (Or.inr (Or.inr (Or.inl h)))))))))))))) (fun h => hai (Or.inr (Or.inr (Or.inr (Or.inr (Or.inr (Or.inr (Or.inr (Or.inr (Or.inr (Or.inr (Or.inr (Or.inr (Or.inr h))))))))))))))))).trans ((frM_63 x0 i0 (fun h => h.elim (fun h => hai (Or.inr (Or.inr (Or.inr (Or.inr (Or.inr (Or.inr (Or.inr (Or.inr (Or.inl h)))))))))) (fun h => h.elim (fun h => hai (Or.inr (Or.inr (Or.inr (Or.inr (Or.inr (Or.inr (Or.inr (Or.inr (Or.inr (Or.inr (Or.inl h)))))))))))) (fun h => h.elim (fun h => hai (Or.inr (Or.inr (Or.inr (Or.inr (Or.inr (Or.inl h))))))) (fun h => h.elim (fun h => hai (Or.inr (Or.inr (Or.inr (Or.inr (Or.inr (Or.inr (Or.inl h)))))))) (fun h => h.elim (fun h => hai (Or.inr (Or.inr (Or.inr (Or.inr (Or.inr (Or.inr (Or.inr (Or.inl h))))))))) (fun h => hai (Or.inr (Or.inr (Or.inr (Or.inr (Or.inr (Or.inr (Or.inr (Or.inr (Or.inr (Or.inl h))))))))))))))))).trans ((frM_52 x0 i0 (fun h => h.elim (fun h => hai (Or.inr (Or.inr (Or.inr (Or.inr (Or.inr (Or.inl h))))))) (fun h => h.elim (fun h => hai (Or.inr (Or.inl h))) (fun h => h.elim (fun h => hai (Or.inr (Or.inr (Or.inl h)))) (fun h => h.elim (fun h => hai (Or.inr (Or.inr (Or.inr (Or.inl h))))) (fun h => hai (Or.inr (Or.inr (Or.inr (Or.inr (Or.inl h))))))))))).trans (ax_up_miss (fun h => hai (Or.inr (Or.inr (Or.inr (Or.inr (Or.inr (Or.inr (Or.inr (Or.inl h))))))))) (ax_up_miss (fun h => hai (Or.inr (Or.inr (Or.inr (Or.inr (Or.inr (Or.inr (Or.inl h)))))))) rfl))))))
            · exact (ax_up_hit _ _ _ _)
            · rw [qz]
              refine ⟨⟨Eq.trans (ax_up_miss (by decide) ((frM_82 58 2 (fun h => h.elim (fun h => absurd h (by decide)) (fun h => h.elim (fun h => absurd h.1 (by decide)) (fun h => absurd h.1 (by decide))))).trans rfl)) qy2, Eq.trans (ax_up_miss (by decide) ((frM_82 58 3 (fun h => h.elim (fun h => absurd h (by decide)) (fun h => h.elim (fun h => absurd h.1 (by decide)) (fun h => absurd h.1 (by decide))))).trans rfl)) qy3⟩, Eq.trans (ax_up_miss (fun h => absurd h.1 (by decide)) msM_82_0) qa3, Eq.trans (ax_up_miss (fun h => absurd h.1 (by decide)) msM_82_1) qa2, qa4, ?_⟩
              show f_fwd ((ax_up M_82 58 1 0) 57) 0 _
              rw [show (ax_up M_82 58 1 0) 57 = _ from (ax_up_rowmiss (by decide) mrM_82_0)]
              refine f_fwd_cp (Int.le_refl 0) (by omega) ?_
              show f_fwd (M_63 64) 0 _
              rw [qa1]
              exact f_fwd_pi _ _ _
        · exfalso
          omega
      · exfalso
        omega
