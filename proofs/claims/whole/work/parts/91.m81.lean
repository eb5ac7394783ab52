/-! yards: the choice -/
theorem f_uL_up {ld : Int → Int} {r o : Int} (h0 : 0 ≤ ld r) (ho : 1 ≤ o) : f_uL (f_up ld r (ld r + o)) = f_up (f_uL ld) r 1 := by
  funext k
  unfold f_uL f_us1 f_up
  split
  · rw [if_pos (by omega)]
  · rfl
theorem f_vL_up {le ld : Int → Int} {r o : Int} : f_vL le (f_up ld r (ld r + o)) = f_up (f_vL le ld) r (f_vL le ld r - o) := by
  funext k
  unfold f_vL f_up
  split
  · rename_i h
    rw [h]
    omega
  · rfl
def f_yG (le ld : Int → Int) (o : Int) (tl : List Int) : Int → Int := f_mnG (f_cs (f_uL ld) 8) (f_uL ld) (f_vL le ld) o tl
theorem f_yG_y {le ld : Int → Int} {o r : Int} {tl : List Int} (hr : 0 ≤ r ∧ r < 8) (h0 : 0 ≤ ld r) (ho : 1 ≤ o) (h : ld r + o ≤ le r) : f_yG le ld o tl r = f_mn (f_cs (f_uL (f_up ld r (ld r + o))) 8) (f_uL (f_up ld r (ld r + o))) (f_vL le (f_up ld r (ld r + o))) tl := by
  obtain ⟨k, rfl⟩ : ∃ k : Nat, (k : Int) = r := ⟨r.toNat, by omega⟩
  rw [f_uL_up h0 ho, f_vL_up, f_cs_up (by omega)]
  have h1 : o ≤ f_vL le ld (k : Int) := by
    show o ≤ le (k : Int) - ld (k : Int)
    omega
  exact if_pos h1
theorem f_yG_n {le ld : Int → Int} {o r : Int} {tl : List Int} (h : ¬ ld r + o ≤ le r) : f_yG le ld o tl r = 1000 := by
  have h1 : ¬ o ≤ f_vL le ld r := by
    show ¬ o ≤ le r - ld r
    omega
  exact if_neg h1
/-- the first that is the least -/
theorem f_bst_fst {g : Int → Int} {r : Int} (hr : 0 ≤ r ∧ r < 8) (h1 : (f_bst g 8).1 < 1000) (hg : g r = (f_bst g 8).1) (hq : ∀ q, 0 ≤ q → q < r → g q ≠ (f_bst g 8).1) : (f_bst g 8).2 = r := by
  have key : ∀ n : Nat, (n : Int) ≤ 8 → (f_bst g 8).1 ≤ (f_bst g (n : Int)).1 ∧ (r < (n : Int) → f_bst g (n : Int) = ((f_bst g 8).1, r)) ∧ ((n : Int) ≤ r → (f_bst g 8).1 < (f_bst g (n : Int)).1) := by
    intro n
    induction n with
    | zero =>
      intro _
      have e : f_bst g ((0 : Nat) : Int) = (1000, -1) := f_loop_done (Int.le_refl 0)
      rw [e]
      exact ⟨by show _ ≤ (1000 : Int); omega, fun h => by omega, fun _ => h1⟩
    | succ n ih =>
      intro hn
      obtain ⟨i1, i2, i3⟩ := ih (by omega)
      have hle : (f_bst g 8).1 ≤ g (n : Int) := f_bst_le (g := g) 8 n (by omega)
      rw [show ((n + 1 : Nat) : Int) = (n : Int) + 1 by omega, f_bst_last (by omega)]
      unfold f_bsS
      by_cases hnr : (n : Int) = r
      · have h3 := i3 (by omega)
        rw [hnr, hg]
        rw [hnr] at h3
        rw [if_pos h3]
        exact ⟨Int.le_refl _, fun _ => rfl, fun h => by omega⟩
      · by_cases hlt : (n : Int) < r
        · have h4 := hq (n : Int) (by omega) hlt
          have h5 := i3 (by omega)
          split
          · exact ⟨hle, fun h => by omega, fun _ => by show _ < g (n : Int); omega⟩
          · exact ⟨i1, fun h => by omega, fun _ => h5⟩
        · have h6 := i2 (by omega)
          rw [h6]
          rw [if_neg (by show ¬ g (n : Int) < (f_bst g 8).1; omega)]
          exact ⟨Int.le_refl _, fun _ => rfl, fun h => by omega⟩
  have h7 : f_bst g 8 = ((f_bst g 8).1, r) := (key 8 (by omega)).2.1 (by omega)
  rw [h7]
theorem f_bst_non {g : Int → Int} (h1 : (f_bst g 8).1 < 1000) (hq : ∀ q, 0 ≤ q → q < 8 → g q ≠ (f_bst g 8).1) : False := by
  obtain ⟨⟨a, b⟩, c⟩ := f_bst_ix (g := g) 8 h1
  exact hq _ a b c
theorem f_up_bk {ld : Int → Int} {r o : Int} : f_up (f_up ld r (ld r + o)) r (ld r + o - o) = ld := by
  funext k
  unfold f_up
  split
  · rename_i h
    rw [h]
    omega
  · rfl
set_option maxRecDepth 20000 in
theorem s_X10_chooseRope (E : ax_Env) (l : Launch) (d : Nat) (hd : 3 ≤ d) (M : ax_Mem) (i : Int) (o : Int) (tl : List Int) {od : Int → Int} (hod : M 51 = od) {le : Int → Int} (hle : M 84 = le) {ld : Int → Int} (hld : M 85 = ld) {oc : Int} (hoc : M 39 8 = oc) {fw : Int} (hfw : M 82 0 = fw) (hg0 : 0 ≤ i ∧ i + 1 + (tl.length : Int) = oc ∧ oc ≤ 7) (hg1 : f_fwd od i (o :: tl)) (hg2 : ∀ x ∈ (o :: tl), 1 ≤ x ∧ x ≤ 24) (hg3 : ∀ r, 0 ≤ r → r < 8 → (0 ≤ ld r ∧ ld r ≤ le r) ∧ le r ≤ 24) (hg4 : (f_bst (f_yG le ld o tl) 8).1 = fw ∧ fw < 1000) : ax_G E l d iX10_chooseRope [.inr 82, .inr 39, .inl i] M (fun z0 M2 => z0 = some (.inl ((f_bst (f_yG le ld o tl) 8).2)) ∧ (∀ x0 i0 : Int, ¬ (x0 = 85 ∨ x0 = 86 ∨ x0 = 87) → M2 x0 i0 = M x0 i0) ∧ M2 85 = f_up ld (f_bst (f_yG le ld o tl) 8).2 (ld (f_bst (f_yG le ld o tl) 8).2 + o)) := by
  obtain ⟨d, rfl⟩ : ∃ d0, d = d0 + 1 := ⟨d - 1, by omega⟩
  refine ax_start rfl (Nat.le_of_ble_eq_true rfl) (ls := [some (.inr 82), some (.inr 39), some (.inl i), none]) rfl (fun hav hcm => ?_)
  have hc2 : -2147483648 ≤ i ∧ i < 2147483648 := hav (.inl i) (by simp)
  clear hav
  have qo := hg2 o (List.mem_cons_self)
  have qod : od i = o := hg1.1
  refine ax_iconst dX10_chooseRope_0 (by decide) (pc' := 1) rfl ?_
  refine ax_istore_n dX10_chooseRope_1 rfl (by decide) (ls' := [some (.inr 82), some (.inr 39), some (.inl i), some (.inl 0)]) rfl (pc' := 2) rfl ?_
  have LP1 : ∀ (kq2 : Nat) (r : Int) (l1 : Int → Int) (M1 : ax_Mem) (hm1 : 8 - r < (kq2 : Nat)) (fr1 : ∀ x0 i0 : Int, ¬ (x0 = 85 ∨ x0 = 86 ∨ x0 = 87) → M1 x0 i0 = M x0 i0) (mr1_85 : M1 85 = l1) (iv1_0 : 0 ≤ r ∧ r ≤ 8) (iv1_1 : l1 = ld) (iv1_2 : ∀ q, 0 ≤ q → q < r → f_yG le ld o tl q ≠ fw), ax_W E l (d + 1) 0 0 iX10_chooseRope 2 [some (.inr 82), some (.inr 39), some (.inl i), some (.inl r)] [] SH M1 (ax_P (fun z0 M2 => z0 = some (.inl ((f_bst (f_yG le ld o tl) 8).2)) ∧ (∀ x0 i0 : Int, ¬ (x0 = 85 ∨ x0 = 86 ∨ x0 = 87) → M2 x0 i0 = M x0 i0) ∧ M2 85 = f_up ld (f_bst (f_yG le ld o tl) 8).2 (ld (f_bst (f_yG le ld o tl) 8).2 + o))) := by
    intro kq2
    induction kq2 with
    | zero =>
      intro r l1 M1 hm1 fr1 mr1_85 iv1_0 iv1_1 iv1_2
      exfalso
      omega
    | succ kq2 ih3 =>
      intro r l1 M1 hm1 fr1 mr1_85 iv1_0 iv1_1 iv1_2
      refine ax_iload_n dX10_chooseRope_2 rfl rfl (pc' := 3) rfl ?_
      refine ax_bipush dX10_chooseRope_3 (by decide) (pc' := 5) rfl ?_
      refine ax_icmp_ge (tgt := 83) dX10_chooseRope_5 (by decide) (pc' := 8) rfl (fun h5 => ?_) (fun h5 => ?_)
      · exfalso
        exact f_bst_non (g := f_yG le ld o tl) (by omega) (fun q h1 h2 => by rw [hg4.1]; exact iv1_2 q h1 (by omega))
      · have qr8 := hg3 r (by omega) (by omega)
        have ql1 : l1 r = ld r := by rw [iv1_1]
        refine ax_aload_n dX10_chooseRope_8 rfl rfl (pc' := 9) rfl ?_
        refine ax_getr (v := 85) dX10_chooseRope_9 flX10_18 rfl sh_82 rfl (pc' := 12) rfl ?_
        refine ax_iload_n dX10_chooseRope_12 rfl rfl (pc' := 13) rfl ?_
        refine ax_iald (v := l1 r) dX10_chooseRope_13 sh_85 rfl (by omega) (by omega) ((congrFun mr1_85 r).trans rfl) (pc' := 14) rfl ?_
        refine ax_aload_n dX10_chooseRope_14 rfl rfl (pc' := 15) rfl ?_
        refine ax_getr (v := 51) dX10_chooseRope_15 flX10_58 rfl sh_39 rfl (pc' := 18) rfl ?_
        refine ax_iload_n dX10_chooseRope_18 rfl rfl (pc' := 19) rfl ?_
        refine ax_iald (v := od i) dX10_chooseRope_19 sh_51 rfl (by omega) (by omega) ((congrFun ((funext fun i0 => fr1 51 i0 (fun h => h.elim (fun h => absurd h (by decide)) (fun h => h.elim (fun h => absurd h (by decide)) (fun h => absurd h (by decide))))).trans hod) i).trans rfl) (pc' := 20) rfl ?_
        refine ax_reS (st2 := [.inl o, .inl (l1 r)]) (congrArg (fun z => Sum.inl z :: _) (by exact qod)) ?_
        refine ax_iadd dX10_chooseRope_20 (by omega) (pc' := 21) rfl ?_
        refine ax_aload_n dX10_chooseRope_21 rfl rfl (pc' := 22) rfl ?_
        refine ax_getr (v := 84) dX10_chooseRope_22 flX10_15 rfl sh_82 rfl (pc' := 25) rfl ?_
        refine ax_iload_n dX10_chooseRope_25 rfl rfl (pc' := 26) rfl ?_
        refine ax_iald (v := le r) dX10_chooseRope_26 sh_84 rfl (by omega) (by omega) ((congrFun ((funext fun i0 => fr1 84 i0 (fun h => h.elim (fun h => absurd h (by decide)) (fun h => h.elim (fun h => absurd h (by decide)) (fun h => absurd h (by decide))))).trans hle) r).trans rfl) (pc' := 27) rfl ?_
        refine ax_icmp_gt (tgt := 77) dX10_chooseRope_27 (by decide) (pc' := 30) rfl (fun h27 => ?_) (fun h27 => ?_)
        · have qne : f_yG le ld o tl r ≠ fw := by
            rw [f_yG_n (by omega)]
            omega
          refine ax_iinc dX10_chooseRope_77 rfl (by decide) (by omega) (ls' := [some (.inr 82), some (.inr 39), some (.inl i), some (.inl (r + 1))]) rfl (pc' := 80) rfl ?_
          refine ax_goto dX10_chooseRope_80 (pc' := 2) (by decide) ?_
          refine ih3 (r + 1) l1 M1 ?_ ?_ ?_ ?_ ?_ ?_
          · omega
          · intro x0 i0 hai
            exact ((fr1 x0 i0 (fun h => h.elim (fun h => hai (Or.inl h)) (fun h => h.elim (fun h => hai (Or.inr (Or.inl h))) (fun h => hai (Or.inr (Or.inr h)))))).trans rfl)
          · exact mr1_85
          · omega
          · first | exact iv1_1 | (rw [iv1_1]; exact f_up_bk)
          · intro q h1 h2
            by_cases hq : q = r
            · rw [hq]
              exact qne
            · exact iv1_2 q h1 (by omega)
        · refine ax_aload_n dX10_chooseRope_30 rfl rfl (pc' := 31) rfl ?_
          refine ax_getr (v := 85) dX10_chooseRope_31 flX10_18 rfl sh_82 rfl (pc' := 34) rfl ?_
          refine ax_iload_n dX10_chooseRope_34 rfl rfl (pc' := 35) rfl ?_
          refine ax_dup2 dX10_chooseRope_35 (pc' := 36) rfl ?_
          refine ax_iald (v := l1 r) dX10_chooseRope_36 sh_85 rfl (by omega) (by omega) ((congrFun mr1_85 r).trans rfl) (pc' := 37) rfl ?_
          refine ax_aload_n dX10_chooseRope_37 rfl rfl (pc' := 38) rfl ?_
          refine ax_getr (v := 51) dX10_chooseRope_38 flX10_58 rfl sh_39 rfl (pc' := 41) rfl ?_
          refine ax_iload_n dX10_chooseRope_41 rfl rfl (pc' := 42) rfl ?_
          refine ax_iald (v := od i) dX10_chooseRope_42 sh_51 rfl (by omega) (by omega) ((congrFun ((funext fun i0 => fr1 51 i0 (fun h => h.elim (fun h => absurd h (by decide)) (fun h => h.elim (fun h => absurd h (by decide)) (fun h => absurd h (by decide))))).trans hod) i).trans rfl) (pc' := 43) rfl ?_
          refine ax_reS (st2 := [.inl o, .inl (l1 r), .inl r, .inr 85]) (congrArg (fun z => Sum.inl z :: _) (by exact qod)) ?_
          refine ax_iadd dX10_chooseRope_43 (by omega) (pc' := 44) rfl ?_
          refine ax_iast dX10_chooseRope_44 sh_85 rfl (by omega) (by omega) (pc' := 45) rfl ?_
          refine ax_aload_n dX10_chooseRope_45 rfl rfl (pc' := 46) rfl ?_
          refine ax_aload_n dX10_chooseRope_46 rfl rfl (pc' := 47) rfl ?_
          refine ax_iload_n dX10_chooseRope_47 rfl rfl (pc' := 48) rfl ?_
          refine ax_iconst dX10_chooseRope_48 (by decide) (pc' := 49) rfl ?_
          refine ax_iadd dX10_chooseRope_49 (by omega) (pc' := 50) rfl ?_
          refine ax_invG [.inr 39, .inl (i + 1)] [] dX10_chooseRope_50 mlX10_43 sh_82 rfl rfl rfl (Nat.le_of_ble_eq_true rfl) (s_X10_fewestFrom E l _ (by omega) _ (i + 1) tl (ax_up_rowmiss (by decide) ((funext fun i0 => fr1 51 i0 (fun h => h.elim (fun h => absurd h (by decide)) (fun h => h.elim (fun h => absurd h (by decide)) (fun h => absurd h (by decide))))).trans hod)) (ax_up_rowmiss (by decide) ((funext fun i0 => fr1 84 i0 (fun h => h.elim (fun h => absurd h (by decide)) (fun h => h.elim (fun h => absurd h (by decide)) (fun h => absurd h (by decide))))).trans hle)) (ax_up_rowhit mr1_85) (ax_up_rowmiss (by decide) rfl) (ax_up_rowmiss (by decide) rfl) (ax_up_miss (fun h => absurd h.1 (by decide)) ((fr1 39 8 (fun h => h.elim (fun h => absurd h (by decide)) (fun h => h.elim (fun h => absurd h (by decide)) (fun h => absurd h (by decide))))).trans hoc)) (by omega) hg1.2 (fun x hx => hg2 x (List.mem_cons_of_mem _ hx)) (fun q h1 h2 => by
      have e := hg3 q h1 h2
      have e2 : f_up l1 r (l1 r + o) q = if q = r then l1 r + o else l1 q := rfl
      rw [e2]
      split
      · rename_i hqr
        rw [hqr, iv1_1] at *
        omega
      · rw [iv1_1]
        omega)) (pc' := 53) rfl (fun vv M_50 hq co50 hcm50 => ?_)
          obtain ⟨rfl, frM_50⟩ := hq
          refine ax_reS (st2 := [.inl (f_fwF (f_up l1 r (l1 r + o)) le tl)]) rfl ?_
          have cc50 : -2147483648 ≤ f_fwF (f_up l1 r (l1 r + o)) le tl ∧ f_fwF (f_up l1 r (l1 r + o)) le tl < 2147483648 := co50 _ rfl
          have qfm := f_fwF_mn (ld := f_up l1 r (l1 r + o)) (le := le) (os := tl) (by omega) (fun x hx => hg2 x (List.mem_cons_of_mem _ hx))
          have qgy : f_yG le ld o tl r = f_mn (f_cs (f_uL (f_up l1 r (l1 r + o))) 8) (f_uL (f_up l1 r (l1 r + o))) (f_vL le (f_up l1 r (l1 r + o))) tl := by
            rw [iv1_1]
            rw [iv1_1] at h27
            exact f_yG_y ⟨by omega, by omega⟩ (hg3 r (by omega) (by omega)).1.1 qo.1 h27
          rw [← qgy] at qfm
          refine ax_aload_n dX10_chooseRope_53 rfl rfl (pc' := 54) rfl ?_
          refine ax_geti (v := fw) dX10_chooseRope_54 flX10_47 rfl sh_82 (show M_50 82 0 = fw from ((frM_50 82 0 (fun h => h.elim (fun h => absurd h (by decide)) (fun h => absurd h (by decide)))).trans (ax_up_miss (fun h => absurd h.1 (by decide)) ((fr1 82 0 (fun h => h.elim (fun h => absurd h (by decide)) (fun h => h.elim (fun h => absurd h (by decide)) (fun h => absurd h (by decide))))).trans hfw)))) rfl (pc' := 57) rfl ?_
          refine ax_icmp_ne (tgt := 62) dX10_chooseRope_57 (by decide) (pc' := 60) rfl (fun h57 => ?_) (fun h57 => ?_)
          · have qne : f_yG le ld o tl r ≠ fw := fun h => h57 ((qfm (Or.inr (by omega))).trans h)
            refine ax_aload_n dX10_chooseRope_62 rfl rfl (pc' := 63) rfl ?_
            refine ax_getr (v := 85) dX10_chooseRope_63 flX10_18 rfl sh_82 rfl (pc' := 66) rfl ?_
            refine ax_iload_n dX10_chooseRope_66 rfl rfl (pc' := 67) rfl ?_
            refine ax_dup2 dX10_chooseRope_67 (pc' := 68) rfl ?_
            refine ax_iald (v := l1 r + o) dX10_chooseRope_68 sh_85 rfl (by omega) (by omega) ((congrFun ((funext fun i0 => frM_50 85 i0 (fun h => h.elim (fun h => absurd h (by decide)) (fun h => absurd h (by decide)))).trans (ax_up_rowhit mr1_85)) r).trans (f_up_same _ _ _)) (pc' := 69) rfl ?_
            refine ax_aload_n dX10_chooseRope_69 rfl rfl (pc' := 70) rfl ?_
            refine ax_getr (v := 51) dX10_chooseRope_70 flX10_58 rfl sh_39 rfl (pc' := 73) rfl ?_
            refine ax_iload_n dX10_chooseRope_73 rfl rfl (pc' := 74) rfl ?_
            refine ax_iald (v := od i) dX10_chooseRope_74 sh_51 rfl (by omega) (by omega) ((congrFun ((funext fun i0 => frM_50 51 i0 (fun h => h.elim (fun h => absurd h (by decide)) (fun h => absurd h (by decide)))).trans (ax_up_rowmiss (by decide) ((funext fun i0 => fr1 51 i0 (fun h => h.elim (fun h => absurd h (by decide)) (fun h => h.elim (fun h => absurd h (by decide)) (fun h => absurd h (by decide))))).trans hod))) i).trans rfl) (pc' := 75) rfl ?_
            refine ax_reS (st2 := [.inl o, .inl (l1 r + o), .inl r, .inr 85]) (congrArg (fun z => Sum.inl z :: _) (by exact qod)) ?_
            refine ax_isub dX10_chooseRope_75 (by omega) (pc' := 76) rfl ?_
            refine ax_iast dX10_chooseRope_76 sh_85 rfl (by omega) (by omega) (pc' := 77) rfl ?_
            refine ax_iinc dX10_chooseRope_77 rfl (by decide) (by omega) (ls' := [some (.inr 82), some (.inr 39), some (.inl i), some (.inl (r + 1))]) rfl (pc' := 80) rfl ?_
            refine ax_goto dX10_chooseRope_80 (pc' := 2) (by decide) ?_
            refine ih3 (r + 1) (f_up (f_up l1 r (l1 r + o)) r (l1 r + o - o)) (ax_up M_50 85 r (l1 r + o - o)) ?_ ?_ ?_ ?_ ?_ ?_
            · omega
            · intro x0 i0 hai
              exact (ax_up_miss (fun h => hai (Or.inl h.1)) ((frM_50 x0 i0 (fun h => h.elim (fun h => hai (Or.inr (Or.inl h))) (fun h => hai (Or.inr (Or.inr h))))).trans (ax_up_miss (fun h => hai (Or.inl h.1)) ((fr1 x0 i0 (fun h => h.elim (fun h => hai (Or.inl h)) (fun h => h.elim (fun h => hai (Or.inr (Or.inl h))) (fun h => hai (Or.inr (Or.inr h)))))).trans rfl))))
            · exact (ax_up_rowhit ((funext fun i0 => frM_50 85 i0 (fun h => h.elim (fun h => absurd h (by decide)) (fun h => absurd h (by decide)))).trans (ax_up_rowhit mr1_85)))
            · omega
            · first | exact iv1_1 | (rw [iv1_1]; exact f_up_bk)
            · intro q h1 h2
              by_cases hq : q = r
              · rw [hq]
                exact qne
              · exact iv1_2 q h1 (by omega)
          · have qgr : f_yG le ld o tl r = fw := (qfm (Or.inl (by omega))).symm.trans h57
            have qB : (f_bst (f_yG le ld o tl) 8).2 = r := f_bst_fst ⟨by omega, by omega⟩ (by omega) (by omega) (fun q h1 h2 => by rw [hg4.1]; exact iv1_2 q h1 h2)
            refine ax_iload_n dX10_chooseRope_60 rfl rfl (pc' := 61) rfl ?_
            refine ax_iret dX10_chooseRope_61 rfl ?_
            refine ⟨rfl, ?_, ?_, ?_⟩
            · refine congrArg (fun z => some (Sum.inl z)) ?_
              exact qB.symm
            · intro x0 i0 hai
              exact ((frM_50 x0 i0 (fun h => h.elim (fun h => hai (Or.inr (Or.inl h))) (fun h => hai (Or.inr (Or.inr h))))).trans (ax_up_miss (fun h => hai (Or.inl h.1)) ((fr1 x0 i0 (fun h => h.elim (fun h => hai (Or.inl h)) (fun h => h.elim (fun h => hai (Or.inr (Or.inl h))) (fun h => hai (Or.inr (Or.inr h)))))).trans rfl)))
            · refine Eq.trans ((funext fun i0 => frM_50 85 i0 (fun h => h.elim (fun h => absurd h (by decide)) (fun h => absurd h (by decide)))).trans (ax_up_rowhit mr1_85)) ?_
              rw [qB, iv1_1]
  refine LP1 (8 - 0 : Int).toNat.succ 0 ld M ?_ ?_ ?_ ?_ ?_ ?_
  · omega
  · exact fun a i _ => rfl
  · exact hld
  · omega
  · rfl
  · intro q h1 h2
    omega
