/-! yards: the plan -/
theorem f_cs_z {u : Int → Int} : ∀ {R : Nat}, (∀ k : Nat, k < R → u (k : Int) = 0) → f_cs u R = 0
  | 0, _ => rfl
  | R + 1, h => by
    show f_cs u R + u (R : Int) = 0
    rw [f_cs_z (fun k hk => h k (by omega)), h R (by omega)]
    rfl
theorem f_ord_fwd {od w : Int → Int} : ∀ {os : List Int} {i : Int}, (∀ j, i ≤ j → j < i + (os.length : Int) → od j = w (2592 + j)) → f_ord w i os → f_fwd od i os ∧ ∀ o ∈ os, 1 ≤ o ∧ o ≤ 24
  | [], _, _, _ => ⟨trivial, fun o h => absurd h (List.not_mem_nil)⟩
  | o :: tl, i, h, ho => by
    obtain ⟨h1, h2, h3⟩ := ho
    have ih := f_ord_fwd (os := tl) (i := i + 1) (fun j j1 j2 => h j (by omega) (by rw [List.length_cons]; omega)) h3
    refine ⟨⟨(h i (Int.le_refl i) (by rw [List.length_cons]; omega)).trans h1, ih.1⟩, fun x hx => ?_⟩
    rcases List.mem_cons.mp hx with e | e
    · rw [e]
      exact h2
    · exact ih.2 x e
def f_ymn (w : Int → Int) (os : List Int) : Int := f_mn 0 (fun _ => 0) (f_lv0 w) os
set_option maxRecDepth 20000 in
theorem s_X10_plan (E : ax_Env) (l : Launch) (d : Nat) (hd : 4 ≤ d) (M : ax_Mem) (w : Int → Int) (os : List Int) {od : Int → Int} (hod : M 51 = od) {ch : Int → Int} (hch : M 83 = ch) {oc : Int} (hoc : M 39 8 = oc) (hg0 : f_wm M 1 w) (hg1 : f_ok w) (hg2 : (os.length : Int) = oc ∧ oc ≤ 7) (hg3 : f_fwd od 0 os) (hg4 : ∀ o ∈ os, 1 ≤ o ∧ o ≤ 24) : ax_G E l d iX10_plan [.inr 82, .inr 1, .inr 39] M (fun z0 M2 => z0 = none ∧ (∀ x0 i0 : Int, ¬ (x0 = 83 ∨ x0 = 84 ∨ x0 = 85 ∨ x0 = 86 ∨ x0 = 87 ∨ (x0 = 82 ∧ i0 = 0)) → M2 x0 i0 = M x0 i0) ∧ (M2 82 0 = if 1000 ≤ f_ymn w os then -1 else f_ymn w os) ∧ (f_ymn w os < 1000 → M2 83 = f_chR 0 (fun _ => 0) (f_lv0 w) os 0 ch)) := by
  obtain ⟨d, rfl⟩ : ∃ d0, d = d0 + 1 := ⟨d - 1, by omega⟩
  refine ax_start rfl (Nat.le_of_ble_eq_true rfl) (ls := [some (.inr 82), some (.inr 1), some (.inr 39), none, none]) rfl (fun hav hcm => ?_)
  clear hav
  refine ax_iconst dX10_plan_0 (by decide) (pc' := 1) rfl ?_
  refine ax_istore_n dX10_plan_1 rfl (by decide) (ls' := [some (.inr 82), some (.inr 1), some (.inr 39), some (.inl 0), none]) rfl (pc' := 2) rfl ?_
  have LP1 : ∀ (kq2 : Nat) (i : Int) (l1 d1 : Int → Int) (M1 : ax_Mem) (hm1 : 8 - i < (kq2 : Nat)) (fr1 : ∀ x0 i0 : Int, ¬ (x0 = 84 ∨ x0 = 85) → M1 x0 i0 = M x0 i0) (mr1_84 : M1 84 = l1) (mr1_85 : M1 85 = d1) (iv1_0 : 0 ≤ i ∧ i ≤ 8) (iv1_1 : ∀ q, 0 ≤ q → q < i → l1 q = f_lv0 w q ∧ d1 q = 0), ax_W E l (d + 1) 0 0 iX10_plan 2 [some (.inr 82), some (.inr 1), some (.inr 39), some (.inl i), none] [] SH M1 (ax_P (fun z0 M2 => z0 = none ∧ (∀ x0 i0 : Int, ¬ (x0 = 83 ∨ x0 = 84 ∨ x0 = 85 ∨ x0 = 86 ∨ x0 = 87 ∨ (x0 = 82 ∧ i0 = 0)) → M2 x0 i0 = M x0 i0) ∧ (M2 82 0 = if 1000 ≤ f_ymn w os then -1 else f_ymn w os) ∧ (f_ymn w os < 1000 → M2 83 = f_chR 0 (fun _ => 0) (f_lv0 w) os 0 ch))) := by
    intro kq2
    induction kq2 with
    | zero =>
      intro i l1 d1 M1 hm1 fr1 mr1_84 mr1_85 iv1_0 iv1_1
      exfalso
      omega
    | succ kq2 ih3 =>
      intro i l1 d1 M1 hm1 fr1 mr1_84 mr1_85 iv1_0 iv1_1
      refine ax_iload_n dX10_plan_2 rfl rfl (pc' := 3) rfl ?_
      refine ax_bipush dX10_plan_3 (by decide) (pc' := 5) rfl ?_
      refine ax_icmp_ge (tgt := 52) dX10_plan_5 (by decide) (pc' := 8) rfl (fun h5 => ?_) (fun h5 => ?_)
      · have q8 : ∀ q, 0 ≤ q → q < 8 → l1 q = f_lv0 w q ∧ d1 q = 0 := fun q h1 h2 => iv1_1 q h1 (by omega)
        have qrg : ∀ r, 0 ≤ r → r < 8 → (0 ≤ d1 r ∧ d1 r ≤ l1 r) ∧ l1 r ≤ 24 := by
          intro r h1 h2
          have e := q8 r h1 h2
          have e2 := hg1 r h1 h2
          have e3 : 0 ≤ f_lv0 w r ∧ f_lv0 w r ≤ 24 := by
            unfold f_lv0
            split <;> omega
          omega
        have qau : f_ag8 (f_uL d1) (fun _ => 0) := by
          intro r h1 h2
          show f_us1 (d1 r) = 0
          rw [(q8 r h1 h2).2]
          rfl
        have qav : f_ag8 (f_vL l1 d1) (f_lv0 w) := by
          intro r h1 h2
          show l1 r - d1 r = f_lv0 w r
          have e := q8 r h1 h2
          omega
        have qcs : f_cs (f_uL d1) 8 = 0 := f_cs_z (fun k hk => qau (k : Int) (by omega) (by omega))
        have qm0 : f_mn (f_cs (f_uL d1) 8) (f_uL d1) (f_vL l1 d1) os = f_ymn w os := by
          rw [qcs]
          exact f_mn_cong os 0 _ _ _ _ qau qav
        refine ax_aload_n dX10_plan_52 rfl rfl (pc' := 53) rfl ?_
        refine ax_aload_n dX10_plan_53 rfl rfl (pc' := 54) rfl ?_
        refine ax_iconst dX10_plan_54 (by decide) (pc' := 55) rfl ?_
        refine ax_invG [.inr 39, .inl 0] [] dX10_plan_55 mlX10_43 sh_82 rfl rfl rfl (Nat.le_of_ble_eq_true rfl) (s_X10_fewestFrom E l _ (by omega) _ 0 os ((funext fun i0 => fr1 51 i0 (fun h => h.elim (fun h => absurd h (by decide)) (fun h => absurd h (by decide)))).trans hod) mr1_84 mr1_85 ((funext fun i0 => fr1 86 i0 (fun h => h.elim (fun h => absurd h (by decide)) (fun h => absurd h (by decide)))).trans rfl) ((funext fun i0 => fr1 87 i0 (fun h => h.elim (fun h => absurd h (by decide)) (fun h => absurd h (by decide)))).trans rfl) ((fr1 39 8 (fun h => h.elim (fun h => absurd h (by decide)) (fun h => absurd h (by decide)))).trans hoc) (by omega) hg3 hg4 (fun r h1 h2 => by
      have e := qrg r h1 h2
      omega)) (pc' := 58) rfl (fun vv M_55 hq co55 hcm55 => ?_)
        obtain ⟨rfl, frM_55⟩ := hq
        refine ax_reS (st2 := [.inl (f_fwF d1 l1 os)]) rfl ?_
        have cc55 : -2147483648 ≤ f_fwF d1 l1 os ∧ f_fwF d1 l1 os < 2147483648 := co55 _ rfl
        have qfm := f_fwF_mn (ld := d1) (le := l1) (os := os) (by omega) hg4
        rw [qm0] at qfm
        refine ax_istore_n dX10_plan_58 rfl (by decide) (ls' := [some (.inr 82), some (.inr 1), some (.inr 39), some (.inl (f_fwF d1 l1 os)), none]) rfl (pc' := 59) rfl ?_
        refine ax_iload_n dX10_plan_59 rfl rfl (pc' := 60) rfl ?_
        refine ax_sipush dX10_plan_60 (by decide) (pc' := 63) rfl ?_
        refine ax_icmp_lt (tgt := 72) dX10_plan_63 (by decide) (pc' := 66) rfl (fun h63 => ?_) (fun h63 => ?_)
        · have qlt : f_ymn w os < 1000 := by
            have e := qfm (Or.inl h63)
            omega
          obtain ⟨TOT, qTOT⟩ : ∃ z, z = f_chR (f_cs (f_uL d1) 8) (f_uL d1) (f_vL l1 d1) os 0 ch := ⟨_, rfl⟩
          have qT2 : TOT = f_chR 0 (fun _ => 0) (f_lv0 w) os 0 ch := by
            rw [qTOT, qcs]
            refine f_chR_lv os 0 _ _ _ _ 0 ch qau qav ?_
            have e := qm0
            rw [qcs] at e
            omega
          refine ax_aload_n dX10_plan_72 rfl rfl (pc' := 73) rfl ?_
          refine ax_iload_n dX10_plan_73 rfl rfl (pc' := 74) rfl ?_
          refine ax_puti dX10_plan_74 flX10_47 (Or.inl rfl) sh_82 rfl (pc' := 77) rfl ?_
          refine ax_iconst dX10_plan_77 (by decide) (pc' := 78) rfl ?_
          refine ax_istore dX10_plan_78 (by decide) (ls' := [some (.inr 82), some (.inr 1), some (.inr 39), some (.inl (f_fwF d1 l1 os)), some (.inl 0)]) rfl (pc' := 80) rfl ?_
          have LP4 : ∀ (kq5 : Nat) (i : Int) (c1 d2 : Int → Int) (rs : List Int) (M4 : ax_Mem) (hm4 : oc - i < (kq5 : Nat)) (fr4 : ∀ x0 i0 : Int, ¬ (x0 = 83 ∨ x0 = 85 ∨ x0 = 86 ∨ x0 = 87) → M4 x0 i0 = (ax_up M_55 82 0 (f_fwF d1 l1 os)) x0 i0) (mr4_83 : M4 83 = c1) (mr4_85 : M4 85 = d2) (iv4_0 : 0 ≤ i ∧ i + (rs.length : Int) = oc) (iv4_1 : f_fwd od i rs ∧ ∀ o ∈ rs, 1 ≤ o ∧ o ≤ 24) (iv4_2 : ∀ r, 0 ≤ r → r < 8 → (0 ≤ d2 r ∧ d2 r ≤ l1 r) ∧ l1 r ≤ 24) (iv4_3 : f_mn (f_cs (f_uL d2) 8) (f_uL d2) (f_vL l1 d2) rs = f_fwF d1 l1 os) (iv4_4 : f_chR (f_cs (f_uL d2) 8) (f_uL d2) (f_vL l1 d2) rs i c1 = TOT), ax_W E l (d + 1) 0 0 iX10_plan 80 [some (.inr 82), some (.inr 1), some (.inr 39), some (.inl (f_fwF d1 l1 os)), some (.inl i)] [] SH M4 (ax_P (fun z0 M2 => z0 = none ∧ (∀ x0 i0 : Int, ¬ (x0 = 83 ∨ x0 = 84 ∨ x0 = 85 ∨ x0 = 86 ∨ x0 = 87 ∨ (x0 = 82 ∧ i0 = 0)) → M2 x0 i0 = M x0 i0) ∧ (M2 82 0 = if 1000 ≤ f_ymn w os then -1 else f_ymn w os) ∧ (f_ymn w os < 1000 → M2 83 = f_chR 0 (fun _ => 0) (f_lv0 w) os 0 ch))) := by
            intro kq5
            induction kq5 with
            | zero =>
              intro i c1 d2 rs M4 hm4 fr4 mr4_83 mr4_85 iv4_0 iv4_1 iv4_2 iv4_3 iv4_4
              exfalso
              omega
            | succ kq5 ih6 =>
              intro i c1 d2 rs M4 hm4 fr4 mr4_83 mr4_85 iv4_0 iv4_1 iv4_2 iv4_3 iv4_4
              refine ax_iload dX10_plan_80 rfl (pc' := 82) rfl ?_
              refine ax_aload_n dX10_plan_82 rfl rfl (pc' := 83) rfl ?_
              refine ax_geti (v := oc) dX10_plan_83 flX10_50 rfl sh_39 (show M4 39 8 = oc from ((fr4 39 8 (fun h => h.elim (fun h => absurd h (by decide)) (fun h => h.elim (fun h => absurd h (by decide)) (fun h => h.elim (fun h => absurd h (by decide)) (fun h => absurd h (by decide)))))).trans (ax_up_miss (fun h => absurd h.1 (by decide)) ((frM_55 39 8 (fun h => h.elim (fun h => absurd h (by decide)) (fun h => absurd h (by decide)))).trans ((fr1 39 8 (fun h => h.elim (fun h => absurd h (by decide)) (fun h => absurd h (by decide)))).trans hoc))))) rfl (pc' := 86) rfl ?_
              refine ax_icmp_ge (tgt := 109) dX10_plan_86 (by decide) (pc' := 89) rfl (fun h86 => ?_) (fun h86 => ?_)
              · have qrs : rs = [] := List.eq_nil_of_length_eq_zero (by omega)
                have qfin : c1 = TOT := by
                  have q := iv4_4
                  rw [qrs] at q
                  exact q
                refine ax_vret dX10_plan_109 rfl ?_
                refine ⟨rfl, rfl, ?_, ?_, ?_⟩
                · intro x0 i0 hai
                  exact ((fr4 x0 i0 (fun h => h.elim (fun h => hai (Or.inl h)) (fun h => h.elim (fun h => hai (Or.inr (Or.inr (Or.inl h)))) (fun h => h.elim (fun h => hai (Or.inr (Or.inr (Or.inr (Or.inl h))))) (fun h => hai (Or.inr (Or.inr (Or.inr (Or.inr (Or.inl h)))))))))).trans (ax_up_miss (fun h => hai (Or.inr (Or.inr (Or.inr (Or.inr (Or.inr h)))))) ((frM_55 x0 i0 (fun h => h.elim (fun h => hai (Or.inr (Or.inr (Or.inr (Or.inl h))))) (fun h => hai (Or.inr (Or.inr (Or.inr (Or.inr (Or.inl h)))))))).trans ((fr1 x0 i0 (fun h => h.elim (fun h => hai (Or.inr (Or.inl h))) (fun h => hai (Or.inr (Or.inr (Or.inl h)))))).trans rfl))))
                · rw [if_neg (by omega)]
                  exact Eq.trans ((fr4 82 0 (fun h => h.elim (fun h => absurd h (by decide)) (fun h => h.elim (fun h => absurd h (by decide)) (fun h => h.elim (fun h => absurd h (by decide)) (fun h => absurd h (by decide)))))).trans (ax_up_hit _ _ _ _)) (qfm (Or.inl h63))
                · intro _
                  exact Eq.trans mr4_83 (qfin.trans qT2)
              · have hcons := iv4_1
                obtain ⟨o2, tl2, qd⟩ : ∃ x y, rs = x :: y := by
                  cases rs with
                  | nil => simp only [List.length_nil] at *; omega
                  | cons x y => exact ⟨x, y, rfl⟩
                have qdl : rs.length = tl2.length + 1 := by rw [qd]; rfl
                rw [qd] at hcons
                have qmn := iv4_3
                rw [qd, f_mn_cons] at qmn
                have qmn2 : (f_bst (f_yG l1 d2 o2 tl2) 8).1 = f_fwF d1 l1 os := qmn
                have qix := f_bst_ix (g := f_yG l1 d2 o2 tl2) 8 (by show (f_bst (f_yG l1 d2 o2 tl2) 8).1 < 1000; omega)
                obtain ⟨rB, qrB⟩ : ∃ z, z = (f_bst (f_yG l1 d2 o2 tl2) 8).2 := ⟨_, rfl⟩
                have qi1 : 0 ≤ rB ∧ rB < 8 := by
                  rw [qrB]
                  exact ⟨qix.1.1, qix.1.2⟩
                have qi2 : f_yG l1 d2 o2 tl2 rB = f_fwF d1 l1 os := by
                  rw [qrB]
                  exact qix.2.trans qmn2
                have qfit : d2 rB + o2 ≤ l1 rB := by
                  rcases Int.lt_or_le (l1 rB) (d2 rB + o2) with h | h
                  · have e := f_yG_n (le := l1) (ld := d2) (o := o2) (r := rB) (tl := tl2) (by omega)
                    omega
                  · exact h
                have qo2 := hcons.2 o2 (List.mem_cons_self)
                have qdr := iv4_2 rB qi1.1 qi1.2
                have qb3 : f_mn (f_cs (f_uL (f_up d2 rB (d2 rB + o2))) 8) (f_uL (f_up d2 rB (d2 rB + o2))) (f_vL l1 (f_up d2 rB (d2 rB + o2))) tl2 = f_fwF d1 l1 os := (f_yG_y qi1 qdr.1.1 qo2.1 qfit).symm.trans qi2
                have qb4 : f_chR (f_cs (f_uL (f_up d2 rB (d2 rB + o2))) 8) (f_uL (f_up d2 rB (d2 rB + o2))) (f_vL l1 (f_up d2 rB (d2 rB + o2))) tl2 (i + 1) (f_up c1 i rB) = TOT := by
                  rw [← iv4_4, qd, f_chR_cons]
                  show _ = f_chN _ _ _ o2 tl2 i c1 (f_bst (f_yG l1 d2 o2 tl2) 8).2
                  rw [← qrB]
                  unfold f_chN
                  obtain ⟨kB, qkB⟩ : ∃ k : Nat, (k : Int) = rB := ⟨rB.toNat, by omega⟩
                  rw [f_uL_up qdr.1.1 qo2.1, f_vL_up, ← qkB, f_cs_up (by omega)]
                have qb2 : ∀ r, 0 ≤ r → r < 8 → (0 ≤ f_up d2 rB (d2 rB + o2) r ∧ f_up d2 rB (d2 rB + o2) r ≤ l1 r) ∧ l1 r ≤ 24 := by
                  intro r h1 h2
                  have e := iv4_2 r h1 h2
                  unfold f_up
                  split
                  · rename_i hr
                    rw [hr]
                    omega
                  · exact e
                refine ax_aload_n dX10_plan_89 rfl rfl (pc' := 90) rfl ?_
                refine ax_getr (v := 83) dX10_plan_90 flX10_9 rfl sh_82 rfl (pc' := 93) rfl ?_
                refine ax_iload dX10_plan_93 rfl (pc' := 95) rfl ?_
                refine ax_aload_n dX10_plan_95 rfl rfl (pc' := 96) rfl ?_
                refine ax_aload_n dX10_plan_96 rfl rfl (pc' := 97) rfl ?_
                refine ax_iload dX10_plan_97 rfl (pc' := 99) rfl ?_
                refine ax_invG [.inr 39, .inl i] [.inl i, .inr 83] dX10_plan_99 mlX10_55 sh_82 rfl rfl rfl (Nat.le_of_ble_eq_true rfl) (s_X10_chooseRope E l _ (by omega) _ i o2 tl2 ((funext fun i0 => fr4 51 i0 (fun h => h.elim (fun h => absurd h (by decide)) (fun h => h.elim (fun h => absurd h (by decide)) (fun h => h.elim (fun h => absurd h (by decide)) (fun h => absurd h (by decide)))))).trans (ax_up_rowmiss (by decide) ((funext fun i0 => frM_55 51 i0 (fun h => h.elim (fun h => absurd h (by decide)) (fun h => absurd h (by decide)))).trans ((funext fun i0 => fr1 51 i0 (fun h => h.elim (fun h => absurd h (by decide)) (fun h => absurd h (by decide)))).trans hod)))) ((funext fun i0 => fr4 84 i0 (fun h => h.elim (fun h => absurd h (by decide)) (fun h => h.elim (fun h => absurd h (by decide)) (fun h => h.elim (fun h => absurd h (by decide)) (fun h => absurd h (by decide)))))).trans (ax_up_rowmiss (by decide) ((funext fun i0 => frM_55 84 i0 (fun h => h.elim (fun h => absurd h (by decide)) (fun h => absurd h (by decide)))).trans mr1_84))) mr4_85 ((fr4 39 8 (fun h => h.elim (fun h => absurd h (by decide)) (fun h => h.elim (fun h => absurd h (by decide)) (fun h => h.elim (fun h => absurd h (by decide)) (fun h => absurd h (by decide)))))).trans (ax_up_miss (fun h => absurd h.1 (by decide)) ((frM_55 39 8 (fun h => h.elim (fun h => absurd h (by decide)) (fun h => absurd h (by decide)))).trans ((fr1 39 8 (fun h => h.elim (fun h => absurd h (by decide)) (fun h => absurd h (by decide)))).trans hoc)))) ((fr4 82 0 (fun h => h.elim (fun h => absurd h (by decide)) (fun h => h.elim (fun h => absurd h (by decide)) (fun h => h.elim (fun h => absurd h (by decide)) (fun h => absurd h (by decide)))))).trans (ax_up_hit _ _ _ _)) (by omega) hcons.1 hcons.2 iv4_2 ⟨qmn2, by omega⟩) (pc' := 102) rfl (fun vv M_99 hq co99 hcm99 => ?_)
                obtain ⟨rfl, frM_99, mrM_99_0⟩ := hq
                refine ax_reS (st2 := [.inl ((f_bst (f_yG l1 d2 o2 tl2) 8).2), .inl i, .inr 83]) rfl ?_
                have cc99 : -2147483648 ≤ (f_bst (f_yG l1 d2 o2 tl2) 8).2 ∧ (f_bst (f_yG l1 d2 o2 tl2) 8).2 < 2147483648 := co99 _ rfl
                refine ax_iast dX10_plan_102 sh_83 rfl (by omega) (by omega) (pc' := 103) rfl ?_
                refine ax_iinc dX10_plan_103 rfl (by decide) (by omega) (ls' := [some (.inr 82), some (.inr 1), some (.inr 39), some (.inl (f_fwF d1 l1 os)), some (.inl (i + 1))]) rfl (pc' := 106) rfl ?_
                refine ax_goto dX10_plan_106 (pc' := 80) (by decide) ?_
                refine ih6 (i + 1) (f_up c1 i ((f_bst (f_yG l1 d2 o2 tl2) 8).2)) (f_up d2 (f_bst (f_yG l1 d2 o2 tl2) 8).2 (d2 (f_bst (f_yG l1 d2 o2 tl2) 8).2 + o2)) tl2 (ax_up M_99 83 i ((f_bst (f_yG l1 d2 o2 tl2) 8).2)) ?_ ?_ ?_ ?_ ?_ ?_ ?_ ?_ ?_
                · omega
                · intro x0 i0 hai
                  exact (ax_up_miss (fun h => hai (Or.inl h.1)) ((frM_99 x0 i0 (fun h => h.elim (fun h => hai (Or.inr (Or.inl h))) (fun h => h.elim (fun h => hai (Or.inr (Or.inr (Or.inl h)))) (fun h => hai (Or.inr (Or.inr (Or.inr h))))))).trans ((fr4 x0 i0 (fun h => h.elim (fun h => hai (Or.inl h)) (fun h => h.elim (fun h => hai (Or.inr (Or.inl h))) (fun h => h.elim (fun h => hai (Or.inr (Or.inr (Or.inl h)))) (fun h => hai (Or.inr (Or.inr (Or.inr h)))))))).trans rfl)))
                · exact (ax_up_rowhit ((funext fun i0 => frM_99 83 i0 (fun h => h.elim (fun h => absurd h (by decide)) (fun h => h.elim (fun h => absurd h (by decide)) (fun h => absurd h (by decide))))).trans mr4_83))
                · exact (ax_up_rowmiss (by decide) mrM_99_0)
                · omega
                · exact ⟨hcons.1.2, fun o ho => hcons.2 o (List.mem_cons_of_mem _ ho)⟩
                · rw [← qrB]
                  exact qb2
                · rw [← qrB]
                  exact qb3
                · rw [← qrB]
                  exact qb4
          refine LP4 (oc - 0 : Int).toNat.succ 0 ch d1 os (ax_up M_55 82 0 (f_fwF d1 l1 os)) ?_ ?_ ?_ ?_ ?_ ?_ ?_ ?_ ?_
          · omega
          · exact fun a i _ => rfl
          · exact (ax_up_rowmiss (by decide) ((funext fun i0 => frM_55 83 i0 (fun h => h.elim (fun h => absurd h (by decide)) (fun h => absurd h (by decide)))).trans ((funext fun i0 => fr1 83 i0 (fun h => h.elim (fun h => absurd h (by decide)) (fun h => absurd h (by decide)))).trans hch)))
          · exact (ax_up_rowmiss (by decide) ((funext fun i0 => frM_55 85 i0 (fun h => h.elim (fun h => absurd h (by decide)) (fun h => absurd h (by decide)))).trans mr1_85))
          · omega
          · exact ⟨hg3, hg4⟩
          · exact qrg
          · exact qm0.trans (qfm (Or.inl h63)).symm
          · exact qTOT.symm
        · have qge : 1000 ≤ f_ymn w os := by
            rcases Int.lt_or_le (f_ymn w os) 1000 with h | h
            · have e := qfm (Or.inr h)
              omega
            · exact h
          refine ax_aload_n dX10_plan_66 rfl rfl (pc' := 67) rfl ?_
          refine ax_iconst dX10_plan_67 (by decide) (pc' := 68) rfl ?_
          refine ax_puti dX10_plan_68 flX10_47 (Or.inl rfl) sh_82 rfl (pc' := 71) rfl ?_
          refine ax_vret dX10_plan_71 rfl ?_
          refine ⟨rfl, rfl, ?_, ?_, ?_⟩
          · intro x0 i0 hai
            exact (ax_up_miss (fun h => hai (Or.inr (Or.inr (Or.inr (Or.inr (Or.inr h)))))) ((frM_55 x0 i0 (fun h => h.elim (fun h => hai (Or.inr (Or.inr (Or.inr (Or.inl h))))) (fun h => hai (Or.inr (Or.inr (Or.inr (Or.inr (Or.inl h)))))))).trans ((fr1 x0 i0 (fun h => h.elim (fun h => hai (Or.inr (Or.inl h))) (fun h => hai (Or.inr (Or.inr (Or.inl h)))))).trans rfl)))
          · rw [if_pos qge]
            exact (ax_up_hit _ _ _ _)
          · intro h
            omega
      · have qt := f_wm_th hg0 (i := i) ⟨by omega, by omega⟩
        have qk := (hg1 i (by omega) (by omega))
        refine ax_aload_n dX10_plan_8 rfl rfl (pc' := 9) rfl ?_
        refine ax_getr (v := 84) dX10_plan_9 flX10_15 rfl sh_82 rfl (pc' := 12) rfl ?_
        refine ax_iload_n dX10_plan_12 rfl rfl (pc' := 13) rfl ?_
        refine ax_aload_n dX10_plan_13 rfl rfl (pc' := 14) rfl ?_
        refine ax_getr (v := 4) dX10_plan_14 flX10_27 rfl sh_1 rfl (pc' := 17) rfl ?_
        refine ax_iload_n dX10_plan_17 rfl rfl (pc' := 18) rfl ?_
        refine ax_aald (v := 5 + 4 * i) dX10_plan_18 sh_4 (by decide) (by omega) (by omega) (f_av_now _ ⟨by omega, by omega⟩) (pc' := 19) rfl ?_
        refine ax_geti (v := M (5 + 4 * i) 0) dX10_plan_19 flX10_33 rfl (f_rp_now ⟨by omega, by omega⟩).1 ((fr1 (5 + 4 * i) 0 (by omega)).trans rfl) rfl (pc' := 22) rfl ?_
        refine ax_if_eq (tgt := 37) dX10_plan_22 (by decide) (pc' := 25) rfl (fun h22 => ?_) (fun h22 => ?_)
        · have qlv : (0 : Int) = f_lv0 w i := by
            unfold f_lv0
            rw [if_neg (fun h => by have := h.2.2; omega)]
          refine ax_iconst dX10_plan_37 (by decide) (pc' := 38) rfl ?_
          refine ax_iast dX10_plan_38 sh_84 rfl (by omega) (by omega) (pc' := 39) rfl ?_
          refine ax_aload_n dX10_plan_39 rfl rfl (pc' := 40) rfl ?_
          refine ax_getr (v := 85) dX10_plan_40 flX10_18 rfl sh_82 rfl (pc' := 43) rfl ?_
          refine ax_iload_n dX10_plan_43 rfl rfl (pc' := 44) rfl ?_
          refine ax_iconst dX10_plan_44 (by decide) (pc' := 45) rfl ?_
          refine ax_iast dX10_plan_45 sh_85 rfl (by omega) (by omega) (pc' := 46) rfl ?_
          refine ax_iinc dX10_plan_46 rfl (by decide) (by omega) (ls' := [some (.inr 82), some (.inr 1), some (.inr 39), some (.inl (i + 1)), none]) rfl (pc' := 49) rfl ?_
          refine ax_goto dX10_plan_49 (pc' := 2) (by decide) ?_
          refine ih3 (i + 1) (f_up l1 i 0) (f_up d1 i 0) (ax_up (ax_up M1 84 i 0) 85 i 0) ?_ ?_ ?_ ?_ ?_ ?_
          · omega
          · intro x0 i0 hai
            exact (ax_up_miss (fun h => hai (Or.inr h.1)) (ax_up_miss (fun h => hai (Or.inl h.1)) ((fr1 x0 i0 (fun h => h.elim (fun h => hai (Or.inl h)) (fun h => hai (Or.inr h)))).trans rfl)))
          · exact (ax_up_rowmiss (by decide) (ax_up_rowhit mr1_84))
          · exact (ax_up_rowhit (ax_up_rowmiss (by decide) mr1_85))
          · omega
          · intro q h1 h2
            unfold f_up
            by_cases hq : q = i
            · rw [if_pos hq, if_pos hq, hq]
              exact ⟨qlv, rfl⟩
            · rw [if_neg hq, if_neg hq]
              exact iv1_1 q h1 (by omega)
        · have qis : f_isR w i := ⟨by omega, by omega, by omega⟩
          have qlv : M (5 + 4 * i) 1 = f_lv0 w i := by
            unfold f_lv0
            rw [if_pos qis]
            exact (f_wm_rm hg0 qis).1
          refine ax_aload_n dX10_plan_25 rfl rfl (pc' := 26) rfl ?_
          refine ax_getr (v := 4) dX10_plan_26 flX10_27 rfl sh_1 rfl (pc' := 29) rfl ?_
          refine ax_iload_n dX10_plan_29 rfl rfl (pc' := 30) rfl ?_
          refine ax_aald (v := 5 + 4 * i) dX10_plan_30 sh_4 (by decide) (by omega) (by omega) (f_av_now _ ⟨by omega, by omega⟩) (pc' := 31) rfl ?_
          refine ax_geti (v := M (5 + 4 * i) 1) dX10_plan_31 flX10_39 rfl (f_rp_now ⟨by omega, by omega⟩).1 ((fr1 (5 + 4 * i) 1 (by omega)).trans rfl) rfl (pc' := 34) rfl ?_
          refine ax_goto dX10_plan_34 (pc' := 38) (by decide) ?_
          refine ax_iast dX10_plan_38 sh_84 rfl (by omega) (by omega) (pc' := 39) rfl ?_
          refine ax_aload_n dX10_plan_39 rfl rfl (pc' := 40) rfl ?_
          refine ax_getr (v := 85) dX10_plan_40 flX10_18 rfl sh_82 rfl (pc' := 43) rfl ?_
          refine ax_iload_n dX10_plan_43 rfl rfl (pc' := 44) rfl ?_
          refine ax_iconst dX10_plan_44 (by decide) (pc' := 45) rfl ?_
          refine ax_iast dX10_plan_45 sh_85 rfl (by omega) (by omega) (pc' := 46) rfl ?_
          refine ax_iinc dX10_plan_46 rfl (by decide) (by omega) (ls' := [some (.inr 82), some (.inr 1), some (.inr 39), some (.inl (i + 1)), none]) rfl (pc' := 49) rfl ?_
          refine ax_goto dX10_plan_49 (pc' := 2) (by decide) ?_
          refine ih3 (i + 1) (f_up l1 i (M (5 + 4 * i) 1)) (f_up d1 i 0) (ax_up (ax_up M1 84 i (M (5 + 4 * i) 1)) 85 i 0) ?_ ?_ ?_ ?_ ?_ ?_
          · omega
          · intro x0 i0 hai
            exact (ax_up_miss (fun h => hai (Or.inr h.1)) (ax_up_miss (fun h => hai (Or.inl h.1)) ((fr1 x0 i0 (fun h => h.elim (fun h => hai (Or.inl h)) (fun h => hai (Or.inr h)))).trans rfl)))
          · exact (ax_up_rowmiss (by decide) (ax_up_rowhit mr1_84))
          · exact (ax_up_rowhit (ax_up_rowmiss (by decide) mr1_85))
          · omega
          · intro q h1 h2
            unfold f_up
            by_cases hq : q = i
            · rw [if_pos hq, if_pos hq, hq]
              exact ⟨qlv, rfl⟩
            · rw [if_neg hq, if_neg hq]
              exact iv1_1 q h1 (by omega)
  refine LP1 (8 - 0 : Int).toNat.succ 0 (M 84) (M 85) M ?_ ?_ ?_ ?_ ?_ ?_
  · omega
  · exact fun a i _ => rfl
  · exact rfl
  · exact rfl
  · omega
  · intro q h1 h2
    omega
set_option maxRecDepth 20000 in
theorem s_X11_yard (E : ax_Env) (l : Launch) (d : Nat) (hd : 5 ≤ d) (M : ax_Mem) (q : Int) (w : Int → Int) (os : List Int) {od : Int → Int} (hod : M 51 = od) {ch : Int → Int} (hch : M 83 = ch) {oc : Int} (hoc : M 39 8 = oc) (hg0 : f_wm M 1 w) (hg1 : f_ok w) (hg2 : f_or M 39 w) (hg3 : f_ord w 0 os) (hg4 : (os.length : Int) = w 2578 ∧ w 2578 ≤ 7) : ax_G E l d iX11_yard [.inr 0, .inl q] M (fun z0 M2 => z0 = some (.inl (f_yrd w os q)) ∧ (∀ x0 i0 : Int, ¬ (x0 = 83 ∨ x0 = 84 ∨ x0 = 85 ∨ x0 = 86 ∨ x0 = 87 ∨ (x0 = 82 ∧ i0 = 0)) → M2 x0 i0 = M x0 i0)) := by
  obtain ⟨d, rfl⟩ : ∃ d0, d = d0 + 1 := ⟨d - 1, by omega⟩
  refine ax_start rfl (Nat.le_of_ble_eq_true rfl) (ls := [some (.inr 0), some (.inl q), none]) rfl (fun hav hcm => ?_)
  have hc1 : -2147483648 ≤ q ∧ q < 2147483648 := hav (.inl q) (by simp)
  clear hav
  have qoc : oc = w 2578 := hoc.symm.trans hg2.1
  have qod : ∀ i, 0 ≤ i → i < w 2578 → od i = w (2592 + i) := by
    intro i h1 h2
    have e := hg2.2 i h1 h2
    rw [show (39 + 12 : Int) = 51 by decide, hod] at e
    exact e
  have qfw := f_ord_fwd (od := od) (fun j h1 h2 => qod j h1 (by omega)) hg3
  have qw : 10 ≤ q → ax_wr (q - 10) = q - 10 := fun h => ax_wr_id (by unfold ax_can; omega)
  refine ax_iload_n dX11_yard_0 rfl rfl (pc' := 1) rfl ?_
  refine ax_bipush dX11_yard_1 (by decide) (pc' := 3) rfl ?_
  refine ax_isubw dX11_yard_3 (pc' := 4) rfl ?_
  refine ax_istore_n dX11_yard_4 rfl (by decide) (ls' := [some (.inr 0), some (.inl q), some (.inl (ax_wr (q - 10)))]) rfl (pc' := 5) rfl ?_
  refine ax_iload_n dX11_yard_5 rfl rfl (pc' := 6) rfl ?_
  refine ax_if_eq (tgt := 28) dX11_yard_6 (by decide) (pc' := 9) rfl (fun h6 => ?_) (fun h6 => ?_)
  · have qnc : ¬ (q ≠ 0 ∧ ¬ (10 ≤ q ∧ q ≤ 9 + w 2578)) := by omega
    have qzz : f_yrd w os q = if 1000 ≤ f_ymn w os then -1 else if q = 0 then f_ymn w os else f_chR 0 (fun _ => 0) (f_lv0 w) os 0 (fun _ => 0) (q - 10) := by
      unfold f_yrd
      rw [if_neg qnc]
      rfl
    refine ax_aload_n dX11_yard_28 rfl rfl (pc' := 29) rfl ?_
    refine ax_getr (v := 82) dX11_yard_29 flX11_79 rfl sh_0 rfl (pc' := 32) rfl ?_
    refine ax_aload_n dX11_yard_32 rfl rfl (pc' := 33) rfl ?_
    refine ax_getr (v := 1) dX11_yard_33 flX11_10 rfl sh_0 rfl (pc' := 36) rfl ?_
    refine ax_aload_n dX11_yard_36 rfl rfl (pc' := 37) rfl ?_
    refine ax_getr (v := 39) dX11_yard_37 flX11_26 rfl sh_0 rfl (pc' := 40) rfl ?_
    refine ax_invG [.inr 1, .inr 39] [] dX11_yard_40 mlX11_343 sh_82 rfl rfl rfl (Nat.le_of_ble_eq_true rfl) (s_X10_plan E l _ (by omega) _ w os hod hch hoc hg0 hg1 (by omega) qfw.1 qfw.2) (pc' := 43) rfl (fun vv M_40 hq co40 hcm40 => ?_)
    obtain ⟨rfl, frM_40, fa40_0, fa40_1⟩ := hq
    refine ax_reS (st2 := []) rfl ?_
    refine ax_iload_n dX11_yard_43 rfl rfl (pc' := 44) rfl ?_
    refine ax_if_eq (tgt := 58) dX11_yard_44 (by decide) (pc' := 47) rfl (fun h44 => ?_) (fun h44 => ?_)
    · refine ax_aload_n dX11_yard_58 rfl rfl (pc' := 59) rfl ?_
      refine ax_getr (v := 82) dX11_yard_59 flX11_79 rfl sh_0 rfl (pc' := 62) rfl ?_
      refine ax_geti (v := M_40 82 0) dX11_yard_62 flX11_347 rfl sh_82 rfl rfl (pc' := 65) rfl ?_
      refine ax_iret dX11_yard_65 rfl ?_
      refine ⟨rfl, ?_, ?_⟩
      · refine congrArg (fun z => some (Sum.inl z)) ?_
        rw [qzz, fa40_0]
        by_cases h : 1000 ≤ f_ymn w os
        · rw [if_pos h, if_pos h]
        · rw [if_neg h, if_neg h]
          rw [fa40_0, if_neg h] at *
          have qnn := (f_mn_rg os 0 (fun _ => 0) (f_lv0 w) (fun _ _ _ => Or.inl rfl) (by omega)).1
          have qe : f_ymn w os = f_mn 0 (fun _ => 0) (f_lv0 w) os := rfl
          rw [if_pos (by omega)]
      · intro x0 i0 hai
        exact ((frM_40 x0 i0 (fun h => h.elim (fun h => hai (Or.inl h)) (fun h => h.elim (fun h => hai (Or.inr (Or.inl h))) (fun h => h.elim (fun h => hai (Or.inr (Or.inr (Or.inl h)))) (fun h => h.elim (fun h => hai (Or.inr (Or.inr (Or.inr (Or.inl h))))) (fun h => h.elim (fun h => hai (Or.inr (Or.inr (Or.inr (Or.inr (Or.inl h)))))) (fun h => hai (Or.inr (Or.inr (Or.inr (Or.inr (Or.inr h)))))))))))).trans rfl)
    · exfalso
      omega
  · refine ax_iload_n dX11_yard_9 rfl rfl (pc' := 10) rfl ?_
    refine ax_bipush dX11_yard_10 (by decide) (pc' := 12) rfl ?_
    refine ax_icmp_lt (tgt := 26) dX11_yard_12 (by decide) (pc' := 15) rfl (fun h12 => ?_) (fun h12 => ?_)
    · have qz : f_yrd w os q = -1 := by
        unfold f_yrd
        rw [if_pos ⟨h6, by omega⟩]
      refine ax_iconst dX11_yard_26 (by decide) (pc' := 27) rfl ?_
      refine ax_iret dX11_yard_27 rfl ?_
      refine ⟨rfl, ?_, ?_⟩
      · refine congrArg (fun z => some (Sum.inl z)) ?_
        exact qz.symm
      · intro x0 i0 hai
        exact rfl
    · refine ax_iload_n dX11_yard_15 rfl rfl (pc' := 16) rfl ?_
      refine ax_aload_n dX11_yard_16 rfl rfl (pc' := 17) rfl ?_
      refine ax_getr (v := 39) dX11_yard_17 flX11_26 rfl sh_0 rfl (pc' := 20) rfl ?_
      refine ax_geti (v := oc) dX11_yard_20 flX11_337 rfl sh_39 hoc rfl (pc' := 23) rfl ?_
      refine ax_icmp_lt (tgt := 28) dX11_yard_23 (by decide) (pc' := 26) rfl (fun h23 => ?_) (fun h23 => ?_)
      · have qwq := qw (by omega)
        have qnc : ¬ (q ≠ 0 ∧ ¬ (10 ≤ q ∧ q ≤ 9 + w 2578)) := by omega
        have qzz : f_yrd w os q = if 1000 ≤ f_ymn w os then -1 else if q = 0 then f_ymn w os else f_chR 0 (fun _ => 0) (f_lv0 w) os 0 (fun _ => 0) (q - 10) := by
          unfold f_yrd
          rw [if_neg qnc]
          rfl
        refine ax_aload_n dX11_yard_28 rfl rfl (pc' := 29) rfl ?_
        refine ax_getr (v := 82) dX11_yard_29 flX11_79 rfl sh_0 rfl (pc' := 32) rfl ?_
        refine ax_aload_n dX11_yard_32 rfl rfl (pc' := 33) rfl ?_
        refine ax_getr (v := 1) dX11_yard_33 flX11_10 rfl sh_0 rfl (pc' := 36) rfl ?_
        refine ax_aload_n dX11_yard_36 rfl rfl (pc' := 37) rfl ?_
        refine ax_getr (v := 39) dX11_yard_37 flX11_26 rfl sh_0 rfl (pc' := 40) rfl ?_
        refine ax_invG [.inr 1, .inr 39] [] dX11_yard_40 mlX11_343 sh_82 rfl rfl rfl (Nat.le_of_ble_eq_true rfl) (s_X10_plan E l _ (by omega) _ w os hod hch hoc hg0 hg1 (by omega) qfw.1 qfw.2) (pc' := 43) rfl (fun vv M_40 hq co40 hcm40 => ?_)
        obtain ⟨rfl, frM_40, fa40_0, fa40_1⟩ := hq
        refine ax_reS (st2 := []) rfl ?_
        refine ax_iload_n dX11_yard_43 rfl rfl (pc' := 44) rfl ?_
        refine ax_if_eq (tgt := 58) dX11_yard_44 (by decide) (pc' := 47) rfl (fun h44 => ?_) (fun h44 => ?_)
        · exfalso
          omega
        · refine ax_aload_n dX11_yard_47 rfl rfl (pc' := 48) rfl ?_
          refine ax_getr (v := 82) dX11_yard_48 flX11_79 rfl sh_0 rfl (pc' := 51) rfl ?_
          refine ax_geti (v := M_40 82 0) dX11_yard_51 flX11_347 rfl sh_82 rfl rfl (pc' := 54) rfl ?_
          refine ax_iconst dX11_yard_54 (by decide) (pc' := 55) rfl ?_
          refine ax_icmp_ne (tgt := 66) dX11_yard_55 (by decide) (pc' := 58) rfl (fun h55 => ?_) (fun h55 => ?_)
          · refine ax_aload_n dX11_yard_66 rfl rfl (pc' := 67) rfl ?_
            refine ax_getr (v := 82) dX11_yard_67 flX11_79 rfl sh_0 rfl (pc' := 70) rfl ?_
            refine ax_getr (v := 83) dX11_yard_70 flX11_350 rfl sh_82 rfl (pc' := 73) rfl ?_
            refine ax_iload_n dX11_yard_73 rfl rfl (pc' := 74) rfl ?_
            refine ax_iald (v := (M_40 83) (ax_wr (q - 10))) dX11_yard_74 sh_83 rfl (by (rw [qwq]; omega)) (by (rw [qwq]; omega)) ((congrFun rfl (ax_wr (q - 10))).trans rfl) (pc' := 75) rfl ?_
            refine ax_iret dX11_yard_75 rfl ?_
            refine ⟨rfl, ?_, ?_⟩
            · refine congrArg (fun z => some (Sum.inl z)) ?_
              have qlt : f_ymn w os < 1000 := by
                rcases Int.lt_or_le (f_ymn w os) 1000 with h | h
                · exact h
                · rw [fa40_0, if_pos h] at h55
                  exact absurd rfl h55
              rw [qzz, if_neg (by omega), if_neg (by omega), fa40_1 qlt, qwq]
              exact f_chR_cong os 0 _ _ 0 _ _ (fun j h1 h2 => by omega) (Int.le_refl 0) (q - 10) (by omega) (by omega)
            · intro x0 i0 hai
              exact ((frM_40 x0 i0 (fun h => h.elim (fun h => hai (Or.inl h)) (fun h => h.elim (fun h => hai (Or.inr (Or.inl h))) (fun h => h.elim (fun h => hai (Or.inr (Or.inr (Or.inl h)))) (fun h => h.elim (fun h => hai (Or.inr (Or.inr (Or.inr (Or.inl h))))) (fun h => h.elim (fun h => hai (Or.inr (Or.inr (Or.inr (Or.inr (Or.inl h)))))) (fun h => hai (Or.inr (Or.inr (Or.inr (Or.inr (Or.inr h)))))))))))).trans rfl)
          · refine ax_aload_n dX11_yard_58 rfl rfl (pc' := 59) rfl ?_
            refine ax_getr (v := 82) dX11_yard_59 flX11_79 rfl sh_0 rfl (pc' := 62) rfl ?_
            refine ax_geti (v := M_40 82 0) dX11_yard_62 flX11_347 rfl sh_82 rfl rfl (pc' := 65) rfl ?_
            refine ax_iret dX11_yard_65 rfl ?_
            refine ⟨rfl, ?_, ?_⟩
            · refine congrArg (fun z => some (Sum.inl z)) ?_
              rw [qzz, fa40_0]
              by_cases h : 1000 ≤ f_ymn w os
              · rw [if_pos h, if_pos h]
              · rw [if_neg h, if_neg h]
                rw [fa40_0, if_neg h] at *
                have qnn := (f_mn_rg os 0 (fun _ => 0) (f_lv0 w) (fun _ _ _ => Or.inl rfl) (by omega)).1
                have qe : f_ymn w os = f_mn 0 (fun _ => 0) (f_lv0 w) os := rfl
                rw [if_pos (by omega)]
            · intro x0 i0 hai
              exact ((frM_40 x0 i0 (fun h => h.elim (fun h => hai (Or.inl h)) (fun h => h.elim (fun h => hai (Or.inr (Or.inl h))) (fun h => h.elim (fun h => hai (Or.inr (Or.inr (Or.inl h)))) (fun h => h.elim (fun h => hai (Or.inr (Or.inr (Or.inr (Or.inl h))))) (fun h => h.elim (fun h => hai (Or.inr (Or.inr (Or.inr (Or.inr (Or.inl h)))))) (fun h => hai (Or.inr (Or.inr (Or.inr (Or.inr (Or.inr h)))))))))))).trans rfl)
      · have qz : f_yrd w os q = -1 := by
          have e := qw (by omega)
          unfold f_yrd
          rw [if_pos ⟨h6, by omega⟩]
        refine ax_iconst dX11_yard_26 (by decide) (pc' := 27) rfl ?_
        refine ax_iret dX11_yard_27 rfl ?_
        refine ⟨rfl, ?_, ?_⟩
        · refine congrArg (fun z => some (Sum.inl z)) ?_
          exact qz.symm
        · intro x0 i0 hai
          exact rfl
