/-! finding pasts -/
theorem f_need_hab {Ls : Int → List f_Ln} {w y : Int → Int} {r p k v : Int} (hr : 0 ≤ r ∧ r < 8) (hs : f_sm w y) (ht : ∀ q, 0 ≤ q → q < 24 → f_P y r q 0 = f_P w r q 0) (hp : 0 ≤ p ∧ p < f_R w r 1) (hl : f_R w r 1 ≤ 24) (hk : 0 ≤ k ∧ k < 6) (hv : v ≠ 0) : f_need Ls (f_hab y r p k v (w 0)) r p k = f_needW Ls w r p k v 0 := by
  have e := f_P_habe (w := y) (v := v) (s := w 0) (r := r) (p := p) (k := k) ⟨hr.1, hr.2, hp.1, by omega, hk.1, hk.2⟩
  have e0 : f_hab y r p k v (w 0) 0 = w 0 := (f_hab_out ⟨hr.1, hr.2, hp.1, by omega, hk.1, hk.2⟩ (by omega)).trans hs.2.1
  unfold f_need
  rw [e.1, e.2, e0, if_neg hv, Int.sub_self]
  exact f_needW_eq hr (f_sm_trans hs (f_sm_hab ⟨hr.1, hr.2, hp.1, by omega, hk.1, hk.2⟩)) (fun q q1 q2 => (f_hab_0 hr ⟨hp.1, by omega⟩ hk ⟨q1, q2⟩).trans (ht q q1 q2)) hp hl hk
abbrev f_Ft : Type := Int × Int × List Int
def f_fp (pc pk ph : Int) (nd : Int → Int) (A : f_Ft) : Prop := (pc = (A.2.2.length : Int) ∧ pk = A.1 ∧ ph = A.2.1) ∧ (∀ n, 0 ≤ n → n < 1000 → nd n = f_cte n A.2.2) ∧ ∀ q ∈ A.2.2, 0 ≤ q
theorem f_fp_go {Ls : Int → List f_Ln} {w nd : Int → Int} {r p k v pc pk ph : Int} {A : f_Ft} (h : f_fp pc pk ph nd A) (hf : f_fw w k (f_needW Ls w r p k v 0)) : f_fp (pc + 1) (if pc = 0 then k else pk) (if pc = 0 then v else ph) (f_up nd (f_needW Ls w r p k v 0) (nd (f_needW Ls w r p k v 0) + 1)) (f_ftS Ls w r p k v A) := by
  have e : (f_ftS Ls w r p k v A).2.2 = f_needW Ls w r p k v 0 :: A.2.2 ∧ (f_ftS Ls w r p k v A).1 = (if pc = 0 then k else pk) ∧ (f_ftS Ls w r p k v A).2.1 = (if pc = 0 then v else ph) := by
    unfold f_ftS
    rw [if_pos hf, ← h.1.1]
    by_cases h0 : pc = 0
    · rw [if_pos h0, if_pos h0, if_pos h0]
      exact ⟨rfl, rfl, rfl⟩
    · rw [if_neg h0, if_neg h0, if_neg h0]
      exact ⟨rfl, h.1.2.1.symm, h.1.2.2.symm⟩
  have hn := f_needW_rg (Ls := Ls) (w := w) (r := r) (p := p) (k := k) (h := v) (a := 0)
  refine ⟨⟨?_, e.2.1.symm, e.2.2.symm⟩, fun n n1 n2 => ?_, fun q hq => ?_⟩
  · rw [e.1, List.length_cons, h.1.1]
    omega
  · rw [e.1]
    show _ = (if f_needW Ls w r p k v 0 = n then 1 else 0) + f_cte n A.2.2
    by_cases hh : n = f_needW Ls w r p k v 0
    · rw [hh, f_up_same, if_pos rfl, h.2.1 _ hn.1 (by omega)]
      omega
    · rw [f_up_o hh, if_neg (fun z => hh z.symm), h.2.1 n n1 n2]
      omega
  · rw [e.1] at hq
    rcases List.mem_cons.mp hq with z | z
    · rw [z]
      exact hn.1
    · exact h.2.2 q z
theorem f_ftS_no {Ls : Int → List f_Ln} {w : Int → Int} {r p k v : Int} {A : f_Ft} (hf : ¬ f_fw w k (f_needW Ls w r p k v 0)) : f_ftS Ls w r p k v A = A := if_neg hf
theorem f_tl_fr {M N : ax_Mem} {b : Int} {w : Int → Int} (h0 : ∀ x i, b ≤ x ∧ x < b + 13 → N x i = M x i) (h : f_tl M b w) : f_tl N b w := by
  refine ⟨(h0 b 6 (by omega)).trans h.1, fun i i1 i2 => ?_⟩
  rw [h0 (b + 10) i (by omega), h0 (b + 11) i (by omega)]
  exact h.2 i i1 i2
set_option maxRecDepth 20000 in
theorem s_X2_findPasts (E : ax_Env) (l : Launch) (d : Nat) (hd : 3 ≤ d) (M : ax_Mem) (p : Int) (Ls : Int → List f_Ln) (w : Int → Int) (r : Int) (hg0 : f_rp 78) (hg1 : f_rm M 78 w r) (hg2 : f_jv Ls w) (hg3 : 0 ≤ r ∧ r < 8) (hg4 : f_hm M w) (hg5 : f_lrn M 52 Ls) (hg6 : f_tl M 39 w) (hg7 : 0 ≤ w 2577 ∧ w 2577 ≤ 6) (hg8 : 0 ≤ p ∧ p < f_R w r 1) : ax_G E l d iX2_findPasts [.inr 71, .inr 1, .inr 78, .inl p] M (fun z0 M2 => z0 = none ∧ (∀ x0 i0 : Int, ¬ (x0 = 80 ∨ x0 = 81 ∨ x0 = 72 ∨ x0 = 73 ∨ x0 = 74 ∨ (x0 = 71 ∧ i0 = 1) ∨ (x0 = 71 ∧ i0 = 2) ∨ (x0 = 71 ∧ i0 = 3)) → M2 x0 i0 = M x0 i0) ∧ (f_fp (M2 71 1) (M2 71 2) (M2 71 3) (M2 74) (f_ft Ls w r p)) ∧ (((f_ft Ls w r p).2.2.length : Int) ≤ 600)) := by
  obtain ⟨d, rfl⟩ : ∃ d0, d = d0 + 1 := ⟨d - 1, by omega⟩
  refine ax_start rfl (Nat.le_of_ble_eq_true rfl) (ls := [some (.inr 71), some (.inr 1), some (.inr 78), some (.inl p), none, none, none, none]) rfl (fun hav hcm => ?_)
  have hc3 : -2147483648 ≤ p ∧ p < 2147483648 := hav (.inl p) (by simp)
  clear hav
  have ql : M 78 1 = f_R w r 1 := hg1.1
  have qlr := (hg2.1.1 r hg3.1 hg3.2).2
  have qd : M 1 0 = w 0 := hg4.1
  have qdl := hg2.1.2.2.1
  refine ax_aload_n dX2_findPasts_0 rfl rfl (pc' := 1) rfl ?_
  refine ax_iconst dX2_findPasts_1 (by decide) (pc' := 2) rfl ?_
  refine ax_puti dX2_findPasts_2 flX2_105 (Or.inl rfl) sh_71 rfl (pc' := 5) rfl ?_
  refine ax_aload_n dX2_findPasts_5 rfl rfl (pc' := 6) rfl ?_
  refine ax_iconst dX2_findPasts_6 (by decide) (pc' := 7) rfl ?_
  refine ax_puti dX2_findPasts_7 flX2_108 (Or.inl rfl) sh_71 rfl (pc' := 10) rfl ?_
  refine ax_aload_n dX2_findPasts_10 rfl rfl (pc' := 11) rfl ?_
  refine ax_iconst dX2_findPasts_11 (by decide) (pc' := 12) rfl ?_
  refine ax_puti dX2_findPasts_12 flX2_111 (Or.inl rfl) sh_71 rfl (pc' := 15) rfl ?_
  refine ax_aload_n dX2_findPasts_15 rfl rfl (pc' := 16) rfl ?_
  refine ax_getr (v := 74) dX2_findPasts_16 flX2_20 rfl sh_71 rfl (pc' := 19) rfl ?_
  refine ax_iconst dX2_findPasts_19 (by decide) (pc' := 20) rfl ?_
  refine ax_insG [.inr 74, .inl 0] [] dX2_findPasts_20 mlX2_114 rfl rfl (Nat.le_of_ble_eq_true rfl) (s_J7_fill_53178 E l _ (by omega) _ 74 0 1000 (ax_up_rowmiss (by decide) (ax_up_rowmiss (by decide) (ax_up_rowmiss (by decide) rfl))) sh_74 (by decide)) (pc' := 23) rfl (fun vv M_20 hq co20 hcm20 => ?_)
  obtain ⟨rfl, frM_20, mrM_20_0⟩ := hq
  refine ax_reS (st2 := []) rfl ?_
  have qrm0 : f_rm M_20 78 w r := f_rm_fr (M := M) (fun x0 i0 hx => ((frM_20 x0 i0 (by omega)).trans (ax_up_miss (by omega) (ax_up_miss (by omega) (ax_up_miss (by omega) rfl))))) hg1
  refine ax_iconst dX2_findPasts_23 (by decide) (pc' := 24) rfl ?_
  refine ax_istore dX2_findPasts_24 (by decide) (ls' := [some (.inr 71), some (.inr 1), some (.inr 78), some (.inl p), some (.inl 0), none, none, none]) rfl (pc' := 26) rfl ?_
  have LP1 : ∀ (kq2 : Nat) (k : Int) (nd : Int → Int) (pc pk ph : Int) (x : Int → Int) (A : f_Ft) (M1 : ax_Mem) (hm1 : 6 - k < (kq2 : Nat)) (fr1 : ∀ x0 i0 : Int, ¬ (x0 = 74 ∨ (x0 = 71 ∧ i0 = 1) ∨ (x0 = 71 ∧ i0 = 2) ∨ (x0 = 71 ∧ i0 = 3) ∨ x0 = 80 ∨ x0 = 81 ∨ x0 = 72 ∨ x0 = 73) → M1 x0 i0 = M_20 x0 i0) (mr1_74 : M1 74 = nd) (ms1_71_1 : M1 71 1 = pc) (ms1_71_2 : M1 71 2 = pk) (ms1_71_3 : M1 71 3 = ph) (iv1_0 : 0 ≤ k ∧ k ≤ 6) (iv1_1 : f_loop (fun k s => f_loop (f_ftS Ls w r p k) 1 100 s) k 6 A = f_ft Ls w r p) (iv1_2 : f_rm M1 78 x r) (iv1_3 : f_iv x ∧ f_sm w x ∧ ∀ q, 0 ≤ q → q < 24 → f_P x r q 0 = f_P w r q 0) (iv1_4 : f_fp pc pk ph nd A) (iv1_5 : (A.2.2.length : Int) ≤ 99 * k), ax_W E l (d + 1) 0 0 iX2_findPasts 26 [some (.inr 71), some (.inr 1), some (.inr 78), some (.inl p), some (.inl k), none, none, none] [] SH M1 (ax_P (fun z0 M2 => z0 = none ∧ (∀ x0 i0 : Int, ¬ (x0 = 80 ∨ x0 = 81 ∨ x0 = 72 ∨ x0 = 73 ∨ x0 = 74 ∨ (x0 = 71 ∧ i0 = 1) ∨ (x0 = 71 ∧ i0 = 2) ∨ (x0 = 71 ∧ i0 = 3)) → M2 x0 i0 = M x0 i0) ∧ (f_fp (M2 71 1) (M2 71 2) (M2 71 3) (M2 74) (f_ft Ls w r p)) ∧ (((f_ft Ls w r p).2.2.length : Int) ≤ 600))) := by
    intro kq2
    induction kq2 with
    | zero =>
      intro k nd pc pk ph x A M1 hm1 fr1 mr1_74 ms1_71_1 ms1_71_2 ms1_71_3 iv1_0 iv1_1 iv1_2 iv1_3 iv1_4 iv1_5
      exfalso
      omega
    | succ kq2 ih3 =>
      intro k nd pc pk ph x A M1 hm1 fr1 mr1_74 ms1_71_1 ms1_71_2 ms1_71_3 iv1_0 iv1_1 iv1_2 iv1_3 iv1_4 iv1_5
      refine ax_iload dX2_findPasts_26 rfl (pc' := 28) rfl ?_
      refine ax_bipush dX2_findPasts_28 (by decide) (pc' := 30) rfl ?_
      refine ax_icmp_ge (tgt := 146) dX2_findPasts_30 (by decide) (pc' := 33) rfl (fun h30 => ?_) (fun h30 => ?_)
      · have qAA : A = f_ft Ls w r p := by
          rw [← iv1_1, f_loop_done (by omega)]
        refine ax_vret dX2_findPasts_146 rfl ?_
        refine ⟨rfl, rfl, ?_, ?_, ?_⟩
        · intro x0 i0 hai
          exact ((fr1 x0 i0 (fun h => h.elim (fun h => hai (Or.inr (Or.inr (Or.inr (Or.inr (Or.inl h)))))) (fun h => h.elim (fun h => hai (Or.inr (Or.inr (Or.inr (Or.inr (Or.inr (Or.inl h))))))) (fun h => h.elim (fun h => hai (Or.inr (Or.inr (Or.inr (Or.inr (Or.inr (Or.inr (Or.inl h)))))))) (fun h => h.elim (fun h => hai (Or.inr (Or.inr (Or.inr (Or.inr (Or.inr (Or.inr (Or.inr h)))))))) (fun h => h.elim (fun h => hai (Or.inl h)) (fun h => h.elim (fun h => hai (Or.inr (Or.inl h))) (fun h => h.elim (fun h => hai (Or.inr (Or.inr (Or.inl h)))) (fun h => hai (Or.inr (Or.inr (Or.inr (Or.inl h))))))))))))).trans ((frM_20 x0 i0 (fun h => hai (Or.inr (Or.inr (Or.inr (Or.inr (Or.inl h))))))).trans (ax_up_miss (fun h => hai (Or.inr (Or.inr (Or.inr (Or.inr (Or.inr (Or.inr (Or.inr h)))))))) (ax_up_miss (fun h => hai (Or.inr (Or.inr (Or.inr (Or.inr (Or.inr (Or.inr (Or.inl h)))))))) (ax_up_miss (fun h => hai (Or.inr (Or.inr (Or.inr (Or.inr (Or.inr (Or.inl h))))))) rfl)))))
        · rw [← qAA]
          have q1 := ms1_71_1
          have q2 := ms1_71_2
          have q3 := ms1_71_3
          have q4 := mr1_74
          rw [q1, q2, q3, q4]
          exact iv1_4
        · rw [← qAA]
          omega
      · have qx1 : f_R x r 1 = f_R w r 1 := iv1_3.2.1.2.2.2.2 r 1 ⟨hg3.1, hg3.2, by decide, by decide⟩
        have qxp := (iv1_2.2.2.2.2 p (by omega) (by rw [iv1_2.1]; omega)).2 k (by omega) (by omega)
        have qxr := f_rg_h iv1_3.1 hg3 (p := p) (k := k) ⟨by omega, by omega⟩ ⟨by omega, by omega⟩
        refine ax_iload_n dX2_findPasts_33 rfl rfl (pc' := 34) rfl ?_
        refine ax_bipush dX2_findPasts_34 (by decide) (pc' := 36) rfl ?_
        refine ax_imul dX2_findPasts_36 (by omega) (pc' := 37) rfl ?_
        refine ax_iload dX2_findPasts_37 rfl (pc' := 39) rfl ?_
        refine ax_iadd dX2_findPasts_39 (by omega) (pc' := 40) rfl ?_
        refine ax_istore dX2_findPasts_40 (by decide) (ls' := [some (.inr 71), some (.inr 1), some (.inr 78), some (.inl p), some (.inl k), some (.inl (p * 6 + k)), none, none]) rfl (pc' := 42) rfl ?_
        refine ax_aload_n dX2_findPasts_42 rfl rfl (pc' := 43) rfl ?_
        refine ax_getr (v := 81) dX2_findPasts_43 flX2_38 rfl sh_78 rfl (pc' := 46) rfl ?_
        refine ax_iload dX2_findPasts_46 rfl (pc' := 48) rfl ?_
        refine ax_aload_n dX2_findPasts_48 rfl rfl (pc' := 49) rfl ?_
        refine ax_geti (v := M 1 0) dX2_findPasts_49 flX2_32 rfl sh_1 (show M1 1 0 = M 1 0 from ((fr1 1 0 (fun h => h.elim (fun h => absurd h (by decide)) (fun h => h.elim (fun h => absurd h.1 (by decide)) (fun h => h.elim (fun h => absurd h.1 (by decide)) (fun h => h.elim (fun h => absurd h.1 (by decide)) (fun h => h.elim (fun h => absurd h (by decide)) (fun h => h.elim (fun h => absurd h (by decide)) (fun h => h.elim (fun h => absurd h (by decide)) (fun h => absurd h (by decide)))))))))).trans ((frM_20 1 0 (fun h => absurd h (by decide))).trans (ax_up_miss (fun h => absurd h.1 (by decide)) (ax_up_miss (fun h => absurd h.1 (by decide)) (ax_up_miss (fun h => absurd h.1 (by decide)) rfl)))))) rfl (pc' := 52) rfl ?_
        refine ax_reS (st2 := [.inl (w 0), .inl (p * 6 + k), .inr 81]) (congrArg (fun z => Sum.inl z :: _) (by exact qd)) ?_
        refine ax_iast dX2_findPasts_52 sh_81 rfl (by omega) (by omega) (pc' := 53) rfl ?_
        have qre : f_rm (ax_up M1 81 (p * 6 + k) (w 0)) 78 (f_hab x r p k (f_P x r p (1 + k)) (w 0)) r := by
          refine f_rr_eq (show (ax_up M1 81 (p * 6 + k) (w 0)) 78 1 = M1 78 1 from (ax_up_miss (fun h => absurd h.1 (by decide)) rfl)) (show (ax_up M1 81 (p * 6 + k) (w 0)) 78 2 = M1 78 2 from (ax_up_miss (fun h => absurd h.1 (by decide)) rfl)) (show (ax_up M1 81 (p * 6 + k) (w 0)) 78 3 = M1 78 3 from (ax_up_miss (fun h => absurd h.1 (by decide)) rfl)) (show (ax_up M1 81 (p * 6 + k) (w 0)) 78 4 = M1 78 4 from (ax_up_miss (fun h => absurd h.1 (by decide)) rfl)) (show (ax_up M1 81 (p * 6 + k) (w 0)) (79) = M1 79 from (ax_up_rowmiss (by decide) rfl)) (show (ax_up M1 81 (p * 6 + k) (w 0)) (80) = M1 80 from (ax_up_rowmiss (by decide) rfl)) (show (ax_up M1 81 (p * 6 + k) (w 0)) (81) = f_up (M1 81) (p * 6 + k) (w 0) from (ax_up_rowhit rfl)) ?_
          exact f_rr_hab hg3 ⟨by omega, by omega⟩ ⟨by omega, by omega⟩ (by rw [iv1_2.1]; omega) (fun x hx => rfl) qxp.1 (fun x hx => f_up_o hx) (fun hv => f_up_same _ _ _) iv1_2
        have q81e : (ax_up M1 81 (p * 6 + k) (w 0)) 81 (p * 6 + k) = w 0 := (congrFun (ax_up_rowhit rfl) _).trans (f_up_same _ _ _)
        have qpe : f_iv (f_hab x r p k (f_P x r p (1 + k)) (w 0)) ∧ f_sm w (f_hab x r p k (f_P x r p (1 + k)) (w 0)) ∧ ∀ q, 0 ≤ q → q < 24 → f_P (f_hab x r p k (f_P x r p (1 + k)) (w 0)) r q 0 = f_P w r q 0 := ⟨f_iv_hab ⟨hg3.1, hg3.2, by omega, by omega, by omega, by omega⟩ qxr.1 (Or.inr qdl) iv1_3.1, f_sm_trans iv1_3.2.1 (f_sm_hab ⟨hg3.1, hg3.2, by omega, by omega, by omega, by omega⟩), fun q q1 q2 => (f_hab_0 hg3 ⟨by omega, by omega⟩ ⟨by omega, by omega⟩ ⟨q1, q2⟩).trans (iv1_3.2.2 q q1 q2)⟩
        refine ax_iconst dX2_findPasts_53 (by decide) (pc' := 54) rfl ?_
        refine ax_istore dX2_findPasts_54 (by decide) (ls' := [some (.inr 71), some (.inr 1), some (.inr 78), some (.inl p), some (.inl k), some (.inl (p * 6 + k)), some (.inl 1), none]) rfl (pc' := 56) rfl ?_
        have LP4 : ∀ (kq5 : Nat) (v : Int) (nd2 : Int → Int) (pc2 pk2 ph2 : Int) (y : Int → Int) (B : f_Ft) (M4 : ax_Mem) (hm4 : 100 - v < (kq5 : Nat)) (fr4 : ∀ x0 i0 : Int, ¬ (x0 = 74 ∨ (x0 = 71 ∧ i0 = 1) ∨ (x0 = 71 ∧ i0 = 2) ∨ (x0 = 71 ∧ i0 = 3) ∨ x0 = 80 ∨ x0 = 81 ∨ x0 = 72 ∨ x0 = 73) → M4 x0 i0 = (ax_up M1 81 (p * 6 + k) (w 0)) x0 i0) (mr4_74 : M4 74 = nd2) (ms4_71_1 : M4 71 1 = pc2) (ms4_71_2 : M4 71 2 = pk2) (ms4_71_3 : M4 71 3 = ph2) (iv4_0 : 1 ≤ v ∧ v ≤ 100) (iv4_1 : f_loop (f_ftS Ls w r p k) v 100 B = f_loop (f_ftS Ls w r p k) 1 100 A) (iv4_2 : f_rm M4 78 y r) (iv4_3 : f_iv y ∧ f_sm w y ∧ ∀ q, 0 ≤ q → q < 24 → f_P y r q 0 = f_P w r q 0) (iv4_4 : M4 81 (p * 6 + k) = w 0) (iv4_5 : f_fp pc2 pk2 ph2 nd2 B) (iv4_6 : (B.2.2.length : Int) ≤ 99 * k + (v - 1)), ax_W E l (d + 1) 0 0 iX2_findPasts 56 [some (.inr 71), some (.inr 1), some (.inr 78), some (.inl p), some (.inl k), some (.inl (p * 6 + k)), some (.inl v), none] [] SH M4 (ax_P (fun z0 M2 => z0 = none ∧ (∀ x0 i0 : Int, ¬ (x0 = 80 ∨ x0 = 81 ∨ x0 = 72 ∨ x0 = 73 ∨ x0 = 74 ∨ (x0 = 71 ∧ i0 = 1) ∨ (x0 = 71 ∧ i0 = 2) ∨ (x0 = 71 ∧ i0 = 3)) → M2 x0 i0 = M x0 i0) ∧ (f_fp (M2 71 1) (M2 71 2) (M2 71 3) (M2 74) (f_ft Ls w r p)) ∧ (((f_ft Ls w r p).2.2.length : Int) ≤ 600))) := by
          intro kq5
          induction kq5 with
          | zero =>
            intro v nd2 pc2 pk2 ph2 y B M4 hm4 fr4 mr4_74 ms4_71_1 ms4_71_2 ms4_71_3 iv4_0 iv4_1 iv4_2 iv4_3 iv4_4 iv4_5 iv4_6
            exfalso
            omega
          | succ kq5 ih6 =>
            intro v nd2 pc2 pk2 ph2 y B M4 hm4 fr4 mr4_74 ms4_71_1 ms4_71_2 ms4_71_3 iv4_0 iv4_1 iv4_2 iv4_3 iv4_4 iv4_5 iv4_6
            refine ax_iload dX2_findPasts_56 rfl (pc' := 58) rfl ?_
            refine ax_bipush dX2_findPasts_58 (by decide) (pc' := 60) rfl ?_
            refine ax_icmp_gt (tgt := 140) dX2_findPasts_60 (by decide) (pc' := 63) rfl (fun h60 => ?_) (fun h60 => ?_)
            · have qBB : f_loop (f_ftS Ls w r p k) 1 100 A = B := by
                rw [← iv4_1, f_loop_done (by omega)]
              refine ax_iinc dX2_findPasts_140 rfl (by decide) (by omega) (ls' := [some (.inr 71), some (.inr 1), some (.inr 78), some (.inl p), some (.inl (k + 1)), some (.inl (p * 6 + k)), some (.inl v), none]) rfl (pc' := 143) rfl ?_
              refine ax_goto dX2_findPasts_143 (pc' := 26) (by decide) ?_
              refine ax_less (ls2 := [some (.inr 71), some (.inr 1), some (.inr 78), some (.inl p), some (.inl (k + 1)), none, none, none]) [true, true, true, true, true, false, false, false] rfl ?_
              refine ih3 (k + 1) nd2 pc2 pk2 ph2 y B M4 ?_ ?_ ?_ ?_ ?_ ?_ ?_ ?_ ?_ ?_ ?_ ?_
              · omega
              · intro x0 i0 hai
                exact ((fr4 x0 i0 (fun h => h.elim (fun h => hai (Or.inl h)) (fun h => h.elim (fun h => hai (Or.inr (Or.inl h))) (fun h => h.elim (fun h => hai (Or.inr (Or.inr (Or.inl h)))) (fun h => h.elim (fun h => hai (Or.inr (Or.inr (Or.inr (Or.inl h))))) (fun h => h.elim (fun h => hai (Or.inr (Or.inr (Or.inr (Or.inr (Or.inl h)))))) (fun h => h.elim (fun h => hai (Or.inr (Or.inr (Or.inr (Or.inr (Or.inr (Or.inl h))))))) (fun h => h.elim (fun h => hai (Or.inr (Or.inr (Or.inr (Or.inr (Or.inr (Or.inr (Or.inl h)))))))) (fun h => hai (Or.inr (Or.inr (Or.inr (Or.inr (Or.inr (Or.inr (Or.inr h)))))))))))))))).trans (ax_up_miss (fun h => hai (Or.inr (Or.inr (Or.inr (Or.inr (Or.inr (Or.inl h.1))))))) ((fr1 x0 i0 (fun h => h.elim (fun h => hai (Or.inl h)) (fun h => h.elim (fun h => hai (Or.inr (Or.inl h))) (fun h => h.elim (fun h => hai (Or.inr (Or.inr (Or.inl h)))) (fun h => h.elim (fun h => hai (Or.inr (Or.inr (Or.inr (Or.inl h))))) (fun h => h.elim (fun h => hai (Or.inr (Or.inr (Or.inr (Or.inr (Or.inl h)))))) (fun h => h.elim (fun h => hai (Or.inr (Or.inr (Or.inr (Or.inr (Or.inr (Or.inl h))))))) (fun h => h.elim (fun h => hai (Or.inr (Or.inr (Or.inr (Or.inr (Or.inr (Or.inr (Or.inl h)))))))) (fun h => hai (Or.inr (Or.inr (Or.inr (Or.inr (Or.inr (Or.inr (Or.inr h)))))))))))))))).trans rfl)))
              · exact mr4_74
              · exact ms4_71_1
              · exact ms4_71_2
              · exact ms4_71_3
              · omega
              · rw [← iv1_1, f_loop_step (lo := k) (by omega), qBB]
              · exact iv4_2
              · exact iv4_3
              · exact iv4_5
              · omega
            · have qpy2 : f_iv (f_hab y r p k v (w 0)) ∧ f_sm w (f_hab y r p k v (w 0)) ∧ ∀ q, 0 ≤ q → q < 24 → f_P (f_hab y r p k v (w 0)) r q 0 = f_P w r q 0 := ⟨f_iv_hab ⟨hg3.1, hg3.2, by omega, by omega, by omega, by omega⟩ ⟨by omega, by omega⟩ (Or.inr qdl) iv4_3.1, f_sm_trans iv4_3.2.1 (f_sm_hab ⟨hg3.1, hg3.2, by omega, by omega, by omega, by omega⟩), fun q q1 q2 => (f_hab_0 hg3 ⟨by omega, by omega⟩ ⟨by omega, by omega⟩ ⟨q1, q2⟩).trans (iv4_3.2.2 q q1 q2)⟩
              have qbl : ((f_ftS Ls w r p k v B).2.2.length : Int) ≤ 99 * k + (v + 1 - 1) := by
                unfold f_ftS
                split
                · split
                  · show ((_ :: B.2.2).length : Int) ≤ _
                    rw [List.length_cons]
                    omega
                  · show ((_ :: B.2.2).length : Int) ≤ _
                    rw [List.length_cons]
                    omega
                · omega
              have qpcr : pc2 = (B.2.2.length : Int) := iv4_5.1.1
              refine ax_aload_n dX2_findPasts_63 rfl rfl (pc' := 64) rfl ?_
              refine ax_getr (v := 80) dX2_findPasts_64 flX2_27 rfl sh_78 rfl (pc' := 67) rfl ?_
              refine ax_iload dX2_findPasts_67 rfl (pc' := 69) rfl ?_
              refine ax_iload dX2_findPasts_69 rfl (pc' := 71) rfl ?_
              refine ax_iast dX2_findPasts_71 sh_80 rfl (by omega) (by omega) (pc' := 72) rfl ?_
              have qry : f_rm (ax_up M4 80 (p * 6 + k) v) 78 (f_hab y r p k v (w 0)) r := by
                refine f_rr_eq (show (ax_up M4 80 (p * 6 + k) v) 78 1 = M4 78 1 from (ax_up_miss (fun h => absurd h.1 (by decide)) rfl)) (show (ax_up M4 80 (p * 6 + k) v) 78 2 = M4 78 2 from (ax_up_miss (fun h => absurd h.1 (by decide)) rfl)) (show (ax_up M4 80 (p * 6 + k) v) 78 3 = M4 78 3 from (ax_up_miss (fun h => absurd h.1 (by decide)) rfl)) (show (ax_up M4 80 (p * 6 + k) v) 78 4 = M4 78 4 from (ax_up_miss (fun h => absurd h.1 (by decide)) rfl)) (show (ax_up M4 80 (p * 6 + k) v) (79) = M4 79 from (ax_up_rowmiss (by decide) rfl)) (show (ax_up M4 80 (p * 6 + k) v) (80) = f_up (M4 80) (p * 6 + k) v from (ax_up_rowhit rfl)) (show (ax_up M4 80 (p * 6 + k) v) (81) = M4 81 from (ax_up_rowmiss (by decide) rfl)) ?_
                exact f_rr_hab hg3 ⟨by omega, by omega⟩ ⟨by omega, by omega⟩ (by rw [iv4_2.1, iv4_3.2.1.2.2.2.2 r 1 ⟨hg3.1, hg3.2, by decide, by decide⟩]; omega) (fun x hx => f_up_o hx) (f_up_same _ _ _) (fun x hx => rfl) (fun hv => iv4_4) iv4_2
              refine ax_aload_n dX2_findPasts_72 rfl rfl (pc' := 73) rfl ?_
              refine ax_aload_n dX2_findPasts_73 rfl rfl (pc' := 74) rfl ?_
              refine ax_aload_n dX2_findPasts_74 rfl rfl (pc' := 75) rfl ?_
              refine ax_iload_n dX2_findPasts_75 rfl rfl (pc' := 76) rfl ?_
              refine ax_iload dX2_findPasts_76 rfl (pc' := 78) rfl ?_
              refine ax_invG [.inr 1, .inr 78, .inl p, .inl k] [] dX2_findPasts_78 mlX2_120 sh_71 rfl rfl rfl (Nat.le_of_ble_eq_true rfl) (s_X2_needOf E l _ (by omega) _ 78 p k Ls (f_hab y r p k v (w 0)) r hg0 qry (f_jv_sm qpy2.1 qpy2.2.1 hg2) hg3 (f_hm_sm qpy2.2.1 (f_hm_fr (M := M) (fun x0 i0 hx => (ax_up_miss (by omega) ((fr4 x0 i0 (by omega)).trans (ax_up_miss (by omega) ((fr1 x0 i0 (by omega)).trans ((frM_20 x0 i0 (by omega)).trans (ax_up_miss (by omega) (ax_up_miss (by omega) (ax_up_miss (by omega) rfl))))))))) hg4)) (f_lrn_fr (M := M) (fun x0 i0 hx => (ax_up_miss (by omega) ((fr4 x0 i0 (by omega)).trans (ax_up_miss (by omega) ((fr1 x0 i0 (by omega)).trans ((frM_20 x0 i0 (by omega)).trans (ax_up_miss (by omega) (ax_up_miss (by omega) (ax_up_miss (by omega) rfl))))))))) hg5) (Or.inr rfl) ⟨by omega, by rw [qpy2.2.1.2.2.2.2 r 1 ⟨hg3.1, hg3.2, by decide, by decide⟩]; omega⟩ ⟨by omega, by omega⟩ (by rw [(f_P_habe ⟨hg3.1, hg3.2, by omega, by omega, by omega, by omega⟩).1]; omega)) (pc' := 81) rfl (fun vv M_78 hq co78 hcm78 => ?_)
              obtain ⟨rfl, frM_78⟩ := hq
              refine ax_reS (st2 := [.inl (f_need Ls (f_hab y r p k v (w 0)) r p k)]) rfl ?_
              have cc78 : -2147483648 ≤ f_need Ls (f_hab y r p k v (w 0)) r p k ∧ f_need Ls (f_hab y r p k v (w 0)) r p k < 2147483648 := co78 _ rfl
              have qnw := f_need_hab (Ls := Ls) (v := v) hg3 iv4_3.2.1 iv4_3.2.2 hg8 qlr.2 (k := k) ⟨by omega, by omega⟩ (by omega)
              have qnr := f_needW_rg (Ls := Ls) (w := w) (r := r) (p := p) (k := k) (h := v) (a := 0)
              refine ax_reS (st2 := [.inl (f_needW Ls w r p k v 0)]) (congrArg (fun z => Sum.inl z :: _) (by exact qnw)) ?_
              refine ax_istore dX2_findPasts_81 (by decide) (ls' := [some (.inr 71), some (.inr 1), some (.inr 78), some (.inl p), some (.inl k), some (.inl (p * 6 + k)), some (.inl v), some (.inl (f_needW Ls w r p k v 0))]) rfl (pc' := 83) rfl ?_
              refine ax_aload_n dX2_findPasts_83 rfl rfl (pc' := 84) rfl ?_
              refine ax_iload dX2_findPasts_84 rfl (pc' := 86) rfl ?_
              refine ax_iload dX2_findPasts_86 rfl (pc' := 88) rfl ?_
              refine ax_invG [.inl k, .inl (f_needW Ls w r p k v 0)] [] dX2_findPasts_88 mlX2_123 sh_71 rfl rfl rfl (Nat.le_of_ble_eq_true rfl) (s_X2_agreesWithTold E l _ (by omega) _ k (f_needW Ls w r p k v 0) w (f_tl_fr (M := M) (fun x0 i0 hx => ((frM_78 x0 i0 (by omega)).trans (ax_up_miss (by omega) ((fr4 x0 i0 (by omega)).trans (ax_up_miss (by omega) ((fr1 x0 i0 (by omega)).trans ((frM_20 x0 i0 (by omega)).trans (ax_up_miss (by omega) (ax_up_miss (by omega) (ax_up_miss (by omega) rfl)))))))))) hg6) hg7) (pc' := 91) rfl (fun vv M_88 hq co88 hcm88 => ?_)
              obtain ⟨rfl, rfl⟩ := hq
              refine ax_reS (st2 := [.inl (f_b (f_fw w k (f_needW Ls w r p k v 0)))]) rfl ?_
              refine ax_if_eq (tgt := 134) dX2_findPasts_91 (by decide) (pc' := 94) rfl (fun h91 => ?_) (fun h91 => ?_)
              · replace h91 := f_b_0 h91
                have qrb : f_rm M_78 78 (f_hab y r p k v (w 0)) r := f_rm_fr (M := M_78) (fun x0 i0 hx => rfl) (f_rm_fr (fun x0 i0 hx => frM_78 x0 i0 (by omega)) qry)
                have q81 : M_78 81 (p * 6 + k) = w 0 := (congrFun ((funext fun i0 => frM_78 81 i0 (fun h => h.elim (fun h => absurd h (by decide)) (fun h => absurd h (by decide)))).trans (ax_up_rowmiss (by decide) rfl)) _).trans iv4_4
                have qff := f_ftS_no (A := B) h91
                have qfpn : f_fp pc2 pk2 ph2 nd2 (f_ftS Ls w r p k v B) := by
                  rw [qff]
                  exact iv4_5
                refine ax_iinc dX2_findPasts_134 rfl (by decide) (by omega) (ls' := [some (.inr 71), some (.inr 1), some (.inr 78), some (.inl p), some (.inl k), some (.inl (p * 6 + k)), some (.inl (v + 1)), some (.inl (f_needW Ls w r p k v 0))]) rfl (pc' := 137) rfl ?_
                refine ax_goto dX2_findPasts_137 (pc' := 56) (by decide) ?_
                refine ax_less (ls2 := [some (.inr 71), some (.inr 1), some (.inr 78), some (.inl p), some (.inl k), some (.inl (p * 6 + k)), some (.inl (v + 1)), none]) [true, true, true, true, true, true, true, false] rfl ?_
                refine ih6 (v + 1) nd2 pc2 pk2 ph2 (f_hab y r p k v (w 0)) (f_ftS Ls w r p k v B) M_78 ?_ ?_ ?_ ?_ ?_ ?_ ?_ ?_ ?_ ?_ ?_ ?_ ?_
                · omega
                · intro x0 i0 hai
                  exact ((frM_78 x0 i0 (fun h => h.elim (fun h => hai (Or.inr (Or.inr (Or.inr (Or.inr (Or.inr (Or.inr (Or.inl h)))))))) (fun h => hai (Or.inr (Or.inr (Or.inr (Or.inr (Or.inr (Or.inr (Or.inr h)))))))))).trans (ax_up_miss (fun h => hai (Or.inr (Or.inr (Or.inr (Or.inr (Or.inl h.1)))))) ((fr4 x0 i0 (fun h => h.elim (fun h => hai (Or.inl h)) (fun h => h.elim (fun h => hai (Or.inr (Or.inl h))) (fun h => h.elim (fun h => hai (Or.inr (Or.inr (Or.inl h)))) (fun h => h.elim (fun h => hai (Or.inr (Or.inr (Or.inr (Or.inl h))))) (fun h => h.elim (fun h => hai (Or.inr (Or.inr (Or.inr (Or.inr (Or.inl h)))))) (fun h => h.elim (fun h => hai (Or.inr (Or.inr (Or.inr (Or.inr (Or.inr (Or.inl h))))))) (fun h => h.elim (fun h => hai (Or.inr (Or.inr (Or.inr (Or.inr (Or.inr (Or.inr (Or.inl h)))))))) (fun h => hai (Or.inr (Or.inr (Or.inr (Or.inr (Or.inr (Or.inr (Or.inr h)))))))))))))))).trans rfl)))
                · exact ((funext fun i0 => frM_78 74 i0 (fun h => h.elim (fun h => absurd h (by decide)) (fun h => absurd h (by decide)))).trans (ax_up_rowmiss (by decide) mr4_74))
                · exact ((frM_78 71 1 (fun h => h.elim (fun h => absurd h (by decide)) (fun h => absurd h (by decide)))).trans (ax_up_miss (fun h => absurd h.1 (by decide)) ms4_71_1))
                · exact ((frM_78 71 2 (fun h => h.elim (fun h => absurd h (by decide)) (fun h => absurd h (by decide)))).trans (ax_up_miss (fun h => absurd h.1 (by decide)) ms4_71_2))
                · exact ((frM_78 71 3 (fun h => h.elim (fun h => absurd h (by decide)) (fun h => absurd h (by decide)))).trans (ax_up_miss (fun h => absurd h.1 (by decide)) ms4_71_3))
                · omega
                · exact (f_loop_step (by omega)).symm.trans iv4_1
                · exact qrb
                · exact qpy2
                · exact q81
                · exact qfpn
                · exact qbl
              · replace h91 := f_b_1 h91
                have qndr : nd2 (f_needW Ls w r p k v 0) = f_cte (f_needW Ls w r p k v 0) B.2.2 := iv4_5.2.1 _ qnr.1 (by omega)
                have qctr := f_cte_pos (f_needW Ls w r p k v 0) B.2.2
                refine ax_aload_n dX2_findPasts_94 rfl rfl (pc' := 95) rfl ?_
                refine ax_geti (v := pc2) dX2_findPasts_95 flX2_105 rfl sh_71 (show M_78 71 1 = pc2 from ((frM_78 71 1 (fun h => h.elim (fun h => absurd h (by decide)) (fun h => absurd h (by decide)))).trans (ax_up_miss (fun h => absurd h.1 (by decide)) ms4_71_1))) rfl (pc' := 98) rfl ?_
                refine ax_if_ne (tgt := 113) dX2_findPasts_98 (by decide) (pc' := 101) rfl (fun h98 => ?_) (fun h98 => ?_)
                · refine ax_aload_n dX2_findPasts_113 rfl rfl (pc' := 114) rfl ?_
                  refine ax_dup dX2_findPasts_114 (pc' := 115) rfl ?_
                  refine ax_geti (v := pc2) dX2_findPasts_115 flX2_105 rfl sh_71 (show M_78 71 1 = pc2 from ((frM_78 71 1 (fun h => h.elim (fun h => absurd h (by decide)) (fun h => absurd h (by decide)))).trans (ax_up_miss (fun h => absurd h.1 (by decide)) ms4_71_1))) rfl (pc' := 118) rfl ?_
                  refine ax_iconst dX2_findPasts_118 (by decide) (pc' := 119) rfl ?_
                  refine ax_iadd dX2_findPasts_119 (by omega) (pc' := 120) rfl ?_
                  refine ax_puti dX2_findPasts_120 flX2_105 (Or.inl rfl) sh_71 rfl (pc' := 123) rfl ?_
                  refine ax_aload_n dX2_findPasts_123 rfl rfl (pc' := 124) rfl ?_
                  refine ax_getr (v := 74) dX2_findPasts_124 flX2_20 rfl sh_71 rfl (pc' := 127) rfl ?_
                  refine ax_iload dX2_findPasts_127 rfl (pc' := 129) rfl ?_
                  refine ax_dup2 dX2_findPasts_129 (pc' := 130) rfl ?_
                  refine ax_iald (v := nd2 (f_needW Ls w r p k v 0)) dX2_findPasts_130 sh_74 rfl (by omega) (by omega) ((congrFun (ax_up_rowmiss (by decide) ((funext fun i0 => frM_78 74 i0 (fun h => h.elim (fun h => absurd h (by decide)) (fun h => absurd h (by decide)))).trans (ax_up_rowmiss (by decide) mr4_74))) (f_needW Ls w r p k v 0)).trans rfl) (pc' := 131) rfl ?_
                  refine ax_iconst dX2_findPasts_131 (by decide) (pc' := 132) rfl ?_
                  refine ax_iadd dX2_findPasts_132 (by omega) (pc' := 133) rfl ?_
                  refine ax_iast dX2_findPasts_133 sh_74 rfl (by omega) (by omega) (pc' := 134) rfl ?_
                  have qrb : f_rm (ax_up (ax_up M_78 71 1 (pc2 + 1)) 74 (f_needW Ls w r p k v 0) (nd2 (f_needW Ls w r p k v 0) + 1)) 78 (f_hab y r p k v (w 0)) r := f_rm_fr (M := M_78) (fun x0 i0 hx => (ax_up_miss (by omega) (ax_up_miss (by omega) rfl))) (f_rm_fr (fun x0 i0 hx => frM_78 x0 i0 (by omega)) qry)
                  have q81 : (ax_up (ax_up M_78 71 1 (pc2 + 1)) 74 (f_needW Ls w r p k v 0) (nd2 (f_needW Ls w r p k v 0) + 1)) 81 (p * 6 + k) = w 0 := (congrFun (ax_up_rowmiss (by decide) (ax_up_rowmiss (by decide) ((funext fun i0 => frM_78 81 i0 (fun h => h.elim (fun h => absurd h (by decide)) (fun h => absurd h (by decide)))).trans (ax_up_rowmiss (by decide) rfl)))) _).trans iv4_4
                  have qg := f_fp_go (Ls := Ls) (r := r) (p := p) (v := v) iv4_5 h91
                  rw [if_neg h98, if_neg h98] at qg
                  have qfpn : f_fp (pc2 + 1) pk2 ph2 (f_up nd2 (f_needW Ls w r p k v 0) (nd2 (f_needW Ls w r p k v 0) + 1)) (f_ftS Ls w r p k v B) := qg
                  refine ax_iinc dX2_findPasts_134 rfl (by decide) (by omega) (ls' := [some (.inr 71), some (.inr 1), some (.inr 78), some (.inl p), some (.inl k), some (.inl (p * 6 + k)), some (.inl (v + 1)), some (.inl (f_needW Ls w r p k v 0))]) rfl (pc' := 137) rfl ?_
                  refine ax_goto dX2_findPasts_137 (pc' := 56) (by decide) ?_
                  refine ax_less (ls2 := [some (.inr 71), some (.inr 1), some (.inr 78), some (.inl p), some (.inl k), some (.inl (p * 6 + k)), some (.inl (v + 1)), none]) [true, true, true, true, true, true, true, false] rfl ?_
                  refine ih6 (v + 1) (f_up nd2 (f_needW Ls w r p k v 0) (nd2 (f_needW Ls w r p k v 0) + 1)) (pc2 + 1) pk2 ph2 (f_hab y r p k v (w 0)) (f_ftS Ls w r p k v B) (ax_up (ax_up M_78 71 1 (pc2 + 1)) 74 (f_needW Ls w r p k v 0) (nd2 (f_needW Ls w r p k v 0) + 1)) ?_ ?_ ?_ ?_ ?_ ?_ ?_ ?_ ?_ ?_ ?_ ?_ ?_
                  · omega
                  · intro x0 i0 hai
                    exact (ax_up_miss (fun h => hai (Or.inl h.1)) (ax_up_miss (fun h => hai (Or.inr (Or.inl h))) ((frM_78 x0 i0 (fun h => h.elim (fun h => hai (Or.inr (Or.inr (Or.inr (Or.inr (Or.inr (Or.inr (Or.inl h)))))))) (fun h => hai (Or.inr (Or.inr (Or.inr (Or.inr (Or.inr (Or.inr (Or.inr h)))))))))).trans (ax_up_miss (fun h => hai (Or.inr (Or.inr (Or.inr (Or.inr (Or.inl h.1)))))) ((fr4 x0 i0 (fun h => h.elim (fun h => hai (Or.inl h)) (fun h => h.elim (fun h => hai (Or.inr (Or.inl h))) (fun h => h.elim (fun h => hai (Or.inr (Or.inr (Or.inl h)))) (fun h => h.elim (fun h => hai (Or.inr (Or.inr (Or.inr (Or.inl h))))) (fun h => h.elim (fun h => hai (Or.inr (Or.inr (Or.inr (Or.inr (Or.inl h)))))) (fun h => h.elim (fun h => hai (Or.inr (Or.inr (Or.inr (Or.inr (Or.inr (Or.inl h))))))) (fun h => h.elim (fun h => hai (Or.inr (Or.inr (Or.inr (Or.inr (Or.inr (Or.inr (Or.inl h)))))))) (fun h => hai (Or.inr (Or.inr (Or.inr (Or.inr (Or.inr (Or.inr (Or.inr h)))))))))))))))).trans rfl)))))
                  · exact (ax_up_rowhit (ax_up_rowmiss (by decide) ((funext fun i0 => frM_78 74 i0 (fun h => h.elim (fun h => absurd h (by decide)) (fun h => absurd h (by decide)))).trans (ax_up_rowmiss (by decide) mr4_74))))
                  · exact (ax_up_miss (fun h => absurd h.1 (by decide)) (ax_up_hit _ _ _ _))
                  · exact (ax_up_miss (fun h => absurd h.1 (by decide)) (ax_up_miss (by decide) ((frM_78 71 2 (fun h => h.elim (fun h => absurd h (by decide)) (fun h => absurd h (by decide)))).trans (ax_up_miss (fun h => absurd h.1 (by decide)) ms4_71_2))))
                  · exact (ax_up_miss (fun h => absurd h.1 (by decide)) (ax_up_miss (by decide) ((frM_78 71 3 (fun h => h.elim (fun h => absurd h (by decide)) (fun h => absurd h (by decide)))).trans (ax_up_miss (fun h => absurd h.1 (by decide)) ms4_71_3))))
                  · omega
                  · exact (f_loop_step (by omega)).symm.trans iv4_1
                  · exact qrb
                  · exact qpy2
                  · exact q81
                  · exact qfpn
                  · exact qbl
                · refine ax_aload_n dX2_findPasts_101 rfl rfl (pc' := 102) rfl ?_
                  refine ax_iload dX2_findPasts_102 rfl (pc' := 104) rfl ?_
                  refine ax_puti dX2_findPasts_104 flX2_108 (Or.inl rfl) sh_71 rfl (pc' := 107) rfl ?_
                  refine ax_aload_n dX2_findPasts_107 rfl rfl (pc' := 108) rfl ?_
                  refine ax_iload dX2_findPasts_108 rfl (pc' := 110) rfl ?_
                  refine ax_puti dX2_findPasts_110 flX2_111 (Or.inl rfl) sh_71 rfl (pc' := 113) rfl ?_
                  refine ax_aload_n dX2_findPasts_113 rfl rfl (pc' := 114) rfl ?_
                  refine ax_dup dX2_findPasts_114 (pc' := 115) rfl ?_
                  refine ax_geti (v := pc2) dX2_findPasts_115 flX2_105 rfl sh_71 (show (ax_up (ax_up M_78 71 2 k) 71 3 v) 71 1 = pc2 from (ax_up_miss (by decide) (ax_up_miss (by decide) ((frM_78 71 1 (fun h => h.elim (fun h => absurd h (by decide)) (fun h => absurd h (by decide)))).trans (ax_up_miss (fun h => absurd h.1 (by decide)) ms4_71_1))))) rfl (pc' := 118) rfl ?_
                  refine ax_iconst dX2_findPasts_118 (by decide) (pc' := 119) rfl ?_
                  refine ax_iadd dX2_findPasts_119 (by omega) (pc' := 120) rfl ?_
                  refine ax_puti dX2_findPasts_120 flX2_105 (Or.inl rfl) sh_71 rfl (pc' := 123) rfl ?_
                  refine ax_aload_n dX2_findPasts_123 rfl rfl (pc' := 124) rfl ?_
                  refine ax_getr (v := 74) dX2_findPasts_124 flX2_20 rfl sh_71 rfl (pc' := 127) rfl ?_
                  refine ax_iload dX2_findPasts_127 rfl (pc' := 129) rfl ?_
                  refine ax_dup2 dX2_findPasts_129 (pc' := 130) rfl ?_
                  refine ax_iald (v := nd2 (f_needW Ls w r p k v 0)) dX2_findPasts_130 sh_74 rfl (by omega) (by omega) ((congrFun (ax_up_rowmiss (by decide) (ax_up_rowmiss (by decide) (ax_up_rowmiss (by decide) ((funext fun i0 => frM_78 74 i0 (fun h => h.elim (fun h => absurd h (by decide)) (fun h => absurd h (by decide)))).trans (ax_up_rowmiss (by decide) mr4_74))))) (f_needW Ls w r p k v 0)).trans rfl) (pc' := 131) rfl ?_
                  refine ax_iconst dX2_findPasts_131 (by decide) (pc' := 132) rfl ?_
                  refine ax_iadd dX2_findPasts_132 (by omega) (pc' := 133) rfl ?_
                  refine ax_iast dX2_findPasts_133 sh_74 rfl (by omega) (by omega) (pc' := 134) rfl ?_
                  have qrb : f_rm (ax_up (ax_up (ax_up (ax_up M_78 71 2 k) 71 3 v) 71 1 (pc2 + 1)) 74 (f_needW Ls w r p k v 0) (nd2 (f_needW Ls w r p k v 0) + 1)) 78 (f_hab y r p k v (w 0)) r := f_rm_fr (M := M_78) (fun x0 i0 hx => (ax_up_miss (by omega) (ax_up_miss (by omega) (ax_up_miss (by omega) (ax_up_miss (by omega) rfl))))) (f_rm_fr (fun x0 i0 hx => frM_78 x0 i0 (by omega)) qry)
                  have q81 : (ax_up (ax_up (ax_up (ax_up M_78 71 2 k) 71 3 v) 71 1 (pc2 + 1)) 74 (f_needW Ls w r p k v 0) (nd2 (f_needW Ls w r p k v 0) + 1)) 81 (p * 6 + k) = w 0 := (congrFun (ax_up_rowmiss (by decide) (ax_up_rowmiss (by decide) (ax_up_rowmiss (by decide) (ax_up_rowmiss (by decide) ((funext fun i0 => frM_78 81 i0 (fun h => h.elim (fun h => absurd h (by decide)) (fun h => absurd h (by decide)))).trans (ax_up_rowmiss (by decide) rfl)))))) _).trans iv4_4
                  have qg := f_fp_go (Ls := Ls) (r := r) (p := p) (v := v) iv4_5 h91
                  rw [if_pos h98, if_pos h98] at qg
                  have qfpn : f_fp (pc2 + 1) k v (f_up nd2 (f_needW Ls w r p k v 0) (nd2 (f_needW Ls w r p k v 0) + 1)) (f_ftS Ls w r p k v B) := qg
                  refine ax_iinc dX2_findPasts_134 rfl (by decide) (by omega) (ls' := [some (.inr 71), some (.inr 1), some (.inr 78), some (.inl p), some (.inl k), some (.inl (p * 6 + k)), some (.inl (v + 1)), some (.inl (f_needW Ls w r p k v 0))]) rfl (pc' := 137) rfl ?_
                  refine ax_goto dX2_findPasts_137 (pc' := 56) (by decide) ?_
                  refine ax_less (ls2 := [some (.inr 71), some (.inr 1), some (.inr 78), some (.inl p), some (.inl k), some (.inl (p * 6 + k)), some (.inl (v + 1)), none]) [true, true, true, true, true, true, true, false] rfl ?_
                  refine ih6 (v + 1) (f_up nd2 (f_needW Ls w r p k v 0) (nd2 (f_needW Ls w r p k v 0) + 1)) (pc2 + 1) k v (f_hab y r p k v (w 0)) (f_ftS Ls w r p k v B) (ax_up (ax_up (ax_up (ax_up M_78 71 2 k) 71 3 v) 71 1 (pc2 + 1)) 74 (f_needW Ls w r p k v 0) (nd2 (f_needW Ls w r p k v 0) + 1)) ?_ ?_ ?_ ?_ ?_ ?_ ?_ ?_ ?_ ?_ ?_ ?_ ?_
                  · omega
                  · intro x0 i0 hai
                    exact (ax_up_miss (fun h => hai (Or.inl h.1)) (ax_up_miss (fun h => hai (Or.inr (Or.inl h))) (ax_up_miss (fun h => hai (Or.inr (Or.inr (Or.inr (Or.inl h))))) (ax_up_miss (fun h => hai (Or.inr (Or.inr (Or.inl h)))) ((frM_78 x0 i0 (fun h => h.elim (fun h => hai (Or.inr (Or.inr (Or.inr (Or.inr (Or.inr (Or.inr (Or.inl h)))))))) (fun h => hai (Or.inr (Or.inr (Or.inr (Or.inr (Or.inr (Or.inr (Or.inr h)))))))))).trans (ax_up_miss (fun h => hai (Or.inr (Or.inr (Or.inr (Or.inr (Or.inl h.1)))))) ((fr4 x0 i0 (fun h => h.elim (fun h => hai (Or.inl h)) (fun h => h.elim (fun h => hai (Or.inr (Or.inl h))) (fun h => h.elim (fun h => hai (Or.inr (Or.inr (Or.inl h)))) (fun h => h.elim (fun h => hai (Or.inr (Or.inr (Or.inr (Or.inl h))))) (fun h => h.elim (fun h => hai (Or.inr (Or.inr (Or.inr (Or.inr (Or.inl h)))))) (fun h => h.elim (fun h => hai (Or.inr (Or.inr (Or.inr (Or.inr (Or.inr (Or.inl h))))))) (fun h => h.elim (fun h => hai (Or.inr (Or.inr (Or.inr (Or.inr (Or.inr (Or.inr (Or.inl h)))))))) (fun h => hai (Or.inr (Or.inr (Or.inr (Or.inr (Or.inr (Or.inr (Or.inr h)))))))))))))))).trans rfl)))))))
                  · exact (ax_up_rowhit (ax_up_rowmiss (by decide) (ax_up_rowmiss (by decide) (ax_up_rowmiss (by decide) ((funext fun i0 => frM_78 74 i0 (fun h => h.elim (fun h => absurd h (by decide)) (fun h => absurd h (by decide)))).trans (ax_up_rowmiss (by decide) mr4_74))))))
                  · exact (ax_up_miss (fun h => absurd h.1 (by decide)) (ax_up_hit _ _ _ _))
                  · exact (ax_up_miss (fun h => absurd h.1 (by decide)) (ax_up_miss (by decide) (ax_up_miss (by decide) (ax_up_hit _ _ _ _))))
                  · exact (ax_up_miss (fun h => absurd h.1 (by decide)) (ax_up_miss (by decide) (ax_up_hit _ _ _ _)))
                  · omega
                  · exact (f_loop_step (by omega)).symm.trans iv4_1
                  · exact qrb
                  · exact qpy2
                  · exact q81
                  · exact qfpn
                  · exact qbl
        refine LP4 (100 - 1 : Int).toNat.succ 1 nd pc pk ph (f_hab x r p k (f_P x r p (1 + k)) (w 0)) A (ax_up M1 81 (p * 6 + k) (w 0)) ?_ ?_ ?_ ?_ ?_ ?_ ?_ ?_ ?_ ?_ ?_ ?_ ?_
        · omega
        · exact fun a i _ => rfl
        · exact (ax_up_rowmiss (by decide) mr1_74)
        · exact (ax_up_miss (fun h => absurd h.1 (by decide)) ms1_71_1)
        · exact (ax_up_miss (fun h => absurd h.1 (by decide)) ms1_71_2)
        · exact (ax_up_miss (fun h => absurd h.1 (by decide)) ms1_71_3)
        · omega
        · rfl
        · exact qre
        · exact qpe
        · exact q81e
        · exact iv1_4
        · omega
  refine LP1 (6 - 0 : Int).toNat.succ 0 (f_flv (M 74) (1000 : Int) 0) 0 (-1) (-1) w (-1, -1, []) M_20 ?_ ?_ ?_ ?_ ?_ ?_ ?_ ?_ ?_ ?_ ?_ ?_
  · omega
  · exact fun a i _ => rfl
  · exact mrM_20_0
  · exact ((frM_20 71 1 (fun h => absurd h (by decide))).trans (ax_up_miss (by decide) (ax_up_miss (by decide) (ax_up_hit _ _ _ _))))
  · exact ((frM_20 71 2 (fun h => absurd h (by decide))).trans (ax_up_miss (by decide) (ax_up_hit _ _ _ _)))
  · exact ((frM_20 71 3 (fun h => absurd h (by decide))).trans (ax_up_hit _ _ _ _))
  · omega
  · rfl
  · exact qrm0
  · exact ⟨hg2.1, f_sm_refl, fun _ _ _ => rfl⟩
  · exact ⟨⟨rfl, rfl, rfl⟩, fun n n1 n2 => (if_pos ⟨n1, n2⟩), fun q hq => absurd hq (List.not_mem_nil)⟩
  · exact Int.le_refl 0
