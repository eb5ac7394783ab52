/-! the search: what its rows hold -/
theorem f_pig : ∀ (N : Nat) (Q : List Int), Q.Nodup → (∀ c ∈ Q, 0 ≤ c ∧ c < (N : Int)) → Q.length ≤ N := by
  intro N
  induction N with
  | zero =>
    intro Q _ h
    cases Q with
    | nil => exact Nat.le_refl 0
    | cons x tl =>
      have e := h x List.mem_cons_self
      omega
  | succ N ih =>
    intro Q hn h
    by_cases hm : (N : Int) ∈ Q
    · have e1 := List.length_erase_of_mem hm
      have e2 := ih (Q.erase (N : Int)) (hn.erase _) (fun c hc => by
        have e3 := hn.mem_erase_iff.mp hc
        have e4 := h c e3.2
        have e5 := e3.1
        omega)
      omega
    · have e2 := ih Q hn (fun c hc => by
        have e4 := h c hc
        have e5 : c ≠ (N : Int) := fun e => hm (e ▸ hc)
        omega)
      omega
def f_vl (L : List Int) : Prop := f_lt3 L ∧ (L.length : Int) ≤ 7
def f_bfI (s : f_Bf) : Prop := ∃ Q : List Int, f_fwd s.2.1 0 Q ∧ (Q.length : Int) = s.2.2 ∧ Q.Nodup ∧ ∀ c ∈ Q, (0 ≤ s.1 c ∧ s.1 c ≤ 12) ∧ ∃ L, c = f_code L ∧ f_vl L
theorem f_vl_rg {L : List Int} (h : f_vl L) : 0 ≤ f_code L ∧ f_code L < 17496 := (f_code_rg h.1 h.2).2.2
theorem f_bf_lt {s : f_Bf} {L : List Int} (h : f_bfI s) (hl : f_vl L) : 0 ≤ s.2.2 ∧ (s.1 (f_code L) = -1 → s.2.2 < 17496) := by
  obtain ⟨Q, h1, h2, h3, h4⟩ := h
  refine ⟨by omega, fun he => ?_⟩
  have hc : f_code L ∉ Q := fun hm => by
    have e := (h4 _ hm).1
    omega
  have e := f_pig 17496 (f_code L :: Q) (List.nodup_cons.mpr ⟨hc, h3⟩) (fun c hm => by
    rcases List.mem_cons.mp hm with e | e
    · rw [e]
      exact f_vl_rg hl
    · obtain ⟨K, e1, e2⟩ := (h4 c e).2
      rw [e1]
      exact f_vl_rg e2)
  rw [List.length_cons] at e
  omega
theorem f_bf_rch {s : f_Bf} {L : List Int} {step : Int} (hs : 0 ≤ step ∧ step ≤ 12) (h : f_bfI s) (hl : f_vl L) : f_bfI (f_rch (f_code L) step s) := by
  unfold f_rch
  split
  · rename_i he
    obtain ⟨Q, h1, h2, h3, h4⟩ := h
    have hc : f_code L ∉ Q := fun hm => by
      have e := (h4 _ hm).1
      omega
    refine ⟨Q ++ [f_code L], ?_, ?_, ?_, ?_⟩
    · refine f_fwd_cat (f_fwd_upR (by omega) h1) ⟨?_, trivial⟩
      rw [show 0 + (Q.length : Int) = s.2.2 by omega]
      exact f_up_same _ _ _
    · rw [List.length_append, List.length_singleton]
      show ((Q.length + 1 : Nat) : Int) = s.2.2 + 1
      omega
    · rw [List.nodup_append]
      exact ⟨h3, List.nodup_cons.mpr ⟨List.not_mem_nil, List.nodup_nil⟩, fun a ha b hb => fun e => hc (by rw [← List.mem_singleton.mp hb, ← e]; exact ha)⟩
    · intro c hm
      show (0 ≤ f_up s.1 (f_code L) step c ∧ f_up s.1 (f_code L) step c ≤ 12) ∧ _
      rcases List.mem_append.mp hm with e | e
      · refine ⟨?_, (h4 c e).2⟩
        unfold f_up
        split
        · exact hs
        · exact (h4 c e).1
      · have e1 := List.mem_singleton.mp e
        refine ⟨?_, L, e1, hl⟩
        rw [e1, f_up_same]
        exact hs
  · exact h
theorem f_vl_AB {A B : List Int} {x y : Int} (h : f_vl (A ++ x :: y :: B)) : f_vl (A ++ B) ∧ f_vl (A ++ y :: x :: B) := by
  have ql2 : (A ++ B).length = A.length + B.length := List.length_append
  have ql3 : (A ++ y :: x :: B).length = A.length + (B.length + 1 + 1) := by
    rw [List.length_append]
    rfl
  have ql4 : (A ++ x :: y :: B).length = A.length + (B.length + 1 + 1) := by
    rw [List.length_append]
    rfl
  have q := h.2
  have qt := f_lt3_app.mp h.1
  have qt2 := f_lt3_cons.mp qt.2
  have qt3 := f_lt3_cons.mp qt2.2
  exact ⟨⟨f_lt3_app.mpr ⟨qt.1, qt3.2⟩, by omega⟩, ⟨f_lt3_app.mpr ⟨qt.1, f_lt3_cons.mpr ⟨qt3.1, f_lt3_cons.mpr ⟨qt2.1, qt3.2⟩⟩⟩, by omega⟩⟩
theorem f_bf_goe {s : f_Bf} {A B : List Int} {x y step : Int} (hs : 0 ≤ step ∧ step ≤ 12) (h : f_bfI s) (hl : f_vl (A ++ x :: y :: B)) : f_bfI (f_goe step A x y B s) := by
  unfold f_goe
  split
  · exact f_bf_rch hs h (f_vl_AB hl).1
  · exact h
theorem f_bf_chg {s : f_Bf} {A B : List Int} {x y step : Int} (hs : 0 ≤ step ∧ step ≤ 12) (h : f_bfI s) (hl : f_vl (A ++ x :: y :: B)) : f_bfI (f_chg step A x y B s) := by
  unfold f_chg
  split
  · exact f_bf_rch hs h (f_vl_AB hl).2
  · exact h
def f_gc (step : Int) : List Int → List Int → f_Bf → f_Bf
  | A, x :: y :: B, s => f_gc step (A ++ [x]) (y :: B) (f_chg step A x y B (f_goe step A x y B s))
  | _, _, s => s
def f_cm3 (step : Int) (A B : List Int) (s : f_Bf) : f_Bf := f_rch (f_code (A ++ 2 :: 2 :: B)) step (f_rch (f_code (A ++ 1 :: 0 :: B)) step (f_rch (f_code (A ++ 0 :: 1 :: B)) step s))
def f_cm (step : Int) : List Int → List Int → f_Bf → f_Bf
  | A, [], s => f_cm3 step A [] s
  | A, x :: B, s => f_cm step (A ++ [x]) B (f_cm3 step A (x :: B) s)
def f_mo (step : Int) (L : List Int) (s : f_Bf) : f_Bf := if (L.length : Int) + 2 ≤ 7 then f_cm step [] L (f_gc step [] L s) else f_gc step [] L s
theorem f_gc_2 {step x y : Int} {A B : List Int} {s : f_Bf} : f_gc step A (x :: y :: B) s = f_gc step (A ++ [x]) (y :: B) (f_chg step A x y B (f_goe step A x y B s)) := by
  rw [f_gc]
theorem f_gc_1 {step : Int} {A R : List Int} {s : f_Bf} (h : R.length ≤ 1) : f_gc step A R s = s := by
  match R, h with
  | [], _ => rw [f_gc]; intro x y B e; cases e
  | [x], _ => rw [f_gc]; intro x y B e; cases e
  | x :: y :: B, h => simp only [List.length_cons] at h; omega
theorem f_vl_in {A B : List Int} {x y : Int} (h : f_lt3 (A ++ B)) (hl : ((A ++ B).length : Int) ≤ 5) (hx : 0 ≤ x ∧ x ≤ 2) (hy : 0 ≤ y ∧ y ≤ 2) : f_vl (A ++ x :: y :: B) := by
  have qt := f_lt3_app.mp h
  have e1 : (A ++ B).length = A.length + B.length := List.length_append
  have e2 : (A ++ x :: y :: B).length = A.length + (B.length + 1 + 1) := by
    rw [List.length_append]
    rfl
  exact ⟨f_lt3_app.mpr ⟨qt.1, f_lt3_cons.mpr ⟨hx, f_lt3_cons.mpr ⟨hy, qt.2⟩⟩⟩, by omega⟩
theorem f_bf_cm3 {s : f_Bf} {A B : List Int} {step : Int} (hs : 0 ≤ step ∧ step ≤ 12) (h : f_bfI s) (hl : f_lt3 (A ++ B)) (hl2 : ((A ++ B).length : Int) ≤ 5) : f_bfI (f_cm3 step A B s) := f_bf_rch hs (f_bf_rch hs (f_bf_rch hs h (f_vl_in hl hl2 (by omega) (by omega))) (f_vl_in hl hl2 (by omega) (by omega))) (f_vl_in hl hl2 (by omega) (by omega))
set_option maxRecDepth 20000 in
theorem s_X12_movesOn (E : ax_Env) (l : Launch) (d : Nat) (hd : 3 ≤ d) (M : ax_Mem) (c step : Int) (L : List Int) {lt : Int → Int} (hlt : M 350 = lt) {mv : Int → Int} (hmv : M 348 = mv) {qv : Int → Int} (hqv : M 349 = qv) {qn : Int} (hqn : M 330 43 = qn) (hg0 : c = f_code L) (hg1 : f_vl L) (hg2 : 0 ≤ step ∧ step ≤ 12) (hg3 : f_bfI (mv, qv, qn)) : ax_G E l d iX12_movesOn [.inr 330, .inl c, .inl step] M (fun z0 M2 => z0 = none ∧ (∀ x0 i0 : Int, ¬ (x0 = 348 ∨ x0 = 349 ∨ (x0 = 330 ∧ i0 = 43) ∨ x0 = 350 ∨ (x0 = 330 ∧ i0 = 44)) → M2 x0 i0 = M x0 i0) ∧ M2 348 = (f_mo step L (mv, qv, qn)).1 ∧ M2 349 = (f_mo step L (mv, qv, qn)).2.1 ∧ M2 330 43 = (f_mo step L (mv, qv, qn)).2.2) := by
  obtain ⟨d, rfl⟩ : ∃ d0, d = d0 + 1 := ⟨d - 1, by omega⟩
  refine ax_start rfl (Nat.le_of_ble_eq_true rfl) (ls := [some (.inr 330), some (.inl c), some (.inl step), none, none]) rfl (fun hav hcm => ?_)
  have hc1 : -2147483648 ≤ c ∧ c < 2147483648 := hav (.inl c) (by simp)
  have hc2 : -2147483648 ≤ step ∧ step < 2147483648 := hav (.inl step) (by simp)
  clear hav
  have qa := f_code_rg hg1.1 hg1.2
  rw [← hg0] at qa
  have qn0 := qa.1
  have ql := hg1.2
  refine ax_iload_n dX12_movesOn_0 rfl rfl (pc' := 1) rfl ?_
  refine ax_sipush dX12_movesOn_1 (by decide) (pc' := 4) rfl ?_
  refine ax_idiv dX12_movesOn_4 (by omega) (by omega) (pc' := 5) rfl ?_
  refine ax_reS (st2 := [.inl (L.length : Int)]) (congrArg (fun z => Sum.inl z :: _) (by exact qn0)) ?_
  refine ax_istore_n dX12_movesOn_5 rfl (by decide) (ls' := [some (.inr 330), some (.inl c), some (.inl step), some (.inl (L.length : Int)), none]) rfl (pc' := 6) rfl ?_
  refine ax_iconst dX12_movesOn_6 (by decide) (pc' := 7) rfl ?_
  refine ax_istore dX12_movesOn_7 (by decide) (ls' := [some (.inr 330), some (.inl c), some (.inl step), some (.inl (L.length : Int)), some (.inl 0)]) rfl (pc' := 9) rfl ?_
  have LP1 : ∀ (kq2 : Nat) (i : Int) (mv1 qv1 : Int → Int) (qn1 : Int) (A : List Int) (R : List Int) (M1 : ax_Mem) (hm1 : (L.length : Int) - i < (kq2 : Nat)) (fr1 : ∀ x0 i0 : Int, ¬ (x0 = 348 ∨ x0 = 349 ∨ (x0 = 330 ∧ i0 = 43) ∨ x0 = 350 ∨ (x0 = 330 ∧ i0 = 44)) → M1 x0 i0 = M x0 i0) (mr1_348 : M1 348 = mv1) (mr1_349 : M1 349 = qv1) (ms1_330_43 : M1 330 43 = qn1) (iv1_0 : i = (A.length : Int) ∧ i + (R.length : Int) = (L.length : Int) ∧ (0 < i → 1 ≤ (R.length : Int))) (iv1_1 : A ++ R = L) (iv1_2 : f_gc step A R (mv1, qv1, qn1) = f_gc step [] L (mv, qv, qn)) (iv1_3 : f_bfI (mv1, qv1, qn1)), ax_W E l (d + 1) 0 0 iX12_movesOn 9 [some (.inr 330), some (.inl c), some (.inl step), some (.inl (L.length : Int)), some (.inl i)] [] SH M1 (ax_P (fun z0 M2 => z0 = none ∧ (∀ x0 i0 : Int, ¬ (x0 = 348 ∨ x0 = 349 ∨ (x0 = 330 ∧ i0 = 43) ∨ x0 = 350 ∨ (x0 = 330 ∧ i0 = 44)) → M2 x0 i0 = M x0 i0) ∧ M2 348 = (f_mo step L (mv, qv, qn)).1 ∧ M2 349 = (f_mo step L (mv, qv, qn)).2.1 ∧ M2 330 43 = (f_mo step L (mv, qv, qn)).2.2)) := by
    intro kq2
    induction kq2 with
    | zero =>
      intro i mv1 qv1 qn1 A R M1 hm1 fr1 mr1_348 mr1_349 ms1_330_43 iv1_0 iv1_1 iv1_2 iv1_3
      exfalso
      omega
    | succ kq2 ih3 =>
      intro i mv1 qv1 qn1 A R M1 hm1 fr1 mr1_348 mr1_349 ms1_330_43 iv1_0 iv1_1 iv1_2 iv1_3
      refine ax_iload dX12_movesOn_9 rfl (pc' := 11) rfl ?_
      refine ax_iconst dX12_movesOn_11 (by decide) (pc' := 12) rfl ?_
      refine ax_iadd dX12_movesOn_12 (by omega) (pc' := 13) rfl ?_
      refine ax_iload_n dX12_movesOn_13 rfl rfl (pc' := 14) rfl ?_
      refine ax_icmp_ge (tgt := 39) dX12_movesOn_14 (by decide) (pc' := 17) rfl (fun h14 => ?_) (fun h14 => ?_)
      · have qe : f_gc step [] L (mv, qv, qn) = (mv1, qv1, qn1) := by
          rw [← iv1_2]
          exact f_gc_1 (by omega)
        refine ax_iconst dX12_movesOn_39 (by decide) (pc' := 40) rfl ?_
        refine ax_istore dX12_movesOn_40 (by decide) (ls' := [some (.inr 330), some (.inl c), some (.inl step), some (.inl (L.length : Int)), some (.inl 0)]) rfl (pc' := 42) rfl ?_
        have LP4 : ∀ (kq5 : Nat) (j : Int) (mv2 qv2 : Int → Int) (qn2 : Int) (A2 : List Int) (R2 : List Int) (M4 : ax_Mem) (hm4 : (L.length : Int) + 1 - j < (kq5 : Nat)) (fr4 : ∀ x0 i0 : Int, ¬ (x0 = 348 ∨ x0 = 349 ∨ (x0 = 330 ∧ i0 = 43) ∨ x0 = 350 ∨ (x0 = 330 ∧ i0 = 44)) → M4 x0 i0 = M1 x0 i0) (mr4_348 : M4 348 = mv2) (mr4_349 : M4 349 = qv2) (ms4_330_43 : M4 330 43 = qn2) (iv4_0 : 0 ≤ j ∧ j ≤ (L.length : Int) + 1) (iv4_1 : (L.length : Int) + 2 ≤ 7 → j ≤ (L.length : Int) → j = (A2.length : Int) ∧ A2 ++ R2 = L ∧ f_cm step A2 R2 (mv2, qv2, qn2) = f_mo step L (mv, qv, qn)) (iv4_2 : (L.length : Int) + 2 ≤ 7 → (L.length : Int) < j → (mv2, qv2, qn2) = f_mo step L (mv, qv, qn)) (iv4_3 : f_bfI (mv2, qv2, qn2)) (iv4_4 : ¬ (L.length : Int) + 2 ≤ 7 → (mv2, qv2, qn2) = f_mo step L (mv, qv, qn)), ax_W E l (d + 1) 0 0 iX12_movesOn 42 [some (.inr 330), some (.inl c), some (.inl step), some (.inl (L.length : Int)), some (.inl j)] [] SH M4 (ax_P (fun z0 M2 => z0 = none ∧ (∀ x0 i0 : Int, ¬ (x0 = 348 ∨ x0 = 349 ∨ (x0 = 330 ∧ i0 = 43) ∨ x0 = 350 ∨ (x0 = 330 ∧ i0 = 44)) → M2 x0 i0 = M x0 i0) ∧ M2 348 = (f_mo step L (mv, qv, qn)).1 ∧ M2 349 = (f_mo step L (mv, qv, qn)).2.1 ∧ M2 330 43 = (f_mo step L (mv, qv, qn)).2.2)) := by
          intro kq5
          induction kq5 with
          | zero =>
            intro j mv2 qv2 qn2 A2 R2 M4 hm4 fr4 mr4_348 mr4_349 ms4_330_43 iv4_0 iv4_1 iv4_2 iv4_3 iv4_4
            exfalso
            omega
          | succ kq5 ih6 =>
            intro j mv2 qv2 qn2 A2 R2 M4 hm4 fr4 mr4_348 mr4_349 ms4_330_43 iv4_0 iv4_1 iv4_2 iv4_3 iv4_4
            refine ax_iload dX12_movesOn_42 rfl (pc' := 44) rfl ?_
            refine ax_iload_n dX12_movesOn_44 rfl rfl (pc' := 45) rfl ?_
            refine ax_icmp_gt (tgt := 92) dX12_movesOn_45 (by decide) (pc' := 48) rfl (fun h45 => ?_) (fun h45 => ?_)
            · have qz : (mv2, qv2, qn2) = f_mo step L (mv, qv, qn) := by
                by_cases h1 : (L.length : Int) + 2 ≤ 7
                · exact iv4_2 h1 (by omega)
                · exact iv4_4 h1
              refine ax_vret dX12_movesOn_92 rfl ?_
              refine ⟨rfl, rfl, ?_, ?_, ?_, ?_⟩
              · intro x0 i0 hai
                exact ((fr4 x0 i0 (by omega)).trans ((fr1 x0 i0 (by omega)).trans rfl))
              · refine Eq.trans mr4_348 ?_
                rw [← qz]
              · refine Eq.trans mr4_349 ?_
                rw [← qz]
              · refine Eq.trans ms4_330_43 ?_
                rw [← qz]
            · refine ax_iload_n dX12_movesOn_48 rfl rfl (pc' := 49) rfl ?_
              refine ax_iconst dX12_movesOn_49 (by decide) (pc' := 50) rfl ?_
              refine ax_iadd dX12_movesOn_50 (by omega) (pc' := 51) rfl ?_
              refine ax_bipush dX12_movesOn_51 (by decide) (pc' := 53) rfl ?_
              refine ax_icmp_gt (tgt := 92) dX12_movesOn_53 (by decide) (pc' := 56) rfl (fun h53 => ?_) (fun h53 => ?_)
              · have qz := iv4_4 (by omega)
                refine ax_vret dX12_movesOn_92 rfl ?_
                refine ⟨rfl, rfl, ?_, ?_, ?_, ?_⟩
                · intro x0 i0 hai
                  exact ((fr4 x0 i0 (by omega)).trans ((fr1 x0 i0 (by omega)).trans rfl))
                · refine Eq.trans mr4_348 ?_
                  rw [← qz]
                · refine Eq.trans mr4_349 ?_
                  rw [← qz]
                · refine Eq.trans ms4_330_43 ?_
                  rw [← qz]
              · obtain ⟨qp1, qp2, qp3⟩ := iv4_1 (by omega) (by omega)
                have qp4 : f_lt3 (A2 ++ R2) := by rw [qp2]; exact hg1.1
                have qp5 : ((A2 ++ R2).length : Int) ≤ 5 := by rw [qp2]; omega
                have qp6 : c = f_code (A2 ++ R2) := by rw [qp2]; exact hg0
                have qw1 := f_vl_in (x := 0) (y := 1) qp4 qp5 (by omega) (by omega)
                have qw2 := f_vl_in (x := 1) (y := 0) qp4 qp5 (by omega) (by omega)
                have qw3 := f_vl_in (x := 2) (y := 2) qp4 qp5 (by omega) (by omega)
                have qi1 := f_bf_rch hg2 iv4_3 qw1
                have qi2 := f_bf_rch hg2 qi1 qw2
                refine ax_aload_n dX12_movesOn_56 rfl rfl (pc' := 57) rfl ?_
                refine ax_iload_n dX12_movesOn_57 rfl rfl (pc' := 58) rfl ?_
                refine ax_iload dX12_movesOn_58 rfl (pc' := 60) rfl ?_
                refine ax_iconst dX12_movesOn_60 (by decide) (pc' := 61) rfl ?_
                refine ax_iconst dX12_movesOn_61 (by decide) (pc' := 62) rfl ?_
                refine ax_iload_n dX12_movesOn_62 rfl rfl (pc' := 63) rfl ?_
                refine ax_invG [.inl c, .inl j, .inl 0, .inl 1, .inl step] [] dX12_movesOn_63 mlX12_512 sh_330 rfl rfl rfl (Nat.le_of_ble_eq_true rfl) (s_X12_comes E l _ (by omega) _ c j 0 1 step A2 R2 rfl mr4_348 mr4_349 ms4_330_43 qp6 qp5 qp4 qp1 (by omega) (f_bf_lt iv4_3 qw1)) (pc' := 66) rfl (fun vv M_63 hq co63 hcm63 => ?_)
                obtain ⟨rfl, frM_63, mrM_63_0, mrM_63_1, msM_63_0⟩ := hq
                refine ax_reS (st2 := []) rfl ?_
                refine ax_aload_n dX12_movesOn_66 rfl rfl (pc' := 67) rfl ?_
                refine ax_iload_n dX12_movesOn_67 rfl rfl (pc' := 68) rfl ?_
                refine ax_iload dX12_movesOn_68 rfl (pc' := 70) rfl ?_
                refine ax_iconst dX12_movesOn_70 (by decide) (pc' := 71) rfl ?_
                refine ax_iconst dX12_movesOn_71 (by decide) (pc' := 72) rfl ?_
                refine ax_iload_n dX12_movesOn_72 rfl rfl (pc' := 73) rfl ?_
                refine ax_invG [.inl c, .inl j, .inl 1, .inl 0, .inl step] [] dX12_movesOn_73 mlX12_512 sh_330 rfl rfl rfl (Nat.le_of_ble_eq_true rfl) (s_X12_comes E l _ (by omega) _ c j 1 0 step A2 R2 rfl mrM_63_0 mrM_63_1 msM_63_0 qp6 qp5 qp4 qp1 (by omega) (f_bf_lt qi1 qw2)) (pc' := 76) rfl (fun vv M_73 hq co73 hcm73 => ?_)
                obtain ⟨rfl, frM_73, mrM_73_0, mrM_73_1, msM_73_0⟩ := hq
                refine ax_reS (st2 := []) rfl ?_
                refine ax_aload_n dX12_movesOn_76 rfl rfl (pc' := 77) rfl ?_
                refine ax_iload_n dX12_movesOn_77 rfl rfl (pc' := 78) rfl ?_
                refine ax_iload dX12_movesOn_78 rfl (pc' := 80) rfl ?_
                refine ax_iconst dX12_movesOn_80 (by decide) (pc' := 81) rfl ?_
                refine ax_iconst dX12_movesOn_81 (by decide) (pc' := 82) rfl ?_
                refine ax_iload_n dX12_movesOn_82 rfl rfl (pc' := 83) rfl ?_
                refine ax_invG [.inl c, .inl j, .inl 2, .inl 2, .inl step] [] dX12_movesOn_83 mlX12_512 sh_330 rfl rfl rfl (Nat.le_of_ble_eq_true rfl) (s_X12_comes E l _ (by omega) _ c j 2 2 step A2 R2 rfl mrM_73_0 mrM_73_1 msM_73_0 qp6 qp5 qp4 qp1 (by omega) (f_bf_lt qi2 qw3)) (pc' := 86) rfl (fun vv M_83 hq co83 hcm83 => ?_)
                obtain ⟨rfl, frM_83, mrM_83_0, mrM_83_1, msM_83_0⟩ := hq
                refine ax_reS (st2 := []) rfl ?_
                refine ax_iinc dX12_movesOn_86 rfl (by decide) (by omega) (ls' := [some (.inr 330), some (.inl c), some (.inl step), some (.inl (L.length : Int)), some (.inl (j + 1))]) rfl (pc' := 89) rfl ?_
                refine ax_goto dX12_movesOn_89 (pc' := 42) (by decide) ?_
                refine ih6 (j + 1) ((f_rch (f_code (A2 ++ 2 :: 2 :: R2)) step (((f_rch (f_code (A2 ++ 1 :: 0 :: R2)) step (((f_rch (f_code (A2 ++ 0 :: 1 :: R2)) step (mv2, qv2, qn2)).1), ((f_rch (f_code (A2 ++ 0 :: 1 :: R2)) step (mv2, qv2, qn2)).2.1), ((f_rch (f_code (A2 ++ 0 :: 1 :: R2)) step (mv2, qv2, qn2)).2.2))).1), ((f_rch (f_code (A2 ++ 1 :: 0 :: R2)) step (((f_rch (f_code (A2 ++ 0 :: 1 :: R2)) step (mv2, qv2, qn2)).1), ((f_rch (f_code (A2 ++ 0 :: 1 :: R2)) step (mv2, qv2, qn2)).2.1), ((f_rch (f_code (A2 ++ 0 :: 1 :: R2)) step (mv2, qv2, qn2)).2.2))).2.1), ((f_rch (f_code (A2 ++ 1 :: 0 :: R2)) step (((f_rch (f_code (A2 ++ 0 :: 1 :: R2)) step (mv2, qv2, qn2)).1), ((f_rch (f_code (A2 ++ 0 :: 1 :: R2)) step (mv2, qv2, qn2)).2.1), ((f_rch (f_code (A2 ++ 0 :: 1 :: R2)) step (mv2, qv2, qn2)).2.2))).2.2))).1) ((f_rch (f_code (A2 ++ 2 :: 2 :: R2)) step (((f_rch (f_code (A2 ++ 1 :: 0 :: R2)) step (((f_rch (f_code (A2 ++ 0 :: 1 :: R2)) step (mv2, qv2, qn2)).1), ((f_rch (f_code (A2 ++ 0 :: 1 :: R2)) step (mv2, qv2, qn2)).2.1), ((f_rch (f_code (A2 ++ 0 :: 1 :: R2)) step (mv2, qv2, qn2)).2.2))).1), ((f_rch (f_code (A2 ++ 1 :: 0 :: R2)) step (((f_rch (f_code (A2 ++ 0 :: 1 :: R2)) step (mv2, qv2, qn2)).1), ((f_rch (f_code (A2 ++ 0 :: 1 :: R2)) step (mv2, qv2, qn2)).2.1), ((f_rch (f_code (A2 ++ 0 :: 1 :: R2)) step (mv2, qv2, qn2)).2.2))).2.1), ((f_rch (f_code (A2 ++ 1 :: 0 :: R2)) step (((f_rch (f_code (A2 ++ 0 :: 1 :: R2)) step (mv2, qv2, qn2)).1), ((f_rch (f_code (A2 ++ 0 :: 1 :: R2)) step (mv2, qv2, qn2)).2.1), ((f_rch (f_code (A2 ++ 0 :: 1 :: R2)) step (mv2, qv2, qn2)).2.2))).2.2))).2.1) ((f_rch (f_code (A2 ++ 2 :: 2 :: R2)) step (((f_rch (f_code (A2 ++ 1 :: 0 :: R2)) step (((f_rch (f_code (A2 ++ 0 :: 1 :: R2)) step (mv2, qv2, qn2)).1), ((f_rch (f_code (A2 ++ 0 :: 1 :: R2)) step (mv2, qv2, qn2)).2.1), ((f_rch (f_code (A2 ++ 0 :: 1 :: R2)) step (mv2, qv2, qn2)).2.2))).1), ((f_rch (f_code (A2 ++ 1 :: 0 :: R2)) step (((f_rch (f_code (A2 ++ 0 :: 1 :: R2)) step (mv2, qv2, qn2)).1), ((f_rch (f_code (A2 ++ 0 :: 1 :: R2)) step (mv2, qv2, qn2)).2.1), ((f_rch (f_code (A2 ++ 0 :: 1 :: R2)) step (mv2, qv2, qn2)).2.2))).2.1), ((f_rch (f_code (A2 ++ 1 :: 0 :: R2)) step (((f_rch (f_code (A2 ++ 0 :: 1 :: R2)) step (mv2, qv2, qn2)).1), ((f_rch (f_code (A2 ++ 0 :: 1 :: R2)) step (mv2, qv2, qn2)).2.1), ((f_rch (f_code (A2 ++ 0 :: 1 :: R2)) step (mv2, qv2, qn2)).2.2))).2.2))).2.2) (A2 ++ R2.take 1) R2.tail M_83 ?_ ?_ ?_ ?_ ?_ ?_ ?_ ?_ ?_ ?_
                · omega
                · intro x0 i0 hai
                  exact ((frM_83 x0 i0 (by omega)).trans ((frM_73 x0 i0 (by omega)).trans ((frM_63 x0 i0 (by omega)).trans ((fr4 x0 i0 (by omega)).trans rfl))))
                · exact mrM_83_0
                · exact mrM_83_1
                · exact msM_83_0
                · omega
                · intro h1 h2
                  cases R2 with
                  | nil =>
                    rw [List.append_nil] at qp2
                    rw [qp2] at qp1
                    omega
                  | cons z7 T7 =>
                    refine ⟨?_, ?_, ?_⟩
                    · show j + 1 = ((A2 ++ [z7]).length : Int)
                      rw [List.length_append, List.length_singleton]
                      omega
                    · show (A2 ++ [z7]) ++ T7 = L
                      rw [← qp2, List.append_assoc]
                      rfl
                    · exact qp3
                · intro h1 h2
                  cases R2 with
                  | nil => exact qp3
                  | cons z7 T7 =>
                    have e : A2.length + (T7.length + 1) = L.length := by
                      rw [← qp2, List.length_append]
                      rfl
                    omega
                · exact f_bf_cm3 hg2 iv4_3 qp4 qp5
                · intro h1
                  omega
        refine LP4 ((L.length : Int) + 1 - 0 : Int).toNat.succ 0 mv1 qv1 qn1 ([]) L M1 ?_ ?_ ?_ ?_ ?_ ?_ ?_ ?_ ?_ ?_
        · omega
        · exact fun a i _ => rfl
        · exact mr1_348
        · exact mr1_349
        · exact ms1_330_43
        · omega
        · intro h1 h2
          refine ⟨rfl, rfl, ?_⟩
          unfold f_mo
          rw [if_pos h1, qe]
        · intro h1 h2
          omega
        · exact iv1_3
        · intro h1
          unfold f_mo
          rw [if_neg h1, qe]
      · obtain ⟨x7, y7, B7, qd⟩ : ∃ x0 y0 z0, R = x0 :: y0 :: z0 := by
          match R, iv1_0 with
          | [], e => simp only [List.length_nil] at e; omega
          | [_], e => simp only [List.length_cons, List.length_nil] at e; omega
          | x0 :: y0 :: z0, _ => exact ⟨x0, y0, z0, rfl⟩
        have qd2 : R.length = B7.length + 1 + 1 := by rw [qd]; rfl
        have qd3 : A ++ x7 :: y7 :: B7 = L := by rw [← qd]; exact iv1_1
        have qv2 : f_vl (A ++ x7 :: y7 :: B7) := by rw [qd3]; exact hg1
        have qv3 := f_vl_AB qv2
        have qg := f_bf_goe hg2 iv1_3 qv2
        refine ax_aload_n dX12_movesOn_17 rfl rfl (pc' := 18) rfl ?_
        refine ax_iload_n dX12_movesOn_18 rfl rfl (pc' := 19) rfl ?_
        refine ax_iload dX12_movesOn_19 rfl (pc' := 21) rfl ?_
        refine ax_iload_n dX12_movesOn_21 rfl rfl (pc' := 22) rfl ?_
        refine ax_invG [.inl c, .inl i, .inl step] [] dX12_movesOn_22 mlX12_506 sh_330 rfl rfl rfl (Nat.le_of_ble_eq_true rfl) (s_X12_goes E l _ (by omega) _ c i step A x7 y7 B7 rfl mr1_348 mr1_349 ms1_330_43 (by rw [qd3]; exact hg0) qv2.2 qv2.1 (by omega) (f_bf_lt iv1_3 qv3.1)) (pc' := 25) rfl (fun vv M_22 hq co22 hcm22 => ?_)
        obtain ⟨rfl, frM_22, mrM_22_0, mrM_22_1, msM_22_0⟩ := hq
        refine ax_reS (st2 := []) rfl ?_
        refine ax_aload_n dX12_movesOn_25 rfl rfl (pc' := 26) rfl ?_
        refine ax_iload_n dX12_movesOn_26 rfl rfl (pc' := 27) rfl ?_
        refine ax_iload dX12_movesOn_27 rfl (pc' := 29) rfl ?_
        refine ax_iload_n dX12_movesOn_29 rfl rfl (pc' := 30) rfl ?_
        refine ax_invG [.inl c, .inl i, .inl step] [] dX12_movesOn_30 mlX12_509 sh_330 rfl rfl rfl (Nat.le_of_ble_eq_true rfl) (s_X12_changes E l _ (by omega) _ c i step A x7 y7 B7 rfl mrM_22_0 mrM_22_1 msM_22_0 (by rw [qd3]; exact hg0) qv2.2 qv2.1 (by omega) (f_bf_lt qg qv3.2)) (pc' := 33) rfl (fun vv M_30 hq co30 hcm30 => ?_)
        obtain ⟨rfl, frM_30, mrM_30_0, mrM_30_1, msM_30_0⟩ := hq
        refine ax_reS (st2 := []) rfl ?_
        refine ax_iinc dX12_movesOn_33 rfl (by decide) (by omega) (ls' := [some (.inr 330), some (.inl c), some (.inl step), some (.inl (L.length : Int)), some (.inl (i + 1))]) rfl (pc' := 36) rfl ?_
        refine ax_goto dX12_movesOn_36 (pc' := 9) (by decide) ?_
        refine ih3 (i + 1) ((f_chg step A x7 y7 B7 (((f_goe step A x7 y7 B7 (mv1, qv1, qn1)).1), ((f_goe step A x7 y7 B7 (mv1, qv1, qn1)).2.1), ((f_goe step A x7 y7 B7 (mv1, qv1, qn1)).2.2))).1) ((f_chg step A x7 y7 B7 (((f_goe step A x7 y7 B7 (mv1, qv1, qn1)).1), ((f_goe step A x7 y7 B7 (mv1, qv1, qn1)).2.1), ((f_goe step A x7 y7 B7 (mv1, qv1, qn1)).2.2))).2.1) ((f_chg step A x7 y7 B7 (((f_goe step A x7 y7 B7 (mv1, qv1, qn1)).1), ((f_goe step A x7 y7 B7 (mv1, qv1, qn1)).2.1), ((f_goe step A x7 y7 B7 (mv1, qv1, qn1)).2.2))).2.2) (A ++ [x7]) (y7 :: B7) M_30 ?_ ?_ ?_ ?_ ?_ ?_ ?_ ?_ ?_
        · omega
        · intro x0 i0 hai
          exact ((frM_30 x0 i0 (by omega)).trans ((frM_22 x0 i0 (by omega)).trans ((fr1 x0 i0 (by omega)).trans rfl)))
        · exact mrM_30_0
        · exact mrM_30_1
        · exact msM_30_0
        · simp only [List.length_append, List.length_cons, List.length_nil]
          omega
        · rw [← iv1_1, qd, List.append_assoc]
          rfl
        · rw [← iv1_2, qd, f_gc_2]
        · exact f_bf_chg hg2 qg qv2
  refine LP1 ((L.length : Int) - 0 : Int).toNat.succ 0 mv qv qn ([]) L M ?_ ?_ ?_ ?_ ?_ ?_ ?_ ?_ ?_
  · omega
  · exact fun a i _ => rfl
  · exact hmv
  · exact hqv
  · exact hqn
  · simp only [List.length_nil]
    omega
  · rfl
  · rfl
  · exact hg3
