/-! the class: how its cells hold what w holds -/
def f_rp (a : Int) : Prop := ax_sh SH a = some (7, 8, [none, none, none, none, none, some (a + 1), some (a + 2), some (a + 3)]) ∧ ax_sh SH (a + 1) = some (13, 24, []) ∧ ax_sh SH (a + 2) = some (13, 144, []) ∧ ax_sh SH (a + 3) = some (13, 144, [])
def f_rr (ln ow bo we : Int) (ti ha si w : Int → Int) (r : Int) : Prop := ln = f_R w r 1 ∧ ow = f_R w r 2 ∧ bo = f_R w r 3 ∧ we = f_R w r 4 ∧ ∀ p, 0 ≤ p → p < ln → ti p = f_P w r p 0 ∧ ∀ k, 0 ≤ k → k < 6 → ha (p * 6 + k) = f_P w r p (1 + k) ∧ (f_P w r p (1 + k) ≠ 0 → si (p * 6 + k) = f_P w r p (7 + k))
abbrev f_rm (M : ax_Mem) (a : Int) (w : Int → Int) (r : Int) : Prop := f_rr (M a 1) (M a 2) (M a 3) (M a 4) (M (a + 1)) (M (a + 2)) (M (a + 3)) w r
theorem f_rm_tr {M N : ax_Mem} {a : Int} {w : Int → Int} {r : Int} (h0 : N a = M a) (h1 : N (a + 1) = M (a + 1)) (h2 : N (a + 2) = M (a + 2)) (h3 : N (a + 3) = M (a + 3)) (h : f_rm M a w r) : f_rm N a w r := by
  unfold f_rm
  rw [h0, h1, h2, h3]
  exact h
theorem f_rm_fr {M N : ax_Mem} {a : Int} {w : Int → Int} {r : Int} (h0 : ∀ x i, a ≤ x ∧ x < a + 4 → N x i = M x i) (h : f_rm M a w r) : f_rm N a w r := f_rm_tr (funext fun i => h0 a i (by omega)) (funext fun i => h0 (a + 1) i (by omega)) (funext fun i => h0 (a + 2) i (by omega)) (funext fun i => h0 (a + 3) i (by omega)) h
/-- the rope's own part of w -/
theorem f_rm_w {M : ax_Mem} {a : Int} {w v : Int → Int} {r : Int} (h0 : ∀ i, 4 + 320 * r ≤ i → i < 324 + 320 * r → v i = w i) (hl : f_R w r 1 ≤ 24) (h : f_rm M a w r) : f_rm M a v r := by
  have e : ∀ f, 0 ≤ f → f < 8 → f_R v r f = f_R w r f := fun f h1 h2 => h0 _ (by omega) (by omega)
  obtain ⟨h1, h2, h3, h4, h5⟩ := h
  refine ⟨h1.trans (e 1 (by decide) (by decide)).symm, h2.trans (e 2 (by decide) (by decide)).symm, h3.trans (e 3 (by decide) (by decide)).symm, h4.trans (e 4 (by decide) (by decide)).symm, fun p p1 p2 => ?_⟩
  have h6 := h5 p p1 p2
  have e2 : ∀ f, 0 ≤ f → f < 13 → f_P v r p f = f_P w r p f := fun f f1 f2 => h0 _ (by omega) (by omega)
  refine ⟨h6.1.trans (e2 0 (by decide) (by decide)).symm, fun k k1 k2 => ?_⟩
  rw [e2 (1 + k) (by omega) (by omega), e2 (7 + k) (by omega) (by omega)]
  exact h6.2 k k1 k2
theorem f_rg_h {w : Int → Int} {r p k : Int} (h : f_iv w) (hr : 0 ≤ r ∧ r < 8) (hp : 0 ≤ p ∧ p < 24) (hk : 0 ≤ k ∧ k < 6) : (0 ≤ f_P w r p (1 + k) ∧ f_P w r p (1 + k) ≤ 99) ∧ 0 ≤ f_P w r p (7 + k) ∧ f_P w r p (7 + k) ≤ 9999 := ⟨(h.2.1 r p (1 + k) hr.1 hr.2 hp.1 hp.2 (by omega) (by omega)).2.1 (by omega) (by omega), (h.2.1 r p (7 + k) hr.1 hr.2 hp.1 hp.2 (by omega) (by omega)).2.2 (by omega)⟩
theorem f_rg_t {w : Int → Int} {r p : Int} (h : f_iv w) (hr : 0 ≤ r ∧ r < 8) (hp : 0 ≤ p ∧ p < 24) : -1 ≤ f_P w r p 0 ∧ f_P w r p 0 ≤ 5 := (h.2.1 r p 0 hr.1 hr.2 hp.1 hp.2 (by omega) (by omega)).1 rfl
set_option maxRecDepth 20000 in
theorem s_X7_isUntied (E : ax_Env) (l : Launch) (d : Nat) (hd : 0 ≤ d) (M : ax_Mem) (a p : Int) (w : Int → Int) (r : Int) (hg0 : f_rp a) (hg1 : f_rm M a w r) (hg2 : f_iv w) (hg3 : 0 ≤ r ∧ r < 8) : ax_G E l d iX7_isUntied [.inr a, .inl p] M (fun z0 M2 => z0 = some (.inl (f_b (0 ≤ p ∧ p < f_R w r 1 ∧ f_P w r p 0 = -1))) ∧ M = M2) := by
  refine ax_start rfl (Nat.le_of_ble_eq_true rfl) (ls := [some (.inr a), some (.inl p)]) rfl (fun hav hcm => ?_)
  have hc1 : -2147483648 ≤ p ∧ p < 2147483648 := hav (.inl p) (by simp)
  clear hav
  have ql : M a 1 = f_R w r 1 := hg1.1
  have qlr := (hg2.1 r hg3.1 hg3.2).2
  have qp := hg1.2.2.2.2
  refine ax_iload_n dX7_isUntied_0 rfl rfl (pc' := 1) rfl ?_
  refine ax_if_lt (tgt := 26) dX7_isUntied_1 (by decide) (pc' := 4) rfl (fun h1 => ?_) (fun h1 => ?_)
  · refine ax_iconst dX7_isUntied_26 (by decide) (pc' := 27) rfl ?_
    refine ax_zret dX7_isUntied_27 rfl (by decide) ?_
    refine ⟨rfl, ?_, ?_⟩
    · refine congrArg (fun z => some (Sum.inl z)) ?_
      unfold f_b; split <;> omega
    · rfl
  · refine ax_iload_n dX7_isUntied_4 rfl rfl (pc' := 5) rfl ?_
    refine ax_aload_n dX7_isUntied_5 rfl rfl (pc' := 6) rfl ?_
    refine ax_geti (v := M a 1) dX7_isUntied_6 flX7_25 rfl hg0.1 rfl rfl (pc' := 9) rfl ?_
    refine ax_icmp_ge (tgt := 26) dX7_isUntied_9 (by decide) (pc' := 12) rfl (fun h9 => ?_) (fun h9 => ?_)
    · refine ax_iconst dX7_isUntied_26 (by decide) (pc' := 27) rfl ?_
      refine ax_zret dX7_isUntied_27 rfl (by decide) ?_
      refine ⟨rfl, ?_, ?_⟩
      · refine congrArg (fun z => some (Sum.inl z)) ?_
        unfold f_b; split <;> omega
      · rfl
    · have qt := (qp p (by omega) (by omega)).1
      refine ax_aload_n dX7_isUntied_12 rfl rfl (pc' := 13) rfl ?_
      refine ax_getr (v := a + 1) dX7_isUntied_13 flX7_9 rfl hg0.1 rfl (pc' := 16) rfl ?_
      refine ax_iload_n dX7_isUntied_16 rfl rfl (pc' := 17) rfl ?_
      refine ax_iald (v := (M (a + 1)) p) dX7_isUntied_17 hg0.2.1 rfl (by omega) (by omega) ((congrFun rfl p).trans rfl) (pc' := 18) rfl ?_
      refine ax_iconst dX7_isUntied_18 (by decide) (pc' := 19) rfl ?_
      refine ax_icmp_ne (tgt := 26) dX7_isUntied_19 (by decide) (pc' := 22) rfl (fun h19 => ?_) (fun h19 => ?_)
      · refine ax_iconst dX7_isUntied_26 (by decide) (pc' := 27) rfl ?_
        refine ax_zret dX7_isUntied_27 rfl (by decide) ?_
        refine ⟨rfl, ?_, ?_⟩
        · refine congrArg (fun z => some (Sum.inl z)) ?_
          unfold f_b; split <;> omega
        · rfl
      · refine ax_iconst dX7_isUntied_22 (by decide) (pc' := 23) rfl ?_
        refine ax_goto dX7_isUntied_23 (pc' := 27) (by decide) ?_
        refine ax_zret dX7_isUntied_27 rfl (by decide) ?_
        refine ⟨rfl, ?_, ?_⟩
        · refine congrArg (fun z => some (Sum.inl z)) ?_
          unfold f_b; split <;> omega
        · rfl
set_option maxRecDepth 20000 in
theorem s_X7_isTied (E : ax_Env) (l : Launch) (d : Nat) (hd : 0 ≤ d) (M : ax_Mem) (a p : Int) (w : Int → Int) (r : Int) (hg0 : f_rp a) (hg1 : f_rm M a w r) (hg2 : f_iv w) (hg3 : 0 ≤ r ∧ r < 8) : ax_G E l d iX7_isTied [.inr a, .inl p] M (fun z0 M2 => z0 = some (.inl (f_b (0 ≤ p ∧ p < f_R w r 1 ∧ f_P w r p 0 ≠ -1))) ∧ M = M2) := by
  refine ax_start rfl (Nat.le_of_ble_eq_true rfl) (ls := [some (.inr a), some (.inl p)]) rfl (fun hav hcm => ?_)
  have hc1 : -2147483648 ≤ p ∧ p < 2147483648 := hav (.inl p) (by simp)
  clear hav
  have ql : M a 1 = f_R w r 1 := hg1.1
  have qlr := (hg2.1 r hg3.1 hg3.2).2
  have qp := hg1.2.2.2.2
  refine ax_iload_n dX7_isTied_0 rfl rfl (pc' := 1) rfl ?_
  refine ax_if_lt (tgt := 26) dX7_isTied_1 (by decide) (pc' := 4) rfl (fun h1 => ?_) (fun h1 => ?_)
  · refine ax_iconst dX7_isTied_26 (by decide) (pc' := 27) rfl ?_
    refine ax_zret dX7_isTied_27 rfl (by decide) ?_
    refine ⟨rfl, ?_, ?_⟩
    · refine congrArg (fun z => some (Sum.inl z)) ?_
      unfold f_b; split <;> omega
    · rfl
  · refine ax_iload_n dX7_isTied_4 rfl rfl (pc' := 5) rfl ?_
    refine ax_aload_n dX7_isTied_5 rfl rfl (pc' := 6) rfl ?_
    refine ax_geti (v := M a 1) dX7_isTied_6 flX7_25 rfl hg0.1 rfl rfl (pc' := 9) rfl ?_
    refine ax_icmp_ge (tgt := 26) dX7_isTied_9 (by decide) (pc' := 12) rfl (fun h9 => ?_) (fun h9 => ?_)
    · refine ax_iconst dX7_isTied_26 (by decide) (pc' := 27) rfl ?_
      refine ax_zret dX7_isTied_27 rfl (by decide) ?_
      refine ⟨rfl, ?_, ?_⟩
      · refine congrArg (fun z => some (Sum.inl z)) ?_
        unfold f_b; split <;> omega
      · rfl
    · have qt := (qp p (by omega) (by omega)).1
      refine ax_aload_n dX7_isTied_12 rfl rfl (pc' := 13) rfl ?_
      refine ax_getr (v := a + 1) dX7_isTied_13 flX7_9 rfl hg0.1 rfl (pc' := 16) rfl ?_
      refine ax_iload_n dX7_isTied_16 rfl rfl (pc' := 17) rfl ?_
      refine ax_iald (v := (M (a + 1)) p) dX7_isTied_17 hg0.2.1 rfl (by omega) (by omega) ((congrFun rfl p).trans rfl) (pc' := 18) rfl ?_
      refine ax_iconst dX7_isTied_18 (by decide) (pc' := 19) rfl ?_
      refine ax_icmp_eq (tgt := 26) dX7_isTied_19 (by decide) (pc' := 22) rfl (fun h19 => ?_) (fun h19 => ?_)
      · refine ax_iconst dX7_isTied_26 (by decide) (pc' := 27) rfl ?_
        refine ax_zret dX7_isTied_27 rfl (by decide) ?_
        refine ⟨rfl, ?_, ?_⟩
        · refine congrArg (fun z => some (Sum.inl z)) ?_
          unfold f_b; split <;> omega
        · rfl
      · refine ax_iconst dX7_isTied_22 (by decide) (pc' := 23) rfl ?_
        refine ax_goto dX7_isTied_23 (pc' := 27) (by decide) ?_
        refine ax_zret dX7_isTied_27 rfl (by decide) ?_
        refine ⟨rfl, ?_, ?_⟩
        · refine congrArg (fun z => some (Sum.inl z)) ?_
          unfold f_b; split <;> omega
        · rfl
set_option maxRecDepth 20000 in
theorem s_X7_tiesBeside (E : ax_Env) (l : Launch) (d : Nat) (hd : 1 ≤ d) (M : ax_Mem) (a p : Int) (w : Int → Int) (r : Int) (hg0 : f_rp a) (hg1 : f_rm M a w r) (hg2 : f_iv w) (hg3 : 0 ≤ r ∧ r < 8) (hg4 : 0 ≤ p ∧ p < f_R w r 1) : ax_G E l d iX7_tiesBeside [.inr a, .inl p] M (fun z0 M2 => z0 = some (.inl (f_besd w r p)) ∧ M = M2) := by
  obtain ⟨d, rfl⟩ : ∃ d0, d = d0 + 1 := ⟨d - 1, by omega⟩
  refine ax_start rfl (Nat.le_of_ble_eq_true rfl) (ls := [some (.inr a), some (.inl p)]) rfl (fun hav hcm => ?_)
  have hc1 : -2147483648 ≤ p ∧ p < 2147483648 := hav (.inl p) (by simp)
  clear hav
  have ql : M a 1 = f_R w r 1 := hg1.1
  have qlr := (hg2.1 r hg3.1 hg3.2).2
  have qp := hg1.2.2.2.2
  refine ax_aload_n dX7_tiesBeside_0 rfl rfl (pc' := 1) rfl ?_
  refine ax_iload_n dX7_tiesBeside_1 rfl rfl (pc' := 2) rfl ?_
  refine ax_iconst dX7_tiesBeside_2 (by decide) (pc' := 3) rfl ?_
  refine ax_isub dX7_tiesBeside_3 (by omega) (pc' := 4) rfl ?_
  refine ax_invG [.inl (p - 1)] [] dX7_tiesBeside_4 mlX7_50 hg0.1 rfl rfl rfl (Nat.le_of_ble_eq_true rfl) (s_X7_isTied E l _ (by omega) _ a (p - 1) w r (by first | omega | assumption) (by first | omega | assumption) (by first | omega | assumption) (by first | omega | assumption)) (pc' := 7) rfl (fun vv M_4 hq co4 hcm4 => ?_)
  obtain ⟨rfl, rfl⟩ := hq
  refine ax_reS (st2 := [.inl (f_b (0 ≤ (p - 1) ∧ (p - 1) < f_R w r 1 ∧ f_P w r (p - 1) 0 ≠ -1))]) rfl ?_
  refine ax_if_eq (tgt := 14) dX7_tiesBeside_7 (by decide) (pc' := 10) rfl (fun h7 => ?_) (fun h7 => ?_)
  · replace h7 := f_b_0 h7
    refine ax_iconst dX7_tiesBeside_14 (by decide) (pc' := 15) rfl ?_
    refine ax_aload_n dX7_tiesBeside_15 rfl rfl (pc' := 16) rfl ?_
    refine ax_iload_n dX7_tiesBeside_16 rfl rfl (pc' := 17) rfl ?_
    refine ax_iconst dX7_tiesBeside_17 (by decide) (pc' := 18) rfl ?_
    refine ax_iadd dX7_tiesBeside_18 (by omega) (pc' := 19) rfl ?_
    refine ax_invG [.inl (p + 1)] [.inl 0] dX7_tiesBeside_19 mlX7_50 hg0.1 rfl rfl rfl (Nat.le_of_ble_eq_true rfl) (s_X7_isTied E l _ (by omega) _ a (p + 1) w r (by first | omega | assumption) (by first | omega | assumption) (by first | omega | assumption) (by first | omega | assumption)) (pc' := 22) rfl (fun vv M_19 hq co19 hcm19 => ?_)
    obtain ⟨rfl, rfl⟩ := hq
    refine ax_reS (st2 := [.inl (f_b (0 ≤ (p + 1) ∧ (p + 1) < f_R w r 1 ∧ f_P w r (p + 1) 0 ≠ -1)), .inl 0]) rfl ?_
    refine ax_if_eq (tgt := 29) dX7_tiesBeside_22 (by decide) (pc' := 25) rfl (fun h22 => ?_) (fun h22 => ?_)
    · replace h22 := f_b_0 h22
      refine ax_iconst dX7_tiesBeside_29 (by decide) (pc' := 30) rfl ?_
      refine ax_iadd dX7_tiesBeside_30 (by omega) (pc' := 31) rfl ?_
      refine ax_iret dX7_tiesBeside_31 rfl ?_
      refine ⟨rfl, ?_, ?_⟩
      · refine congrArg (fun z => some (Sum.inl z)) ?_
        unfold f_besd f_b
        repeat' split
        all_goals first | rfl | (exfalso; omega)
      · rfl
    · replace h22 := f_b_1 h22
      refine ax_iconst dX7_tiesBeside_25 (by decide) (pc' := 26) rfl ?_
      refine ax_goto dX7_tiesBeside_26 (pc' := 30) (by decide) ?_
      refine ax_iadd dX7_tiesBeside_30 (by omega) (pc' := 31) rfl ?_
      refine ax_iret dX7_tiesBeside_31 rfl ?_
      refine ⟨rfl, ?_, ?_⟩
      · refine congrArg (fun z => some (Sum.inl z)) ?_
        unfold f_besd f_b
        repeat' split
        all_goals first | rfl | (exfalso; omega)
      · rfl
  · replace h7 := f_b_1 h7
    refine ax_iconst dX7_tiesBeside_10 (by decide) (pc' := 11) rfl ?_
    refine ax_goto dX7_tiesBeside_11 (pc' := 15) (by decide) ?_
    refine ax_aload_n dX7_tiesBeside_15 rfl rfl (pc' := 16) rfl ?_
    refine ax_iload_n dX7_tiesBeside_16 rfl rfl (pc' := 17) rfl ?_
    refine ax_iconst dX7_tiesBeside_17 (by decide) (pc' := 18) rfl ?_
    refine ax_iadd dX7_tiesBeside_18 (by omega) (pc' := 19) rfl ?_
    refine ax_invG [.inl (p + 1)] [.inl 1] dX7_tiesBeside_19 mlX7_50 hg0.1 rfl rfl rfl (Nat.le_of_ble_eq_true rfl) (s_X7_isTied E l _ (by omega) _ a (p + 1) w r (by first | omega | assumption) (by first | omega | assumption) (by first | omega | assumption) (by first | omega | assumption)) (pc' := 22) rfl (fun vv M_19 hq co19 hcm19 => ?_)
    obtain ⟨rfl, rfl⟩ := hq
    refine ax_reS (st2 := [.inl (f_b (0 ≤ (p + 1) ∧ (p + 1) < f_R w r 1 ∧ f_P w r (p + 1) 0 ≠ -1)), .inl 1]) rfl ?_
    refine ax_if_eq (tgt := 29) dX7_tiesBeside_22 (by decide) (pc' := 25) rfl (fun h22 => ?_) (fun h22 => ?_)
    · replace h22 := f_b_0 h22
      refine ax_iconst dX7_tiesBeside_29 (by decide) (pc' := 30) rfl ?_
      refine ax_iadd dX7_tiesBeside_30 (by omega) (pc' := 31) rfl ?_
      refine ax_iret dX7_tiesBeside_31 rfl ?_
      refine ⟨rfl, ?_, ?_⟩
      · refine congrArg (fun z => some (Sum.inl z)) ?_
        unfold f_besd f_b
        repeat' split
        all_goals first | rfl | (exfalso; omega)
      · rfl
    · replace h22 := f_b_1 h22
      refine ax_iconst dX7_tiesBeside_25 (by decide) (pc' := 26) rfl ?_
      refine ax_goto dX7_tiesBeside_26 (pc' := 30) (by decide) ?_
      refine ax_iadd dX7_tiesBeside_30 (by omega) (pc' := 31) rfl ?_
      refine ax_iret dX7_tiesBeside_31 rfl ?_
      refine ⟨rfl, ?_, ?_⟩
      · refine congrArg (fun z => some (Sum.inl z)) ?_
        unfold f_besd f_b
        repeat' split
        all_goals first | rfl | (exfalso; omega)
      · rfl
set_option maxRecDepth 20000 in
theorem s_X7_tiesInAll (E : ax_Env) (l : Launch) (d : Nat) (hd : 0 ≤ d) (M : ax_Mem) (a : Int) (w : Int → Int) (r : Int) (hg0 : f_rp a) (hg1 : f_rm M a w r) (hg2 : f_iv w) (hg3 : 0 ≤ r ∧ r < 8) : ax_G E l d iX7_tiesInAll [.inr a] M (fun z0 M2 => z0 = some (.inl (f_tied w r)) ∧ M = M2) := by
  refine ax_start rfl (Nat.le_of_ble_eq_true rfl) (ls := [some (.inr a), none, none]) rfl (fun hav hcm => ?_)
  clear hav
  have ql : M a 1 = f_R w r 1 := hg1.1
  have qlr := (hg2.1 r hg3.1 hg3.2).2
  have qp := hg1.2.2.2.2
  refine ax_iconst dX7_tiesInAll_0 (by decide) (pc' := 1) rfl ?_
  refine ax_istore_n dX7_tiesInAll_1 rfl (by decide) (ls' := [some (.inr a), some (.inl 0), none]) rfl (pc' := 2) rfl ?_
  refine ax_iconst dX7_tiesInAll_2 (by decide) (pc' := 3) rfl ?_
  refine ax_istore_n dX7_tiesInAll_3 rfl (by decide) (ls' := [some (.inr a), some (.inl 0), some (.inl 0)]) rfl (pc' := 4) rfl ?_
  have LP1 : ∀ (kq2 : Nat) (p n : Int) (hm1 : M a 1 - p < (kq2 : Nat)) (iv1_0 : 0 ≤ p ∧ p ≤ M a 1) (iv1_1 : f_loop (fun p n => n + f_b (f_P w r p 0 ≠ -1)) p (f_R w r 1) n = f_tied w r) (iv1_2 : 0 ≤ n ∧ n ≤ p), ax_W E l d 0 0 iX7_tiesInAll 4 [some (.inr a), some (.inl n), some (.inl p)] [] SH M (ax_P (fun z0 M2 => z0 = some (.inl (f_tied w r)) ∧ M = M2)) := by
    intro kq2
    induction kq2 with
    | zero =>
      intro p n hm1 iv1_0 iv1_1 iv1_2
      exfalso
      omega
    | succ kq2 ih3 =>
      intro p n hm1 iv1_0 iv1_1 iv1_2
      refine ax_iload_n dX7_tiesInAll_4 rfl rfl (pc' := 5) rfl ?_
      refine ax_aload_n dX7_tiesInAll_5 rfl rfl (pc' := 6) rfl ?_
      refine ax_geti (v := M a 1) dX7_tiesInAll_6 flX7_25 rfl hg0.1 rfl rfl (pc' := 9) rfl ?_
      refine ax_icmp_ge (tgt := 36) dX7_tiesInAll_9 (by decide) (pc' := 12) rfl (fun h9 => ?_) (fun h9 => ?_)
      · refine ax_iload_n dX7_tiesInAll_36 rfl rfl (pc' := 37) rfl ?_
        refine ax_iret dX7_tiesInAll_37 rfl ?_
        refine ⟨rfl, ?_, ?_⟩
        · refine congrArg (fun z => some (Sum.inl z)) ?_
          exact (f_loop_done (by omega)).symm.trans iv1_1
        · rfl
      · have qt := (qp p (by omega) (by omega)).1
        refine ax_iload_n dX7_tiesInAll_12 rfl rfl (pc' := 13) rfl ?_
        refine ax_aload_n dX7_tiesInAll_13 rfl rfl (pc' := 14) rfl ?_
        refine ax_getr (v := a + 1) dX7_tiesInAll_14 flX7_9 rfl hg0.1 rfl (pc' := 17) rfl ?_
        refine ax_iload_n dX7_tiesInAll_17 rfl rfl (pc' := 18) rfl ?_
        refine ax_iald (v := (M (a + 1)) p) dX7_tiesInAll_18 hg0.2.1 rfl (by omega) (by omega) ((congrFun rfl p).trans rfl) (pc' := 19) rfl ?_
        refine ax_iconst dX7_tiesInAll_19 (by decide) (pc' := 20) rfl ?_
        refine ax_icmp_eq (tgt := 27) dX7_tiesInAll_20 (by decide) (pc' := 23) rfl (fun h20 => ?_) (fun h20 => ?_)
        · have qn : n + f_b (f_P w r p 0 ≠ -1) = n + 0 := by
            unfold f_b
            rw [if_neg (by omega)]
          refine ax_iconst dX7_tiesInAll_27 (by decide) (pc' := 28) rfl ?_
          refine ax_iadd dX7_tiesInAll_28 (by omega) (pc' := 29) rfl ?_
          refine ax_istore_n dX7_tiesInAll_29 rfl (by decide) (ls' := [some (.inr a), some (.inl (n + 0)), some (.inl p)]) rfl (pc' := 30) rfl ?_
          refine ax_iinc dX7_tiesInAll_30 rfl (by decide) (by omega) (ls' := [some (.inr a), some (.inl (n + 0)), some (.inl (p + 1))]) rfl (pc' := 33) rfl ?_
          refine ax_goto dX7_tiesInAll_33 (pc' := 4) (by decide) ?_
          refine ih3 (p + 1) (n + 0) ?_ ?_ ?_ ?_
          · omega
          · omega
          · rw [← iv1_1, f_loop_step (lo := p) (by omega), qn]
          · omega
        · have qn : n + f_b (f_P w r p 0 ≠ -1) = n + 1 := by
            unfold f_b
            rw [if_pos (by omega)]
          refine ax_iconst dX7_tiesInAll_23 (by decide) (pc' := 24) rfl ?_
          refine ax_goto dX7_tiesInAll_24 (pc' := 28) (by decide) ?_
          refine ax_iadd dX7_tiesInAll_28 (by omega) (pc' := 29) rfl ?_
          refine ax_istore_n dX7_tiesInAll_29 rfl (by decide) (ls' := [some (.inr a), some (.inl (n + 1)), some (.inl p)]) rfl (pc' := 30) rfl ?_
          refine ax_iinc dX7_tiesInAll_30 rfl (by decide) (by omega) (ls' := [some (.inr a), some (.inl (n + 1)), some (.inl (p + 1))]) rfl (pc' := 33) rfl ?_
          refine ax_goto dX7_tiesInAll_33 (pc' := 4) (by decide) ?_
          refine ih3 (p + 1) (n + 1) ?_ ?_ ?_ ?_
          · omega
          · omega
          · rw [← iv1_1, f_loop_step (lo := p) (by omega), qn]
          · omega
  refine LP1 (M a 1 - 0 : Int).toNat.succ 0 0 ?_ ?_ ?_ ?_
  · omega
  · omega
  · rfl
  · omega
set_option maxRecDepth 20000 in
theorem s_X7_habitsAt (E : ax_Env) (l : Launch) (d : Nat) (hd : 0 ≤ d) (M : ax_Mem) (a p : Int) (w : Int → Int) (r : Int) (hg0 : f_rp a) (hg1 : f_rm M a w r) (hg2 : f_iv w) (hg3 : 0 ≤ r ∧ r < 8) (hg4 : 0 ≤ p ∧ p < f_R w r 1) : ax_G E l d iX7_habitsAt [.inr a, .inl p] M (fun z0 M2 => z0 = some (.inl (f_habs w r p)) ∧ M = M2 ∧ (0 ≤ f_habs w r p ∧ f_habs w r p ≤ 594)) := by
  refine ax_start rfl (Nat.le_of_ble_eq_true rfl) (ls := [some (.inr a), some (.inl p), none, none]) rfl (fun hav hcm => ?_)
  have hc1 : -2147483648 ≤ p ∧ p < 2147483648 := hav (.inl p) (by simp)
  clear hav
  have ql : M a 1 = f_R w r 1 := hg1.1
  have qlr := (hg2.1 r hg3.1 hg3.2).2
  have qp := hg1.2.2.2.2
  refine ax_iconst dX7_habitsAt_0 (by decide) (pc' := 1) rfl ?_
  refine ax_istore_n dX7_habitsAt_1 rfl (by decide) (ls' := [some (.inr a), some (.inl p), some (.inl 0), none]) rfl (pc' := 2) rfl ?_
  refine ax_iload_n dX7_habitsAt_2 rfl rfl (pc' := 3) rfl ?_
  refine ax_bipush dX7_habitsAt_3 (by decide) (pc' := 5) rfl ?_
  refine ax_imul dX7_habitsAt_5 (by omega) (pc' := 6) rfl ?_
  refine ax_istore_n dX7_habitsAt_6 rfl (by decide) (ls' := [some (.inr a), some (.inl p), some (.inl 0), some (.inl (p * 6))]) rfl (pc' := 7) rfl ?_
  have LP1 : ∀ (kq2 : Nat) (i v : Int) (hm1 : p * 6 + 6 - i < (kq2 : Nat)) (iv1_0 : p * 6 ≤ i ∧ i ≤ p * 6 + 6) (iv1_1 : f_loop (fun k v => v + f_P w r p (1 + k)) (i - p * 6) 6 v = f_habs w r p) (iv1_2 : 0 ≤ v ∧ v ≤ 99 * (i - p * 6)), ax_W E l d 0 0 iX7_habitsAt 7 [some (.inr a), some (.inl p), some (.inl v), some (.inl i)] [] SH M (ax_P (fun z0 M2 => z0 = some (.inl (f_habs w r p)) ∧ M = M2 ∧ (0 ≤ f_habs w r p ∧ f_habs w r p ≤ 594))) := by
    intro kq2
    induction kq2 with
    | zero =>
      intro i v hm1 iv1_0 iv1_1 iv1_2
      exfalso
      omega
    | succ kq2 ih3 =>
      intro i v hm1 iv1_0 iv1_1 iv1_2
      refine ax_iload_n dX7_habitsAt_7 rfl rfl (pc' := 8) rfl ?_
      refine ax_iload_n dX7_habitsAt_8 rfl rfl (pc' := 9) rfl ?_
      refine ax_iconst dX7_habitsAt_9 (by decide) (pc' := 10) rfl ?_
      refine ax_iadd dX7_habitsAt_10 (by omega) (pc' := 11) rfl ?_
      refine ax_bipush dX7_habitsAt_11 (by decide) (pc' := 13) rfl ?_
      refine ax_imul dX7_habitsAt_13 (by omega) (pc' := 14) rfl ?_
      refine ax_icmp_ge (tgt := 32) dX7_habitsAt_14 (by decide) (pc' := 17) rfl (fun h14 => ?_) (fun h14 => ?_)
      · refine ax_iload_n dX7_habitsAt_32 rfl rfl (pc' := 33) rfl ?_
        refine ax_iret dX7_habitsAt_33 rfl ?_
        refine ⟨rfl, ?_, ?_, ?_⟩
        · refine congrArg (fun z => some (Sum.inl z)) ?_
          exact (f_loop_done (by omega)).symm.trans iv1_1
        · rfl
        · rw [← iv1_1, f_loop_done (by omega)]
          omega
      · obtain ⟨kk, qkk⟩ : ∃ z, z = i - p * 6 := ⟨_, rfl⟩
        have qi : i = p * 6 + kk := by omega
        have q1 := (qp p (by omega) (by omega)).2 kk (by omega) (by omega)
        rw [← qi] at q1
        have q1r := f_rg_h hg2 hg3 (p := p) (k := kk) ⟨by omega, by omega⟩ ⟨by omega, by omega⟩
        refine ax_iload_n dX7_habitsAt_17 rfl rfl (pc' := 18) rfl ?_
        refine ax_aload_n dX7_habitsAt_18 rfl rfl (pc' := 19) rfl ?_
        refine ax_getr (v := a + 2) dX7_habitsAt_19 flX7_15 rfl hg0.1 rfl (pc' := 22) rfl ?_
        refine ax_iload_n dX7_habitsAt_22 rfl rfl (pc' := 23) rfl ?_
        refine ax_iald (v := (M (a + 2)) i) dX7_habitsAt_23 hg0.2.2.1 rfl (by omega) (by omega) ((congrFun rfl i).trans rfl) (pc' := 24) rfl ?_
        refine ax_iadd dX7_habitsAt_24 (by omega) (pc' := 25) rfl ?_
        refine ax_istore_n dX7_habitsAt_25 rfl (by decide) (ls' := [some (.inr a), some (.inl p), some (.inl (v + ((M (a + 2)) i))), some (.inl i)]) rfl (pc' := 26) rfl ?_
        refine ax_iinc dX7_habitsAt_26 rfl (by decide) (by omega) (ls' := [some (.inr a), some (.inl p), some (.inl (v + ((M (a + 2)) i))), some (.inl (i + 1))]) rfl (pc' := 29) rfl ?_
        refine ax_goto dX7_habitsAt_29 (pc' := 7) (by decide) ?_
        refine ih3 (i + 1) (v + ((M (a + 2)) i)) ?_ ?_ ?_ ?_
        · omega
        · omega
        · rw [← iv1_1, f_loop_step (lo := i - p * 6) (by omega), show i + 1 - p * 6 = i - p * 6 + 1 by omega, q1.1, qkk]
        · omega
  refine LP1 (p * 6 + 6 - (p * 6) : Int).toNat.succ (p * 6) 0 ?_ ?_ ?_ ?_
  · omega
  · omega
  · rw [Int.sub_self]
    rfl
  · omega
set_option maxRecDepth 20000 in
theorem s_X7_habitsInAll (E : ax_Env) (l : Launch) (d : Nat) (hd : 1 ≤ d) (M : ax_Mem) (a : Int) (w : Int → Int) (r : Int) (hg0 : f_rp a) (hg1 : f_rm M a w r) (hg2 : f_iv w) (hg3 : 0 ≤ r ∧ r < 8) : ax_G E l d iX7_habitsInAll [.inr a] M (fun z0 M2 => z0 = some (.inl (f_all w r)) ∧ M = M2) := by
  obtain ⟨d, rfl⟩ : ∃ d0, d = d0 + 1 := ⟨d - 1, by omega⟩
  refine ax_start rfl (Nat.le_of_ble_eq_true rfl) (ls := [some (.inr a), none, none]) rfl (fun hav hcm => ?_)
  clear hav
  have ql : M a 1 = f_R w r 1 := hg1.1
  have qlr := (hg2.1 r hg3.1 hg3.2).2
  have qp := hg1.2.2.2.2
  refine ax_iconst dX7_habitsInAll_0 (by decide) (pc' := 1) rfl ?_
  refine ax_istore_n dX7_habitsInAll_1 rfl (by decide) (ls' := [some (.inr a), some (.inl 0), none]) rfl (pc' := 2) rfl ?_
  refine ax_iconst dX7_habitsInAll_2 (by decide) (pc' := 3) rfl ?_
  refine ax_istore_n dX7_habitsInAll_3 rfl (by decide) (ls' := [some (.inr a), some (.inl 0), some (.inl 0)]) rfl (pc' := 4) rfl ?_
  have LP1 : ∀ (kq2 : Nat) (p v : Int) (hm1 : M a 1 - p < (kq2 : Nat)) (iv1_0 : 0 ≤ p ∧ p ≤ M a 1) (iv1_1 : f_loop (fun p v => v + f_habs w r p) p (f_R w r 1) v = f_all w r) (iv1_2 : 0 ≤ v ∧ v ≤ 594 * p), ax_W E l (d + 1) 0 0 iX7_habitsInAll 4 [some (.inr a), some (.inl v), some (.inl p)] [] SH M (ax_P (fun z0 M2 => z0 = some (.inl (f_all w r)) ∧ M = M2)) := by
    intro kq2
    induction kq2 with
    | zero =>
      intro p v hm1 iv1_0 iv1_1 iv1_2
      exfalso
      omega
    | succ kq2 ih3 =>
      intro p v hm1 iv1_0 iv1_1 iv1_2
      refine ax_iload_n dX7_habitsInAll_4 rfl rfl (pc' := 5) rfl ?_
      refine ax_aload_n dX7_habitsInAll_5 rfl rfl (pc' := 6) rfl ?_
      refine ax_geti (v := M a 1) dX7_habitsInAll_6 flX7_25 rfl hg0.1 rfl rfl (pc' := 9) rfl ?_
      refine ax_icmp_ge (tgt := 26) dX7_habitsInAll_9 (by decide) (pc' := 12) rfl (fun h9 => ?_) (fun h9 => ?_)
      · refine ax_iload_n dX7_habitsInAll_26 rfl rfl (pc' := 27) rfl ?_
        refine ax_iret dX7_habitsInAll_27 rfl ?_
        refine ⟨rfl, ?_, ?_⟩
        · refine congrArg (fun z => some (Sum.inl z)) ?_
          exact (f_loop_done (by omega)).symm.trans iv1_1
        · rfl
      · refine ax_iload_n dX7_habitsInAll_12 rfl rfl (pc' := 13) rfl ?_
        refine ax_aload_n dX7_habitsInAll_13 rfl rfl (pc' := 14) rfl ?_
        refine ax_iload_n dX7_habitsInAll_14 rfl rfl (pc' := 15) rfl ?_
        refine ax_invG [.inl p] [.inl v] dX7_habitsInAll_15 mlX7_54 hg0.1 rfl rfl rfl (Nat.le_of_ble_eq_true rfl) (s_X7_habitsAt E l _ (by omega) _ a p w r (by first | omega | assumption) (by first | omega | assumption) (by first | omega | assumption) (by first | omega | assumption) (by first | omega | assumption)) (pc' := 18) rfl (fun vv M_15 hq co15 hcm15 => ?_)
        obtain ⟨rfl, rfl, fa15_0⟩ := hq
        refine ax_reS (st2 := [.inl (f_habs w r p), .inl v]) rfl ?_
        have cc15 : -2147483648 ≤ f_habs w r p ∧ f_habs w r p < 2147483648 := co15 _ rfl
        refine ax_iadd dX7_habitsInAll_18 (by omega) (pc' := 19) rfl ?_
        refine ax_istore_n dX7_habitsInAll_19 rfl (by decide) (ls' := [some (.inr a), some (.inl (v + (f_habs w r p))), some (.inl p)]) rfl (pc' := 20) rfl ?_
        refine ax_iinc dX7_habitsInAll_20 rfl (by decide) (by omega) (ls' := [some (.inr a), some (.inl (v + (f_habs w r p))), some (.inl (p + 1))]) rfl (pc' := 23) rfl ?_
        refine ax_goto dX7_habitsInAll_23 (pc' := 4) (by decide) ?_
        refine ih3 (p + 1) (v + (f_habs w r p)) ?_ ?_ ?_ ?_
        · omega
        · omega
        · rw [← iv1_1, f_loop_step (lo := p) (by omega)]
        · omega
  refine LP1 (M a 1 - 0 : Int).toNat.succ 0 0 ?_ ?_ ?_ ?_
  · omega
  · omega
  · rfl
  · omega
set_option maxRecDepth 20000 in
theorem s_X7_callAt (E : ax_Env) (l : Launch) (d : Nat) (hd : 0 ≤ d) (M : ax_Mem) (a p : Int) (w : Int → Int) (r : Int) (hg0 : f_rp a) (hg1 : f_rm M a w r) (hg2 : f_iv w) (hg3 : 0 ≤ r ∧ r < 8) (hg4 : 0 ≤ p ∧ p < f_R w r 1) : ax_G E l d iX7_callAt [.inr a, .inl p] M (fun z0 M2 => z0 = some (.inl (f_call w r p)) ∧ M = M2 ∧ (f_call w r p = -1 ∨ (0 ≤ f_call w r p ∧ f_call w r p < 6 ∧ f_P w r p (1 + f_call w r p) ≠ 0))) := by
  refine ax_start rfl (Nat.le_of_ble_eq_true rfl) (ls := [some (.inr a), some (.inl p), none, none]) rfl (fun hav hcm => ?_)
  have hc1 : -2147483648 ≤ p ∧ p < 2147483648 := hav (.inl p) (by simp)
  clear hav
  have ql : M a 1 = f_R w r 1 := hg1.1
  have qlr := (hg2.1 r hg3.1 hg3.2).2
  have qp := hg1.2.2.2.2
  refine ax_iconst dX7_callAt_0 (by decide) (pc' := 1) rfl ?_
  refine ax_istore_n dX7_callAt_1 rfl (by decide) (ls' := [some (.inr a), some (.inl p), some (.inl (-1)), none]) rfl (pc' := 2) rfl ?_
  refine ax_iload_n dX7_callAt_2 rfl rfl (pc' := 3) rfl ?_
  refine ax_bipush dX7_callAt_3 (by decide) (pc' := 5) rfl ?_
  refine ax_imul dX7_callAt_5 (by omega) (pc' := 6) rfl ?_
  refine ax_istore_n dX7_callAt_6 rfl (by decide) (ls' := [some (.inr a), some (.inl p), some (.inl (-1)), some (.inl (p * 6))]) rfl (pc' := 7) rfl ?_
  have LP1 : ∀ (kq2 : Nat) (i bt : Int) (bk : Int) (hm1 : p * 6 + 6 - i < (kq2 : Nat)) (iv1_0 : p * 6 ≤ i ∧ i ≤ p * 6 + 6) (iv1_1 : f_loop (f_callS (fun k => f_P w r p (1 + k)) (fun k => f_P w r p (7 + k))) (i - p * 6) 6 bk = f_call w r p) (iv1_2 : bk = -1 ∧ bt = -1 ∨ (0 ≤ bk ∧ bk < i - p * 6 ∧ bt = p * 6 + bk ∧ f_P w r p (1 + bk) ≠ 0)), ax_W E l d 0 0 iX7_callAt 7 [some (.inr a), some (.inl p), some (.inl bt), some (.inl i)] [] SH M (ax_P (fun z0 M2 => z0 = some (.inl (f_call w r p)) ∧ M = M2 ∧ (f_call w r p = -1 ∨ (0 ≤ f_call w r p ∧ f_call w r p < 6 ∧ f_P w r p (1 + f_call w r p) ≠ 0)))) := by
    intro kq2
    induction kq2 with
    | zero =>
      intro i bt bk hm1 iv1_0 iv1_1 iv1_2
      exfalso
      omega
    | succ kq2 ih3 =>
      intro i bt bk hm1 iv1_0 iv1_1 iv1_2
      refine ax_iload_n dX7_callAt_7 rfl rfl (pc' := 8) rfl ?_
      refine ax_iload_n dX7_callAt_8 rfl rfl (pc' := 9) rfl ?_
      refine ax_iconst dX7_callAt_9 (by decide) (pc' := 10) rfl ?_
      refine ax_iadd dX7_callAt_10 (by omega) (pc' := 11) rfl ?_
      refine ax_bipush dX7_callAt_11 (by decide) (pc' := 13) rfl ?_
      refine ax_imul dX7_callAt_13 (by omega) (pc' := 14) rfl ?_
      refine ax_icmp_ge (tgt := 84) dX7_callAt_14 (by decide) (pc' := 17) rfl (fun h14 => ?_) (fun h14 => ?_)
      · have qr : bk = f_call w r p := by
          rw [← iv1_1, f_loop_done (by omega)]
        refine ax_iload_n dX7_callAt_84 rfl rfl (pc' := 85) rfl ?_
        refine ax_iconst dX7_callAt_85 (by decide) (pc' := 86) rfl ?_
        refine ax_icmp_ne (tgt := 93) dX7_callAt_86 (by decide) (pc' := 89) rfl (fun h86 => ?_) (fun h86 => ?_)
        · refine ax_iload_n dX7_callAt_93 rfl rfl (pc' := 94) rfl ?_
          refine ax_iload_n dX7_callAt_94 rfl rfl (pc' := 95) rfl ?_
          refine ax_bipush dX7_callAt_95 (by decide) (pc' := 97) rfl ?_
          refine ax_imul dX7_callAt_97 (by omega) (pc' := 98) rfl ?_
          refine ax_isub dX7_callAt_98 (by omega) (pc' := 99) rfl ?_
          refine ax_iret dX7_callAt_99 rfl ?_
          refine ⟨rfl, ?_, ?_, ?_⟩
          · refine congrArg (fun z => some (Sum.inl z)) ?_
            omega
          · rfl
          · rw [← qr]
            omega
        · refine ax_iconst dX7_callAt_89 (by decide) (pc' := 90) rfl ?_
          refine ax_goto dX7_callAt_90 (pc' := 99) (by decide) ?_
          refine ax_iret dX7_callAt_99 rfl ?_
          refine ⟨rfl, ?_, ?_, ?_⟩
          · refine congrArg (fun z => some (Sum.inl z)) ?_
            omega
          · rfl
          · rw [← qr]
            omega
      · obtain ⟨kk, qkk⟩ : ∃ z, z = i - p * 6 := ⟨_, rfl⟩
        have qi : i = p * 6 + kk := by omega
        have q1 := (qp p (by omega) (by omega)).2 kk (by omega) (by omega)
        rw [← qi] at q1
        have q1r := f_rg_h hg2 hg3 (p := p) (k := kk) ⟨by omega, by omega⟩ ⟨by omega, by omega⟩
        have qe : f_callS (fun k => f_P w r p (1 + k)) (fun k => f_P w r p (7 + k)) (i - p * 6) bk = if f_P w r p (1 + kk) = 0 then bk else if bk = -1 ∨ f_P w r p (7 + kk) < f_P w r p (7 + bk) ∨ (f_P w r p (7 + kk) = f_P w r p (7 + bk) ∧ f_P w r p (1 + bk) < f_P w r p (1 + kk)) then kk else bk := by
          rw [← qkk]
          rfl
        refine ax_aload_n dX7_callAt_17 rfl rfl (pc' := 18) rfl ?_
        refine ax_getr (v := a + 2) dX7_callAt_18 flX7_15 rfl hg0.1 rfl (pc' := 21) rfl ?_
        refine ax_iload_n dX7_callAt_21 rfl rfl (pc' := 22) rfl ?_
        refine ax_iald (v := (M (a + 2)) i) dX7_callAt_22 hg0.2.2.1 rfl (by omega) (by omega) ((congrFun rfl i).trans rfl) (pc' := 23) rfl ?_
        refine ax_if_le (tgt := 78) dX7_callAt_23 (by decide) (pc' := 26) rfl (fun h23 => ?_) (fun h23 => ?_)
        · have qx : f_callS (fun k => f_P w r p (1 + k)) (fun k => f_P w r p (7 + k)) (i - p * 6) bk = bk := by
            rw [qe, if_pos (by omega)]
          refine ax_iinc dX7_callAt_78 rfl (by decide) (by omega) (ls' := [some (.inr a), some (.inl p), some (.inl bt), some (.inl (i + 1))]) rfl (pc' := 81) rfl ?_
          refine ax_goto dX7_callAt_81 (pc' := 7) (by decide) ?_
          refine ih3 (i + 1) bt (f_callS (fun k => f_P w r p (1 + k)) (fun k => f_P w r p (7 + k)) (i - p * 6) bk) ?_ ?_ ?_ ?_
          · omega
          · omega
          · rw [← iv1_1, f_loop_step (lo := i - p * 6) (by omega), show i + 1 - p * 6 = i - p * 6 + 1 by omega]
          · rw [qx]
            omega
        · have q3 := q1.2 (by omega)
          refine ax_iload_n dX7_callAt_26 rfl rfl (pc' := 27) rfl ?_
          refine ax_iconst dX7_callAt_27 (by decide) (pc' := 28) rfl ?_
          refine ax_icmp_eq (tgt := 76) dX7_callAt_28 (by decide) (pc' := 31) rfl (fun h28 => ?_) (fun h28 => ?_)
          · have qx : f_callS (fun k => f_P w r p (1 + k)) (fun k => f_P w r p (7 + k)) (i - p * 6) bk = kk := by
              rw [qe, if_neg (by omega), if_pos (by omega)]
            refine ax_iload_n dX7_callAt_76 rfl rfl (pc' := 77) rfl ?_
            refine ax_istore_n dX7_callAt_77 rfl (by decide) (ls' := [some (.inr a), some (.inl p), some (.inl i), some (.inl i)]) rfl (pc' := 78) rfl ?_
            refine ax_iinc dX7_callAt_78 rfl (by decide) (by omega) (ls' := [some (.inr a), some (.inl p), some (.inl i), some (.inl (i + 1))]) rfl (pc' := 81) rfl ?_
            refine ax_goto dX7_callAt_81 (pc' := 7) (by decide) ?_
            refine ih3 (i + 1) i (f_callS (fun k => f_P w r p (1 + k)) (fun k => f_P w r p (7 + k)) (i - p * 6) bk) ?_ ?_ ?_ ?_
            · omega
            · omega
            · rw [← iv1_1, f_loop_step (lo := i - p * 6) (by omega), show i + 1 - p * 6 = i - p * 6 + 1 by omega]
            · rw [qx]
              omega
          · have qb : bt = p * 6 + bk := by omega
            have q2 := (qp p (by omega) (by omega)).2 bk (by omega) (by omega)
            rw [← qb] at q2
            have q4 := q2.2 (by omega)
            refine ax_aload_n dX7_callAt_31 rfl rfl (pc' := 32) rfl ?_
            refine ax_getr (v := a + 3) dX7_callAt_32 flX7_18 rfl hg0.1 rfl (pc' := 35) rfl ?_
            refine ax_iload_n dX7_callAt_35 rfl rfl (pc' := 36) rfl ?_
            refine ax_iald (v := (M (a + 3)) i) dX7_callAt_36 hg0.2.2.2 rfl (by omega) (by omega) ((congrFun rfl i).trans rfl) (pc' := 37) rfl ?_
            refine ax_aload_n dX7_callAt_37 rfl rfl (pc' := 38) rfl ?_
            refine ax_getr (v := a + 3) dX7_callAt_38 flX7_18 rfl hg0.1 rfl (pc' := 41) rfl ?_
            refine ax_iload_n dX7_callAt_41 rfl rfl (pc' := 42) rfl ?_
            refine ax_iald (v := (M (a + 3)) bt) dX7_callAt_42 hg0.2.2.2 rfl (by omega) (by omega) ((congrFun rfl bt).trans rfl) (pc' := 43) rfl ?_
            refine ax_icmp_lt (tgt := 76) dX7_callAt_43 (by decide) (pc' := 46) rfl (fun h43 => ?_) (fun h43 => ?_)
            · have qx : f_callS (fun k => f_P w r p (1 + k)) (fun k => f_P w r p (7 + k)) (i - p * 6) bk = kk := by
                rw [qe, if_neg (by omega), if_pos (by omega)]
              refine ax_iload_n dX7_callAt_76 rfl rfl (pc' := 77) rfl ?_
              refine ax_istore_n dX7_callAt_77 rfl (by decide) (ls' := [some (.inr a), some (.inl p), some (.inl i), some (.inl i)]) rfl (pc' := 78) rfl ?_
              refine ax_iinc dX7_callAt_78 rfl (by decide) (by omega) (ls' := [some (.inr a), some (.inl p), some (.inl i), some (.inl (i + 1))]) rfl (pc' := 81) rfl ?_
              refine ax_goto dX7_callAt_81 (pc' := 7) (by decide) ?_
              refine ih3 (i + 1) i (f_callS (fun k => f_P w r p (1 + k)) (fun k => f_P w r p (7 + k)) (i - p * 6) bk) ?_ ?_ ?_ ?_
              · omega
              · omega
              · rw [← iv1_1, f_loop_step (lo := i - p * 6) (by omega), show i + 1 - p * 6 = i - p * 6 + 1 by omega]
              · rw [qx]
                omega
            · refine ax_aload_n dX7_callAt_46 rfl rfl (pc' := 47) rfl ?_
              refine ax_getr (v := a + 3) dX7_callAt_47 flX7_18 rfl hg0.1 rfl (pc' := 50) rfl ?_
              refine ax_iload_n dX7_callAt_50 rfl rfl (pc' := 51) rfl ?_
              refine ax_iald (v := (M (a + 3)) i) dX7_callAt_51 hg0.2.2.2 rfl (by omega) (by omega) ((congrFun rfl i).trans rfl) (pc' := 52) rfl ?_
              refine ax_aload_n dX7_callAt_52 rfl rfl (pc' := 53) rfl ?_
              refine ax_getr (v := a + 3) dX7_callAt_53 flX7_18 rfl hg0.1 rfl (pc' := 56) rfl ?_
              refine ax_iload_n dX7_callAt_56 rfl rfl (pc' := 57) rfl ?_
              refine ax_iald (v := (M (a + 3)) bt) dX7_callAt_57 hg0.2.2.2 rfl (by omega) (by omega) ((congrFun rfl bt).trans rfl) (pc' := 58) rfl ?_
              refine ax_icmp_ne (tgt := 78) dX7_callAt_58 (by decide) (pc' := 61) rfl (fun h58 => ?_) (fun h58 => ?_)
              · have qx : f_callS (fun k => f_P w r p (1 + k)) (fun k => f_P w r p (7 + k)) (i - p * 6) bk = bk := by
                  rw [qe, if_neg (by omega), if_neg (by omega)]
                refine ax_iinc dX7_callAt_78 rfl (by decide) (by omega) (ls' := [some (.inr a), some (.inl p), some (.inl bt), some (.inl (i + 1))]) rfl (pc' := 81) rfl ?_
                refine ax_goto dX7_callAt_81 (pc' := 7) (by decide) ?_
                refine ih3 (i + 1) bt (f_callS (fun k => f_P w r p (1 + k)) (fun k => f_P w r p (7 + k)) (i - p * 6) bk) ?_ ?_ ?_ ?_
                · omega
                · omega
                · rw [← iv1_1, f_loop_step (lo := i - p * 6) (by omega), show i + 1 - p * 6 = i - p * 6 + 1 by omega]
                · rw [qx]
                  omega
              · refine ax_aload_n dX7_callAt_61 rfl rfl (pc' := 62) rfl ?_
                refine ax_getr (v := a + 2) dX7_callAt_62 flX7_15 rfl hg0.1 rfl (pc' := 65) rfl ?_
                refine ax_iload_n dX7_callAt_65 rfl rfl (pc' := 66) rfl ?_
                refine ax_iald (v := (M (a + 2)) i) dX7_callAt_66 hg0.2.2.1 rfl (by omega) (by omega) ((congrFun rfl i).trans rfl) (pc' := 67) rfl ?_
                refine ax_aload_n dX7_callAt_67 rfl rfl (pc' := 68) rfl ?_
                refine ax_getr (v := a + 2) dX7_callAt_68 flX7_15 rfl hg0.1 rfl (pc' := 71) rfl ?_
                refine ax_iload_n dX7_callAt_71 rfl rfl (pc' := 72) rfl ?_
                refine ax_iald (v := (M (a + 2)) bt) dX7_callAt_72 hg0.2.2.1 rfl (by omega) (by omega) ((congrFun rfl bt).trans rfl) (pc' := 73) rfl ?_
                refine ax_icmp_le (tgt := 78) dX7_callAt_73 (by decide) (pc' := 76) rfl (fun h73 => ?_) (fun h73 => ?_)
                · have qx : f_callS (fun k => f_P w r p (1 + k)) (fun k => f_P w r p (7 + k)) (i - p * 6) bk = bk := by
                    rw [qe, if_neg (by omega), if_neg (by omega)]
                  refine ax_iinc dX7_callAt_78 rfl (by decide) (by omega) (ls' := [some (.inr a), some (.inl p), some (.inl bt), some (.inl (i + 1))]) rfl (pc' := 81) rfl ?_
                  refine ax_goto dX7_callAt_81 (pc' := 7) (by decide) ?_
                  refine ih3 (i + 1) bt (f_callS (fun k => f_P w r p (1 + k)) (fun k => f_P w r p (7 + k)) (i - p * 6) bk) ?_ ?_ ?_ ?_
                  · omega
                  · omega
                  · rw [← iv1_1, f_loop_step (lo := i - p * 6) (by omega), show i + 1 - p * 6 = i - p * 6 + 1 by omega]
                  · rw [qx]
                    omega
                · have qx : f_callS (fun k => f_P w r p (1 + k)) (fun k => f_P w r p (7 + k)) (i - p * 6) bk = kk := by
                    rw [qe, if_neg (by omega), if_pos (by omega)]
                  refine ax_iload_n dX7_callAt_76 rfl rfl (pc' := 77) rfl ?_
                  refine ax_istore_n dX7_callAt_77 rfl (by decide) (ls' := [some (.inr a), some (.inl p), some (.inl i), some (.inl i)]) rfl (pc' := 78) rfl ?_
                  refine ax_iinc dX7_callAt_78 rfl (by decide) (by omega) (ls' := [some (.inr a), some (.inl p), some (.inl i), some (.inl (i + 1))]) rfl (pc' := 81) rfl ?_
                  refine ax_goto dX7_callAt_81 (pc' := 7) (by decide) ?_
                  refine ih3 (i + 1) i (f_callS (fun k => f_P w r p (1 + k)) (fun k => f_P w r p (7 + k)) (i - p * 6) bk) ?_ ?_ ?_ ?_
                  · omega
                  · omega
                  · rw [← iv1_1, f_loop_step (lo := i - p * 6) (by omega), show i + 1 - p * 6 = i - p * 6 + 1 by omega]
                  · rw [qx]
                    omega
  refine LP1 (p * 6 + 6 - (p * 6) : Int).toNat.succ (p * 6) (-1) (-1) ?_ ?_ ?_ ?_
  · omega
  · omega
  · rw [Int.sub_self]
    rfl
  · exact Or.inl ⟨rfl, rfl⟩
