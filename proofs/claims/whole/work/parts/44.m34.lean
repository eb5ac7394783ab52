/-! what changes a rope -/
theorem f_rr_eq {ln ow bo we ln2 ow2 bo2 we2 : Int} {ti ha si ti2 ha2 si2 w : Int → Int} {r : Int} (h1 : ln2 = ln) (h2 : ow2 = ow) (h3 : bo2 = bo) (h4 : we2 = we) (h5 : ti2 = ti) (h6 : ha2 = ha) (h7 : si2 = si) (h : f_rr ln ow bo we ti ha si w r) : f_rr ln2 ow2 bo2 we2 ti2 ha2 si2 w r := by
  rw [h1, h2, h3, h4, h5, h6, h7]
  exact h
theorem f_rr_hab {ln ow bo we : Int} {ti ha si ha2 si2 w : Int → Int} {r p k v s : Int} (hr : 0 ≤ r ∧ r < 8) (hp : 0 ≤ p ∧ p < 24) (hk : 0 ≤ k ∧ k < 6) (hl : ln ≤ 24) (h1 : ∀ x, x ≠ p * 6 + k → ha2 x = ha x) (h2 : ha2 (p * 6 + k) = v) (h3 : ∀ x, x ≠ p * 6 + k → si2 x = si x) (h4 : v ≠ 0 → si2 (p * 6 + k) = s) (h : f_rr ln ow bo we ti ha si w r) : f_rr ln ow bo we ti ha2 si2 (f_hab w r p k v s) r := by
  obtain ⟨e1, e2, e3, e4, e5⟩ := h
  have hh : 0 ≤ r ∧ r < 8 ∧ 0 ≤ p ∧ p < 24 ∧ 0 ≤ k ∧ k < 6 := ⟨hr.1, hr.2, hp.1, hp.2, hk.1, hk.2⟩
  refine ⟨e1.trans (f_R_hab hh ⟨hr.1, hr.2, by decide, by decide⟩).symm, e2.trans (f_R_hab hh ⟨hr.1, hr.2, by decide, by decide⟩).symm, e3.trans (f_R_hab hh ⟨hr.1, hr.2, by decide, by decide⟩).symm, e4.trans (f_R_hab hh ⟨hr.1, hr.2, by decide, by decide⟩).symm, fun q q1 q2 => ?_⟩
  have e6 := e5 q q1 q2
  refine ⟨?_, fun j j1 j2 => ?_⟩
  · rw [f_P_hab hh ⟨hr.1, hr.2, q1, by omega, by decide, by decide⟩, if_neg (by omega), if_neg (by omega)]
    exact e6.1
  · have e7 := e6.2 j j1 j2
    rw [f_P_hab hh ⟨hr.1, hr.2, q1, by omega, by omega, by omega⟩, f_P_hab hh ⟨hr.1, hr.2, q1, by omega, by omega, by omega⟩]
    by_cases hq : q = p ∧ j = k
    · obtain ⟨hq1, hq2⟩ := hq
      rw [if_pos ⟨rfl, hq1, by omega⟩, if_neg (by omega), if_pos ⟨rfl, hq1, by omega⟩, hq1, hq2]
      refine ⟨h2, fun hv => ?_⟩
      rw [if_neg hv]
      exact h4 hv
    · rw [if_neg (by omega), if_neg (by omega), if_neg (by omega), if_neg (by omega), h1 _ (by omega), h3 _ (by omega)]
      exact e7
theorem f_rr_sP0 {ln ow bo we : Int} {ti ti2 ha si w : Int → Int} {r p v : Int} (hr : 0 ≤ r ∧ r < 8) (hp : 0 ≤ p ∧ p < 24) (hl : ln ≤ 24) (h1 : ∀ x, x ≠ p → ti2 x = ti x) (h2 : ti2 p = v) (h : f_rr ln ow bo we ti ha si w r) : f_rr ln ow bo we ti2 ha si (f_sP w r p 0 v) r := by
  obtain ⟨e1, e2, e3, e4, e5⟩ := h
  have hh : 0 ≤ r ∧ r < 8 ∧ 0 ≤ p ∧ p < 24 ∧ (0 : Int) ≤ 0 ∧ (0 : Int) < 13 := ⟨hr.1, hr.2, hp.1, hp.2, by decide, by decide⟩
  refine ⟨e1.trans (f_R_sP hh ⟨hr.1, hr.2, by decide, by decide⟩).symm, e2.trans (f_R_sP hh ⟨hr.1, hr.2, by decide, by decide⟩).symm, e3.trans (f_R_sP hh ⟨hr.1, hr.2, by decide, by decide⟩).symm, e4.trans (f_R_sP hh ⟨hr.1, hr.2, by decide, by decide⟩).symm, fun q q1 q2 => ?_⟩
  have e6 := e5 q q1 q2
  refine ⟨?_, fun j j1 j2 => ?_⟩
  · rw [f_P_sP hh ⟨hr.1, hr.2, q1, by omega, by decide, by decide⟩]
    by_cases hq : q = p
    · rw [if_pos ⟨rfl, hq, rfl⟩, hq]
      exact h2
    · rw [if_neg (by omega), h1 q hq]
      exact e6.1
  · rw [f_P_sP hh ⟨hr.1, hr.2, q1, by omega, by omega, by omega⟩, f_P_sP hh ⟨hr.1, hr.2, q1, by omega, by omega, by omega⟩, if_neg (by omega), if_neg (by omega)]
    exact e6.2 j j1 j2
theorem f_rr_sR {ln ow bo we ln2 ow2 bo2 we2 : Int} {ti ha si w : Int → Int} {r f v : Int} (hr : 0 ≤ r ∧ r < 8) (hf : 0 ≤ f ∧ f < 5) (hl : ln ≤ 24) (h1 : ln2 = if f = 1 then v else ln) (h2 : ow2 = if f = 2 then v else ow) (h3 : bo2 = if f = 3 then v else bo) (h4 : we2 = if f = 4 then v else we) (h5 : f = 1 → v ≤ ln) (h : f_rr ln ow bo we ti ha si w r) : f_rr ln2 ow2 bo2 we2 ti ha si (f_sR w r f v) r := by
  obtain ⟨e1, e2, e3, e4, e5⟩ := h
  have hh : 0 ≤ r ∧ r < 8 ∧ 0 ≤ f ∧ f < 8 := ⟨hr.1, hr.2, hf.1, by omega⟩
  have key : ∀ g, 0 ≤ g → g < 8 → f_R (f_sR w r f v) r g = if f = g then v else f_R w r g := fun g g1 g2 => by
    rw [f_R_sR hh ⟨hr.1, hr.2, g1, g2⟩]
    by_cases hg : f = g
    · rw [if_pos hg, if_pos ⟨rfl, hg.symm⟩]
    · rw [if_neg hg, if_neg (by omega)]
  refine ⟨?_, ?_, ?_, ?_, fun q q1 q2 => ?_⟩
  · rw [key 1 (by decide) (by decide), ← e1]
    exact h1
  · rw [key 2 (by decide) (by decide), ← e2]
    exact h2
  · rw [key 3 (by decide) (by decide), ← e3]
    exact h3
  · rw [key 4 (by decide) (by decide), ← e4]
    exact h4
  · have q3 : q < ln := by
      rw [h1] at q2
      split at q2
      · have := h5 (by assumption)
        omega
      · exact q2
    have e6 := e5 q q1 q3
    rw [f_P_sR hh ⟨hr.1, hr.2, q1, by omega, by decide, by decide⟩]
    refine ⟨e6.1, fun j j1 j2 => ?_⟩
    rw [f_P_sR hh ⟨hr.1, hr.2, q1, by omega, by omega, by omega⟩, f_P_sR hh ⟨hr.1, hr.2, q1, by omega, by omega, by omega⟩]
    exact e6.2 j j1 j2
theorem f_rr_cp {ln ow bo we : Int} {ti ha si t0 h0 s0 w : Int → Int} {r : Int} (hl : ln ≤ 24) (h : f_rr ln ow bo we ti ha si w r) : f_rr ln ow bo we (f_cp ti 0 t0 0 24) (f_cp ha 0 h0 0 144) (f_cp si 0 s0 0 144) w r := by
  obtain ⟨e1, e2, e3, e4, e5⟩ := h
  refine ⟨e1, e2, e3, e4, fun q q1 q2 => ?_⟩
  have e6 := e5 q q1 q2
  have key : ∀ (g g0 : Int → Int) (n x : Int), 0 ≤ x → x < n → f_cp g 0 g0 0 n x = g x := fun g g0 n x x1 x2 => by
    unfold f_cp
    rw [if_pos (by omega), show 0 + (x - 0) = x by omega]
  rw [key _ _ _ _ q1 (by omega)]
  refine ⟨e6.1, fun j j1 j2 => ?_⟩
  rw [key _ _ _ _ (by omega) (by omega), key _ _ _ _ (by omega) (by omega)]
  exact e6.2 j j1 j2
theorem f_up_cm {w : Int → Int} {i j a b : Int} (h : i ≠ j) : f_up (f_up w i a) j b = f_up (f_up w j b) i a := by
  funext x
  unfold f_up
  split
  · rename_i h1
    rw [if_neg (by omega)]
  · rfl
theorem f_more_sR4 {w : Int → Int} {r p k v m : Int} (hr : 0 ≤ r ∧ r < 8) (hp : 0 ≤ p ∧ p < 24) (hk : 0 ≤ k ∧ k < 6) : f_more (f_sR w r 4 v) r p k m = f_sR (f_more w r p k m) r 4 v := by
  have e : ∀ f, 0 ≤ f → f < 13 → f_P (f_sR w r 4 v) r p f = f_P w r p f := fun f f1 f2 => f_P_sR ⟨hr.1, hr.2, by decide, by decide⟩ ⟨hr.1, hr.2, hp.1, hp.2, f1, f2⟩
  have e0 : f_sR w r 4 v 0 = w 0 := f_sR_out ⟨hr.1, hr.2, by decide, by decide⟩ (by omega)
  unfold f_more f_hab
  rw [e (1 + k) (by omega) (by omega), e (7 + k) (by omega) (by omega), e0]
  unfold f_sR f_sP
  have e1 : ∀ x, f_up (f_up w (4 + 320 * r + 4) v) (4 + 320 * r + 8 + 13 * p + (1 + k)) x = f_up (f_up w (4 + 320 * r + 8 + 13 * p + (1 + k)) x) (4 + 320 * r + 4) v := fun x => f_up_cm (by omega)
  rw [e1]
  exact f_up_cm (by omega)
theorem f_callG_cong {h s h2 s2 : Int → Int} (e1 : ∀ k, 0 ≤ k → k < 6 → h k = h2 k) (e2 : ∀ k, 0 ≤ k → k < 6 → s k = s2 k) : f_callG h s = f_callG h2 s2 := by
  have key : ∀ (n : Nat) (lo b : Int), (n : Int) = 6 - lo → 0 ≤ lo → -1 ≤ b ∧ b < lo → f_loop (f_callS h s) lo 6 b = f_loop (f_callS h2 s2) lo 6 b := by
    intro n
    induction n with
    | zero =>
      intro lo b e h0 hb
      rw [f_loop_done (by omega), f_loop_done (by omega)]
    | succ n ih =>
      intro lo b e h0 hb
      rw [f_loop_step (g := f_callS h s) (lo := lo) (by omega), f_loop_step (g := f_callS h2 s2) (lo := lo) (by omega)]
      have ec : f_callS h s lo b = f_callS h2 s2 lo b := by
        unfold f_callS
        rw [e1 lo h0 (by omega), e2 lo h0 (by omega)]
        by_cases hb1 : b = -1
        · split
          · rfl
          · rw [if_pos (Or.inl hb1), if_pos (Or.inl hb1)]
        · rw [e1 b (by omega) (by omega), e2 b (by omega) (by omega)]
      rw [ec]
      refine ih (lo + 1) _ (by omega) (by omega) ?_
      unfold f_callS
      repeat' split
      all_goals omega
  exact key 6 0 (-1) (by omega) (by omega) (by omega)
theorem f_call_sR4 {w : Int → Int} {r p v : Int} (hr : 0 ≤ r ∧ r < 8) (hp : 0 ≤ p ∧ p < 24) : f_call (f_sR w r 4 v) r p = f_call w r p := by
  have e : ∀ f, 0 ≤ f → f < 13 → f_P (f_sR w r 4 v) r p f = f_P w r p f := fun f f1 f2 => f_P_sR ⟨hr.1, hr.2, by decide, by decide⟩ ⟨hr.1, hr.2, hp.1, hp.2, f1, f2⟩
  exact f_callG_cong (fun k k1 k2 => e _ (by omega) (by omega)) (fun k k1 k2 => e _ (by omega) (by omega))
theorem f_wetS_sR4 {w : Int → Int} {r p v : Int} (hr : 0 ≤ r ∧ r < 8) (hp : 0 ≤ p ∧ p < 24) : f_wetS r p (f_sR w r 4 v) = f_sR (f_wetS r p w) r 4 v := by
  unfold f_wetS
  rw [f_call_sR4 hr hp]
  split
  · rfl
  · have := f_call_rg (w := w) (r := r) (p := p)
    exact f_more_sR4 hr hp ⟨by omega, by omega⟩
theorem f_wet_lp {r v : Int} (hr : 0 ≤ r ∧ r < 8) : ∀ (n : Nat) (lo hi : Int) (w : Int → Int), (n : Int) = hi - lo → 0 ≤ lo → hi ≤ 24 → f_loop (f_wetS r) lo hi (f_sR w r 4 v) = f_sR (f_loop (f_wetS r) lo hi w) r 4 v := by
  intro n
  induction n with
  | zero =>
    intro lo hi w e h0 h1
    rw [f_loop_done (by omega), f_loop_done (by omega)]
  | succ n ih =>
    intro lo hi w e h0 h1
    rw [f_loop_step (lo := lo) (a := f_sR w r 4 v) (by omega), f_loop_step (lo := lo) (a := w) (by omega), f_wetS_sR4 hr ⟨h0, by omega⟩]
    exact ih (lo + 1) hi _ (by omega) (by omega) h1
set_option maxRecDepth 20000 in
theorem s_X7_addHabit (E : ax_Env) (l : Launch) (d : Nat) (hd : 1 ≤ d) (M : ax_Mem) (a p k mo dy : Int) (w : Int → Int) (r : Int) (hg0 : f_rp a) (hg1 : f_rm M a w r) (hg2 : f_iv w) (hg3 : 0 ≤ r ∧ r < 8) (hg4 : 0 ≤ p ∧ p < f_R w r 1) (hg5 : 0 ≤ k ∧ k < 6) (hg6 : 0 ≤ mo ∧ mo ≤ 99) (hg7 : dy = w 0) : ax_G E l d iX7_addHabit [.inr a, .inl p, .inl k, .inl mo, .inl dy] M (fun z0 M2 => z0 = none ∧ (∀ x0 i0 : Int, ¬ (x0 = a + 2 ∨ x0 = a + 3) → M2 x0 i0 = M x0 i0) ∧ (f_rm M2 a (f_more w r p k mo) r)) := by
  obtain ⟨d, rfl⟩ : ∃ d0, d = d0 + 1 := ⟨d - 1, by omega⟩
  refine ax_start rfl (Nat.le_of_ble_eq_true rfl) (ls := [some (.inr a), some (.inl p), some (.inl k), some (.inl mo), some (.inl dy), none]) rfl (fun hav hcm => ?_)
  have hc1 : -2147483648 ≤ p ∧ p < 2147483648 := hav (.inl p) (by simp)
  have hc2 : -2147483648 ≤ k ∧ k < 2147483648 := hav (.inl k) (by simp)
  have hc3 : -2147483648 ≤ mo ∧ mo < 2147483648 := hav (.inl mo) (by simp)
  have hc4 : -2147483648 ≤ dy ∧ dy < 2147483648 := hav (.inl dy) (by simp)
  clear hav
  have ql : M a 1 = f_R w r 1 := hg1.1
  have qlr := (hg2.1 r hg3.1 hg3.2).2
  have qp := hg1.2.2.2.2
  have q1 := (qp p (by omega) (by omega)).2 k (by omega) (by omega)
  have q1r := f_rg_h hg2 hg3 (p := p) (k := k) ⟨by omega, by omega⟩ hg5
  refine ax_iload_n dX7_addHabit_0 rfl rfl (pc' := 1) rfl ?_
  refine ax_bipush dX7_addHabit_1 (by decide) (pc' := 3) rfl ?_
  refine ax_imul dX7_addHabit_3 (by omega) (pc' := 4) rfl ?_
  refine ax_iload_n dX7_addHabit_4 rfl rfl (pc' := 5) rfl ?_
  refine ax_iadd dX7_addHabit_5 (by omega) (pc' := 6) rfl ?_
  refine ax_istore dX7_addHabit_6 (by decide) (ls' := [some (.inr a), some (.inl p), some (.inl k), some (.inl mo), some (.inl dy), some (.inl (p * 6 + k))]) rfl (pc' := 8) rfl ?_
  refine ax_aload_n dX7_addHabit_8 rfl rfl (pc' := 9) rfl ?_
  refine ax_getr (v := a + 2) dX7_addHabit_9 flX7_15 rfl hg0.1 rfl (pc' := 12) rfl ?_
  refine ax_iload dX7_addHabit_12 rfl (pc' := 14) rfl ?_
  refine ax_iald (v := (M (a + 2)) (p * 6 + k)) dX7_addHabit_14 hg0.2.2.1 rfl (by omega) (by omega) ((congrFun rfl (p * 6 + k)).trans rfl) (pc' := 15) rfl ?_
  refine ax_if_ne (tgt := 27) dX7_addHabit_15 (by decide) (pc' := 18) rfl (fun h15 => ?_) (fun h15 => ?_)
  · refine ax_aload_n dX7_addHabit_27 rfl rfl (pc' := 28) rfl ?_
    refine ax_getr (v := a + 2) dX7_addHabit_28 flX7_15 rfl hg0.1 rfl (pc' := 31) rfl ?_
    refine ax_iload dX7_addHabit_31 rfl (pc' := 33) rfl ?_
    refine ax_bipush dX7_addHabit_33 (by decide) (pc' := 35) rfl ?_
    refine ax_aload_n dX7_addHabit_35 rfl rfl (pc' := 36) rfl ?_
    refine ax_getr (v := a + 2) dX7_addHabit_36 flX7_15 rfl hg0.1 rfl (pc' := 39) rfl ?_
    refine ax_iload dX7_addHabit_39 rfl (pc' := 41) rfl ?_
    refine ax_iald (v := (M (a + 2)) (p * 6 + k)) dX7_addHabit_41 hg0.2.2.1 rfl (by omega) (by omega) ((congrFun rfl (p * 6 + k)).trans rfl) (pc' := 42) rfl ?_
    refine ax_iload_n dX7_addHabit_42 rfl rfl (pc' := 43) rfl ?_
    refine ax_iadd dX7_addHabit_43 (by omega) (pc' := 44) rfl ?_
    refine ax_mmin dX7_addHabit_44 mlX7_58 (Nat.le_of_ble_eq_true rfl) (pc' := 47) rfl ?_
    refine ax_iast dX7_addHabit_47 hg0.2.2.1 rfl (by omega) (by omega) (pc' := 48) rfl ?_
    refine ax_vret dX7_addHabit_48 rfl ?_
    refine ⟨rfl, rfl, ?_, ?_⟩
    · intro x0 i0 hai
      exact (ax_up_miss (fun h => hai (Or.inl h.1)) rfl)
    · refine f_rr_eq (show (ax_up M (a + 2) (p * 6 + k) (min 99 ((M (a + 2)) (p * 6 + k) + mo))) a 1 = M a 1 from (ax_up_miss (by omega) rfl)) (show (ax_up M (a + 2) (p * 6 + k) (min 99 ((M (a + 2)) (p * 6 + k) + mo))) a 2 = M a 2 from (ax_up_miss (by omega) rfl)) (show (ax_up M (a + 2) (p * 6 + k) (min 99 ((M (a + 2)) (p * 6 + k) + mo))) a 3 = M a 3 from (ax_up_miss (by omega) rfl)) (show (ax_up M (a + 2) (p * 6 + k) (min 99 ((M (a + 2)) (p * 6 + k) + mo))) a 4 = M a 4 from (ax_up_miss (by omega) rfl)) (show (ax_up M (a + 2) (p * 6 + k) (min 99 ((M (a + 2)) (p * 6 + k) + mo))) (a + 1) = M (a + 1) from (ax_up_rowmiss (by omega) rfl)) (show (ax_up M (a + 2) (p * 6 + k) (min 99 ((M (a + 2)) (p * 6 + k) + mo))) (a + 2) = f_up (M (a + 2)) (p * 6 + k) (min 99 ((M (a + 2)) (p * 6 + k) + mo)) from (ax_up_rowhit rfl)) (show (ax_up M (a + 2) (p * 6 + k) (min 99 ((M (a + 2)) (p * 6 + k) + mo))) (a + 3) = M (a + 3) from (ax_up_rowmiss (by omega) rfl)) ?_
      refine f_rr_hab hg3 ⟨by omega, by omega⟩ hg5 (by omega) (fun x hx => f_up_o hx) ?_ (fun x hx => by first | exact f_up_o hx | rfl) (fun hv => ?_) hg1
      · rw [f_up_same, q1.1]
      · first
          | (rw [if_pos (by omega), f_up_same]; omega)
          | (rw [if_neg (by omega)]; exact q1.2 (by omega))
  · refine ax_aload_n dX7_addHabit_18 rfl rfl (pc' := 19) rfl ?_
    refine ax_getr (v := a + 3) dX7_addHabit_19 flX7_18 rfl hg0.1 rfl (pc' := 22) rfl ?_
    refine ax_iload dX7_addHabit_22 rfl (pc' := 24) rfl ?_
    refine ax_iload dX7_addHabit_24 rfl (pc' := 26) rfl ?_
    refine ax_iast dX7_addHabit_26 hg0.2.2.2 rfl (by omega) (by omega) (pc' := 27) rfl ?_
    refine ax_aload_n dX7_addHabit_27 rfl rfl (pc' := 28) rfl ?_
    refine ax_getr (v := a + 2) dX7_addHabit_28 flX7_15 rfl hg0.1 rfl (pc' := 31) rfl ?_
    refine ax_iload dX7_addHabit_31 rfl (pc' := 33) rfl ?_
    refine ax_bipush dX7_addHabit_33 (by decide) (pc' := 35) rfl ?_
    refine ax_aload_n dX7_addHabit_35 rfl rfl (pc' := 36) rfl ?_
    refine ax_getr (v := a + 2) dX7_addHabit_36 flX7_15 rfl hg0.1 rfl (pc' := 39) rfl ?_
    refine ax_iload dX7_addHabit_39 rfl (pc' := 41) rfl ?_
    refine ax_iald (v := (M (a + 2)) (p * 6 + k)) dX7_addHabit_41 hg0.2.2.1 rfl (by omega) (by omega) ((congrFun (ax_up_rowmiss (by omega) rfl) (p * 6 + k)).trans rfl) (pc' := 42) rfl ?_
    refine ax_iload_n dX7_addHabit_42 rfl rfl (pc' := 43) rfl ?_
    refine ax_iadd dX7_addHabit_43 (by omega) (pc' := 44) rfl ?_
    refine ax_mmin dX7_addHabit_44 mlX7_58 (Nat.le_of_ble_eq_true rfl) (pc' := 47) rfl ?_
    refine ax_iast dX7_addHabit_47 hg0.2.2.1 rfl (by omega) (by omega) (pc' := 48) rfl ?_
    refine ax_vret dX7_addHabit_48 rfl ?_
    refine ⟨rfl, rfl, ?_, ?_⟩
    · intro x0 i0 hai
      exact (ax_up_miss (fun h => hai (Or.inl h.1)) (ax_up_miss (fun h => hai (Or.inr h.1)) rfl))
    · refine f_rr_eq (show (ax_up (ax_up M (a + 3) (p * 6 + k) dy) (a + 2) (p * 6 + k) (min 99 ((M (a + 2)) (p * 6 + k) + mo))) a 1 = M a 1 from (ax_up_miss (by omega) (ax_up_miss (by omega) rfl))) (show (ax_up (ax_up M (a + 3) (p * 6 + k) dy) (a + 2) (p * 6 + k) (min 99 ((M (a + 2)) (p * 6 + k) + mo))) a 2 = M a 2 from (ax_up_miss (by omega) (ax_up_miss (by omega) rfl))) (show (ax_up (ax_up M (a + 3) (p * 6 + k) dy) (a + 2) (p * 6 + k) (min 99 ((M (a + 2)) (p * 6 + k) + mo))) a 3 = M a 3 from (ax_up_miss (by omega) (ax_up_miss (by omega) rfl))) (show (ax_up (ax_up M (a + 3) (p * 6 + k) dy) (a + 2) (p * 6 + k) (min 99 ((M (a + 2)) (p * 6 + k) + mo))) a 4 = M a 4 from (ax_up_miss (by omega) (ax_up_miss (by omega) rfl))) (show (ax_up (ax_up M (a + 3) (p * 6 + k) dy) (a + 2) (p * 6 + k) (min 99 ((M (a + 2)) (p * 6 + k) + mo))) (a + 1) = M (a + 1) from (ax_up_rowmiss (by omega) (ax_up_rowmiss (by omega) rfl))) (show (ax_up (ax_up M (a + 3) (p * 6 + k) dy) (a + 2) (p * 6 + k) (min 99 ((M (a + 2)) (p * 6 + k) + mo))) (a + 2) = f_up (M (a + 2)) (p * 6 + k) (min 99 ((M (a + 2)) (p * 6 + k) + mo)) from (ax_up_rowhit (ax_up_rowmiss (by omega) rfl))) (show (ax_up (ax_up M (a + 3) (p * 6 + k) dy) (a + 2) (p * 6 + k) (min 99 ((M (a + 2)) (p * 6 + k) + mo))) (a + 3) = f_up (M (a + 3)) (p * 6 + k) dy from (ax_up_rowmiss (by omega) (ax_up_rowhit rfl))) ?_
      refine f_rr_hab hg3 ⟨by omega, by omega⟩ hg5 (by omega) (fun x hx => f_up_o hx) ?_ (fun x hx => by first | exact f_up_o hx | rfl) (fun hv => ?_) hg1
      · rw [f_up_same, q1.1]
      · first
          | (rw [if_pos (by omega), f_up_same]; omega)
          | (rw [if_neg (by omega)]; exact q1.2 (by omega))
set_option maxRecDepth 20000 in
theorem s_X7_tieKnot (E : ax_Env) (l : Launch) (d : Nat) (hd : 2 ≤ d) (M : ax_Mem) (a p k mo dy : Int) (w : Int → Int) (r : Int) (hg0 : f_rp a) (hg1 : f_rm M a w r) (hg2 : f_iv w) (hg3 : 0 ≤ r ∧ r < 8) (hg4 : 0 ≤ p ∧ p < f_R w r 1) (hg5 : 0 ≤ k ∧ k < 6) (hg6 : 0 ≤ mo ∧ mo ≤ 99) (hg7 : dy = w 0) : ax_G E l d iX7_tieKnot [.inr a, .inl p, .inl k, .inl mo, .inl dy] M (fun z0 M2 => z0 = none ∧ (∀ x0 i0 : Int, ¬ (x0 = a + 1 ∨ x0 = a + 2 ∨ x0 = a + 3) → M2 x0 i0 = M x0 i0) ∧ (f_rm M2 a (f_more (f_sP w r p 0 k) r p k mo) r)) := by
  obtain ⟨d, rfl⟩ : ∃ d0, d = d0 + 1 := ⟨d - 1, by omega⟩
  refine ax_start rfl (Nat.le_of_ble_eq_true rfl) (ls := [some (.inr a), some (.inl p), some (.inl k), some (.inl mo), some (.inl dy)]) rfl (fun hav hcm => ?_)
  have hc1 : -2147483648 ≤ p ∧ p < 2147483648 := hav (.inl p) (by simp)
  have hc2 : -2147483648 ≤ k ∧ k < 2147483648 := hav (.inl k) (by simp)
  have hc3 : -2147483648 ≤ mo ∧ mo < 2147483648 := hav (.inl mo) (by simp)
  have hc4 : -2147483648 ≤ dy ∧ dy < 2147483648 := hav (.inl dy) (by simp)
  clear hav
  have ql : M a 1 = f_R w r 1 := hg1.1
  have qlr := (hg2.1 r hg3.1 hg3.2).2
  have qp := hg1.2.2.2.2
  refine ax_aload_n dX7_tieKnot_0 rfl rfl (pc' := 1) rfl ?_
  refine ax_getr (v := a + 1) dX7_tieKnot_1 flX7_9 rfl hg0.1 rfl (pc' := 4) rfl ?_
  refine ax_iload_n dX7_tieKnot_4 rfl rfl (pc' := 5) rfl ?_
  refine ax_iload_n dX7_tieKnot_5 rfl rfl (pc' := 6) rfl ?_
  refine ax_iast dX7_tieKnot_6 hg0.2.1 rfl (by omega) (by omega) (pc' := 7) rfl ?_
  have qe1 : f_R (f_sP w r p 0 k) r 1 = f_R w r 1 := f_R_sP ⟨hg3.1, hg3.2, by omega, by omega, by decide, by decide⟩ ⟨hg3.1, hg3.2, by decide, by decide⟩
  have qe0 : f_sP w r p 0 k 0 = w 0 := f_sP_out ⟨hg3.1, hg3.2, by omega, by omega, by decide, by decide⟩ (by omega)
  have qn : f_rm (ax_up M (a + 1) p k) a (f_sP w r p 0 k) r := by
    refine f_rr_eq (show (ax_up M (a + 1) p k) a 1 = M a 1 from (ax_up_miss (by omega) rfl)) (show (ax_up M (a + 1) p k) a 2 = M a 2 from (ax_up_miss (by omega) rfl)) (show (ax_up M (a + 1) p k) a 3 = M a 3 from (ax_up_miss (by omega) rfl)) (show (ax_up M (a + 1) p k) a 4 = M a 4 from (ax_up_miss (by omega) rfl)) (show (ax_up M (a + 1) p k) (a + 1) = f_up (M (a + 1)) p k from (ax_up_rowhit rfl)) (show (ax_up M (a + 1) p k) (a + 2) = M (a + 2) from (ax_up_rowmiss (by omega) rfl)) (show (ax_up M (a + 1) p k) (a + 3) = M (a + 3) from (ax_up_rowmiss (by omega) rfl)) ?_
    exact f_rr_sP0 hg3 ⟨by omega, by omega⟩ (by omega) (fun x hx => f_up_o hx) (f_up_same _ _ _) hg1
  refine ax_aload_n dX7_tieKnot_7 rfl rfl (pc' := 8) rfl ?_
  refine ax_iload_n dX7_tieKnot_8 rfl rfl (pc' := 9) rfl ?_
  refine ax_iload_n dX7_tieKnot_9 rfl rfl (pc' := 10) rfl ?_
  refine ax_iload_n dX7_tieKnot_10 rfl rfl (pc' := 11) rfl ?_
  refine ax_iload dX7_tieKnot_11 rfl (pc' := 13) rfl ?_
  refine ax_invG [.inl p, .inl k, .inl mo, .inl dy] [] dX7_tieKnot_13 mlX7_64 hg0.1 rfl rfl rfl (Nat.le_of_ble_eq_true rfl) (s_X7_addHabit E l _ (by omega) _ a p k mo dy (f_sP w r p 0 k) r (by first | omega | assumption) qn (f_iv_tied hg3 ⟨by omega, by omega⟩ ⟨by omega, by omega⟩ hg2) (by first | omega | assumption) (by rw [qe1]; exact hg4) (by first | omega | assumption) (by first | omega | assumption) (by rw [qe0]; exact hg7)) (pc' := 16) rfl (fun vv M_13 hq co13 hcm13 => ?_)
  obtain ⟨rfl, frM_13, fa13_0⟩ := hq
  refine ax_reS (st2 := []) rfl ?_
  refine ax_vret dX7_tieKnot_16 rfl ?_
  refine ⟨rfl, rfl, ?_, ?_⟩
  · intro x0 i0 hai
    exact ((frM_13 x0 i0 (fun h => h.elim (fun h => hai (Or.inr (Or.inl h))) (fun h => hai (Or.inr (Or.inr h))))).trans (ax_up_miss (fun h => hai (Or.inl h.1)) rfl))
  · exact fa13_0
set_option maxRecDepth 20000 in
theorem s_X7_wetTo (E : ax_Env) (l : Launch) (d : Nat) (hd : 2 ≤ d) (M : ax_Mem) (a v dy : Int) (w : Int → Int) (r : Int) (hg0 : f_rp a) (hg1 : f_rm M a w r) (hg2 : f_iv w) (hg3 : 0 ≤ r ∧ r < 8) (hg4 : dy = w 0) : ax_G E l d iX7_wetTo [.inr a, .inl v, .inl dy] M (fun z0 M2 => z0 = none ∧ (∀ x0 i0 : Int, ¬ (x0 = a + 2 ∨ x0 = a + 3 ∨ (x0 = a ∧ i0 = 4)) → M2 x0 i0 = M x0 i0) ∧ (f_rm M2 a (f_wets w r v) r)) := by
  obtain ⟨d, rfl⟩ : ∃ d0, d = d0 + 1 := ⟨d - 1, by omega⟩
  refine ax_start rfl (Nat.le_of_ble_eq_true rfl) (ls := [some (.inr a), some (.inl v), some (.inl dy), none, none]) rfl (fun hav hcm => ?_)
  have hc1 : -2147483648 ≤ v ∧ v < 2147483648 := hav (.inl v) (by simp)
  have hc2 : -2147483648 ≤ dy ∧ dy < 2147483648 := hav (.inl dy) (by simp)
  clear hav
  have ql : M a 1 = f_R w r 1 := hg1.1
  have qlr := (hg2.1 r hg3.1 hg3.2).2
  have qp := hg1.2.2.2.2
  refine ax_aload_n dX7_wetTo_0 rfl rfl (pc' := 1) rfl ?_
  refine ax_geti (v := M a 4) dX7_wetTo_1 flX7_35 rfl hg0.1 rfl rfl (pc' := 4) rfl ?_
  refine ax_if_ne (tgt := 49) dX7_wetTo_4 (by decide) (pc' := 7) rfl (fun h4 => ?_) (fun h4 => ?_)
  · have qw4 : M a 4 = f_R w r 4 := hg1.2.2.2.1
    refine ax_aload_n dX7_wetTo_49 rfl rfl (pc' := 50) rfl ?_
    refine ax_iload_n dX7_wetTo_50 rfl rfl (pc' := 51) rfl ?_
    refine ax_puti dX7_wetTo_51 flX7_35 (Or.inl rfl) hg0.1 rfl (pc' := 54) rfl ?_
    refine ax_vret dX7_wetTo_54 rfl ?_
    refine ⟨rfl, rfl, ?_, ?_⟩
    · intro x0 i0 hai
      exact (ax_up_miss (fun h => hai (Or.inr (Or.inr h))) rfl)
    · have qw : f_wets w r v = f_sR w r 4 v := by
        unfold f_wets
        rw [if_neg (by omega)]
      rw [qw]
      refine f_rr_eq (show (ax_up M a 4 v) a 1 = M a 1 from (ax_up_miss (fun h => absurd h.2 (by decide)) rfl)) (show (ax_up M a 4 v) a 2 = M a 2 from (ax_up_miss (fun h => absurd h.2 (by decide)) rfl)) (show (ax_up M a 4 v) a 3 = M a 3 from (ax_up_miss (fun h => absurd h.2 (by decide)) rfl)) (show (ax_up M a 4 v) a 4 = v from (ax_up_hit _ _ _ _)) (show (ax_up M a 4 v) (a + 1) = M (a + 1) from (ax_up_rowmiss (by omega) rfl)) (show (ax_up M a 4 v) (a + 2) = M (a + 2) from (ax_up_rowmiss (by omega) rfl)) (show (ax_up M a 4 v) (a + 3) = M (a + 3) from (ax_up_rowmiss (by omega) rfl)) ?_
      exact f_rr_sR hg3 ⟨by decide, by decide⟩ (by omega) rfl rfl rfl rfl (fun q => absurd q (by decide)) hg1
  · have qw4 : M a 4 = f_R w r 4 := hg1.2.2.2.1
    refine ax_iload_n dX7_wetTo_7 rfl rfl (pc' := 8) rfl ?_
    refine ax_if_le (tgt := 49) dX7_wetTo_8 (by decide) (pc' := 11) rfl (fun h8 => ?_) (fun h8 => ?_)
    · refine ax_aload_n dX7_wetTo_49 rfl rfl (pc' := 50) rfl ?_
      refine ax_iload_n dX7_wetTo_50 rfl rfl (pc' := 51) rfl ?_
      refine ax_puti dX7_wetTo_51 flX7_35 (Or.inl rfl) hg0.1 rfl (pc' := 54) rfl ?_
      refine ax_vret dX7_wetTo_54 rfl ?_
      refine ⟨rfl, rfl, ?_, ?_⟩
      · intro x0 i0 hai
        exact (ax_up_miss (fun h => hai (Or.inr (Or.inr h))) rfl)
      · have qw : f_wets w r v = f_sR w r 4 v := by
          unfold f_wets
          rw [if_neg (by omega)]
        rw [qw]
        refine f_rr_eq (show (ax_up M a 4 v) a 1 = M a 1 from (ax_up_miss (fun h => absurd h.2 (by decide)) rfl)) (show (ax_up M a 4 v) a 2 = M a 2 from (ax_up_miss (fun h => absurd h.2 (by decide)) rfl)) (show (ax_up M a 4 v) a 3 = M a 3 from (ax_up_miss (fun h => absurd h.2 (by decide)) rfl)) (show (ax_up M a 4 v) a 4 = v from (ax_up_hit _ _ _ _)) (show (ax_up M a 4 v) (a + 1) = M (a + 1) from (ax_up_rowmiss (by omega) rfl)) (show (ax_up M a 4 v) (a + 2) = M (a + 2) from (ax_up_rowmiss (by omega) rfl)) (show (ax_up M a 4 v) (a + 3) = M (a + 3) from (ax_up_rowmiss (by omega) rfl)) ?_
        exact f_rr_sR hg3 ⟨by decide, by decide⟩ (by omega) rfl rfl rfl rfl (fun q => absurd q (by decide)) hg1
    · refine ax_iconst dX7_wetTo_11 (by decide) (pc' := 12) rfl ?_
      refine ax_istore_n dX7_wetTo_12 rfl (by decide) (ls' := [some (.inr a), some (.inl v), some (.inl dy), some (.inl 0), none]) rfl (pc' := 13) rfl ?_
      have LP1 : ∀ (kq2 : Nat) (p : Int) (x : Int → Int) (M1 : ax_Mem) (hm1 : f_R w r 1 - p < (kq2 : Nat)) (fr1 : ∀ x0 i0 : Int, ¬ (x0 = a + 2 ∨ x0 = a + 3) → M1 x0 i0 = M x0 i0) (iv1_0 : 0 ≤ p ∧ p ≤ f_R w r 1) (iv1_1 : f_loop (f_wetS r) p (f_R w r 1) x = f_loop (f_wetS r) 0 (f_R w r 1) w) (iv1_2 : f_rm M1 a x r) (iv1_3 : f_iv x) (iv1_4 : f_R x r 1 = f_R w r 1 ∧ x 0 = w 0), ax_W E l (d + 1) 0 0 iX7_wetTo 13 [some (.inr a), some (.inl v), some (.inl dy), some (.inl p), none] [] SH M1 (ax_P (fun z0 M2 => z0 = none ∧ (∀ x0 i0 : Int, ¬ (x0 = a + 2 ∨ x0 = a + 3 ∨ (x0 = a ∧ i0 = 4)) → M2 x0 i0 = M x0 i0) ∧ (f_rm M2 a (f_wets w r v) r))) := by
        intro kq2
        induction kq2 with
        | zero =>
          intro p x M1 hm1 fr1 iv1_0 iv1_1 iv1_2 iv1_3 iv1_4
          exfalso
          omega
        | succ kq2 ih3 =>
          intro p x M1 hm1 fr1 iv1_0 iv1_1 iv1_2 iv1_3 iv1_4
          refine ax_iload_n dX7_wetTo_13 rfl rfl (pc' := 14) rfl ?_
          refine ax_aload_n dX7_wetTo_14 rfl rfl (pc' := 15) rfl ?_
          refine ax_geti (v := M a 1) dX7_wetTo_15 flX7_25 rfl hg0.1 ((fr1 a 1 (by omega)).trans rfl) rfl (pc' := 18) rfl ?_
          refine ax_icmp_ge (tgt := 49) dX7_wetTo_18 (by decide) (pc' := 21) rfl (fun h18 => ?_) (fun h18 => ?_)
          · refine ax_aload_n dX7_wetTo_49 rfl rfl (pc' := 50) rfl ?_
            refine ax_iload_n dX7_wetTo_50 rfl rfl (pc' := 51) rfl ?_
            refine ax_puti dX7_wetTo_51 flX7_35 (Or.inl rfl) hg0.1 rfl (pc' := 54) rfl ?_
            refine ax_vret dX7_wetTo_54 rfl ?_
            refine ⟨rfl, rfl, ?_, ?_⟩
            · intro x0 i0 hai
              exact (ax_up_miss (fun h => hai (Or.inr (Or.inr h))) ((fr1 x0 i0 (fun h => h.elim (fun h => hai (Or.inl h)) (fun h => hai (Or.inr (Or.inl h))))).trans rfl))
            · have qw : f_wets w r v = f_sR (f_loop (f_wetS r) 0 (f_R w r 1) w) r 4 v := by
                unfold f_wets
                rw [if_pos (by omega)]
                exact f_wet_lp hg3 (f_R w r 1).toNat 0 _ w (by omega) (by omega) (by omega)
              rw [qw, ← iv1_1, f_loop_done (by omega)]
              refine f_rr_eq (show (ax_up M1 a 4 v) a 1 = M1 a 1 from (ax_up_miss (fun h => absurd h.2 (by decide)) rfl)) (show (ax_up M1 a 4 v) a 2 = M1 a 2 from (ax_up_miss (fun h => absurd h.2 (by decide)) rfl)) (show (ax_up M1 a 4 v) a 3 = M1 a 3 from (ax_up_miss (fun h => absurd h.2 (by decide)) rfl)) (show (ax_up M1 a 4 v) a 4 = v from (ax_up_hit _ _ _ _)) (show (ax_up M1 a 4 v) (a + 1) = M1 (a + 1) from (ax_up_rowmiss (by omega) rfl)) (show (ax_up M1 a 4 v) (a + 2) = M1 (a + 2) from (ax_up_rowmiss (by omega) rfl)) (show (ax_up M1 a 4 v) (a + 3) = M1 (a + 3) from (ax_up_rowmiss (by omega) rfl)) ?_
              exact f_rr_sR hg3 ⟨by decide, by decide⟩ (by rw [iv1_2.1]; omega) rfl rfl rfl rfl (fun q => absurd q (by decide)) iv1_2
          · refine ax_aload_n dX7_wetTo_21 rfl rfl (pc' := 22) rfl ?_
            refine ax_iload_n dX7_wetTo_22 rfl rfl (pc' := 23) rfl ?_
            refine ax_invG [.inl p] [] dX7_wetTo_23 mlX7_68 hg0.1 rfl rfl rfl (Nat.le_of_ble_eq_true rfl) (s_X7_callAt E l _ (by omega) _ a p x r (by first | omega | assumption) iv1_2 iv1_3 (by first | omega | assumption) (by omega)) (pc' := 26) rfl (fun vv M_23 hq co23 hcm23 => ?_)
            obtain ⟨rfl, rfl, fa23_0⟩ := hq
            refine ax_reS (st2 := [.inl (f_call x r p)]) rfl ?_
            have cc23 : -2147483648 ≤ f_call x r p ∧ f_call x r p < 2147483648 := co23 _ rfl
            have qcr := f_call_rg (w := x) (r := r) (p := p)
            refine ax_istore dX7_wetTo_26 (by decide) (ls' := [some (.inr a), some (.inl v), some (.inl dy), some (.inl p), some (.inl (f_call x r p))]) rfl (pc' := 28) rfl ?_
            refine ax_iload dX7_wetTo_28 rfl (pc' := 30) rfl ?_
            refine ax_iconst dX7_wetTo_30 (by decide) (pc' := 31) rfl ?_
            refine ax_icmp_eq (tgt := 43) dX7_wetTo_31 (by decide) (pc' := 34) rfl (fun h31 => ?_) (fun h31 => ?_)
            · have qn2 : f_rm M1 a (f_wetS r p x) r := by
                unfold f_wetS
                rw [if_pos (by omega)]
                exact iv1_2
              refine ax_iinc dX7_wetTo_43 rfl (by decide) (by omega) (ls' := [some (.inr a), some (.inl v), some (.inl dy), some (.inl (p + 1)), some (.inl (f_call x r p))]) rfl (pc' := 46) rfl ?_
              refine ax_goto dX7_wetTo_46 (pc' := 13) (by decide) ?_
              refine ax_less (ls2 := [some (.inr a), some (.inl v), some (.inl dy), some (.inl (p + 1)), none]) [true, true, true, true, false] rfl ?_
              refine ih3 (p + 1) (f_wetS r p x) M1 ?_ ?_ ?_ ?_ ?_ ?_ ?_
              · omega
              · intro x0 i0 hai
                exact ((fr1 x0 i0 (fun h => h.elim (fun h => hai (Or.inl h)) (fun h => hai (Or.inr h)))).trans rfl)
              · omega
              · exact (f_loop_step (by omega)).symm.trans iv1_1
              · exact qn2
              · exact f_iv_wetS hg3 ⟨by omega, by omega⟩ iv1_3
              · rw [f_R_wetS ⟨hg3.1, hg3.2, by omega, by omega⟩ ⟨hg3.1, hg3.2, by decide, by decide⟩]
                refine ⟨iv1_4.1, ?_⟩
                unfold f_wetS
                split
                · exact iv1_4.2
                · first
                    | exact iv1_4.2
                    | (rw [f_out_more ⟨hg3.1, hg3.2, by omega, by omega, by omega, by omega⟩ 0 (by omega)]
                       exact iv1_4.2)
            · refine ax_aload_n dX7_wetTo_34 rfl rfl (pc' := 35) rfl ?_
              refine ax_iload_n dX7_wetTo_35 rfl rfl (pc' := 36) rfl ?_
              refine ax_iload dX7_wetTo_36 rfl (pc' := 38) rfl ?_
              refine ax_iconst dX7_wetTo_38 (by decide) (pc' := 39) rfl ?_
              refine ax_iload_n dX7_wetTo_39 rfl rfl (pc' := 40) rfl ?_
              refine ax_invG [.inl p, .inl (f_call x r p), .inl 5, .inl dy] [] dX7_wetTo_40 mlX7_64 hg0.1 rfl rfl rfl (Nat.le_of_ble_eq_true rfl) (s_X7_addHabit E l _ (by omega) _ a p (f_call x r p) 5 dy x r (by first | omega | assumption) iv1_2 iv1_3 (by first | omega | assumption) (by omega) ⟨by omega, by omega⟩ (by decide) (by omega)) (pc' := 43) rfl (fun vv M_40 hq co40 hcm40 => ?_)
              obtain ⟨rfl, frM_40, fa40_0⟩ := hq
              refine ax_reS (st2 := []) rfl ?_
              have qn2 : f_rm M_40 a (f_wetS r p x) r := by
                unfold f_wetS
                rw [if_neg (by omega)]
                exact fa40_0
              refine ax_iinc dX7_wetTo_43 rfl (by decide) (by omega) (ls' := [some (.inr a), some (.inl v), some (.inl dy), some (.inl (p + 1)), some (.inl (f_call x r p))]) rfl (pc' := 46) rfl ?_
              refine ax_goto dX7_wetTo_46 (pc' := 13) (by decide) ?_
              refine ax_less (ls2 := [some (.inr a), some (.inl v), some (.inl dy), some (.inl (p + 1)), none]) [true, true, true, true, false] rfl ?_
              refine ih3 (p + 1) (f_wetS r p x) M_40 ?_ ?_ ?_ ?_ ?_ ?_ ?_
              · omega
              · intro x0 i0 hai
                exact ((frM_40 x0 i0 (fun h => h.elim (fun h => hai (Or.inl h)) (fun h => hai (Or.inr h)))).trans ((fr1 x0 i0 (fun h => h.elim (fun h => hai (Or.inl h)) (fun h => hai (Or.inr h)))).trans rfl))
              · omega
              · exact (f_loop_step (by omega)).symm.trans iv1_1
              · exact qn2
              · exact f_iv_wetS hg3 ⟨by omega, by omega⟩ iv1_3
              · rw [f_R_wetS ⟨hg3.1, hg3.2, by omega, by omega⟩ ⟨hg3.1, hg3.2, by decide, by decide⟩]
                refine ⟨iv1_4.1, ?_⟩
                unfold f_wetS
                split
                · exact iv1_4.2
                · first
                    | exact iv1_4.2
                    | (rw [f_out_more ⟨hg3.1, hg3.2, by omega, by omega, by omega, by omega⟩ 0 (by omega)]
                       exact iv1_4.2)
      refine LP1 (f_R w r 1 - 0 : Int).toNat.succ 0 w M ?_ ?_ ?_ ?_ ?_ ?_ ?_
      · omega
      · exact fun a i _ => rfl
      · omega
      · rfl
      · exact hg1
      · exact hg2
      · exact ⟨rfl, rfl⟩
set_option maxRecDepth 20000 in
theorem s_X7_copyFrom (E : ax_Env) (l : Launch) (d : Nat) (hd : 1 ≤ d) (M : ax_Mem) (a b : Int) (w : Int → Int) (r : Int) (hg0 : f_rp a) (hg1 : f_rp b) (hg2 : a + 4 ≤ b ∨ b + 4 ≤ a) (hg3 : f_rm M b w r) (hg4 : f_R w r 1 ≤ 24) (hg5 : M b 0 = 0 ∨ M b 0 = 1) : ax_G E l d iX7_copyFrom [.inr a, .inr b] M (fun z0 M2 => z0 = none ∧ (∀ x0 i0 : Int, ¬ ((a ≤ x0 ∧ x0 < a + 4)) → M2 x0 i0 = M x0 i0) ∧ (f_rm M2 a w r) ∧ (M2 a 0 = M b 0)) := by
  obtain ⟨d, rfl⟩ : ∃ d0, d = d0 + 1 := ⟨d - 1, by omega⟩
  refine ax_start rfl (Nat.le_of_ble_eq_true rfl) (ls := [some (.inr a), some (.inr b)]) rfl (fun hav hcm => ?_)
  clear hav
  have ql : M b 1 = f_R w r 1 := hg3.1
  refine ax_aload_n dX7_copyFrom_0 rfl rfl (pc' := 1) rfl ?_
  refine ax_aload_n dX7_copyFrom_1 rfl rfl (pc' := 2) rfl ?_
  refine ax_geti (v := M b 0) dX7_copyFrom_2 flX7_21 rfl hg1.1 rfl rfl (pc' := 5) rfl ?_
  refine ax_puti dX7_copyFrom_5 flX7_21 (Or.inr ⟨rfl, by first | exact Or.inl rfl | exact Or.inr rfl | omega⟩) hg0.1 rfl (pc' := 8) rfl ?_
  refine ax_aload_n dX7_copyFrom_8 rfl rfl (pc' := 9) rfl ?_
  refine ax_aload_n dX7_copyFrom_9 rfl rfl (pc' := 10) rfl ?_
  refine ax_geti (v := M b 1) dX7_copyFrom_10 flX7_25 rfl hg1.1 (show (ax_up M a 0 (M b 0)) b 1 = M b 1 from (ax_up_miss (by omega) rfl)) rfl (pc' := 13) rfl ?_
  refine ax_puti dX7_copyFrom_13 flX7_25 (Or.inl rfl) hg0.1 rfl (pc' := 16) rfl ?_
  refine ax_aload_n dX7_copyFrom_16 rfl rfl (pc' := 17) rfl ?_
  refine ax_aload_n dX7_copyFrom_17 rfl rfl (pc' := 18) rfl ?_
  refine ax_geti (v := M b 2) dX7_copyFrom_18 flX7_29 rfl hg1.1 (show (ax_up (ax_up M a 0 (M b 0)) a 1 (M b 1)) b 2 = M b 2 from (ax_up_miss (by omega) (ax_up_miss (by omega) rfl))) rfl (pc' := 21) rfl ?_
  refine ax_puti dX7_copyFrom_21 flX7_29 (Or.inl rfl) hg0.1 rfl (pc' := 24) rfl ?_
  refine ax_aload_n dX7_copyFrom_24 rfl rfl (pc' := 25) rfl ?_
  refine ax_aload_n dX7_copyFrom_25 rfl rfl (pc' := 26) rfl ?_
  refine ax_geti (v := M b 3) dX7_copyFrom_26 flX7_32 rfl hg1.1 (show (ax_up (ax_up (ax_up M a 0 (M b 0)) a 1 (M b 1)) a 2 (M b 2)) b 3 = M b 3 from (ax_up_miss (by omega) (ax_up_miss (by omega) (ax_up_miss (by omega) rfl)))) rfl (pc' := 29) rfl ?_
  refine ax_puti dX7_copyFrom_29 flX7_32 (Or.inl rfl) hg0.1 rfl (pc' := 32) rfl ?_
  refine ax_aload_n dX7_copyFrom_32 rfl rfl (pc' := 33) rfl ?_
  refine ax_aload_n dX7_copyFrom_33 rfl rfl (pc' := 34) rfl ?_
  refine ax_geti (v := M b 4) dX7_copyFrom_34 flX7_35 rfl hg1.1 (show (ax_up (ax_up (ax_up (ax_up M a 0 (M b 0)) a 1 (M b 1)) a 2 (M b 2)) a 3 (M b 3)) b 4 = M b 4 from (ax_up_miss (by omega) (ax_up_miss (by omega) (ax_up_miss (by omega) (ax_up_miss (by omega) rfl))))) rfl (pc' := 37) rfl ?_
  refine ax_puti dX7_copyFrom_37 flX7_35 (Or.inl rfl) hg0.1 rfl (pc' := 40) rfl ?_
  refine ax_aload_n dX7_copyFrom_40 rfl rfl (pc' := 41) rfl ?_
  refine ax_getr (v := b + 1) dX7_copyFrom_41 flX7_9 rfl hg1.1 rfl (pc' := 44) rfl ?_
  refine ax_iconst dX7_copyFrom_44 (by decide) (pc' := 45) rfl ?_
  refine ax_aload_n dX7_copyFrom_45 rfl rfl (pc' := 46) rfl ?_
  refine ax_getr (v := a + 1) dX7_copyFrom_46 flX7_9 rfl hg0.1 rfl (pc' := 49) rfl ?_
  refine ax_iconst dX7_copyFrom_49 (by decide) (pc' := 50) rfl ?_
  refine ax_bipush dX7_copyFrom_50 (by decide) (pc' := 52) rfl ?_
  refine ax_copy dX7_copyFrom_52 mlX7_38 hg1.2.1 hg0.2.1 rfl rfl (by omega) (by omega) (by omega) (by omega) (by omega) (Nat.le_of_ble_eq_true rfl) (pc' := 55) rfl ?_
  obtain ⟨MC1, eMC1⟩ : ∃ z, z = ax_cp (ax_up (ax_up (ax_up (ax_up (ax_up M a 0 (M b 0)) a 1 (M b 1)) a 2 (M b 2)) a 3 (M b 3)) a 4 (M b 4)) (b + 1) 0 (a + 1) 0 24 := ⟨_, rfl⟩
  change ax_W _ _ _ _ _ _ _ _ _ _ (ax_cp (ax_up (ax_up (ax_up (ax_up (ax_up M a 0 (M b 0)) a 1 (M b 1)) a 2 (M b 2)) a 3 (M b 3)) a 4 (M b 4)) (b + 1) 0 (a + 1) 0 24) _
  rw [← eMC1]
  have fMC1 := ax_cp_fr eMC1
  have rMC1 := ax_cp_row eMC1 (ax_up_rowmiss (by omega) (ax_up_rowmiss (by omega) (ax_up_rowmiss (by omega) (ax_up_rowmiss (by omega) (ax_up_rowmiss (by omega) rfl))))) (ax_up_rowmiss (by omega) (ax_up_rowmiss (by omega) (ax_up_rowmiss (by omega) (ax_up_rowmiss (by omega) (ax_up_rowmiss (by omega) rfl)))))
  refine ax_aload_n dX7_copyFrom_55 rfl rfl (pc' := 56) rfl ?_
  refine ax_getr (v := b + 2) dX7_copyFrom_56 flX7_15 rfl hg1.1 rfl (pc' := 59) rfl ?_
  refine ax_iconst dX7_copyFrom_59 (by decide) (pc' := 60) rfl ?_
  refine ax_aload_n dX7_copyFrom_60 rfl rfl (pc' := 61) rfl ?_
  refine ax_getr (v := a + 2) dX7_copyFrom_61 flX7_15 rfl hg0.1 rfl (pc' := 64) rfl ?_
  refine ax_iconst dX7_copyFrom_64 (by decide) (pc' := 65) rfl ?_
  refine ax_sipush dX7_copyFrom_65 (by decide) (pc' := 68) rfl ?_
  refine ax_copy dX7_copyFrom_68 mlX7_38 hg1.2.2.1 hg0.2.2.1 rfl rfl (by omega) (by omega) (by omega) (by omega) (by omega) (Nat.le_of_ble_eq_true rfl) (pc' := 71) rfl ?_
  obtain ⟨MC2, eMC2⟩ : ∃ z, z = ax_cp MC1 (b + 2) 0 (a + 2) 0 144 := ⟨_, rfl⟩
  change ax_W _ _ _ _ _ _ _ _ _ _ (ax_cp MC1 (b + 2) 0 (a + 2) 0 144) _
  rw [← eMC2]
  have fMC2 := ax_cp_fr eMC2
  have rMC2 := ax_cp_row eMC2 ((funext fun i0 => fMC1 (b + 2) i0 (by omega)).trans (ax_up_rowmiss (by omega) (ax_up_rowmiss (by omega) (ax_up_rowmiss (by omega) (ax_up_rowmiss (by omega) (ax_up_rowmiss (by omega) rfl)))))) ((funext fun i0 => fMC1 (a + 2) i0 (by omega)).trans (ax_up_rowmiss (by omega) (ax_up_rowmiss (by omega) (ax_up_rowmiss (by omega) (ax_up_rowmiss (by omega) (ax_up_rowmiss (by omega) rfl))))))
  refine ax_aload_n dX7_copyFrom_71 rfl rfl (pc' := 72) rfl ?_
  refine ax_getr (v := b + 3) dX7_copyFrom_72 flX7_18 rfl hg1.1 rfl (pc' := 75) rfl ?_
  refine ax_iconst dX7_copyFrom_75 (by decide) (pc' := 76) rfl ?_
  refine ax_aload_n dX7_copyFrom_76 rfl rfl (pc' := 77) rfl ?_
  refine ax_getr (v := a + 3) dX7_copyFrom_77 flX7_18 rfl hg0.1 rfl (pc' := 80) rfl ?_
  refine ax_iconst dX7_copyFrom_80 (by decide) (pc' := 81) rfl ?_
  refine ax_sipush dX7_copyFrom_81 (by decide) (pc' := 84) rfl ?_
  refine ax_copy dX7_copyFrom_84 mlX7_38 hg1.2.2.2 hg0.2.2.2 rfl rfl (by omega) (by omega) (by omega) (by omega) (by omega) (Nat.le_of_ble_eq_true rfl) (pc' := 87) rfl ?_
  obtain ⟨MC3, eMC3⟩ : ∃ z, z = ax_cp MC2 (b + 3) 0 (a + 3) 0 144 := ⟨_, rfl⟩
  change ax_W _ _ _ _ _ _ _ _ _ _ (ax_cp MC2 (b + 3) 0 (a + 3) 0 144) _
  rw [← eMC3]
  have fMC3 := ax_cp_fr eMC3
  have rMC3 := ax_cp_row eMC3 ((funext fun i0 => fMC2 (b + 3) i0 (by omega)).trans ((funext fun i0 => fMC1 (b + 3) i0 (by omega)).trans (ax_up_rowmiss (by omega) (ax_up_rowmiss (by omega) (ax_up_rowmiss (by omega) (ax_up_rowmiss (by omega) (ax_up_rowmiss (by omega) rfl))))))) ((funext fun i0 => fMC2 (a + 3) i0 (by omega)).trans ((funext fun i0 => fMC1 (a + 3) i0 (by omega)).trans (ax_up_rowmiss (by omega) (ax_up_rowmiss (by omega) (ax_up_rowmiss (by omega) (ax_up_rowmiss (by omega) (ax_up_rowmiss (by omega) rfl)))))))
  refine ax_vret dX7_copyFrom_87 rfl ?_
  refine ⟨rfl, rfl, ?_, ?_, ?_⟩
  · intro x0 i0 hai
    exact ((fMC3 x0 i0 (by omega)).trans ((fMC2 x0 i0 (by omega)).trans ((fMC1 x0 i0 (by omega)).trans (ax_up_miss (by omega) (ax_up_miss (by omega) (ax_up_miss (by omega) (ax_up_miss (by omega) (ax_up_miss (by omega) rfl))))))))
  · refine f_rr_eq (show MC3 a 1 = M b 1 from ((fMC3 a 1 (by omega)).trans ((fMC2 a 1 (by omega)).trans ((fMC1 a 1 (by omega)).trans (ax_up_miss (fun h => absurd h.2 (by decide)) (ax_up_miss (fun h => absurd h.2 (by decide)) (ax_up_miss (fun h => absurd h.2 (by decide)) (ax_up_hit _ _ _ _)))))))) (show MC3 a 2 = M b 2 from ((fMC3 a 2 (by omega)).trans ((fMC2 a 2 (by omega)).trans ((fMC1 a 2 (by omega)).trans (ax_up_miss (fun h => absurd h.2 (by decide)) (ax_up_miss (fun h => absurd h.2 (by decide)) (ax_up_hit _ _ _ _))))))) (show MC3 a 3 = M b 3 from ((fMC3 a 3 (by omega)).trans ((fMC2 a 3 (by omega)).trans ((fMC1 a 3 (by omega)).trans (ax_up_miss (fun h => absurd h.2 (by decide)) (ax_up_hit _ _ _ _)))))) (show MC3 a 4 = M b 4 from ((fMC3 a 4 (by omega)).trans ((fMC2 a 4 (by omega)).trans ((fMC1 a 4 (by omega)).trans (ax_up_hit _ _ _ _))))) (show MC3 (a + 1) = f_cp (M (b + 1)) 0 (M (a + 1)) 0 24 from ((funext fun i0 => fMC3 (a + 1) i0 (by omega)).trans ((funext fun i0 => fMC2 (a + 1) i0 (by omega)).trans rMC1))) (show MC3 (a + 2) = f_cp (M (b + 2)) 0 (M (a + 2)) 0 144 from ((funext fun i0 => fMC3 (a + 2) i0 (by omega)).trans rMC2)) (show MC3 (a + 3) = f_cp (M (b + 3)) 0 (M (a + 3)) 0 144 from rMC3) ?_
    exact f_rr_cp (by omega) hg3
  · exact ((fMC3 a 0 (by omega)).trans ((fMC2 a 0 (by omega)).trans ((fMC1 a 0 (by omega)).trans (ax_up_miss (fun h => absurd h.2 (by decide)) (ax_up_miss (fun h => absurd h.2 (by decide)) (ax_up_miss (fun h => absurd h.2 (by decide)) (ax_up_miss (fun h => absurd h.2 (by decide)) (ax_up_hit _ _ _ _))))))))
