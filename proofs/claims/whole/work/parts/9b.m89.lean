/-! single acts, more -/
theorem f_ag_splice {w : Int → Int} {a b : Int} (ha : 0 ≤ a ∧ a < 8) (hb : 0 ≤ b ∧ b < 8) (hn : 1 ≤ f_R w a 1 ∧ f_R w a 1 + f_R w b 1 ≤ 24) (hb1 : 0 ≤ f_R w b 1) (hw : 0 ≤ w 1 ∧ w 1 ≤ 200) : f_ag w (f_splice w a b) := by
  have h1 : f_ag w (f_sp1 w a (f_R w a 1) b) := by
    unfold f_sp1
    refine f_loop_inv (P := fun x => f_ag w x) (f_sm_note hw).1 (fun k x k1 k2 hx i u v => ?_)
    unfold f_spS
    rw [f_hab_out ⟨hb.1, hb.2, by omega, by omega, k1, k2⟩ (by omega), f_hab_out ⟨ha.1, ha.2, by omega, by omega, k1, k2⟩ (by omega)]
    exact hx i u v
  have h2 : f_ag w (f_sp2 w a (f_R w a 1) b) := by
    unfold f_sp2
    exact f_loop_inv (P := fun x => f_ag w x) h1 (fun q x q1 q2 hx i u v => (f_out_ag (f_out_cpy ha ⟨by omega, by omega⟩) i u v).trans (hx i u v))
  intro i u v
  unfold f_splice f_sp4 f_sp3
  rw [f_sR_out ⟨hb.1, hb.2, by omega, by omega⟩ (by omega), f_sR_out ⟨ha.1, ha.2, by omega, by omega⟩ (by omega), f_sR_out ⟨ha.1, ha.2, by omega, by omega⟩ (by omega)]
  exact h2 i u v
theorem f_jv_splice {Ls : Int → List f_Ln} {w : Int → Int} {a b : Int} (ha : 0 ≤ a ∧ a < 8) (hb : 0 ≤ b ∧ b < 8) (hab : a ≠ b) (h0 : f_R w a 0 = 1 ∧ f_R w b 0 = 1) (hn : f_R w a 1 + f_R w b 1 ≤ 24) (hw : f_jv Ls w) : f_jv Ls (f_splice w a b) := by
  have ea := hw.2.1 a ha.1 ha.2
  have eb := hw.2.1 b hb.1 hb.2
  have la := ea.2 h0.1
  have lb := eb.2 h0.2
  have h2 := (f_iv_sp2 ha hb ⟨by omega, hn⟩ hw.1).2
  refine ⟨f_iv_splice ha hb ⟨by omega, hn⟩ hw.1, fun s s1 s2 => ?_, f_lw_of (f_ag_splice ha hb ⟨by omega, hn⟩ (by omega) hw.1.2.2.2.1) hw.2.2⟩
  have es := hw.2.1 s s1 s2
  have k3 : ∀ r f, 0 ≤ r → r < 8 → 0 ≤ f → f < 8 → f_R (f_sp3 w a (f_R w a 1) b) r f = if r = a ∧ f = 1 then f_R w a 1 + f_R w b 1 else f_R w r f := by
    intro r f r1 r2 f1 f2
    unfold f_sp3
    rw [f_R_sR ⟨ha.1, ha.2, by decide, by decide⟩ ⟨r1, r2, f1, f2⟩, h2 r f ⟨r1, r2, f1, f2⟩, h2 b 1 ⟨hb.1, hb.2, by decide, by decide⟩]
  have k4 : ∀ r f, 0 ≤ r → r < 8 → 0 ≤ f → f < 8 → f_R (f_sp4 w a (f_R w a 1) b) r f = if r = a ∧ f = 4 then max (f_R w a 4) (f_R w b 4) else if r = a ∧ f = 1 then f_R w a 1 + f_R w b 1 else f_R w r f := by
    intro r f r1 r2 f1 f2
    unfold f_sp4
    rw [f_R_sR ⟨ha.1, ha.2, by decide, by decide⟩ ⟨r1, r2, f1, f2⟩, k3 r f r1 r2 f1 f2, k3 a 4 ha.1 ha.2 (by decide) (by decide), k3 b 4 hb.1 hb.2 (by decide) (by decide), if_neg (by omega : ¬ (a = a ∧ (4 : Int) = 1)), if_neg (by omega : ¬ (b = a ∧ (4 : Int) = 1))]
  have k5 : ∀ f, 0 ≤ f → f < 8 → f_R (f_splice w a b) s f = if s = b ∧ f = 0 then 0 else f_R (f_sp4 w a (f_R w a 1) b) s f := by
    intro f f1 f2
    unfold f_splice
    rw [f_R_sR ⟨hb.1, hb.2, by decide, by decide⟩ ⟨s1, s2, f1, f2⟩]
  rw [k5 4 (by decide) (by decide), k5 0 (by decide) (by decide), k5 1 (by decide) (by decide), k4 s 4 s1 s2 (by decide) (by decide), k4 s 0 s1 s2 (by decide) (by decide), k4 s 1 s1 s2 (by decide) (by decide)]
  rw [if_neg (by omega : ¬ (s = b ∧ (4 : Int) = 0)), if_neg (by omega : ¬ (s = b ∧ (1 : Int) = 0)), if_neg (by omega : ¬ (s = a ∧ (0 : Int) = 4)), if_neg (by omega : ¬ (s = a ∧ (0 : Int) = 1)), if_neg (by omega : ¬ (s = a ∧ (1 : Int) = 4)), if_neg (by omega : ¬ (s = a ∧ (4 : Int) = 1))]
  constructor
  · split
    · omega
    · exact es.1
  · intro h
    by_cases e : s = a
    · rw [if_pos ⟨e, rfl⟩]
      omega
    · rw [if_neg (by omega)]
      by_cases e2 : s = b
      · rw [e2]
        exact lb
      · rw [if_neg (by omega)] at h
        exact es.2 h
theorem f_IV_lr {M N : ax_Mem} {Ls Lk : Int → List f_Ln} {w kp bk ta w2 : Int → Int} {m im tn fk fp : Int} (h : f_IV M Ls Lk w kp bk ta m im tn fk fp) (hf : ∀ x i, ¬ ((49 ≤ x ∧ x ≤ 51) ∨ (x = 39 ∧ (i = 6 ∨ i = 8))) → N x i = M x i) (hw : ∀ i, ¬ (2577 ≤ i ∧ i < 2600) → w2 i = w i) (h3 : f_tl N 39 w2) (h4 : f_or N 39 w2) (h5 : 0 ≤ w2 2577 ∧ w2 2577 ≤ 6) (h6 : 0 ≤ w2 2578 ∧ w2 2578 ≤ 7) (h7 : ∀ i, 0 ≤ i → i < w2 2578 → 1 ≤ w2 (2592 + i) ∧ w2 (2592 + i) ≤ 24) : f_IV N Ls Lk w2 kp bk ta m im tn fk fp := by
  have hh := h
  obtain ⟨⟨a1, a2, a3⟩, ⟨b1, b2⟩, c, ⟨d1, d2, d3, d4⟩, ⟨e1, e2⟩, -⟩ := hh
  refine f_IV_lo h (fun x i hx => hf x i (by unfold f_re at hx; omega)) (fun i hi => hw i (by omega)) (f_lw_2 (fun i hi => hw i (by omega)) a2.2.2) ⟨f_dr_a (fun i hi => hw i (by omega)) a3.1, f_dr2_a (fun i hi => hw i (by omega)) a3.1 a3.2.1, f_shp_a (fun i x1 x2 => hw i (by omega)) a3.2.2.1, h5, h6, h7⟩ ⟨f_lrn_fr (fun x i hx => hf x i (by omega)) c.1, f_dm_a (fun i hi => hw i (by omega)) a3.1 (f_dm_fr (fun x i hx => hf x i (by omega)) c.2.1), f_lt_a (fun i x1 x2 => hw i (by omega)) a3.2.2.1 (fun j j1 j2 => ?_), h3, h4⟩ ⟨?_, d3, d4⟩ ⟨?_, ?_⟩
  · have q := c.2.2.1 j j1 j2
    rw [hf (39 + 9) j (by omega)]
    refine ⟨q.1, fun i i1 i2 => ?_⟩
    rw [hf (39 + 8) _ (by omega)]
    exact q.2 i i1 i2
  · rw [hf 58 1 (by decide)]; exact d2
  · rw [hf 58 2 (by decide)]; exact e1
  · rw [hf 58 3 (by decide)]; exact e2
theorem f_or_k {M N : ax_Mem} {w w2 : Int → Int} (h0 : 0 ≤ w 2578 ∧ w 2578 ≤ 7) (hf : N 51 = M 51 ∧ N 39 8 = M 39 8) (hw : ∀ i, i = 2578 ∨ (2592 ≤ i ∧ i < 2599) → w2 i = w i) (h : f_or M 39 w) : f_or N 39 w2 := f_or_a hw h0 ⟨by rw [hf.2]; exact h.1, fun i i1 i2 => by
  show N 51 i = _
  rw [hf.1]
  exact h.2 i i1 i2⟩
theorem f_tl_k {M N : ax_Mem} {w w2 : Int → Int} (h0 : 0 ≤ w 2577 ∧ w 2577 ≤ 6) (hf : N 49 = M 49 ∧ N 50 = M 50 ∧ N 39 6 = M 39 6) (hw : ∀ i, 2577 ≤ i → i < 2592 → i ≠ 2578 → w2 i = w i) (h : f_tl M 39 w) : f_tl N 39 w2 := by
  unfold f_tl
  rw [hw 2577 (by decide) (by decide) (by decide), hf.2.2]
  refine ⟨h.1, fun i i1 i2 => ?_⟩
  have q := h.2 i i1 i2
  show N 49 i = _ ∧ N 50 i = _
  rw [hf.1, hf.2.1, hw (2580 + 2 * i) (by omega) (by omega) (by omega), hw (2580 + 2 * i + 1) (by omega) (by omega) (by omega)]
  exact q
theorem f_ord_ex {w : Int → Int} (h : f_lq w) : ∃ os : List Int, f_ord w 0 os ∧ (os.length : Int) = w 2578 ∧ w 2578 ≤ 7 := by
  obtain ⟨h1, h2, h3, h4, h5, h6⟩ := h
  have key : ∀ (n : Nat) (i : Int), 0 ≤ i → i + (n : Int) = w 2578 → ∃ os : List Int, f_ord w i os ∧ os.length = n := by
    intro n
    induction n with
    | zero => exact fun i _ _ => ⟨[], trivial, rfl⟩
    | succ n ih =>
      intro i i1 i2
      obtain ⟨os, o1, o2⟩ := ih (i + 1) (by omega) (by omega)
      exact ⟨w (2592 + i) :: os, ⟨rfl, h6 i i1 (by omega), o1⟩, by rw [List.length_cons, o2]⟩
  obtain ⟨os, o1, o2⟩ := key (w 2578).toNat 0 (Int.le_refl 0) (by omega)
  exact ⟨os, o1, by omega, h5.2⟩
