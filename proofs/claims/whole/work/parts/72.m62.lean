/-! splices of the class -/
theorem f_spl_P {w : Int → Int} {a b r q f : Int} (ha : 0 ≤ a ∧ a < 8) (hb : 0 ≤ b ∧ b < 8) (hr : 0 ≤ r ∧ r < 8 ∧ 0 ≤ q ∧ q < 24 ∧ 0 ≤ f ∧ f < 13) : f_P (f_splice w a b) r q f = f_P (f_sp2 w a (f_R w a 1) b) r q f := by
  unfold f_splice f_sp4 f_sp3
  rw [f_P_sR ⟨hb.1, hb.2, by decide, by decide⟩ hr, f_P_sR ⟨ha.1, ha.2, by decide, by decide⟩ hr, f_P_sR ⟨ha.1, ha.2, by decide, by decide⟩ hr]
theorem f_spl_R {w : Int → Int} {a b : Int} (ha : 0 ≤ a ∧ a < 8) (hb : 0 ≤ b ∧ b < 8) (hn : a ≠ b) (hp : 1 ≤ f_R w a 1 ∧ f_R w a 1 + f_R w b 1 ≤ 24) (hl : 0 ≤ f_R w b 1) (h1 : 0 ≤ w 1) : (f_R (f_splice w a b) a 0 = f_R w a 0 ∧ f_R (f_splice w a b) a 1 = f_R w a 1 + f_R w b 1) ∧ (f_R (f_splice w a b) a 2 = f_R w a 2 ∧ f_R (f_splice w a b) a 3 = f_R w a 3) ∧ f_R (f_splice w a b) a 4 = max (f_R w a 4) (f_R w b 4) ∧ f_R (f_splice w a b) b 0 = 0 := by
  have hI := f_sp1_I (w := w) (n := f_R w a 1) ha hb hn ⟨hp.1, by omega⟩
  have h2 := f_sp2_I (w := w) (n := f_R w a 1) ha hb hn hp hl
  have rA : ∀ f, 0 ≤ f → f < 8 → f_R (f_sp2 w a (f_R w a 1) b) a f = f_R w a f := fun f f1 f2 => by
    rw [h2.2.2 f ⟨f1, f2⟩, hI.2.2.1 a f ⟨ha.1, ha.2, f1, f2⟩, f_R_note h1 ⟨ha.1, ha.2, f1, f2⟩]
  have rB : ∀ f, 0 ≤ f → f < 8 → f_R (f_sp2 w a (f_R w a 1) b) b f = f_R w b f := fun f f1 f2 => by
    rw [f_onl_R h2.1 (fun e => hn e.symm) ⟨f1, f2⟩, hI.2.2.1 b f ⟨hb.1, hb.2, f1, f2⟩, f_R_note h1 ⟨hb.1, hb.2, f1, f2⟩]
  have s3 : ∀ r f, 0 ≤ r ∧ r < 8 → 0 ≤ f ∧ f < 8 → f_R (f_sp3 w a (f_R w a 1) b) r f = if r = a ∧ f = 1 then f_R w a 1 + f_R w b 1 else f_R (f_sp2 w a (f_R w a 1) b) r f := fun r f hr hf => by
    unfold f_sp3
    rw [f_R_sR ⟨ha.1, ha.2, by decide, by decide⟩ ⟨hr.1, hr.2, hf.1, hf.2⟩, rB 1 (by decide) (by decide)]
  have s5 : ∀ r f, 0 ≤ r ∧ r < 8 → 0 ≤ f ∧ f < 8 → f_R (f_splice w a b) r f = if r = b ∧ f = 0 then 0 else if r = a ∧ f = 4 then max (f_R w a 4) (f_R w b 4) else f_R (f_sp3 w a (f_R w a 1) b) r f := fun r f hr hf => by
    unfold f_splice f_sp4
    rw [f_R_sR ⟨hb.1, hb.2, by decide, by decide⟩ ⟨hr.1, hr.2, hf.1, hf.2⟩, f_R_sR ⟨ha.1, ha.2, by decide, by decide⟩ ⟨hr.1, hr.2, hf.1, hf.2⟩, s3 a 4 ha (by decide), s3 b 4 hb (by decide), if_neg (c := a = a ∧ (4 : Int) = 1) (by omega), if_neg (c := b = a ∧ (4 : Int) = 1) (by omega), rA 4 (by decide) (by decide), rB 4 (by decide) (by decide)]
  refine ⟨⟨?_, ?_⟩, ⟨?_, ?_⟩, ?_, ?_⟩
  · rw [s5 a 0 ha (by decide), if_neg (by omega), if_neg (by omega), s3 a 0 ha (by decide), if_neg (by omega), rA 0 (by decide) (by decide)]
  · rw [s5 a 1 ha (by decide), if_neg (by omega), if_neg (by omega), s3 a 1 ha (by decide), if_pos ⟨rfl, rfl⟩]
  · rw [s5 a 2 ha (by decide), if_neg (by omega), if_neg (by omega), s3 a 2 ha (by decide), if_neg (by omega), rA 2 (by decide) (by decide)]
  · rw [s5 a 3 ha (by decide), if_neg (by omega), if_neg (by omega), s3 a 3 ha (by decide), if_neg (by omega), rA 3 (by decide) (by decide)]
  · rw [s5 a 4 ha (by decide), if_neg (by omega), if_pos ⟨rfl, rfl⟩]
  · rw [s5 b 0 hb (by decide), if_pos ⟨rfl, rfl⟩]
theorem f_cp_lo {g h : Int → Int} {s n l x : Int} (hx : x < n) : f_cp g s h n l x = h x := by
  unfold f_cp
  rw [if_neg (by omega)]
theorem f_cp_hi {g h : Int → Int} {s n l x y : Int} (hx : n ≤ x ∧ x < n + l) (hy : y = s + (x - n)) : f_cp g s h n l x = g y := by
  unfold f_cp
  rw [if_pos hx, hy]
theorem f_fst_sx {w : Int → Int} {a p b k sA sB : Int} (h0 : 0 ≤ f_P w b 0 (1 + k)) (hz : f_mx w a p b k ≠ 0) (hA : f_P w a p (1 + k) ≠ 0 → sA = f_P w a p (7 + k)) (hB : f_P w b 0 (1 + k) ≠ 0 → sB = f_P w b 0 (7 + k)) : f_fst (f_P w a p (1 + k)) (f_P w b 0 (1 + k)) sA sB = f_sx w a p b k := by
  unfold f_sx f_snb f_fst
  rw [if_neg hz]
  unfold f_mx at hz
  by_cases h1 : f_P w a p (1 + k) = 0
  · rw [if_pos (Or.inl h1), if_pos h1]
    exact hB (by omega)
  · rw [if_neg (c := f_P w a p (1 + k) = 0) h1]
    have eA := hA h1
    by_cases h2 : f_P w b 0 (1 + k) = 0
    · rw [if_pos h2, if_neg (by omega)]
      exact eA
    · rw [if_neg h2]
      have eB := hB h2
      by_cases h3 : sB < sA
      · rw [if_pos (Or.inr ⟨by omega, h3⟩)]
        omega
      · rw [if_neg (by omega)]
        omega
theorem f_rr_splice {la oa ba wa lb ob bb wb : Int} {ta hA sA tb hB sB w : Int → Int} {a b : Int} (ha : 0 ≤ a ∧ a < 8) (hb : 0 ≤ b ∧ b < 8) (hn : a ≠ b) (hp : 1 ≤ f_R w a 1 ∧ f_R w a 1 + f_R w b 1 ≤ 24) (hl : 1 ≤ f_R w b 1) (hw : f_iv w) (rA : f_rr la oa ba wa ta hA sA w a) (rB : f_rr lb ob bb wb tb hB sB w b) : f_rr (la + lb) oa ba (max wa wb) (f_cp tb 0 ta la lb) (f_hM (f_cp hB (0 * 6) hA (la * 6) (lb * 6)) la 6) (f_sM (f_cp hB (0 * 6) hA (la * 6) (lb * 6)) (f_cp sB (0 * 6) sA (la * 6) (lb * 6)) la 6) (f_splice w a b) a := by
  have h1 : 0 ≤ w 1 := hw.2.2.2.1.1
  have hI := f_sp1_I (w := w) (n := f_R w a 1) ha hb hn ⟨hp.1, by omega⟩
  have h2 := f_sp2_I (w := w) (n := f_R w a 1) ha hb hn hp (by omega)
  have hR := f_spl_R (w := w) ha hb hn hp (by omega) h1
  obtain ⟨a1, a2, a3, a4, a5⟩ := rA
  obtain ⟨b1, b2, b3, b4, b5⟩ := rB
  have nP : ∀ r q f, 0 ≤ r ∧ r < 8 ∧ 0 ≤ q ∧ q < 24 ∧ 0 ≤ f ∧ f < 13 → f_P (f_note w a (f_R w a 1) b 4 (-1)) r q f = f_P w r q f := fun r q f h => f_P_note h1 h
  have mxe : ∀ k, 0 ≤ k → k < 6 → f_mx (f_note w a (f_R w a 1) b 4 (-1)) a (f_R w a 1 - 1) b k = f_mx w a (f_R w a 1 - 1) b k ∧ f_sx (f_note w a (f_R w a 1) b 4 (-1)) a (f_R w a 1 - 1) b k = f_sx w a (f_R w a 1 - 1) b k := fun k k1 k2 => by
    unfold f_sx f_snb f_mx
    rw [nP a (f_R w a 1 - 1) (1 + k) (by omega), nP b 0 (1 + k) (by omega), nP a (f_R w a 1 - 1) (7 + k) (by omega), nP b 0 (7 + k) (by omega)]
    exact ⟨rfl, rfl⟩
  refine ⟨?_, a2.trans hR.2.1.1.symm, a3.trans hR.2.1.2.symm, ?_, fun q q1 q2 => ?_⟩
  · rw [hR.1.2, a1, b1]
  · rw [hR.2.2.1, a4, b4]
  have pq : ∀ f, 0 ≤ f → f < 13 → f_P (f_splice w a b) a q f = if f_R w a 1 ≤ q ∧ q < f_R w a 1 + f_R w b 1 then f_P (f_sp1 w a (f_R w a 1) b) b (q - f_R w a 1) f else f_P (f_sp1 w a (f_R w a 1) b) a q f := fun f f1 f2 => by
    rw [f_spl_P ha hb ⟨ha.1, ha.2, q1, by omega, f1, f2⟩, h2.2.1 q f ⟨q1, by omega⟩ ⟨f1, f2⟩]
  by_cases hq : q < la
  · have p0 : ∀ f, 0 ≤ f → f < 13 → f_P (f_splice w a b) a q f = f_P (f_sp1 w a (f_R w a 1) b) a q f := fun f f1 f2 => by rw [pq f f1 f2, if_neg (by omega)]
    have a6 := a5 q q1 hq
    rw [f_cp_lo hq, p0 0 (by decide) (by decide), hI.1 a q 0 (by omega) (by omega), nP a q 0 (by omega)]
    refine ⟨a6.1, fun k k1 k2 => ?_⟩
    have a7 := a6.2 k k1 k2
    rw [p0 (1 + k) (by omega) (by omega), p0 (7 + k) (by omega) (by omega)]
    by_cases hq2 : q = la - 1
    · have b7 := (b5 0 (by decide) (by omega)).2 k k1 k2
      have e1 := (hI.2.1 k k1 k2).1
      have eq1 : q = f_R w a 1 - 1 := by omega
      rw [eq1] at a7 ⊢
      rw [e1.1, e1.2, (mxe k k1 k2).1, (mxe k k1 k2).2]
      have hx1 : f_cp hB (0 * 6) hA (la * 6) (lb * 6) ((f_R w a 1 - 1) * 6 + k) = f_P w a (f_R w a 1 - 1) (1 + k) := (f_cp_lo (by omega)).trans a7.1
      have hx2 : f_cp hB (0 * 6) hA (la * 6) (lb * 6) ((f_R w a 1 - 1) * 6 + k + 6) = f_P w b 0 (1 + k) := (f_cp_hi (y := 0 * 6 + k) (by omega) (by omega)).trans b7.1
      have eM : f_hM (f_cp hB (0 * 6) hA (la * 6) (lb * 6)) la 6 ((f_R w a 1 - 1) * 6 + k) = f_mx w a (f_R w a 1 - 1) b k := by
        unfold f_hM
        rw [if_pos (by omega), hx1, hx2]
        rfl
      refine ⟨eM, fun hz => ?_⟩
      have hr := f_rg_h hw hb (p := 0) (k := k) (by omega) ⟨k1, k2⟩
      unfold f_sM
      rw [if_pos (by omega), hx1, hx2]
      exact f_fst_sx hr.1.1 hz (fun z => (f_cp_lo (by omega)).trans (a7.2 z)) (fun z => (f_cp_hi (y := 0 * 6 + k) (by omega) (by omega)).trans (b7.2 z))
    · rw [hI.1 a q (1 + k) (by omega) (by omega), hI.1 a q (7 + k) (by omega) (by omega), nP a q (1 + k) (by omega), nP a q (7 + k) (by omega)]
      unfold f_hM f_sM
      rw [if_neg (by omega), if_neg (by omega), if_neg (by omega), if_neg (by omega), f_cp_lo (by omega), f_cp_lo (by omega)]
      exact a7
  · have p0 : ∀ f, 0 ≤ f → f < 13 → f_P (f_splice w a b) a q f = f_P (f_sp1 w a (f_R w a 1) b) b (q - la) f := fun f f1 f2 => by rw [pq f f1 f2, if_pos (by omega), a1]
    have b6 := b5 (q - la) (by omega) (by omega)
    rw [f_cp_hi (y := q - la) (by omega) (by omega), p0 0 (by decide) (by decide), hI.1 b (q - la) 0 (by omega) (by omega), nP b (q - la) 0 (by omega)]
    refine ⟨b6.1, fun k k1 k2 => ?_⟩
    have b7 := b6.2 k k1 k2
    rw [p0 (1 + k) (by omega) (by omega), p0 (7 + k) (by omega) (by omega)]
    by_cases hq2 : q = la
    · have a7 := (a5 (la - 1) (by omega) (by omega)).2 k k1 k2
      have e1 := (hI.2.1 k k1 k2).2
      rw [show q - la = 0 by omega] at b7 ⊢
      rw [e1.1, e1.2, (mxe k k1 k2).1, (mxe k k1 k2).2, hq2]
      rw [a1] at a7
      have hx1 : f_cp hB (0 * 6) hA (la * 6) (lb * 6) (la * 6 + k - 6) = f_P w a (f_R w a 1 - 1) (1 + k) := by
        rw [show la * 6 + k - 6 = (f_R w a 1 - 1) * 6 + k by omega]
        exact (f_cp_lo (by omega)).trans a7.1
      have hx2 : f_cp hB (0 * 6) hA (la * 6) (lb * 6) (la * 6 + k) = f_P w b 0 (1 + k) := (f_cp_hi (y := 0 * 6 + k) (by omega) (by omega)).trans b7.1
      have eM : f_hM (f_cp hB (0 * 6) hA (la * 6) (lb * 6)) la 6 (la * 6 + k) = f_mx w a (f_R w a 1 - 1) b k := by
        unfold f_hM
        rw [if_neg (by omega), if_pos (by omega), hx1, hx2]
        rfl
      refine ⟨eM, fun hz => ?_⟩
      have hr := f_rg_h hw hb (p := 0) (k := k) (by omega) ⟨k1, k2⟩
      unfold f_sM
      rw [if_neg (by omega), if_pos (by omega), hx1, hx2]
      refine f_fst_sx hr.1.1 hz (fun z => ?_) (fun z => (f_cp_hi (y := 0 * 6 + k) (by omega) (by omega)).trans (b7.2 z))
      rw [show la * 6 + k - 6 = (f_R w a 1 - 1) * 6 + k by omega]
      exact (f_cp_lo (by omega)).trans (a7.2 z)
    · rw [hI.1 b (q - la) (1 + k) (by omega) (by omega), hI.1 b (q - la) (7 + k) (by omega) (by omega), nP b (q - la) (1 + k) (by omega), nP b (q - la) (7 + k) (by omega)]
      unfold f_hM f_sM
      rw [if_neg (by omega), if_neg (by omega), if_neg (by omega), if_neg (by omega), f_cp_hi (y := (q - la) * 6 + k) (by omega) (by omega), f_cp_hi (y := (q - la) * 6 + k) (by omega) (by omega)]
      exact b7

