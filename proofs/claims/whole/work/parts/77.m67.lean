/-! tokens of the class -/
def f_byc (c : Int) : Int := if c < 128 then c else c - 256
abbrev f_icC (q : Nat) (c k : Int) : Prop := ax_sb q k = f_byc c
theorem f_sgn_ix : ∀ c : Fin 256, (0 ≤ f_first (f_icC 3 c.val) 0 (ax_sl 3)) ↔ f_sgn c.val := by decide +kernel
theorem f_sgn_i {c : Int} (h : 0 ≤ c ∧ c ≤ 255) : (0 ≤ f_first (f_icC 3 c) 0 (ax_sl 3)) ↔ f_sgn c := by
  obtain ⟨n, rfl⟩ : ∃ n : Nat, c = n := ⟨c.toNat, by omega⟩
  exact f_sgn_ix ⟨n, by omega⟩
abbrev f_saC (q : Nat) (ta : Int → Int) (s fm k : Int) : Prop := f_ch q (s + k) ≠ ta (fm + k)
abbrev f_saP (q : Nat) (ta : Int → Int) (s fm n : Int) : Prop := f_first (f_saC q ta s fm) 0 n = -1
def f_wgo (q : Nat) (ta : Int → Int) (fm en : Int) : List (Int × Int) → Int → Int
  | [], _ => -1
  | w :: tl, k => if w.2 = en - fm ∧ f_saP q ta w.1 fm w.2 then k else f_wgo q ta fm en tl (k + 1)
def f_spl (q : Nat) : Nat → Int → Int → List (Int × Int)
  | 0, _, _ => []
  | n + 1, i, s => if i = ax_sl q ∨ f_ch q i = 32 then (s, i - s) :: f_spl q n (i + 1) (i + 1) else f_spl q n (i + 1) s
def f_wfr (q : Nat) (ta : Int → Int) (fm en : Int) : Int := f_wgo q ta fm en (f_spl q (ax_sl q + 1).toNat 0 0) 0
theorem f_spl_st {q : Nat} {i s : Int} (h : i ≤ ax_sl q) : f_spl q (ax_sl q + 1 - i).toNat i s = if i = ax_sl q ∨ f_ch q i = 32 then (s, i - s) :: f_spl q (ax_sl q + 1 - (i + 1)).toNat (i + 1) (i + 1) else f_spl q (ax_sl q + 1 - (i + 1)).toNat (i + 1) s := by
  rw [show (ax_sl q + 1 - i).toNat = (ax_sl q + 1 - (i + 1)).toNat + 1 by omega]
  rfl
theorem f_wgo_rg {q : Nat} {ta : Int → Int} {fm en : Int} : ∀ (W : List (Int × Int)) (k : Int), 0 ≤ k → f_wgo q ta fm en W k = -1 ∨ (k ≤ f_wgo q ta fm en W k ∧ f_wgo q ta fm en W k < k + (W.length : Int))
  | [], k, _ => Or.inl rfl
  | w :: tl, k, h => by
    have e := f_wgo_rg (q := q) (ta := ta) (fm := fm) (en := en) tl (k + 1) (by omega)
    rw [List.length_cons]
    show (if w.2 = en - fm ∧ f_saP q ta w.1 fm w.2 then k else f_wgo q ta fm en tl (k + 1)) = -1 ∨ (k ≤ (if w.2 = en - fm ∧ f_saP q ta w.1 fm w.2 then k else f_wgo q ta fm en tl (k + 1)) ∧ (if w.2 = en - fm ∧ f_saP q ta w.1 fm w.2 then k else f_wgo q ta fm en tl (k + 1)) < k + ((tl.length + 1 : Nat) : Int))
    split <;> omega
theorem f_first_cg {c c2 : Int → Prop} [DecidablePred c] [DecidablePred c2] {hi : Int} : ∀ (n : Nat) (lo : Int), (n : Int) = hi - lo → (∀ k, lo ≤ k → k < hi → (c k ↔ c2 k)) → f_first c lo hi = f_first c2 lo hi := by
  intro n
  induction n with
  | zero => intro lo e h; rw [f_first_done (by omega), f_first_done (by omega)]
  | succ n ih =>
    intro lo e h
    by_cases hc : c lo
    · rw [f_first_hit (by omega) hc, f_first_hit (by omega) ((h lo (Int.le_refl _) (by omega)).mp hc)]
    · rw [f_first_miss (by omega) hc, f_first_miss (by omega) (fun q => hc ((h lo (Int.le_refl _) (by omega)).mpr q))]
      exact ih (lo + 1) (by omega) (fun k h1 h2 => h k (by omega) h2)
/-- the word at s, n letters, of text q is text i -/
abbrev f_sub (q i : Nat) (s n : Int) : Prop := ax_sl i = n ∧ n ≤ 7 ∧ 0 ≤ n ∧ ∀ k : Fin 7, (k.val : Int) < n → f_ch i k.val = f_ch q (s + k.val)
theorem f_sub_is {q i : Nat} {s n : Int} {ta : Int → Int} {fm en : Int} (h : f_sub q i s n) : (n = en - fm ∧ f_saP q ta s fm n) ↔ f_isW ta fm en i := by
  obtain ⟨h1, h2, h3, h4⟩ := h
  have e : f_first (f_saC q ta s fm) 0 n = f_first (f_isC ta fm i) 0 n := by
    refine f_first_cg n.toNat 0 (by omega) (fun k k1 k2 => ?_)
    have h5 := h4 ⟨k.toNat, by omega⟩ (by show ((k.toNat : Nat) : Int) < n; omega)
    dsimp only at h5
    rw [show ((k.toNat : Nat) : Int) = k by omega] at h5
    show f_ch q (s + k) ≠ ta (fm + k) ↔ ta (fm + k) ≠ f_ch i k
    rw [h5]
    exact ⟨fun a b => a b.symm, fun a b => a b.symm⟩
  unfold f_isW f_saP
  rw [h1, e]
  exact ⟨fun a => ⟨a.1.symm, a.2⟩, fun a => ⟨a.1.symm, a.2⟩⟩
theorem f_wgo_w {q : Nat} (i : Nat) {s n : Int} {ta : Int → Int} {fm en k : Int} {tl : List (Int × Int)} (h : f_sub q i s n) : f_wgo q ta fm en ((s, n) :: tl) k = if f_isW ta fm en i then k else f_wgo q ta fm en tl (k + 1) := by
  show (if n = en - fm ∧ f_saP q ta s fm n then k else f_wgo q ta fm en tl (k + 1)) = _
  by_cases hc : f_isW ta fm en i
  · rw [if_pos hc, if_pos ((f_sub_is h).mpr hc)]
  · rw [if_neg hc, if_neg (fun a => hc ((f_sub_is h).mp a))]
theorem f_wds_ne : ∀ i j : Fin 30, 5 ≤ i.val → 5 ≤ j.val → i ≠ j → ax_sl i.val ≠ ax_sl j.val ∨ ∃ k : Fin 7, (k.val : Int) < ax_sl i.val ∧ f_ch i.val k.val ≠ f_ch j.val k.val := by decide +kernel
theorem f_first_no {c : Int → Prop} [DecidablePred c] {hi : Int} : ∀ (n : Nat) (lo : Int), (n : Int) = hi - lo → 0 ≤ lo → f_first c lo hi = -1 → ∀ k, lo ≤ k → k < hi → ¬ c k := by
  intro n
  induction n with
  | zero => intro lo e h0 h k k1 k2; omega
  | succ n ih =>
    intro lo e h0 h k k1 k2 hc
    by_cases hl : c lo
    · rw [f_first_hit (by omega) hl] at h
      omega
    · rw [f_first_miss (by omega) hl] at h
      by_cases hk : k = lo
      · rw [hk] at hc
        exact hl hc
      · exact ih (lo + 1) (by omega) (by omega) h k (by omega) k2 hc
theorem f_isW_ex {ta : Int → Int} {fm en : Int} {i j : Nat} (hi : f_isW ta fm en i) (h : (5 ≤ i ∧ i < 30) ∧ (5 ≤ j ∧ j < 30) ∧ i ≠ j) : ¬ f_isW ta fm en j := by
  intro hj
  rcases f_wds_ne ⟨i, h.1.2⟩ ⟨j, h.2.1.2⟩ h.1.1 h.2.1.1 (fun e => h.2.2 (congrArg Fin.val e)) with hl | ⟨k, hk, hn⟩
  · exact hl (hi.1.symm.trans hj.1)
  · dsimp only at hk hn
    have e1 := f_first_no (ax_sl i).toNat 0 (by unfold ax_sl; omega) (Int.le_refl 0) hi.2 k.val (by omega) hk
    have e2 := f_first_no (ax_sl j).toNat 0 (by unfold ax_sl; omega) (Int.le_refl 0) hj.2 k.val (by omega) (by have := hi.1; have := hj.1; omega)
    have e3 : ta (fm + k.val) = f_ch i k.val := Decidable.not_not.mp e1
    have e4 : ta (fm + k.val) = f_ch j k.val := Decidable.not_not.mp e2
    exact hn (e3.symm.trans e4)
def f_wcode (rd j : Int) : Int := if rd = 0 then (if j = 0 then 7 else if j = 1 then 3 else if j = 2 then 4 else if j = 3 then 5 else if j = 4 then 6 else if j = 5 then 41 else if j = 6 then 42 else if j = 7 then 43 else if j = 8 then 44 else if j = 9 then 45 else if j = 10 then 46 else if j = 11 then 47 else 48) else if rd = 1 then (if j = 0 then 7 else if j = 1 then 3 else if j = 2 then 4 else if j = 3 then 5 else if j = 4 then 6 else if j = 5 then 41 else if j = 6 then 42 else if j = 7 then 43 else if j = 8 then 44 else if j = 9 then 45 else 46) else if rd = 2 then (if j = 0 then 7 else if j = 1 then 3 else if j = 2 then 4 else if j = 3 then 5 else if j = 4 then 6 else if j = 5 then 49 else if j = 6 then 45 else if j = 7 then 50 else if j = 8 then 51 else if j = 9 then 43 else if j = 10 then 52 else if j = 11 then 46 else 53) else (if j = 0 then 10 else if j = 1 then 16 else if j = 2 then 11 else if j = 3 then 12 else if j = 4 then 13 else if j = 5 then 14 else 15)
def f_wn (rd : Int) : Int := if rd = 0 then 13 else if rd = 1 then 11 else if rd = 2 then 13 else 7
theorem f_spl_0 : f_spl 0 (ax_sl 0 + 1).toNat 0 0 = [(0, 3), (4, 4), (9, 2), (12, 3), (16, 3), (20, 5), (26, 3), (30, 5), (36, 4), (41, 5), (47, 3), (51, 6), (58, 4)] := by decide +kernel
theorem f_wfr_0 {ta : Int → Int} {fm en : Int} : f_wfr 0 ta fm en = if f_isW ta fm en 5 then 0 else if f_isW ta fm en 12 then 0 + 1 else if f_isW ta fm en 13 then 0 + 1 + 1 else if f_isW ta fm en 14 then 0 + 1 + 1 + 1 else if f_isW ta fm en 15 then 0 + 1 + 1 + 1 + 1 else if f_isW ta fm en 18 then 0 + 1 + 1 + 1 + 1 + 1 else if f_isW ta fm en 19 then 0 + 1 + 1 + 1 + 1 + 1 + 1 else if f_isW ta fm en 20 then 0 + 1 + 1 + 1 + 1 + 1 + 1 + 1 else if f_isW ta fm en 21 then 0 + 1 + 1 + 1 + 1 + 1 + 1 + 1 + 1 else if f_isW ta fm en 22 then 0 + 1 + 1 + 1 + 1 + 1 + 1 + 1 + 1 + 1 else if f_isW ta fm en 8 then 0 + 1 + 1 + 1 + 1 + 1 + 1 + 1 + 1 + 1 + 1 else if f_isW ta fm en 16 then 0 + 1 + 1 + 1 + 1 + 1 + 1 + 1 + 1 + 1 + 1 + 1 else if f_isW ta fm en 17 then 0 + 1 + 1 + 1 + 1 + 1 + 1 + 1 + 1 + 1 + 1 + 1 + 1 else -1 := by
  unfold f_wfr
  rw [f_spl_0]
  rw [f_wgo_w 5 (by decide +kernel), f_wgo_w 12 (by decide +kernel), f_wgo_w 13 (by decide +kernel), f_wgo_w 14 (by decide +kernel), f_wgo_w 15 (by decide +kernel), f_wgo_w 18 (by decide +kernel), f_wgo_w 19 (by decide +kernel), f_wgo_w 20 (by decide +kernel), f_wgo_w 21 (by decide +kernel), f_wgo_w 22 (by decide +kernel), f_wgo_w 8 (by decide +kernel), f_wgo_w 16 (by decide +kernel), f_wgo_w 17 (by decide +kernel)]
  rfl
theorem f_wrd_0 {ta : Int → Int} {fm en : Int} : f_wrd ta fm en 0 = if f_isW ta fm en 12 then 3 else if f_isW ta fm en 13 then 4 else if f_isW ta fm en 14 then 5 else if f_isW ta fm en 15 then 6 else if f_isW ta fm en 5 then 7 else if f_isW ta fm en 16 then 47 else if f_isW ta fm en 17 then 48 else if f_isW ta fm en 18 then 41 else if f_isW ta fm en 19 then 42 else if f_isW ta fm en 20 then 43 else if f_isW ta fm en 21 then 44 else if f_isW ta fm en 22 then 45 else if f_isW ta fm en 8 then 46 else 1 := by
  unfold f_wrd
  rw [if_neg (show ¬ (0 : Int) = 3 by decide), if_pos (show (0 : Int) = 0 from rfl)]
  unfold f_nmT f_nmB
  rfl
theorem f_wfq_0 {ta : Int → Int} {fm en : Int} : (f_wfr 0 ta fm en = -1 ∧ f_wrd ta fm en 0 = 1) ∨ (0 ≤ f_wfr 0 ta fm en ∧ f_wfr 0 ta fm en < f_wn 0 ∧ f_wrd ta fm en 0 = f_wcode 0 (f_wfr 0 ta fm en)) := by
  rw [f_wfr_0, f_wrd_0]
  by_cases h5 : f_isW ta fm en 5
  · refine Or.inr ?_
    have h12 := f_isW_ex (j := 12) h5 (by decide)
    have h13 := f_isW_ex (j := 13) h5 (by decide)
    have h14 := f_isW_ex (j := 14) h5 (by decide)
    have h15 := f_isW_ex (j := 15) h5 (by decide)
    have h18 := f_isW_ex (j := 18) h5 (by decide)
    have h19 := f_isW_ex (j := 19) h5 (by decide)
    have h20 := f_isW_ex (j := 20) h5 (by decide)
    have h21 := f_isW_ex (j := 21) h5 (by decide)
    have h22 := f_isW_ex (j := 22) h5 (by decide)
    have h8 := f_isW_ex (j := 8) h5 (by decide)
    have h16 := f_isW_ex (j := 16) h5 (by decide)
    have h17 := f_isW_ex (j := 17) h5 (by decide)
    rw [if_pos h5]
    rw [if_neg h12, if_neg h13, if_neg h14, if_neg h15, if_pos h5]
    decide
  by_cases h12 : f_isW ta fm en 12
  · refine Or.inr ?_
    have h13 := f_isW_ex (j := 13) h12 (by decide)
    have h14 := f_isW_ex (j := 14) h12 (by decide)
    have h15 := f_isW_ex (j := 15) h12 (by decide)
    have h18 := f_isW_ex (j := 18) h12 (by decide)
    have h19 := f_isW_ex (j := 19) h12 (by decide)
    have h20 := f_isW_ex (j := 20) h12 (by decide)
    have h21 := f_isW_ex (j := 21) h12 (by decide)
    have h22 := f_isW_ex (j := 22) h12 (by decide)
    have h8 := f_isW_ex (j := 8) h12 (by decide)
    have h16 := f_isW_ex (j := 16) h12 (by decide)
    have h17 := f_isW_ex (j := 17) h12 (by decide)
    rw [if_neg h5, if_pos h12]
    rw [if_pos h12]
    decide
  by_cases h13 : f_isW ta fm en 13
  · refine Or.inr ?_
    have h14 := f_isW_ex (j := 14) h13 (by decide)
    have h15 := f_isW_ex (j := 15) h13 (by decide)
    have h18 := f_isW_ex (j := 18) h13 (by decide)
    have h19 := f_isW_ex (j := 19) h13 (by decide)
    have h20 := f_isW_ex (j := 20) h13 (by decide)
    have h21 := f_isW_ex (j := 21) h13 (by decide)
    have h22 := f_isW_ex (j := 22) h13 (by decide)
    have h8 := f_isW_ex (j := 8) h13 (by decide)
    have h16 := f_isW_ex (j := 16) h13 (by decide)
    have h17 := f_isW_ex (j := 17) h13 (by decide)
    rw [if_neg h5, if_neg h12, if_pos h13]
    rw [if_neg h12, if_pos h13]
    decide
  by_cases h14 : f_isW ta fm en 14
  · refine Or.inr ?_
    have h15 := f_isW_ex (j := 15) h14 (by decide)
    have h18 := f_isW_ex (j := 18) h14 (by decide)
    have h19 := f_isW_ex (j := 19) h14 (by decide)
    have h20 := f_isW_ex (j := 20) h14 (by decide)
    have h21 := f_isW_ex (j := 21) h14 (by decide)
    have h22 := f_isW_ex (j := 22) h14 (by decide)
    have h8 := f_isW_ex (j := 8) h14 (by decide)
    have h16 := f_isW_ex (j := 16) h14 (by decide)
    have h17 := f_isW_ex (j := 17) h14 (by decide)
    rw [if_neg h5, if_neg h12, if_neg h13, if_pos h14]
    rw [if_neg h12, if_neg h13, if_pos h14]
    decide
  by_cases h15 : f_isW ta fm en 15
  · refine Or.inr ?_
    have h18 := f_isW_ex (j := 18) h15 (by decide)
    have h19 := f_isW_ex (j := 19) h15 (by decide)
    have h20 := f_isW_ex (j := 20) h15 (by decide)
    have h21 := f_isW_ex (j := 21) h15 (by decide)
    have h22 := f_isW_ex (j := 22) h15 (by decide)
    have h8 := f_isW_ex (j := 8) h15 (by decide)
    have h16 := f_isW_ex (j := 16) h15 (by decide)
    have h17 := f_isW_ex (j := 17) h15 (by decide)
    rw [if_neg h5, if_neg h12, if_neg h13, if_neg h14, if_pos h15]
    rw [if_neg h12, if_neg h13, if_neg h14, if_pos h15]
    decide
  by_cases h18 : f_isW ta fm en 18
  · refine Or.inr ?_
    have h19 := f_isW_ex (j := 19) h18 (by decide)
    have h20 := f_isW_ex (j := 20) h18 (by decide)
    have h21 := f_isW_ex (j := 21) h18 (by decide)
    have h22 := f_isW_ex (j := 22) h18 (by decide)
    have h8 := f_isW_ex (j := 8) h18 (by decide)
    have h16 := f_isW_ex (j := 16) h18 (by decide)
    have h17 := f_isW_ex (j := 17) h18 (by decide)
    rw [if_neg h5, if_neg h12, if_neg h13, if_neg h14, if_neg h15, if_pos h18]
    rw [if_neg h12, if_neg h13, if_neg h14, if_neg h15, if_neg h5, if_neg h16, if_neg h17, if_pos h18]
    decide
  by_cases h19 : f_isW ta fm en 19
  · refine Or.inr ?_
    have h20 := f_isW_ex (j := 20) h19 (by decide)
    have h21 := f_isW_ex (j := 21) h19 (by decide)
    have h22 := f_isW_ex (j := 22) h19 (by decide)
    have h8 := f_isW_ex (j := 8) h19 (by decide)
    have h16 := f_isW_ex (j := 16) h19 (by decide)
    have h17 := f_isW_ex (j := 17) h19 (by decide)
    rw [if_neg h5, if_neg h12, if_neg h13, if_neg h14, if_neg h15, if_neg h18, if_pos h19]
    rw [if_neg h12, if_neg h13, if_neg h14, if_neg h15, if_neg h5, if_neg h16, if_neg h17, if_neg h18, if_pos h19]
    decide
  by_cases h20 : f_isW ta fm en 20
  · refine Or.inr ?_
    have h21 := f_isW_ex (j := 21) h20 (by decide)
    have h22 := f_isW_ex (j := 22) h20 (by decide)
    have h8 := f_isW_ex (j := 8) h20 (by decide)
    have h16 := f_isW_ex (j := 16) h20 (by decide)
    have h17 := f_isW_ex (j := 17) h20 (by decide)
    rw [if_neg h5, if_neg h12, if_neg h13, if_neg h14, if_neg h15, if_neg h18, if_neg h19, if_pos h20]
    rw [if_neg h12, if_neg h13, if_neg h14, if_neg h15, if_neg h5, if_neg h16, if_neg h17, if_neg h18, if_neg h19, if_pos h20]
    decide
  by_cases h21 : f_isW ta fm en 21
  · refine Or.inr ?_
    have h22 := f_isW_ex (j := 22) h21 (by decide)
    have h8 := f_isW_ex (j := 8) h21 (by decide)
    have h16 := f_isW_ex (j := 16) h21 (by decide)
    have h17 := f_isW_ex (j := 17) h21 (by decide)
    rw [if_neg h5, if_neg h12, if_neg h13, if_neg h14, if_neg h15, if_neg h18, if_neg h19, if_neg h20, if_pos h21]
    rw [if_neg h12, if_neg h13, if_neg h14, if_neg h15, if_neg h5, if_neg h16, if_neg h17, if_neg h18, if_neg h19, if_neg h20, if_pos h21]
    decide
  by_cases h22 : f_isW ta fm en 22
  · refine Or.inr ?_
    have h8 := f_isW_ex (j := 8) h22 (by decide)
    have h16 := f_isW_ex (j := 16) h22 (by decide)
    have h17 := f_isW_ex (j := 17) h22 (by decide)
    rw [if_neg h5, if_neg h12, if_neg h13, if_neg h14, if_neg h15, if_neg h18, if_neg h19, if_neg h20, if_neg h21, if_pos h22]
    rw [if_neg h12, if_neg h13, if_neg h14, if_neg h15, if_neg h5, if_neg h16, if_neg h17, if_neg h18, if_neg h19, if_neg h20, if_neg h21, if_pos h22]
    decide
  by_cases h8 : f_isW ta fm en 8
  · refine Or.inr ?_
    have h16 := f_isW_ex (j := 16) h8 (by decide)
    have h17 := f_isW_ex (j := 17) h8 (by decide)
    rw [if_neg h5, if_neg h12, if_neg h13, if_neg h14, if_neg h15, if_neg h18, if_neg h19, if_neg h20, if_neg h21, if_neg h22, if_pos h8]
    rw [if_neg h12, if_neg h13, if_neg h14, if_neg h15, if_neg h5, if_neg h16, if_neg h17, if_neg h18, if_neg h19, if_neg h20, if_neg h21, if_neg h22, if_pos h8]
    decide
  by_cases h16 : f_isW ta fm en 16
  · refine Or.inr ?_
    have h17 := f_isW_ex (j := 17) h16 (by decide)
    rw [if_neg h5, if_neg h12, if_neg h13, if_neg h14, if_neg h15, if_neg h18, if_neg h19, if_neg h20, if_neg h21, if_neg h22, if_neg h8, if_pos h16]
    rw [if_neg h12, if_neg h13, if_neg h14, if_neg h15, if_neg h5, if_pos h16]
    decide
  by_cases h17 : f_isW ta fm en 17
  · refine Or.inr ?_
    rw [if_neg h5, if_neg h12, if_neg h13, if_neg h14, if_neg h15, if_neg h18, if_neg h19, if_neg h20, if_neg h21, if_neg h22, if_neg h8, if_neg h16, if_pos h17]
    rw [if_neg h12, if_neg h13, if_neg h14, if_neg h15, if_neg h5, if_neg h16, if_pos h17]
    decide
  refine Or.inl ?_
  rw [if_neg h5, if_neg h12, if_neg h13, if_neg h14, if_neg h15, if_neg h18, if_neg h19, if_neg h20, if_neg h21, if_neg h22, if_neg h8, if_neg h16, if_neg h17]
  rw [if_neg h12, if_neg h13, if_neg h14, if_neg h15, if_neg h5, if_neg h16, if_neg h17, if_neg h18, if_neg h19, if_neg h20, if_neg h21, if_neg h22, if_neg h8]
  decide
theorem f_spl_1 : f_spl 1 (ax_sl 1 + 1).toNat 0 0 = [(0, 6), (7, 4), (12, 2), (15, 3), (19, 3), (23, 5), (29, 3), (33, 5), (39, 4), (44, 5), (50, 3)] := by decide +kernel
theorem f_wfr_1 {ta : Int → Int} {fm en : Int} : f_wfr 1 ta fm en = if f_isW ta fm en 29 then 0 else if f_isW ta fm en 12 then 0 + 1 else if f_isW ta fm en 13 then 0 + 1 + 1 else if f_isW ta fm en 14 then 0 + 1 + 1 + 1 else if f_isW ta fm en 15 then 0 + 1 + 1 + 1 + 1 else if f_isW ta fm en 18 then 0 + 1 + 1 + 1 + 1 + 1 else if f_isW ta fm en 19 then 0 + 1 + 1 + 1 + 1 + 1 + 1 else if f_isW ta fm en 20 then 0 + 1 + 1 + 1 + 1 + 1 + 1 + 1 else if f_isW ta fm en 21 then 0 + 1 + 1 + 1 + 1 + 1 + 1 + 1 + 1 else if f_isW ta fm en 22 then 0 + 1 + 1 + 1 + 1 + 1 + 1 + 1 + 1 + 1 else if f_isW ta fm en 8 then 0 + 1 + 1 + 1 + 1 + 1 + 1 + 1 + 1 + 1 + 1 else -1 := by
  unfold f_wfr
  rw [f_spl_1]
  rw [f_wgo_w 29 (by decide +kernel), f_wgo_w 12 (by decide +kernel), f_wgo_w 13 (by decide +kernel), f_wgo_w 14 (by decide +kernel), f_wgo_w 15 (by decide +kernel), f_wgo_w 18 (by decide +kernel), f_wgo_w 19 (by decide +kernel), f_wgo_w 20 (by decide +kernel), f_wgo_w 21 (by decide +kernel), f_wgo_w 22 (by decide +kernel), f_wgo_w 8 (by decide +kernel)]
  rfl
theorem f_wrd_1 {ta : Int → Int} {fm en : Int} : f_wrd ta fm en 1 = if f_isW ta fm en 12 then 3 else if f_isW ta fm en 13 then 4 else if f_isW ta fm en 14 then 5 else if f_isW ta fm en 15 then 6 else if f_isW ta fm en 29 then 7 else if f_isW ta fm en 18 then 41 else if f_isW ta fm en 19 then 42 else if f_isW ta fm en 20 then 43 else if f_isW ta fm en 21 then 44 else if f_isW ta fm en 22 then 45 else if f_isW ta fm en 8 then 46 else 1 := by
  unfold f_wrd
  rw [if_neg (show ¬ (1 : Int) = 3 by decide), if_neg (show ¬ (1 : Int) = 0 by decide), if_neg (show ¬ (1 : Int) = 2 by decide)]
  unfold f_nmB
  rfl
theorem f_wfq_1 {ta : Int → Int} {fm en : Int} : (f_wfr 1 ta fm en = -1 ∧ f_wrd ta fm en 1 = 1) ∨ (0 ≤ f_wfr 1 ta fm en ∧ f_wfr 1 ta fm en < f_wn 1 ∧ f_wrd ta fm en 1 = f_wcode 1 (f_wfr 1 ta fm en)) := by
  rw [f_wfr_1, f_wrd_1]
  by_cases h29 : f_isW ta fm en 29
  · refine Or.inr ?_
    have h12 := f_isW_ex (j := 12) h29 (by decide)
    have h13 := f_isW_ex (j := 13) h29 (by decide)
    have h14 := f_isW_ex (j := 14) h29 (by decide)
    have h15 := f_isW_ex (j := 15) h29 (by decide)
    have h18 := f_isW_ex (j := 18) h29 (by decide)
    have h19 := f_isW_ex (j := 19) h29 (by decide)
    have h20 := f_isW_ex (j := 20) h29 (by decide)
    have h21 := f_isW_ex (j := 21) h29 (by decide)
    have h22 := f_isW_ex (j := 22) h29 (by decide)
    have h8 := f_isW_ex (j := 8) h29 (by decide)
    rw [if_pos h29]
    rw [if_neg h12, if_neg h13, if_neg h14, if_neg h15, if_pos h29]
    decide
  by_cases h12 : f_isW ta fm en 12
  · refine Or.inr ?_
    have h13 := f_isW_ex (j := 13) h12 (by decide)
    have h14 := f_isW_ex (j := 14) h12 (by decide)
    have h15 := f_isW_ex (j := 15) h12 (by decide)
    have h18 := f_isW_ex (j := 18) h12 (by decide)
    have h19 := f_isW_ex (j := 19) h12 (by decide)
    have h20 := f_isW_ex (j := 20) h12 (by decide)
    have h21 := f_isW_ex (j := 21) h12 (by decide)
    have h22 := f_isW_ex (j := 22) h12 (by decide)
    have h8 := f_isW_ex (j := 8) h12 (by decide)
    rw [if_neg h29, if_pos h12]
    rw [if_pos h12]
    decide
  by_cases h13 : f_isW ta fm en 13
  · refine Or.inr ?_
    have h14 := f_isW_ex (j := 14) h13 (by decide)
    have h15 := f_isW_ex (j := 15) h13 (by decide)
    have h18 := f_isW_ex (j := 18) h13 (by decide)
    have h19 := f_isW_ex (j := 19) h13 (by decide)
    have h20 := f_isW_ex (j := 20) h13 (by decide)
    have h21 := f_isW_ex (j := 21) h13 (by decide)
    have h22 := f_isW_ex (j := 22) h13 (by decide)
    have h8 := f_isW_ex (j := 8) h13 (by decide)
    rw [if_neg h29, if_neg h12, if_pos h13]
    rw [if_neg h12, if_pos h13]
    decide
  by_cases h14 : f_isW ta fm en 14
  · refine Or.inr ?_
    have h15 := f_isW_ex (j := 15) h14 (by decide)
    have h18 := f_isW_ex (j := 18) h14 (by decide)
    have h19 := f_isW_ex (j := 19) h14 (by decide)
    have h20 := f_isW_ex (j := 20) h14 (by decide)
    have h21 := f_isW_ex (j := 21) h14 (by decide)
    have h22 := f_isW_ex (j := 22) h14 (by decide)
    have h8 := f_isW_ex (j := 8) h14 (by decide)
    rw [if_neg h29, if_neg h12, if_neg h13, if_pos h14]
    rw [if_neg h12, if_neg h13, if_pos h14]
    decide
  by_cases h15 : f_isW ta fm en 15
  · refine Or.inr ?_
    have h18 := f_isW_ex (j := 18) h15 (by decide)
    have h19 := f_isW_ex (j := 19) h15 (by decide)
    have h20 := f_isW_ex (j := 20) h15 (by decide)
    have h21 := f_isW_ex (j := 21) h15 (by decide)
    have h22 := f_isW_ex (j := 22) h15 (by decide)
    have h8 := f_isW_ex (j := 8) h15 (by decide)
    rw [if_neg h29, if_neg h12, if_neg h13, if_neg h14, if_pos h15]
    rw [if_neg h12, if_neg h13, if_neg h14, if_pos h15]
    decide
  by_cases h18 : f_isW ta fm en 18
  · refine Or.inr ?_
    have h19 := f_isW_ex (j := 19) h18 (by decide)
    have h20 := f_isW_ex (j := 20) h18 (by decide)
    have h21 := f_isW_ex (j := 21) h18 (by decide)
    have h22 := f_isW_ex (j := 22) h18 (by decide)
    have h8 := f_isW_ex (j := 8) h18 (by decide)
    rw [if_neg h29, if_neg h12, if_neg h13, if_neg h14, if_neg h15, if_pos h18]
    rw [if_neg h12, if_neg h13, if_neg h14, if_neg h15, if_neg h29, if_pos h18]
    decide
  by_cases h19 : f_isW ta fm en 19
  · refine Or.inr ?_
    have h20 := f_isW_ex (j := 20) h19 (by decide)
    have h21 := f_isW_ex (j := 21) h19 (by decide)
    have h22 := f_isW_ex (j := 22) h19 (by decide)
    have h8 := f_isW_ex (j := 8) h19 (by decide)
    rw [if_neg h29, if_neg h12, if_neg h13, if_neg h14, if_neg h15, if_neg h18, if_pos h19]
    rw [if_neg h12, if_neg h13, if_neg h14, if_neg h15, if_neg h29, if_neg h18, if_pos h19]
    decide
  by_cases h20 : f_isW ta fm en 20
  · refine Or.inr ?_
    have h21 := f_isW_ex (j := 21) h20 (by decide)
    have h22 := f_isW_ex (j := 22) h20 (by decide)
    have h8 := f_isW_ex (j := 8) h20 (by decide)
    rw [if_neg h29, if_neg h12, if_neg h13, if_neg h14, if_neg h15, if_neg h18, if_neg h19, if_pos h20]
    rw [if_neg h12, if_neg h13, if_neg h14, if_neg h15, if_neg h29, if_neg h18, if_neg h19, if_pos h20]
    decide
  by_cases h21 : f_isW ta fm en 21
  · refine Or.inr ?_
    have h22 := f_isW_ex (j := 22) h21 (by decide)
    have h8 := f_isW_ex (j := 8) h21 (by decide)
    rw [if_neg h29, if_neg h12, if_neg h13, if_neg h14, if_neg h15, if_neg h18, if_neg h19, if_neg h20, if_pos h21]
    rw [if_neg h12, if_neg h13, if_neg h14, if_neg h15, if_neg h29, if_neg h18, if_neg h19, if_neg h20, if_pos h21]
    decide
  by_cases h22 : f_isW ta fm en 22
  · refine Or.inr ?_
    have h8 := f_isW_ex (j := 8) h22 (by decide)
    rw [if_neg h29, if_neg h12, if_neg h13, if_neg h14, if_neg h15, if_neg h18, if_neg h19, if_neg h20, if_neg h21, if_pos h22]
    rw [if_neg h12, if_neg h13, if_neg h14, if_neg h15, if_neg h29, if_neg h18, if_neg h19, if_neg h20, if_neg h21, if_pos h22]
    decide
  by_cases h8 : f_isW ta fm en 8
  · refine Or.inr ?_
    rw [if_neg h29, if_neg h12, if_neg h13, if_neg h14, if_neg h15, if_neg h18, if_neg h19, if_neg h20, if_neg h21, if_neg h22, if_pos h8]
    rw [if_neg h12, if_neg h13, if_neg h14, if_neg h15, if_neg h29, if_neg h18, if_neg h19, if_neg h20, if_neg h21, if_neg h22, if_pos h8]
    decide
  refine Or.inl ?_
  rw [if_neg h29, if_neg h12, if_neg h13, if_neg h14, if_neg h15, if_neg h18, if_neg h19, if_neg h20, if_neg h21, if_neg h22, if_neg h8]
  rw [if_neg h12, if_neg h13, if_neg h14, if_neg h15, if_neg h29, if_neg h18, if_neg h19, if_neg h20, if_neg h21, if_neg h22, if_neg h8]
  decide
theorem f_spl_2 : f_spl 2 (ax_sl 2 + 1).toNat 0 0 = [(0, 4), (5, 4), (10, 2), (13, 3), (17, 3), (21, 4), (26, 5), (32, 5), (38, 5), (44, 5), (50, 6), (57, 3), (61, 6)] := by decide +kernel
theorem f_wfr_2 {ta : Int → Int} {fm en : Int} : f_wfr 2 ta fm en = if f_isW ta fm en 23 then 0 else if f_isW ta fm en 12 then 0 + 1 else if f_isW ta fm en 13 then 0 + 1 + 1 else if f_isW ta fm en 14 then 0 + 1 + 1 + 1 else if f_isW ta fm en 15 then 0 + 1 + 1 + 1 + 1 else if f_isW ta fm en 24 then 0 + 1 + 1 + 1 + 1 + 1 else if f_isW ta fm en 22 then 0 + 1 + 1 + 1 + 1 + 1 + 1 else if f_isW ta fm en 25 then 0 + 1 + 1 + 1 + 1 + 1 + 1 + 1 else if f_isW ta fm en 26 then 0 + 1 + 1 + 1 + 1 + 1 + 1 + 1 + 1 else if f_isW ta fm en 20 then 0 + 1 + 1 + 1 + 1 + 1 + 1 + 1 + 1 + 1 else if f_isW ta fm en 27 then 0 + 1 + 1 + 1 + 1 + 1 + 1 + 1 + 1 + 1 + 1 else if f_isW ta fm en 8 then 0 + 1 + 1 + 1 + 1 + 1 + 1 + 1 + 1 + 1 + 1 + 1 else if f_isW ta fm en 28 then 0 + 1 + 1 + 1 + 1 + 1 + 1 + 1 + 1 + 1 + 1 + 1 + 1 else -1 := by
  unfold f_wfr
  rw [f_spl_2]
  rw [f_wgo_w 23 (by decide +kernel), f_wgo_w 12 (by decide +kernel), f_wgo_w 13 (by decide +kernel), f_wgo_w 14 (by decide +kernel), f_wgo_w 15 (by decide +kernel), f_wgo_w 24 (by decide +kernel), f_wgo_w 22 (by decide +kernel), f_wgo_w 25 (by decide +kernel), f_wgo_w 26 (by decide +kernel), f_wgo_w 20 (by decide +kernel), f_wgo_w 27 (by decide +kernel), f_wgo_w 8 (by decide +kernel), f_wgo_w 28 (by decide +kernel)]
  rfl
theorem f_wrd_2 {ta : Int → Int} {fm en : Int} : f_wrd ta fm en 2 = if f_isW ta fm en 12 then 3 else if f_isW ta fm en 13 then 4 else if f_isW ta fm en 14 then 5 else if f_isW ta fm en 15 then 6 else if f_isW ta fm en 23 then 7 else if f_isW ta fm en 24 then 49 else if f_isW ta fm en 22 then 45 else if f_isW ta fm en 25 then 50 else if f_isW ta fm en 26 then 51 else if f_isW ta fm en 20 then 43 else if f_isW ta fm en 27 then 52 else if f_isW ta fm en 8 then 46 else if f_isW ta fm en 28 then 53 else 1 := by
  unfold f_wrd
  rw [if_neg (show ¬ (2 : Int) = 3 by decide), if_neg (show ¬ (2 : Int) = 0 by decide), if_pos (show (2 : Int) = 2 from rfl)]
  unfold f_nmH
  rfl
theorem f_wfq_2 {ta : Int → Int} {fm en : Int} : (f_wfr 2 ta fm en = -1 ∧ f_wrd ta fm en 2 = 1) ∨ (0 ≤ f_wfr 2 ta fm en ∧ f_wfr 2 ta fm en < f_wn 2 ∧ f_wrd ta fm en 2 = f_wcode 2 (f_wfr 2 ta fm en)) := by
  rw [f_wfr_2, f_wrd_2]
  by_cases h23 : f_isW ta fm en 23
  · refine Or.inr ?_
    have h12 := f_isW_ex (j := 12) h23 (by decide)
    have h13 := f_isW_ex (j := 13) h23 (by decide)
    have h14 := f_isW_ex (j := 14) h23 (by decide)
    have h15 := f_isW_ex (j := 15) h23 (by decide)
    have h24 := f_isW_ex (j := 24) h23 (by decide)
    have h22 := f_isW_ex (j := 22) h23 (by decide)
    have h25 := f_isW_ex (j := 25) h23 (by decide)
    have h26 := f_isW_ex (j := 26) h23 (by decide)
    have h20 := f_isW_ex (j := 20) h23 (by decide)
    have h27 := f_isW_ex (j := 27) h23 (by decide)
    have h8 := f_isW_ex (j := 8) h23 (by decide)
    have h28 := f_isW_ex (j := 28) h23 (by decide)
    rw [if_pos h23]
    rw [if_neg h12, if_neg h13, if_neg h14, if_neg h15, if_pos h23]
    decide
  by_cases h12 : f_isW ta fm en 12
  · refine Or.inr ?_
    have h13 := f_isW_ex (j := 13) h12 (by decide)
    have h14 := f_isW_ex (j := 14) h12 (by decide)
    have h15 := f_isW_ex (j := 15) h12 (by decide)
    have h24 := f_isW_ex (j := 24) h12 (by decide)
    have h22 := f_isW_ex (j := 22) h12 (by decide)
    have h25 := f_isW_ex (j := 25) h12 (by decide)
    have h26 := f_isW_ex (j := 26) h12 (by decide)
    have h20 := f_isW_ex (j := 20) h12 (by decide)
    have h27 := f_isW_ex (j := 27) h12 (by decide)
    have h8 := f_isW_ex (j := 8) h12 (by decide)
    have h28 := f_isW_ex (j := 28) h12 (by decide)
    rw [if_neg h23, if_pos h12]
    rw [if_pos h12]
    decide
  by_cases h13 : f_isW ta fm en 13
  · refine Or.inr ?_
    have h14 := f_isW_ex (j := 14) h13 (by decide)
    have h15 := f_isW_ex (j := 15) h13 (by decide)
    have h24 := f_isW_ex (j := 24) h13 (by decide)
    have h22 := f_isW_ex (j := 22) h13 (by decide)
    have h25 := f_isW_ex (j := 25) h13 (by decide)
    have h26 := f_isW_ex (j := 26) h13 (by decide)
    have h20 := f_isW_ex (j := 20) h13 (by decide)
    have h27 := f_isW_ex (j := 27) h13 (by decide)
    have h8 := f_isW_ex (j := 8) h13 (by decide)
    have h28 := f_isW_ex (j := 28) h13 (by decide)
    rw [if_neg h23, if_neg h12, if_pos h13]
    rw [if_neg h12, if_pos h13]
    decide
  by_cases h14 : f_isW ta fm en 14
  · refine Or.inr ?_
    have h15 := f_isW_ex (j := 15) h14 (by decide)
    have h24 := f_isW_ex (j := 24) h14 (by decide)
    have h22 := f_isW_ex (j := 22) h14 (by decide)
    have h25 := f_isW_ex (j := 25) h14 (by decide)
    have h26 := f_isW_ex (j := 26) h14 (by decide)
    have h20 := f_isW_ex (j := 20) h14 (by decide)
    have h27 := f_isW_ex (j := 27) h14 (by decide)
    have h8 := f_isW_ex (j := 8) h14 (by decide)
    have h28 := f_isW_ex (j := 28) h14 (by decide)
    rw [if_neg h23, if_neg h12, if_neg h13, if_pos h14]
    rw [if_neg h12, if_neg h13, if_pos h14]
    decide
  by_cases h15 : f_isW ta fm en 15
  · refine Or.inr ?_
    have h24 := f_isW_ex (j := 24) h15 (by decide)
    have h22 := f_isW_ex (j := 22) h15 (by decide)
    have h25 := f_isW_ex (j := 25) h15 (by decide)
    have h26 := f_isW_ex (j := 26) h15 (by decide)
    have h20 := f_isW_ex (j := 20) h15 (by decide)
    have h27 := f_isW_ex (j := 27) h15 (by decide)
    have h8 := f_isW_ex (j := 8) h15 (by decide)
    have h28 := f_isW_ex (j := 28) h15 (by decide)
    rw [if_neg h23, if_neg h12, if_neg h13, if_neg h14, if_pos h15]
    rw [if_neg h12, if_neg h13, if_neg h14, if_pos h15]
    decide
  by_cases h24 : f_isW ta fm en 24
  · refine Or.inr ?_
    have h22 := f_isW_ex (j := 22) h24 (by decide)
    have h25 := f_isW_ex (j := 25) h24 (by decide)
    have h26 := f_isW_ex (j := 26) h24 (by decide)
    have h20 := f_isW_ex (j := 20) h24 (by decide)
    have h27 := f_isW_ex (j := 27) h24 (by decide)
    have h8 := f_isW_ex (j := 8) h24 (by decide)
    have h28 := f_isW_ex (j := 28) h24 (by decide)
    rw [if_neg h23, if_neg h12, if_neg h13, if_neg h14, if_neg h15, if_pos h24]
    rw [if_neg h12, if_neg h13, if_neg h14, if_neg h15, if_neg h23, if_pos h24]
    decide
  by_cases h22 : f_isW ta fm en 22
  · refine Or.inr ?_
    have h25 := f_isW_ex (j := 25) h22 (by decide)
    have h26 := f_isW_ex (j := 26) h22 (by decide)
    have h20 := f_isW_ex (j := 20) h22 (by decide)
    have h27 := f_isW_ex (j := 27) h22 (by decide)
    have h8 := f_isW_ex (j := 8) h22 (by decide)
    have h28 := f_isW_ex (j := 28) h22 (by decide)
    rw [if_neg h23, if_neg h12, if_neg h13, if_neg h14, if_neg h15, if_neg h24, if_pos h22]
    rw [if_neg h12, if_neg h13, if_neg h14, if_neg h15, if_neg h23, if_neg h24, if_pos h22]
    decide
  by_cases h25 : f_isW ta fm en 25
  · refine Or.inr ?_
    have h26 := f_isW_ex (j := 26) h25 (by decide)
    have h20 := f_isW_ex (j := 20) h25 (by decide)
    have h27 := f_isW_ex (j := 27) h25 (by decide)
    have h8 := f_isW_ex (j := 8) h25 (by decide)
    have h28 := f_isW_ex (j := 28) h25 (by decide)
    rw [if_neg h23, if_neg h12, if_neg h13, if_neg h14, if_neg h15, if_neg h24, if_neg h22, if_pos h25]
    rw [if_neg h12, if_neg h13, if_neg h14, if_neg h15, if_neg h23, if_neg h24, if_neg h22, if_pos h25]
    decide
  by_cases h26 : f_isW ta fm en 26
  · refine Or.inr ?_
    have h20 := f_isW_ex (j := 20) h26 (by decide)
    have h27 := f_isW_ex (j := 27) h26 (by decide)
    have h8 := f_isW_ex (j := 8) h26 (by decide)
    have h28 := f_isW_ex (j := 28) h26 (by decide)
    rw [if_neg h23, if_neg h12, if_neg h13, if_neg h14, if_neg h15, if_neg h24, if_neg h22, if_neg h25, if_pos h26]
    rw [if_neg h12, if_neg h13, if_neg h14, if_neg h15, if_neg h23, if_neg h24, if_neg h22, if_neg h25, if_pos h26]
    decide
  by_cases h20 : f_isW ta fm en 20
  · refine Or.inr ?_
    have h27 := f_isW_ex (j := 27) h20 (by decide)
    have h8 := f_isW_ex (j := 8) h20 (by decide)
    have h28 := f_isW_ex (j := 28) h20 (by decide)
    rw [if_neg h23, if_neg h12, if_neg h13, if_neg h14, if_neg h15, if_neg h24, if_neg h22, if_neg h25, if_neg h26, if_pos h20]
    rw [if_neg h12, if_neg h13, if_neg h14, if_neg h15, if_neg h23, if_neg h24, if_neg h22, if_neg h25, if_neg h26, if_pos h20]
    decide
  by_cases h27 : f_isW ta fm en 27
  · refine Or.inr ?_
    have h8 := f_isW_ex (j := 8) h27 (by decide)
    have h28 := f_isW_ex (j := 28) h27 (by decide)
    rw [if_neg h23, if_neg h12, if_neg h13, if_neg h14, if_neg h15, if_neg h24, if_neg h22, if_neg h25, if_neg h26, if_neg h20, if_pos h27]
    rw [if_neg h12, if_neg h13, if_neg h14, if_neg h15, if_neg h23, if_neg h24, if_neg h22, if_neg h25, if_neg h26, if_neg h20, if_pos h27]
    decide
  by_cases h8 : f_isW ta fm en 8
  · refine Or.inr ?_
    have h28 := f_isW_ex (j := 28) h8 (by decide)
    rw [if_neg h23, if_neg h12, if_neg h13, if_neg h14, if_neg h15, if_neg h24, if_neg h22, if_neg h25, if_neg h26, if_neg h20, if_neg h27, if_pos h8]
    rw [if_neg h12, if_neg h13, if_neg h14, if_neg h15, if_neg h23, if_neg h24, if_neg h22, if_neg h25, if_neg h26, if_neg h20, if_neg h27, if_pos h8]
    decide
  by_cases h28 : f_isW ta fm en 28
  · refine Or.inr ?_
    rw [if_neg h23, if_neg h12, if_neg h13, if_neg h14, if_neg h15, if_neg h24, if_neg h22, if_neg h25, if_neg h26, if_neg h20, if_neg h27, if_neg h8, if_pos h28]
    rw [if_neg h12, if_neg h13, if_neg h14, if_neg h15, if_neg h23, if_neg h24, if_neg h22, if_neg h25, if_neg h26, if_neg h20, if_neg h27, if_neg h8, if_pos h28]
    decide
  refine Or.inl ?_
  rw [if_neg h23, if_neg h12, if_neg h13, if_neg h14, if_neg h15, if_neg h24, if_neg h22, if_neg h25, if_neg h26, if_neg h20, if_neg h27, if_neg h8, if_neg h28]
  rw [if_neg h12, if_neg h13, if_neg h14, if_neg h15, if_neg h23, if_neg h24, if_neg h22, if_neg h25, if_neg h26, if_neg h20, if_neg h27, if_neg h8, if_neg h28]
  decide
theorem f_spl_3 : f_spl 4 (ax_sl 4 + 1).toNat 0 0 = [(0, 3), (4, 2), (7, 5), (13, 4), (18, 3), (22, 4), (27, 5)] := by decide +kernel
theorem f_wfr_3 {ta : Int → Int} {fm en : Int} : f_wfr 4 ta fm en = if f_isW ta fm en 5 then 0 else if f_isW ta fm en 11 then 0 + 1 else if f_isW ta fm en 6 then 0 + 1 + 1 else if f_isW ta fm en 7 then 0 + 1 + 1 + 1 else if f_isW ta fm en 8 then 0 + 1 + 1 + 1 + 1 else if f_isW ta fm en 9 then 0 + 1 + 1 + 1 + 1 + 1 else if f_isW ta fm en 10 then 0 + 1 + 1 + 1 + 1 + 1 + 1 else -1 := by
  unfold f_wfr
  rw [f_spl_3]
  rw [f_wgo_w 5 (by decide +kernel), f_wgo_w 11 (by decide +kernel), f_wgo_w 6 (by decide +kernel), f_wgo_w 7 (by decide +kernel), f_wgo_w 8 (by decide +kernel), f_wgo_w 9 (by decide +kernel), f_wgo_w 10 (by decide +kernel)]
  rfl
theorem f_wrd_3 {ta : Int → Int} {fm en : Int} : f_wrd ta fm en 3 = if f_isW ta fm en 5 then 10 else if f_isW ta fm en 6 then 11 else if f_isW ta fm en 7 then 12 else if f_isW ta fm en 8 then 13 else if f_isW ta fm en 9 then 14 else if f_isW ta fm en 10 then 15 else if f_isW ta fm en 11 then 16 else 1 := by
  unfold f_wrd
  rw [if_pos (show (3 : Int) = 3 from rfl)]
  unfold f_nmD
  rfl
theorem f_wfq_3 {ta : Int → Int} {fm en : Int} : (f_wfr 4 ta fm en = -1 ∧ f_wrd ta fm en 3 = 1) ∨ (0 ≤ f_wfr 4 ta fm en ∧ f_wfr 4 ta fm en < f_wn 3 ∧ f_wrd ta fm en 3 = f_wcode 3 (f_wfr 4 ta fm en)) := by
  rw [f_wfr_3, f_wrd_3]
  by_cases h5 : f_isW ta fm en 5
  · refine Or.inr ?_
    have h11 := f_isW_ex (j := 11) h5 (by decide)
    have h6 := f_isW_ex (j := 6) h5 (by decide)
    have h7 := f_isW_ex (j := 7) h5 (by decide)
    have h8 := f_isW_ex (j := 8) h5 (by decide)
    have h9 := f_isW_ex (j := 9) h5 (by decide)
    have h10 := f_isW_ex (j := 10) h5 (by decide)
    rw [if_pos h5]
    rw [if_pos h5]
    decide
  by_cases h11 : f_isW ta fm en 11
  · refine Or.inr ?_
    have h6 := f_isW_ex (j := 6) h11 (by decide)
    have h7 := f_isW_ex (j := 7) h11 (by decide)
    have h8 := f_isW_ex (j := 8) h11 (by decide)
    have h9 := f_isW_ex (j := 9) h11 (by decide)
    have h10 := f_isW_ex (j := 10) h11 (by decide)
    rw [if_neg h5, if_pos h11]
    rw [if_neg h5, if_neg h6, if_neg h7, if_neg h8, if_neg h9, if_neg h10, if_pos h11]
    decide
  by_cases h6 : f_isW ta fm en 6
  · refine Or.inr ?_
    have h7 := f_isW_ex (j := 7) h6 (by decide)
    have h8 := f_isW_ex (j := 8) h6 (by decide)
    have h9 := f_isW_ex (j := 9) h6 (by decide)
    have h10 := f_isW_ex (j := 10) h6 (by decide)
    rw [if_neg h5, if_neg h11, if_pos h6]
    rw [if_neg h5, if_pos h6]
    decide
  by_cases h7 : f_isW ta fm en 7
  · refine Or.inr ?_
    have h8 := f_isW_ex (j := 8) h7 (by decide)
    have h9 := f_isW_ex (j := 9) h7 (by decide)
    have h10 := f_isW_ex (j := 10) h7 (by decide)
    rw [if_neg h5, if_neg h11, if_neg h6, if_pos h7]
    rw [if_neg h5, if_neg h6, if_pos h7]
    decide
  by_cases h8 : f_isW ta fm en 8
  · refine Or.inr ?_
    have h9 := f_isW_ex (j := 9) h8 (by decide)
    have h10 := f_isW_ex (j := 10) h8 (by decide)
    rw [if_neg h5, if_neg h11, if_neg h6, if_neg h7, if_pos h8]
    rw [if_neg h5, if_neg h6, if_neg h7, if_pos h8]
    decide
  by_cases h9 : f_isW ta fm en 9
  · refine Or.inr ?_
    have h10 := f_isW_ex (j := 10) h9 (by decide)
    rw [if_neg h5, if_neg h11, if_neg h6, if_neg h7, if_neg h8, if_pos h9]
    rw [if_neg h5, if_neg h6, if_neg h7, if_neg h8, if_pos h9]
    decide
  by_cases h10 : f_isW ta fm en 10
  · refine Or.inr ?_
    rw [if_neg h5, if_neg h11, if_neg h6, if_neg h7, if_neg h8, if_neg h9, if_pos h10]
    rw [if_neg h5, if_neg h6, if_neg h7, if_neg h8, if_neg h9, if_pos h10]
    decide
  refine Or.inl ?_
  rw [if_neg h5, if_neg h11, if_neg h6, if_neg h7, if_neg h8, if_neg h9, if_neg h10]
  rw [if_neg h5, if_neg h6, if_neg h7, if_neg h8, if_neg h9, if_neg h10, if_neg h11]
  decide
set_option maxRecDepth 20000 in
theorem s_X8_isBlank (E : ax_Env) (l : Launch) (d : Nat) (hd : 0 ≤ d) (M : ax_Mem) (c : Int) : ax_G E l d iX8_isBlank [.inl c] M (fun z0 M2 => z0 = some (.inl (f_b (f_blk c))) ∧ M = M2) := by
  refine ax_start rfl (Nat.le_of_ble_eq_true rfl) (ls := [some (.inl c)]) rfl (fun hav hcm => ?_)
  have hc0 : -2147483648 ≤ c ∧ c < 2147483648 := hav (.inl c) (by simp)
  clear hav
  refine ax_iload_n dX8_isBlank_0 rfl rfl (pc' := 1) rfl ?_
  refine ax_bipush dX8_isBlank_1 (by decide) (pc' := 3) rfl ?_
  refine ax_icmp_eq (tgt := 12) dX8_isBlank_3 (by decide) (pc' := 6) rfl (fun h3 => ?_) (fun h3 => ?_)
  · refine ax_iconst dX8_isBlank_12 (by decide) (pc' := 13) rfl ?_
    refine ax_goto dX8_isBlank_13 (pc' := 17) (by decide) ?_
    refine ax_zret dX8_isBlank_17 rfl (by decide) ?_
    refine ⟨rfl, ?_, ?_⟩
    · refine congrArg (fun z => some (Sum.inl z)) ?_
      unfold f_b; split <;> omega
    · rfl
  · refine ax_iload_n dX8_isBlank_6 rfl rfl (pc' := 7) rfl ?_
    refine ax_bipush dX8_isBlank_7 (by decide) (pc' := 9) rfl ?_
    refine ax_icmp_ne (tgt := 16) dX8_isBlank_9 (by decide) (pc' := 12) rfl (fun h9 => ?_) (fun h9 => ?_)
    · refine ax_iconst dX8_isBlank_16 (by decide) (pc' := 17) rfl ?_
      refine ax_zret dX8_isBlank_17 rfl (by decide) ?_
      refine ⟨rfl, ?_, ?_⟩
      · refine congrArg (fun z => some (Sum.inl z)) ?_
        unfold f_b; split <;> omega
      · rfl
    · refine ax_iconst dX8_isBlank_12 (by decide) (pc' := 13) rfl ?_
      refine ax_goto dX8_isBlank_13 (pc' := 17) (by decide) ?_
      refine ax_zret dX8_isBlank_17 rfl (by decide) ?_
      refine ⟨rfl, ?_, ?_⟩
      · refine congrArg (fun z => some (Sum.inl z)) ?_
        unfold f_b; split <;> omega
      · rfl
set_option maxRecDepth 20000 in
theorem s_X8_isLetter (E : ax_Env) (l : Launch) (d : Nat) (hd : 0 ≤ d) (M : ax_Mem) (c : Int) : ax_G E l d iX8_isLetter [.inl c] M (fun z0 M2 => z0 = some (.inl (f_b (f_let c))) ∧ M = M2) := by
  refine ax_start rfl (Nat.le_of_ble_eq_true rfl) (ls := [some (.inl c)]) rfl (fun hav hcm => ?_)
  have hc0 : -2147483648 ≤ c ∧ c < 2147483648 := hav (.inl c) (by simp)
  clear hav
  refine ax_iload_n dX8_isLetter_0 rfl rfl (pc' := 1) rfl ?_
  refine ax_bipush dX8_isLetter_1 (by decide) (pc' := 3) rfl ?_
  refine ax_icmp_lt (tgt := 12) dX8_isLetter_3 (by decide) (pc' := 6) rfl (fun h3 => ?_) (fun h3 => ?_)
  · refine ax_iload_n dX8_isLetter_12 rfl rfl (pc' := 13) rfl ?_
    refine ax_bipush dX8_isLetter_13 (by decide) (pc' := 15) rfl ?_
    refine ax_icmp_lt (tgt := 28) dX8_isLetter_15 (by decide) (pc' := 18) rfl (fun h15 => ?_) (fun h15 => ?_)
    · refine ax_iconst dX8_isLetter_28 (by decide) (pc' := 29) rfl ?_
      refine ax_zret dX8_isLetter_29 rfl (by decide) ?_
      refine ⟨rfl, ?_, ?_⟩
      · refine congrArg (fun z => some (Sum.inl z)) ?_
        unfold f_b; split <;> omega
      · rfl
    · refine ax_iload_n dX8_isLetter_18 rfl rfl (pc' := 19) rfl ?_
      refine ax_bipush dX8_isLetter_19 (by decide) (pc' := 21) rfl ?_
      refine ax_icmp_gt (tgt := 28) dX8_isLetter_21 (by decide) (pc' := 24) rfl (fun h21 => ?_) (fun h21 => ?_)
      · refine ax_iconst dX8_isLetter_28 (by decide) (pc' := 29) rfl ?_
        refine ax_zret dX8_isLetter_29 rfl (by decide) ?_
        refine ⟨rfl, ?_, ?_⟩
        · refine congrArg (fun z => some (Sum.inl z)) ?_
          unfold f_b; split <;> omega
        · rfl
      · refine ax_iconst dX8_isLetter_24 (by decide) (pc' := 25) rfl ?_
        refine ax_goto dX8_isLetter_25 (pc' := 29) (by decide) ?_
        refine ax_zret dX8_isLetter_29 rfl (by decide) ?_
        refine ⟨rfl, ?_, ?_⟩
        · refine congrArg (fun z => some (Sum.inl z)) ?_
          unfold f_b; split <;> omega
        · rfl
  · refine ax_iload_n dX8_isLetter_6 rfl rfl (pc' := 7) rfl ?_
    refine ax_bipush dX8_isLetter_7 (by decide) (pc' := 9) rfl ?_
    refine ax_icmp_le (tgt := 24) dX8_isLetter_9 (by decide) (pc' := 12) rfl (fun h9 => ?_) (fun h9 => ?_)
    · refine ax_iconst dX8_isLetter_24 (by decide) (pc' := 25) rfl ?_
      refine ax_goto dX8_isLetter_25 (pc' := 29) (by decide) ?_
      refine ax_zret dX8_isLetter_29 rfl (by decide) ?_
      refine ⟨rfl, ?_, ?_⟩
      · refine congrArg (fun z => some (Sum.inl z)) ?_
        unfold f_b; split <;> omega
      · rfl
    · refine ax_iload_n dX8_isLetter_12 rfl rfl (pc' := 13) rfl ?_
      refine ax_bipush dX8_isLetter_13 (by decide) (pc' := 15) rfl ?_
      refine ax_icmp_lt (tgt := 28) dX8_isLetter_15 (by decide) (pc' := 18) rfl (fun h15 => ?_) (fun h15 => ?_)
      · refine ax_iconst dX8_isLetter_28 (by decide) (pc' := 29) rfl ?_
        refine ax_zret dX8_isLetter_29 rfl (by decide) ?_
        refine ⟨rfl, ?_, ?_⟩
        · refine congrArg (fun z => some (Sum.inl z)) ?_
          unfold f_b; split <;> omega
        · rfl
      · refine ax_iload_n dX8_isLetter_18 rfl rfl (pc' := 19) rfl ?_
        refine ax_bipush dX8_isLetter_19 (by decide) (pc' := 21) rfl ?_
        refine ax_icmp_gt (tgt := 28) dX8_isLetter_21 (by decide) (pc' := 24) rfl (fun h21 => ?_) (fun h21 => ?_)
        · refine ax_iconst dX8_isLetter_28 (by decide) (pc' := 29) rfl ?_
          refine ax_zret dX8_isLetter_29 rfl (by decide) ?_
          refine ⟨rfl, ?_, ?_⟩
          · refine congrArg (fun z => some (Sum.inl z)) ?_
            unfold f_b; split <;> omega
          · rfl
        · refine ax_iconst dX8_isLetter_24 (by decide) (pc' := 25) rfl ?_
          refine ax_goto dX8_isLetter_25 (pc' := 29) (by decide) ?_
          refine ax_zret dX8_isLetter_29 rfl (by decide) ?_
          refine ⟨rfl, ?_, ?_⟩
          · refine congrArg (fun z => some (Sum.inl z)) ?_
            unfold f_b; split <;> omega
          · rfl
set_option maxRecDepth 20000 in
theorem s_X8_isDigit (E : ax_Env) (l : Launch) (d : Nat) (hd : 0 ≤ d) (M : ax_Mem) (c : Int) : ax_G E l d iX8_isDigit [.inl c] M (fun z0 M2 => z0 = some (.inl (f_b (f_dig c))) ∧ M = M2) := by
  refine ax_start rfl (Nat.le_of_ble_eq_true rfl) (ls := [some (.inl c)]) rfl (fun hav hcm => ?_)
  have hc0 : -2147483648 ≤ c ∧ c < 2147483648 := hav (.inl c) (by simp)
  clear hav
  refine ax_iload_n dX8_isDigit_0 rfl rfl (pc' := 1) rfl ?_
  refine ax_bipush dX8_isDigit_1 (by decide) (pc' := 3) rfl ?_
  refine ax_icmp_lt (tgt := 16) dX8_isDigit_3 (by decide) (pc' := 6) rfl (fun h3 => ?_) (fun h3 => ?_)
  · refine ax_iconst dX8_isDigit_16 (by decide) (pc' := 17) rfl ?_
    refine ax_zret dX8_isDigit_17 rfl (by decide) ?_
    refine ⟨rfl, ?_, ?_⟩
    · refine congrArg (fun z => some (Sum.inl z)) ?_
      unfold f_b; split <;> omega
    · rfl
  · refine ax_iload_n dX8_isDigit_6 rfl rfl (pc' := 7) rfl ?_
    refine ax_bipush dX8_isDigit_7 (by decide) (pc' := 9) rfl ?_
    refine ax_icmp_gt (tgt := 16) dX8_isDigit_9 (by decide) (pc' := 12) rfl (fun h9 => ?_) (fun h9 => ?_)
    · refine ax_iconst dX8_isDigit_16 (by decide) (pc' := 17) rfl ?_
      refine ax_zret dX8_isDigit_17 rfl (by decide) ?_
      refine ⟨rfl, ?_, ?_⟩
      · refine congrArg (fun z => some (Sum.inl z)) ?_
        unfold f_b; split <;> omega
      · rfl
    · refine ax_iconst dX8_isDigit_12 (by decide) (pc' := 13) rfl ?_
      refine ax_goto dX8_isDigit_13 (pc' := 17) (by decide) ?_
      refine ax_zret dX8_isDigit_17 rfl (by decide) ?_
      refine ⟨rfl, ?_, ?_⟩
      · refine congrArg (fun z => some (Sum.inl z)) ?_
        unfold f_b; split <;> omega
      · rfl
set_option maxRecDepth 20000 in
theorem s_X8_isEnd (E : ax_Env) (l : Launch) (d : Nat) (hd : 0 ≤ d) (M : ax_Mem) {kk : Int → Int} (hkk : M 60 = kk) {nx : Int} (hnx : M 58 8 = nx) (hg0 : 0 ≤ nx ∧ nx ≤ 400) : ax_G E l d iX8_isEnd [.inr 58] M (fun z0 M2 => z0 = some (.inl (f_b (kk nx = 0))) ∧ M = M2) := by
  refine ax_start rfl (Nat.le_of_ble_eq_true rfl) (ls := [some (.inr 58)]) rfl (fun hav hcm => ?_)
  clear hav
  refine ax_aload_n dX8_isEnd_0 rfl rfl (pc' := 1) rfl ?_
  refine ax_getr (v := 60) dX8_isEnd_1 flX8_19 rfl sh_58 rfl (pc' := 4) rfl ?_
  refine ax_aload_n dX8_isEnd_4 rfl rfl (pc' := 5) rfl ?_
  refine ax_geti (v := nx) dX8_isEnd_5 flX8_34 rfl sh_58 hnx rfl (pc' := 8) rfl ?_
  refine ax_iald (v := kk nx) dX8_isEnd_8 sh_60 rfl (by omega) (by omega) ((congrFun hkk nx).trans rfl) (pc' := 9) rfl ?_
  refine ax_if_ne (tgt := 16) dX8_isEnd_9 (by decide) (pc' := 12) rfl (fun h9 => ?_) (fun h9 => ?_)
  · refine ax_iconst dX8_isEnd_16 (by decide) (pc' := 17) rfl ?_
    refine ax_zret dX8_isEnd_17 rfl (by decide) ?_
    refine ⟨rfl, ?_, ?_⟩
    · refine congrArg (fun z => some (Sum.inl z)) ?_
      unfold f_b; split <;> omega
    · rfl
  · refine ax_iconst dX8_isEnd_12 (by decide) (pc' := 13) rfl ?_
    refine ax_goto dX8_isEnd_13 (pc' := 17) (by decide) ?_
    refine ax_zret dX8_isEnd_17 rfl (by decide) ?_
    refine ⟨rfl, ?_, ?_⟩
    · refine congrArg (fun z => some (Sum.inl z)) ?_
      unfold f_b; split <;> omega
    · rfl
set_option maxRecDepth 20000 in
theorem s_X8_isNumber (E : ax_Env) (l : Launch) (d : Nat) (hd : 0 ≤ d) (M : ax_Mem) {kk : Int → Int} (hkk : M 60 = kk) {nx : Int} (hnx : M 58 8 = nx) (hg0 : 0 ≤ nx ∧ nx ≤ 400) : ax_G E l d iX8_isNumber [.inr 58] M (fun z0 M2 => z0 = some (.inl (f_b (kk nx = 3))) ∧ M = M2) := by
  refine ax_start rfl (Nat.le_of_ble_eq_true rfl) (ls := [some (.inr 58)]) rfl (fun hav hcm => ?_)
  clear hav
  refine ax_aload_n dX8_isNumber_0 rfl rfl (pc' := 1) rfl ?_
  refine ax_getr (v := 60) dX8_isNumber_1 flX8_19 rfl sh_58 rfl (pc' := 4) rfl ?_
  refine ax_aload_n dX8_isNumber_4 rfl rfl (pc' := 5) rfl ?_
  refine ax_geti (v := nx) dX8_isNumber_5 flX8_34 rfl sh_58 hnx rfl (pc' := 8) rfl ?_
  refine ax_iald (v := kk nx) dX8_isNumber_8 sh_60 rfl (by omega) (by omega) ((congrFun hkk nx).trans rfl) (pc' := 9) rfl ?_
  refine ax_iconst dX8_isNumber_9 (by decide) (pc' := 10) rfl ?_
  refine ax_icmp_ne (tgt := 17) dX8_isNumber_10 (by decide) (pc' := 13) rfl (fun h10 => ?_) (fun h10 => ?_)
  · refine ax_iconst dX8_isNumber_17 (by decide) (pc' := 18) rfl ?_
    refine ax_zret dX8_isNumber_18 rfl (by decide) ?_
    refine ⟨rfl, ?_, ?_⟩
    · refine congrArg (fun z => some (Sum.inl z)) ?_
      unfold f_b; split <;> omega
    · rfl
  · refine ax_iconst dX8_isNumber_13 (by decide) (pc' := 14) rfl ?_
    refine ax_goto dX8_isNumber_14 (pc' := 18) (by decide) ?_
    refine ax_zret dX8_isNumber_18 rfl (by decide) ?_
    refine ⟨rfl, ?_, ?_⟩
    · refine congrArg (fun z => some (Sum.inl z)) ?_
      unfold f_b; split <;> omega
    · rfl
set_option maxRecDepth 20000 in
theorem s_X8_isWord (E : ax_Env) (l : Launch) (d : Nat) (hd : 0 ≤ d) (M : ax_Mem) (wo : Int) {kk : Int → Int} (hkk : M 60 = kk) {vv : Int → Int} (hvv : M 61 = vv) {nx : Int} (hnx : M 58 8 = nx) (hg0 : 0 ≤ nx ∧ nx ≤ 400) : ax_G E l d iX8_isWord [.inr 58, .inl wo] M (fun z0 M2 => z0 = some (.inl (f_b (kk nx = 2 ∧ vv nx = wo))) ∧ M = M2) := by
  refine ax_start rfl (Nat.le_of_ble_eq_true rfl) (ls := [some (.inr 58), some (.inl wo)]) rfl (fun hav hcm => ?_)
  have hc1 : -2147483648 ≤ wo ∧ wo < 2147483648 := hav (.inl wo) (by simp)
  clear hav
  refine ax_aload_n dX8_isWord_0 rfl rfl (pc' := 1) rfl ?_
  refine ax_getr (v := 60) dX8_isWord_1 flX8_19 rfl sh_58 rfl (pc' := 4) rfl ?_
  refine ax_aload_n dX8_isWord_4 rfl rfl (pc' := 5) rfl ?_
  refine ax_geti (v := nx) dX8_isWord_5 flX8_34 rfl sh_58 hnx rfl (pc' := 8) rfl ?_
  refine ax_iald (v := kk nx) dX8_isWord_8 sh_60 rfl (by omega) (by omega) ((congrFun hkk nx).trans rfl) (pc' := 9) rfl ?_
  refine ax_iconst dX8_isWord_9 (by decide) (pc' := 10) rfl ?_
  refine ax_icmp_ne (tgt := 30) dX8_isWord_10 (by decide) (pc' := 13) rfl (fun h10 => ?_) (fun h10 => ?_)
  · refine ax_iconst dX8_isWord_30 (by decide) (pc' := 31) rfl ?_
    refine ax_zret dX8_isWord_31 rfl (by decide) ?_
    refine ⟨rfl, ?_, ?_⟩
    · refine congrArg (fun z => some (Sum.inl z)) ?_
      unfold f_b; split <;> omega
    · rfl
  · refine ax_aload_n dX8_isWord_13 rfl rfl (pc' := 14) rfl ?_
    refine ax_getr (v := 61) dX8_isWord_14 flX8_22 rfl sh_58 rfl (pc' := 17) rfl ?_
    refine ax_aload_n dX8_isWord_17 rfl rfl (pc' := 18) rfl ?_
    refine ax_geti (v := nx) dX8_isWord_18 flX8_34 rfl sh_58 hnx rfl (pc' := 21) rfl ?_
    refine ax_iald (v := vv nx) dX8_isWord_21 sh_61 rfl (by omega) (by omega) ((congrFun hvv nx).trans rfl) (pc' := 22) rfl ?_
    refine ax_iload_n dX8_isWord_22 rfl rfl (pc' := 23) rfl ?_
    refine ax_icmp_ne (tgt := 30) dX8_isWord_23 (by decide) (pc' := 26) rfl (fun h23 => ?_) (fun h23 => ?_)
    · refine ax_iconst dX8_isWord_30 (by decide) (pc' := 31) rfl ?_
      refine ax_zret dX8_isWord_31 rfl (by decide) ?_
      refine ⟨rfl, ?_, ?_⟩
      · refine congrArg (fun z => some (Sum.inl z)) ?_
        unfold f_b; split <;> omega
      · rfl
    · refine ax_iconst dX8_isWord_26 (by decide) (pc' := 27) rfl ?_
      refine ax_goto dX8_isWord_27 (pc' := 31) (by decide) ?_
      refine ax_zret dX8_isWord_31 rfl (by decide) ?_
      refine ⟨rfl, ?_, ?_⟩
      · refine congrArg (fun z => some (Sum.inl z)) ?_
        unfold f_b; split <;> omega
      · rfl
set_option maxRecDepth 20000 in
theorem s_X8_isAsked (E : ax_Env) (l : Launch) (d : Nat) (hd : 0 ≤ d) (M : ax_Mem) (fw : Int) {kk : Int → Int} (hkk : M 60 = kk) {vv : Int → Int} (hvv : M 61 = vv) {nx : Int} (hnx : M 58 8 = nx) (hg0 : 0 ≤ nx ∧ nx ≤ 400) : ax_G E l d iX8_isAsked [.inr 58, .inl fw] M (fun z0 M2 => z0 = some (.inl (f_b (kk nx = 2 ∧ fw ≤ vv nx))) ∧ M = M2) := by
  refine ax_start rfl (Nat.le_of_ble_eq_true rfl) (ls := [some (.inr 58), some (.inl fw)]) rfl (fun hav hcm => ?_)
  have hc1 : -2147483648 ≤ fw ∧ fw < 2147483648 := hav (.inl fw) (by simp)
  clear hav
  refine ax_aload_n dX8_isAsked_0 rfl rfl (pc' := 1) rfl ?_
  refine ax_getr (v := 60) dX8_isAsked_1 flX8_19 rfl sh_58 rfl (pc' := 4) rfl ?_
  refine ax_aload_n dX8_isAsked_4 rfl rfl (pc' := 5) rfl ?_
  refine ax_geti (v := nx) dX8_isAsked_5 flX8_34 rfl sh_58 hnx rfl (pc' := 8) rfl ?_
  refine ax_iald (v := kk nx) dX8_isAsked_8 sh_60 rfl (by omega) (by omega) ((congrFun hkk nx).trans rfl) (pc' := 9) rfl ?_
  refine ax_iconst dX8_isAsked_9 (by decide) (pc' := 10) rfl ?_
  refine ax_icmp_ne (tgt := 30) dX8_isAsked_10 (by decide) (pc' := 13) rfl (fun h10 => ?_) (fun h10 => ?_)
  · refine ax_iconst dX8_isAsked_30 (by decide) (pc' := 31) rfl ?_
    refine ax_zret dX8_isAsked_31 rfl (by decide) ?_
    refine ⟨rfl, ?_, ?_⟩
    · refine congrArg (fun z => some (Sum.inl z)) ?_
      unfold f_b; split <;> omega
    · rfl
  · refine ax_aload_n dX8_isAsked_13 rfl rfl (pc' := 14) rfl ?_
    refine ax_getr (v := 61) dX8_isAsked_14 flX8_22 rfl sh_58 rfl (pc' := 17) rfl ?_
    refine ax_aload_n dX8_isAsked_17 rfl rfl (pc' := 18) rfl ?_
    refine ax_geti (v := nx) dX8_isAsked_18 flX8_34 rfl sh_58 hnx rfl (pc' := 21) rfl ?_
    refine ax_iald (v := vv nx) dX8_isAsked_21 sh_61 rfl (by omega) (by omega) ((congrFun hvv nx).trans rfl) (pc' := 22) rfl ?_
    refine ax_iload_n dX8_isAsked_22 rfl rfl (pc' := 23) rfl ?_
    refine ax_icmp_lt (tgt := 30) dX8_isAsked_23 (by decide) (pc' := 26) rfl (fun h23 => ?_) (fun h23 => ?_)
    · refine ax_iconst dX8_isAsked_30 (by decide) (pc' := 31) rfl ?_
      refine ax_zret dX8_isAsked_31 rfl (by decide) ?_
      refine ⟨rfl, ?_, ?_⟩
      · refine congrArg (fun z => some (Sum.inl z)) ?_
        unfold f_b; split <;> omega
      · rfl
    · refine ax_iconst dX8_isAsked_26 (by decide) (pc' := 27) rfl ?_
      refine ax_goto dX8_isAsked_27 (pc' := 31) (by decide) ?_
      refine ax_zret dX8_isAsked_31 rfl (by decide) ?_
      refine ⟨rfl, ?_, ?_⟩
      · refine congrArg (fun z => some (Sum.inl z)) ?_
        unfold f_b; split <;> omega
      · rfl
set_option maxRecDepth 20000 in
theorem s_X8_isSign (E : ax_Env) (l : Launch) (d : Nat) (hd : 0 ≤ d) (M : ax_Mem) (sg : Int) {kk : Int → Int} (hkk : M 60 = kk) {vv : Int → Int} (hvv : M 61 = vv) {nx : Int} (hnx : M 58 8 = nx) (hg0 : 0 ≤ nx ∧ nx ≤ 400) : ax_G E l d iX8_isSign [.inr 58, .inl sg] M (fun z0 M2 => z0 = some (.inl (f_b (kk nx = 1 ∧ vv nx = sg))) ∧ M = M2) := by
  refine ax_start rfl (Nat.le_of_ble_eq_true rfl) (ls := [some (.inr 58), some (.inl sg)]) rfl (fun hav hcm => ?_)
  have hc1 : -2147483648 ≤ sg ∧ sg < 2147483648 := hav (.inl sg) (by simp)
  clear hav
  refine ax_aload_n dX8_isSign_0 rfl rfl (pc' := 1) rfl ?_
  refine ax_getr (v := 60) dX8_isSign_1 flX8_19 rfl sh_58 rfl (pc' := 4) rfl ?_
  refine ax_aload_n dX8_isSign_4 rfl rfl (pc' := 5) rfl ?_
  refine ax_geti (v := nx) dX8_isSign_5 flX8_34 rfl sh_58 hnx rfl (pc' := 8) rfl ?_
  refine ax_iald (v := kk nx) dX8_isSign_8 sh_60 rfl (by omega) (by omega) ((congrFun hkk nx).trans rfl) (pc' := 9) rfl ?_
  refine ax_iconst dX8_isSign_9 (by decide) (pc' := 10) rfl ?_
  refine ax_icmp_ne (tgt := 30) dX8_isSign_10 (by decide) (pc' := 13) rfl (fun h10 => ?_) (fun h10 => ?_)
  · refine ax_iconst dX8_isSign_30 (by decide) (pc' := 31) rfl ?_
    refine ax_zret dX8_isSign_31 rfl (by decide) ?_
    refine ⟨rfl, ?_, ?_⟩
    · refine congrArg (fun z => some (Sum.inl z)) ?_
      unfold f_b; split <;> omega
    · rfl
  · refine ax_aload_n dX8_isSign_13 rfl rfl (pc' := 14) rfl ?_
    refine ax_getr (v := 61) dX8_isSign_14 flX8_22 rfl sh_58 rfl (pc' := 17) rfl ?_
    refine ax_aload_n dX8_isSign_17 rfl rfl (pc' := 18) rfl ?_
    refine ax_geti (v := nx) dX8_isSign_18 flX8_34 rfl sh_58 hnx rfl (pc' := 21) rfl ?_
    refine ax_iald (v := vv nx) dX8_isSign_21 sh_61 rfl (by omega) (by omega) ((congrFun hvv nx).trans rfl) (pc' := 22) rfl ?_
    refine ax_iload_n dX8_isSign_22 rfl rfl (pc' := 23) rfl ?_
    refine ax_icmp_ne (tgt := 30) dX8_isSign_23 (by decide) (pc' := 26) rfl (fun h23 => ?_) (fun h23 => ?_)
    · refine ax_iconst dX8_isSign_30 (by decide) (pc' := 31) rfl ?_
      refine ax_zret dX8_isSign_31 rfl (by decide) ?_
      refine ⟨rfl, ?_, ?_⟩
      · refine congrArg (fun z => some (Sum.inl z)) ?_
        unfold f_b; split <;> omega
      · rfl
    · refine ax_iconst dX8_isSign_26 (by decide) (pc' := 27) rfl ?_
      refine ax_goto dX8_isSign_27 (pc' := 31) (by decide) ?_
      refine ax_zret dX8_isSign_31 rfl (by decide) ?_
      refine ⟨rfl, ?_, ?_⟩
      · refine congrArg (fun z => some (Sum.inl z)) ?_
        unfold f_b; split <;> omega
      · rfl
set_option maxRecDepth 20000 in
theorem s_X8_value (E : ax_Env) (l : Launch) (d : Nat) (hd : 0 ≤ d) (M : ax_Mem) {vv : Int → Int} (hvv : M 61 = vv) {nx : Int} (hnx : M 58 8 = nx) (hg0 : 0 ≤ nx ∧ nx ≤ 400) : ax_G E l d iX8_value [.inr 58] M (fun z0 M2 => z0 = some (.inl (vv nx)) ∧ M = M2) := by
  refine ax_start rfl (Nat.le_of_ble_eq_true rfl) (ls := [some (.inr 58)]) rfl (fun hav hcm => ?_)
  clear hav
  refine ax_aload_n dX8_value_0 rfl rfl (pc' := 1) rfl ?_
  refine ax_getr (v := 61) dX8_value_1 flX8_22 rfl sh_58 rfl (pc' := 4) rfl ?_
  refine ax_aload_n dX8_value_4 rfl rfl (pc' := 5) rfl ?_
  refine ax_geti (v := nx) dX8_value_5 flX8_34 rfl sh_58 hnx rfl (pc' := 8) rfl ?_
  refine ax_iald (v := vv nx) dX8_value_8 sh_61 rfl (by omega) (by omega) ((congrFun hvv nx).trans rfl) (pc' := 9) rfl ?_
  refine ax_iret dX8_value_9 rfl ?_
  refine ⟨rfl, ?_, ?_⟩
  · rfl
  · rfl
set_option maxRecDepth 20000 in
theorem s_X8_step (E : ax_Env) (l : Launch) (d : Nat) (hd : 0 ≤ d) (M : ax_Mem) {kk : Int → Int} (hkk : M 60 = kk) {nx : Int} (hnx : M 58 8 = nx) (hg0 : 0 ≤ nx ∧ nx < 400) (hg1 : kk nx ≠ 0) : ax_G E l d iX8_step [.inr 58] M (fun z0 M2 => z0 = none ∧ (∀ x0 i0 : Int, ¬ ((x0 = 58 ∧ i0 = 8)) → M2 x0 i0 = M x0 i0) ∧ M2 58 8 = nx + 1) := by
  refine ax_start rfl (Nat.le_of_ble_eq_true rfl) (ls := [some (.inr 58)]) rfl (fun hav hcm => ?_)
  clear hav
  refine ax_aload_n dX8_step_0 rfl rfl (pc' := 1) rfl ?_
  refine ax_geti (v := nx) dX8_step_1 flX8_34 rfl sh_58 hnx rfl (pc' := 4) rfl ?_
  refine ax_sipush dX8_step_4 (by decide) (pc' := 7) rfl ?_
  refine ax_icmp_ge (tgt := 32) dX8_step_7 (by decide) (pc' := 10) rfl (fun h7 => ?_) (fun h7 => ?_)
  · exfalso
    omega
  · refine ax_aload_n dX8_step_10 rfl rfl (pc' := 11) rfl ?_
    refine ax_getr (v := 60) dX8_step_11 flX8_19 rfl sh_58 rfl (pc' := 14) rfl ?_
    refine ax_aload_n dX8_step_14 rfl rfl (pc' := 15) rfl ?_
    refine ax_geti (v := nx) dX8_step_15 flX8_34 rfl sh_58 hnx rfl (pc' := 18) rfl ?_
    refine ax_iald (v := kk nx) dX8_step_18 sh_60 rfl (by omega) (by omega) ((congrFun hkk nx).trans rfl) (pc' := 19) rfl ?_
    refine ax_if_eq (tgt := 32) dX8_step_19 (by decide) (pc' := 22) rfl (fun h19 => ?_) (fun h19 => ?_)
    · exfalso
      omega
    · refine ax_aload_n dX8_step_22 rfl rfl (pc' := 23) rfl ?_
      refine ax_dup dX8_step_23 (pc' := 24) rfl ?_
      refine ax_geti (v := nx) dX8_step_24 flX8_34 rfl sh_58 hnx rfl (pc' := 27) rfl ?_
      refine ax_iconst dX8_step_27 (by decide) (pc' := 28) rfl ?_
      refine ax_iadd dX8_step_28 (by omega) (pc' := 29) rfl ?_
      refine ax_puti dX8_step_29 flX8_34 (Or.inl rfl) sh_58 rfl (pc' := 32) rfl ?_
      refine ax_vret dX8_step_32 rfl ?_
      refine ⟨rfl, rfl, ?_, ?_⟩
      · intro x0 i0 hai
        exact (ax_up_miss (fun h => hai h) rfl)
      · exact (ax_up_hit _ _ _ _)
set_option maxRecDepth 20000 in
theorem s_X8_fail (E : ax_Env) (l : Launch) (d : Nat) (hd : 0 ≤ d) (M : ax_Mem) (fk : Int) {ss : Int → Int} (hss : M 62 = ss) {nx : Int} (hnx : M 58 8 = nx) (hg0 : 0 ≤ nx ∧ nx ≤ 400) : ax_G E l d iX8_fail [.inr 58, .inl fk] M (fun z0 M2 => z0 = some (.inl 0) ∧ (∀ x0 i0 : Int, ¬ ((x0 = 58 ∧ i0 = 2) ∨ (x0 = 58 ∧ i0 = 3)) → M2 x0 i0 = M x0 i0) ∧ M2 58 2 = fk ∧ M2 58 3 = ss nx) := by
  refine ax_start rfl (Nat.le_of_ble_eq_true rfl) (ls := [some (.inr 58), some (.inl fk)]) rfl (fun hav hcm => ?_)
  have hc1 : -2147483648 ≤ fk ∧ fk < 2147483648 := hav (.inl fk) (by simp)
  clear hav
  refine ax_aload_n dX8_fail_0 rfl rfl (pc' := 1) rfl ?_
  refine ax_iload_n dX8_fail_1 rfl rfl (pc' := 2) rfl ?_
  refine ax_puti dX8_fail_2 flX8_89 (Or.inl rfl) sh_58 rfl (pc' := 5) rfl ?_
  refine ax_aload_n dX8_fail_5 rfl rfl (pc' := 6) rfl ?_
  refine ax_aload_n dX8_fail_6 rfl rfl (pc' := 7) rfl ?_
  refine ax_getr (v := 62) dX8_fail_7 flX8_25 rfl sh_58 rfl (pc' := 10) rfl ?_
  refine ax_aload_n dX8_fail_10 rfl rfl (pc' := 11) rfl ?_
  refine ax_geti (v := nx) dX8_fail_11 flX8_34 rfl sh_58 (show (ax_up M 58 2 fk) 58 8 = nx from (ax_up_miss (by decide) hnx)) rfl (pc' := 14) rfl ?_
  refine ax_iald (v := ss nx) dX8_fail_14 sh_62 rfl (by omega) (by omega) ((congrFun (ax_up_rowmiss (by decide) hss) nx).trans rfl) (pc' := 15) rfl ?_
  refine ax_puti dX8_fail_15 flX8_15 (Or.inl rfl) sh_58 rfl (pc' := 18) rfl ?_
  refine ax_iconst dX8_fail_18 (by decide) (pc' := 19) rfl ?_
  refine ax_zret dX8_fail_19 rfl (by decide) ?_
  refine ⟨rfl, ?_, ?_, ?_, ?_⟩
  · rfl
  · intro x0 i0 hai
    exact (ax_up_miss (fun h => hai (Or.inr h)) (ax_up_miss (fun h => hai (Or.inl h)) rfl))
  · exact (ax_up_miss (by decide) (ax_up_hit _ _ _ _))
  · exact (ax_up_hit _ _ _ _)
set_option maxRecDepth 20000 in
theorem s_X8_failAt (E : ax_Env) (l : Launch) (d : Nat) (hd : 0 ≤ d) (M : ax_Mem) (fk pl : Int) : ax_G E l d iX8_failAt [.inr 58, .inl fk, .inl pl] M (fun z0 M2 => z0 = none ∧ (∀ x0 i0 : Int, ¬ ((x0 = 58 ∧ i0 = 2) ∨ (x0 = 58 ∧ i0 = 3)) → M2 x0 i0 = M x0 i0) ∧ M2 58 2 = fk ∧ M2 58 3 = pl) := by
  refine ax_start rfl (Nat.le_of_ble_eq_true rfl) (ls := [some (.inr 58), some (.inl fk), some (.inl pl)]) rfl (fun hav hcm => ?_)
  have hc1 : -2147483648 ≤ fk ∧ fk < 2147483648 := hav (.inl fk) (by simp)
  have hc2 : -2147483648 ≤ pl ∧ pl < 2147483648 := hav (.inl pl) (by simp)
  clear hav
  refine ax_aload_n dX8_failAt_0 rfl rfl (pc' := 1) rfl ?_
  refine ax_iload_n dX8_failAt_1 rfl rfl (pc' := 2) rfl ?_
  refine ax_puti dX8_failAt_2 flX8_89 (Or.inl rfl) sh_58 rfl (pc' := 5) rfl ?_
  refine ax_aload_n dX8_failAt_5 rfl rfl (pc' := 6) rfl ?_
  refine ax_iload_n dX8_failAt_6 rfl rfl (pc' := 7) rfl ?_
  refine ax_puti dX8_failAt_7 flX8_15 (Or.inl rfl) sh_58 rfl (pc' := 10) rfl ?_
  refine ax_vret dX8_failAt_10 rfl ?_
  refine ⟨rfl, rfl, ?_, ?_, ?_⟩
  · intro x0 i0 hai
    exact (ax_up_miss (fun h => hai (Or.inr h)) (ax_up_miss (fun h => hai (Or.inl h)) rfl))
  · exact (ax_up_miss (by decide) (ax_up_hit _ _ _ _))
  · exact (ax_up_hit _ _ _ _)
set_option maxRecDepth 20000 in
theorem s_X8_pass_ok (E : ax_Env) (l : Launch) (d : Nat) (hd : 1 ≤ d) (M : ax_Mem) (kd vl : Int) {kk : Int → Int} (hkk : M 60 = kk) {vv : Int → Int} (hvv : M 61 = vv) {nx : Int} (hnx : M 58 8 = nx) (hg0 : 0 ≤ nx ∧ nx < 400) (hg1 : kk nx = kd ∧ vv nx = vl) (hg2 : kd ≠ 0) : ax_G E l d iX8_pass [.inr 58, .inl kd, .inl vl] M (fun z0 M2 => z0 = some (.inl 1) ∧ (∀ x0 i0 : Int, ¬ ((x0 = 58 ∧ i0 = 8)) → M2 x0 i0 = M x0 i0) ∧ M2 58 8 = nx + 1) := by
  obtain ⟨d, rfl⟩ : ∃ d0, d = d0 + 1 := ⟨d - 1, by omega⟩
  refine ax_start rfl (Nat.le_of_ble_eq_true rfl) (ls := [some (.inr 58), some (.inl kd), some (.inl vl)]) rfl (fun hav hcm => ?_)
  have hc1 : -2147483648 ≤ kd ∧ kd < 2147483648 := hav (.inl kd) (by simp)
  have hc2 : -2147483648 ≤ vl ∧ vl < 2147483648 := hav (.inl vl) (by simp)
  clear hav
  refine ax_aload_n dX8_pass_0 rfl rfl (pc' := 1) rfl ?_
  refine ax_getr (v := 60) dX8_pass_1 flX8_19 rfl sh_58 rfl (pc' := 4) rfl ?_
  refine ax_aload_n dX8_pass_4 rfl rfl (pc' := 5) rfl ?_
  refine ax_geti (v := nx) dX8_pass_5 flX8_34 rfl sh_58 hnx rfl (pc' := 8) rfl ?_
  refine ax_iald (v := kk nx) dX8_pass_8 sh_60 rfl (by omega) (by omega) ((congrFun hkk nx).trans rfl) (pc' := 9) rfl ?_
  refine ax_iload_n dX8_pass_9 rfl rfl (pc' := 10) rfl ?_
  refine ax_icmp_ne (tgt := 26) dX8_pass_10 (by decide) (pc' := 13) rfl (fun h10 => ?_) (fun h10 => ?_)
  · exfalso
    omega
  · refine ax_aload_n dX8_pass_13 rfl rfl (pc' := 14) rfl ?_
    refine ax_getr (v := 61) dX8_pass_14 flX8_22 rfl sh_58 rfl (pc' := 17) rfl ?_
    refine ax_aload_n dX8_pass_17 rfl rfl (pc' := 18) rfl ?_
    refine ax_geti (v := nx) dX8_pass_18 flX8_34 rfl sh_58 hnx rfl (pc' := 21) rfl ?_
    refine ax_iald (v := vv nx) dX8_pass_21 sh_61 rfl (by omega) (by omega) ((congrFun hvv nx).trans rfl) (pc' := 22) rfl ?_
    refine ax_iload_n dX8_pass_22 rfl rfl (pc' := 23) rfl ?_
    refine ax_icmp_eq (tgt := 32) dX8_pass_23 (by decide) (pc' := 26) rfl (fun h23 => ?_) (fun h23 => ?_)
    · refine ax_aload_n dX8_pass_32 rfl rfl (pc' := 33) rfl ?_
      refine ax_invG [] [] dX8_pass_33 mlX8_86 sh_58 rfl rfl rfl (Nat.le_of_ble_eq_true rfl) (s_X8_step E l _ (by omega) _ hkk hnx (by first | omega | assumption) (by first | omega | assumption)) (pc' := 36) rfl (fun vv M_33 hq co33 hcm33 => ?_)
      obtain ⟨rfl, frM_33, msM_33_0⟩ := hq
      refine ax_reS (st2 := []) rfl ?_
      refine ax_iconst dX8_pass_36 (by decide) (pc' := 37) rfl ?_
      refine ax_zret dX8_pass_37 rfl (by decide) ?_
      refine ⟨rfl, ?_, ?_, ?_⟩
      · rfl
      · intro x0 i0 hai
        exact ((frM_33 x0 i0 (fun h => hai h)).trans rfl)
      · exact msM_33_0
    · exfalso
      omega
set_option maxRecDepth 20000 in
theorem s_X8_pass_no (E : ax_Env) (l : Launch) (d : Nat) (hd : 1 ≤ d) (M : ax_Mem) (kd vl : Int) {kk : Int → Int} (hkk : M 60 = kk) {vv : Int → Int} (hvv : M 61 = vv) {ss : Int → Int} (hss : M 62 = ss) {nx : Int} (hnx : M 58 8 = nx) (hg0 : 0 ≤ nx ∧ nx ≤ 400) (hg1 : ¬ (kk nx = kd ∧ vv nx = vl)) : ax_G E l d iX8_pass [.inr 58, .inl kd, .inl vl] M (fun z0 M2 => z0 = some (.inl 0) ∧ (∀ x0 i0 : Int, ¬ ((x0 = 58 ∧ i0 = 2) ∨ (x0 = 58 ∧ i0 = 3)) → M2 x0 i0 = M x0 i0) ∧ M2 58 2 = 1 ∧ M2 58 3 = ss nx) := by
  obtain ⟨d, rfl⟩ : ∃ d0, d = d0 + 1 := ⟨d - 1, by omega⟩
  refine ax_start rfl (Nat.le_of_ble_eq_true rfl) (ls := [some (.inr 58), some (.inl kd), some (.inl vl)]) rfl (fun hav hcm => ?_)
  have hc1 : -2147483648 ≤ kd ∧ kd < 2147483648 := hav (.inl kd) (by simp)
  have hc2 : -2147483648 ≤ vl ∧ vl < 2147483648 := hav (.inl vl) (by simp)
  clear hav
  refine ax_aload_n dX8_pass_0 rfl rfl (pc' := 1) rfl ?_
  refine ax_getr (v := 60) dX8_pass_1 flX8_19 rfl sh_58 rfl (pc' := 4) rfl ?_
  refine ax_aload_n dX8_pass_4 rfl rfl (pc' := 5) rfl ?_
  refine ax_geti (v := nx) dX8_pass_5 flX8_34 rfl sh_58 hnx rfl (pc' := 8) rfl ?_
  refine ax_iald (v := kk nx) dX8_pass_8 sh_60 rfl (by omega) (by omega) ((congrFun hkk nx).trans rfl) (pc' := 9) rfl ?_
  refine ax_iload_n dX8_pass_9 rfl rfl (pc' := 10) rfl ?_
  refine ax_icmp_ne (tgt := 26) dX8_pass_10 (by decide) (pc' := 13) rfl (fun h10 => ?_) (fun h10 => ?_)
  · refine ax_aload_n dX8_pass_26 rfl rfl (pc' := 27) rfl ?_
    refine ax_iconst dX8_pass_27 (by decide) (pc' := 28) rfl ?_
    refine ax_invG [.inl 1] [] dX8_pass_28 mlX8_83 sh_58 rfl rfl rfl (Nat.le_of_ble_eq_true rfl) (s_X8_fail E l _ (by omega) _ 1 hss hnx (by first | omega | assumption)) (pc' := 31) rfl (fun vv M_28 hq co28 hcm28 => ?_)
    obtain ⟨rfl, frM_28, msM_28_0, msM_28_1⟩ := hq
    refine ax_reS (st2 := [.inl 0]) rfl ?_
    refine ax_zret dX8_pass_31 rfl (by decide) ?_
    refine ⟨rfl, ?_, ?_, ?_, ?_⟩
    · rfl
    · intro x0 i0 hai
      exact ((frM_28 x0 i0 (fun h => h.elim (fun h => hai (Or.inl h)) (fun h => hai (Or.inr h)))).trans rfl)
    · exact msM_28_0
    · exact msM_28_1
  · refine ax_aload_n dX8_pass_13 rfl rfl (pc' := 14) rfl ?_
    refine ax_getr (v := 61) dX8_pass_14 flX8_22 rfl sh_58 rfl (pc' := 17) rfl ?_
    refine ax_aload_n dX8_pass_17 rfl rfl (pc' := 18) rfl ?_
    refine ax_geti (v := nx) dX8_pass_18 flX8_34 rfl sh_58 hnx rfl (pc' := 21) rfl ?_
    refine ax_iald (v := vv nx) dX8_pass_21 sh_61 rfl (by omega) (by omega) ((congrFun hvv nx).trans rfl) (pc' := 22) rfl ?_
    refine ax_iload_n dX8_pass_22 rfl rfl (pc' := 23) rfl ?_
    refine ax_icmp_eq (tgt := 32) dX8_pass_23 (by decide) (pc' := 26) rfl (fun h23 => ?_) (fun h23 => ?_)
    · exfalso
      omega
    · refine ax_aload_n dX8_pass_26 rfl rfl (pc' := 27) rfl ?_
      refine ax_iconst dX8_pass_27 (by decide) (pc' := 28) rfl ?_
      refine ax_invG [.inl 1] [] dX8_pass_28 mlX8_83 sh_58 rfl rfl rfl (Nat.le_of_ble_eq_true rfl) (s_X8_fail E l _ (by omega) _ 1 hss hnx (by first | omega | assumption)) (pc' := 31) rfl (fun vv M_28 hq co28 hcm28 => ?_)
      obtain ⟨rfl, frM_28, msM_28_0, msM_28_1⟩ := hq
      refine ax_reS (st2 := [.inl 0]) rfl ?_
      refine ax_zret dX8_pass_31 rfl (by decide) ?_
      refine ⟨rfl, ?_, ?_, ?_, ?_⟩
      · rfl
      · intro x0 i0 hai
        exact ((frM_28 x0 i0 (fun h => h.elim (fun h => hai (Or.inl h)) (fun h => hai (Or.inr h)))).trans rfl)
      · exact msM_28_0
      · exact msM_28_1
set_option maxRecDepth 20000 in
theorem s_X8_passN_ok (E : ax_Env) (l : Launch) (d : Nat) (hd : 1 ≤ d) (M : ax_Mem) (le mo : Int) {kk : Int → Int} (hkk : M 60 = kk) {vv : Int → Int} (hvv : M 61 = vv) {nx : Int} (hnx : M 58 8 = nx) (hg0 : 0 ≤ nx ∧ nx < 400) (hg1 : kk nx = 3 ∧ le ≤ vv nx ∧ vv nx ≤ mo) : ax_G E l d iX8_passNumber [.inr 58, .inl le, .inl mo] M (fun z0 M2 => z0 = some (.inl 1) ∧ (∀ x0 i0 : Int, ¬ ((x0 = 58 ∧ i0 = 8)) → M2 x0 i0 = M x0 i0) ∧ M2 58 8 = nx + 1) := by
  obtain ⟨d, rfl⟩ : ∃ d0, d = d0 + 1 := ⟨d - 1, by omega⟩
  refine ax_start rfl (Nat.le_of_ble_eq_true rfl) (ls := [some (.inr 58), some (.inl le), some (.inl mo)]) rfl (fun hav hcm => ?_)
  have hc1 : -2147483648 ≤ le ∧ le < 2147483648 := hav (.inl le) (by simp)
  have hc2 : -2147483648 ≤ mo ∧ mo < 2147483648 := hav (.inl mo) (by simp)
  clear hav
  refine ax_aload_n dX8_passNumber_0 rfl rfl (pc' := 1) rfl ?_
  refine ax_getr (v := 60) dX8_passNumber_1 flX8_19 rfl sh_58 rfl (pc' := 4) rfl ?_
  refine ax_aload_n dX8_passNumber_4 rfl rfl (pc' := 5) rfl ?_
  refine ax_geti (v := nx) dX8_passNumber_5 flX8_34 rfl sh_58 hnx rfl (pc' := 8) rfl ?_
  refine ax_iald (v := kk nx) dX8_passNumber_8 sh_60 rfl (by omega) (by omega) ((congrFun hkk nx).trans rfl) (pc' := 9) rfl ?_
  refine ax_iconst dX8_passNumber_9 (by decide) (pc' := 10) rfl ?_
  refine ax_icmp_eq (tgt := 19) dX8_passNumber_10 (by decide) (pc' := 13) rfl (fun h10 => ?_) (fun h10 => ?_)
  · refine ax_aload_n dX8_passNumber_19 rfl rfl (pc' := 20) rfl ?_
    refine ax_getr (v := 61) dX8_passNumber_20 flX8_22 rfl sh_58 rfl (pc' := 23) rfl ?_
    refine ax_aload_n dX8_passNumber_23 rfl rfl (pc' := 24) rfl ?_
    refine ax_geti (v := nx) dX8_passNumber_24 flX8_34 rfl sh_58 hnx rfl (pc' := 27) rfl ?_
    refine ax_iald (v := vv nx) dX8_passNumber_27 sh_61 rfl (by omega) (by omega) ((congrFun hvv nx).trans rfl) (pc' := 28) rfl ?_
    refine ax_iload_n dX8_passNumber_28 rfl rfl (pc' := 29) rfl ?_
    refine ax_icmp_lt (tgt := 45) dX8_passNumber_29 (by decide) (pc' := 32) rfl (fun h29 => ?_) (fun h29 => ?_)
    · exfalso
      omega
    · refine ax_aload_n dX8_passNumber_32 rfl rfl (pc' := 33) rfl ?_
      refine ax_getr (v := 61) dX8_passNumber_33 flX8_22 rfl sh_58 rfl (pc' := 36) rfl ?_
      refine ax_aload_n dX8_passNumber_36 rfl rfl (pc' := 37) rfl ?_
      refine ax_geti (v := nx) dX8_passNumber_37 flX8_34 rfl sh_58 hnx rfl (pc' := 40) rfl ?_
      refine ax_iald (v := vv nx) dX8_passNumber_40 sh_61 rfl (by omega) (by omega) ((congrFun hvv nx).trans rfl) (pc' := 41) rfl ?_
      refine ax_iload_n dX8_passNumber_41 rfl rfl (pc' := 42) rfl ?_
      refine ax_icmp_le (tgt := 51) dX8_passNumber_42 (by decide) (pc' := 45) rfl (fun h42 => ?_) (fun h42 => ?_)
      · refine ax_aload_n dX8_passNumber_51 rfl rfl (pc' := 52) rfl ?_
        refine ax_invG [] [] dX8_passNumber_52 mlX8_86 sh_58 rfl rfl rfl (Nat.le_of_ble_eq_true rfl) (s_X8_step E l _ (by omega) _ hkk hnx (by first | omega | assumption) (by first | omega | assumption)) (pc' := 55) rfl (fun vv M_52 hq co52 hcm52 => ?_)
        obtain ⟨rfl, frM_52, msM_52_0⟩ := hq
        refine ax_reS (st2 := []) rfl ?_
        refine ax_iconst dX8_passNumber_55 (by decide) (pc' := 56) rfl ?_
        refine ax_zret dX8_passNumber_56 rfl (by decide) ?_
        refine ⟨rfl, ?_, ?_, ?_⟩
        · rfl
        · intro x0 i0 hai
          exact ((frM_52 x0 i0 (fun h => hai h)).trans rfl)
        · exact msM_52_0
      · exfalso
        omega
  · exfalso
    omega
set_option maxRecDepth 20000 in
theorem s_X8_passN_no (E : ax_Env) (l : Launch) (d : Nat) (hd : 1 ≤ d) (M : ax_Mem) (le mo : Int) {kk : Int → Int} (hkk : M 60 = kk) {vv : Int → Int} (hvv : M 61 = vv) {ss : Int → Int} (hss : M 62 = ss) {nx : Int} (hnx : M 58 8 = nx) (hg0 : 0 ≤ nx ∧ nx ≤ 400) (hg1 : kk nx ≠ 3) : ax_G E l d iX8_passNumber [.inr 58, .inl le, .inl mo] M (fun z0 M2 => z0 = some (.inl 0) ∧ (∀ x0 i0 : Int, ¬ ((x0 = 58 ∧ i0 = 2) ∨ (x0 = 58 ∧ i0 = 3)) → M2 x0 i0 = M x0 i0) ∧ M2 58 2 = 1 ∧ M2 58 3 = ss nx) := by
  obtain ⟨d, rfl⟩ : ∃ d0, d = d0 + 1 := ⟨d - 1, by omega⟩
  refine ax_start rfl (Nat.le_of_ble_eq_true rfl) (ls := [some (.inr 58), some (.inl le), some (.inl mo)]) rfl (fun hav hcm => ?_)
  have hc1 : -2147483648 ≤ le ∧ le < 2147483648 := hav (.inl le) (by simp)
  have hc2 : -2147483648 ≤ mo ∧ mo < 2147483648 := hav (.inl mo) (by simp)
  clear hav
  refine ax_aload_n dX8_passNumber_0 rfl rfl (pc' := 1) rfl ?_
  refine ax_getr (v := 60) dX8_passNumber_1 flX8_19 rfl sh_58 rfl (pc' := 4) rfl ?_
  refine ax_aload_n dX8_passNumber_4 rfl rfl (pc' := 5) rfl ?_
  refine ax_geti (v := nx) dX8_passNumber_5 flX8_34 rfl sh_58 hnx rfl (pc' := 8) rfl ?_
  refine ax_iald (v := kk nx) dX8_passNumber_8 sh_60 rfl (by omega) (by omega) ((congrFun hkk nx).trans rfl) (pc' := 9) rfl ?_
  refine ax_iconst dX8_passNumber_9 (by decide) (pc' := 10) rfl ?_
  refine ax_icmp_eq (tgt := 19) dX8_passNumber_10 (by decide) (pc' := 13) rfl (fun h10 => ?_) (fun h10 => ?_)
  · exfalso
    omega
  · refine ax_aload_n dX8_passNumber_13 rfl rfl (pc' := 14) rfl ?_
    refine ax_iconst dX8_passNumber_14 (by decide) (pc' := 15) rfl ?_
    refine ax_invG [.inl 1] [] dX8_passNumber_15 mlX8_83 sh_58 rfl rfl rfl (Nat.le_of_ble_eq_true rfl) (s_X8_fail E l _ (by omega) _ 1 hss hnx (by first | omega | assumption)) (pc' := 18) rfl (fun vv M_15 hq co15 hcm15 => ?_)
    obtain ⟨rfl, frM_15, msM_15_0, msM_15_1⟩ := hq
    refine ax_reS (st2 := [.inl 0]) rfl ?_
    refine ax_zret dX8_passNumber_18 rfl (by decide) ?_
    refine ⟨rfl, ?_, ?_, ?_, ?_⟩
    · rfl
    · intro x0 i0 hai
      exact ((frM_15 x0 i0 (fun h => h.elim (fun h => hai (Or.inl h)) (fun h => hai (Or.inr h)))).trans rfl)
    · exact msM_15_0
    · exact msM_15_1
set_option maxRecDepth 20000 in
theorem s_X8_passN_ra (E : ax_Env) (l : Launch) (d : Nat) (hd : 1 ≤ d) (M : ax_Mem) (le mo : Int) {kk : Int → Int} (hkk : M 60 = kk) {vv : Int → Int} (hvv : M 61 = vv) {ss : Int → Int} (hss : M 62 = ss) {nx : Int} (hnx : M 58 8 = nx) (hg0 : 0 ≤ nx ∧ nx ≤ 400) (hg1 : kk nx = 3 ∧ ¬ (le ≤ vv nx ∧ vv nx ≤ mo)) : ax_G E l d iX8_passNumber [.inr 58, .inl le, .inl mo] M (fun z0 M2 => z0 = some (.inl 0) ∧ (∀ x0 i0 : Int, ¬ ((x0 = 58 ∧ i0 = 2) ∨ (x0 = 58 ∧ i0 = 3)) → M2 x0 i0 = M x0 i0) ∧ M2 58 2 = 2 ∧ M2 58 3 = ss nx) := by
  obtain ⟨d, rfl⟩ : ∃ d0, d = d0 + 1 := ⟨d - 1, by omega⟩
  refine ax_start rfl (Nat.le_of_ble_eq_true rfl) (ls := [some (.inr 58), some (.inl le), some (.inl mo)]) rfl (fun hav hcm => ?_)
  have hc1 : -2147483648 ≤ le ∧ le < 2147483648 := hav (.inl le) (by simp)
  have hc2 : -2147483648 ≤ mo ∧ mo < 2147483648 := hav (.inl mo) (by simp)
  clear hav
  refine ax_aload_n dX8_passNumber_0 rfl rfl (pc' := 1) rfl ?_
  refine ax_getr (v := 60) dX8_passNumber_1 flX8_19 rfl sh_58 rfl (pc' := 4) rfl ?_
  refine ax_aload_n dX8_passNumber_4 rfl rfl (pc' := 5) rfl ?_
  refine ax_geti (v := nx) dX8_passNumber_5 flX8_34 rfl sh_58 hnx rfl (pc' := 8) rfl ?_
  refine ax_iald (v := kk nx) dX8_passNumber_8 sh_60 rfl (by omega) (by omega) ((congrFun hkk nx).trans rfl) (pc' := 9) rfl ?_
  refine ax_iconst dX8_passNumber_9 (by decide) (pc' := 10) rfl ?_
  refine ax_icmp_eq (tgt := 19) dX8_passNumber_10 (by decide) (pc' := 13) rfl (fun h10 => ?_) (fun h10 => ?_)
  · refine ax_aload_n dX8_passNumber_19 rfl rfl (pc' := 20) rfl ?_
    refine ax_getr (v := 61) dX8_passNumber_20 flX8_22 rfl sh_58 rfl (pc' := 23) rfl ?_
    refine ax_aload_n dX8_passNumber_23 rfl rfl (pc' := 24) rfl ?_
    refine ax_geti (v := nx) dX8_passNumber_24 flX8_34 rfl sh_58 hnx rfl (pc' := 27) rfl ?_
    refine ax_iald (v := vv nx) dX8_passNumber_27 sh_61 rfl (by omega) (by omega) ((congrFun hvv nx).trans rfl) (pc' := 28) rfl ?_
    refine ax_iload_n dX8_passNumber_28 rfl rfl (pc' := 29) rfl ?_
    refine ax_icmp_lt (tgt := 45) dX8_passNumber_29 (by decide) (pc' := 32) rfl (fun h29 => ?_) (fun h29 => ?_)
    · refine ax_aload_n dX8_passNumber_45 rfl rfl (pc' := 46) rfl ?_
      refine ax_iconst dX8_passNumber_46 (by decide) (pc' := 47) rfl ?_
      refine ax_invG [.inl 2] [] dX8_passNumber_47 mlX8_83 sh_58 rfl rfl rfl (Nat.le_of_ble_eq_true rfl) (s_X8_fail E l _ (by omega) _ 2 hss hnx (by first | omega | assumption)) (pc' := 50) rfl (fun vv M_47 hq co47 hcm47 => ?_)
      obtain ⟨rfl, frM_47, msM_47_0, msM_47_1⟩ := hq
      refine ax_reS (st2 := [.inl 0]) rfl ?_
      refine ax_zret dX8_passNumber_50 rfl (by decide) ?_
      refine ⟨rfl, ?_, ?_, ?_, ?_⟩
      · rfl
      · intro x0 i0 hai
        exact ((frM_47 x0 i0 (fun h => h.elim (fun h => hai (Or.inl h)) (fun h => hai (Or.inr h)))).trans rfl)
      · exact msM_47_0
      · exact msM_47_1
    · refine ax_aload_n dX8_passNumber_32 rfl rfl (pc' := 33) rfl ?_
      refine ax_getr (v := 61) dX8_passNumber_33 flX8_22 rfl sh_58 rfl (pc' := 36) rfl ?_
      refine ax_aload_n dX8_passNumber_36 rfl rfl (pc' := 37) rfl ?_
      refine ax_geti (v := nx) dX8_passNumber_37 flX8_34 rfl sh_58 hnx rfl (pc' := 40) rfl ?_
      refine ax_iald (v := vv nx) dX8_passNumber_40 sh_61 rfl (by omega) (by omega) ((congrFun hvv nx).trans rfl) (pc' := 41) rfl ?_
      refine ax_iload_n dX8_passNumber_41 rfl rfl (pc' := 42) rfl ?_
      refine ax_icmp_le (tgt := 51) dX8_passNumber_42 (by decide) (pc' := 45) rfl (fun h42 => ?_) (fun h42 => ?_)
      · exfalso
        omega
      · refine ax_aload_n dX8_passNumber_45 rfl rfl (pc' := 46) rfl ?_
        refine ax_iconst dX8_passNumber_46 (by decide) (pc' := 47) rfl ?_
        refine ax_invG [.inl 2] [] dX8_passNumber_47 mlX8_83 sh_58 rfl rfl rfl (Nat.le_of_ble_eq_true rfl) (s_X8_fail E l _ (by omega) _ 2 hss hnx (by first | omega | assumption)) (pc' := 50) rfl (fun vv M_47 hq co47 hcm47 => ?_)
        obtain ⟨rfl, frM_47, msM_47_0, msM_47_1⟩ := hq
        refine ax_reS (st2 := [.inl 0]) rfl ?_
        refine ax_zret dX8_passNumber_50 rfl (by decide) ?_
        refine ⟨rfl, ?_, ?_, ?_, ?_⟩
        · rfl
        · intro x0 i0 hai
          exact ((frM_47 x0 i0 (fun h => h.elim (fun h => hai (Or.inl h)) (fun h => hai (Or.inr h)))).trans rfl)
        · exact msM_47_0
        · exact msM_47_1
  · exfalso
    omega
set_option maxRecDepth 20000 in
theorem s_X8_add (E : ax_Env) (l : Launch) (d : Nat) (hd : 0 ≤ d) (M : ax_Mem) (kd vl pl : Int) {kk : Int → Int} (hkk : M 60 = kk) {vv : Int → Int} (hvv : M 61 = vv) {ss : Int → Int} (hss : M 62 = ss) {cn : Int} (hcn : M 58 7 = cn) (hg0 : 0 ≤ cn ∧ cn ≤ 400) : ax_G E l d iX8_add [.inr 58, .inl kd, .inl vl, .inl pl] M (fun z0 M2 => z0 = none ∧ (∀ x0 i0 : Int, ¬ (x0 = 60 ∨ x0 = 61 ∨ x0 = 62 ∨ (x0 = 58 ∧ i0 = 7)) → M2 x0 i0 = M x0 i0) ∧ M2 60 = f_up kk cn kd ∧ M2 61 = f_up vv cn vl ∧ M2 62 = f_up ss cn pl ∧ M2 58 7 = cn + 1) := by
  refine ax_start rfl (Nat.le_of_ble_eq_true rfl) (ls := [some (.inr 58), some (.inl kd), some (.inl vl), some (.inl pl)]) rfl (fun hav hcm => ?_)
  have hc1 : -2147483648 ≤ kd ∧ kd < 2147483648 := hav (.inl kd) (by simp)
  have hc2 : -2147483648 ≤ vl ∧ vl < 2147483648 := hav (.inl vl) (by simp)
  have hc3 : -2147483648 ≤ pl ∧ pl < 2147483648 := hav (.inl pl) (by simp)
  clear hav
  refine ax_aload_n dX8_add_0 rfl rfl (pc' := 1) rfl ?_
  refine ax_geti (v := cn) dX8_add_1 flX8_31 rfl sh_58 hcn rfl (pc' := 4) rfl ?_
  refine ax_sipush dX8_add_4 (by decide) (pc' := 7) rfl ?_
  refine ax_icmp_gt (tgt := 50) dX8_add_7 (by decide) (pc' := 10) rfl (fun h7 => ?_) (fun h7 => ?_)
  · exfalso
    omega
  · refine ax_aload_n dX8_add_10 rfl rfl (pc' := 11) rfl ?_
    refine ax_getr (v := 60) dX8_add_11 flX8_19 rfl sh_58 rfl (pc' := 14) rfl ?_
    refine ax_aload_n dX8_add_14 rfl rfl (pc' := 15) rfl ?_
    refine ax_geti (v := cn) dX8_add_15 flX8_31 rfl sh_58 hcn rfl (pc' := 18) rfl ?_
    refine ax_iload_n dX8_add_18 rfl rfl (pc' := 19) rfl ?_
    refine ax_iast dX8_add_19 sh_60 rfl (by omega) (by omega) (pc' := 20) rfl ?_
    refine ax_aload_n dX8_add_20 rfl rfl (pc' := 21) rfl ?_
    refine ax_getr (v := 61) dX8_add_21 flX8_22 rfl sh_58 rfl (pc' := 24) rfl ?_
    refine ax_aload_n dX8_add_24 rfl rfl (pc' := 25) rfl ?_
    refine ax_geti (v := cn) dX8_add_25 flX8_31 rfl sh_58 (show (ax_up M 60 cn kd) 58 7 = cn from (ax_up_miss (fun h => absurd h.1 (by decide)) hcn)) rfl (pc' := 28) rfl ?_
    refine ax_iload_n dX8_add_28 rfl rfl (pc' := 29) rfl ?_
    refine ax_iast dX8_add_29 sh_61 rfl (by omega) (by omega) (pc' := 30) rfl ?_
    refine ax_aload_n dX8_add_30 rfl rfl (pc' := 31) rfl ?_
    refine ax_getr (v := 62) dX8_add_31 flX8_25 rfl sh_58 rfl (pc' := 34) rfl ?_
    refine ax_aload_n dX8_add_34 rfl rfl (pc' := 35) rfl ?_
    refine ax_geti (v := cn) dX8_add_35 flX8_31 rfl sh_58 (show (ax_up (ax_up M 60 cn kd) 61 cn vl) 58 7 = cn from (ax_up_miss (fun h => absurd h.1 (by decide)) (ax_up_miss (fun h => absurd h.1 (by decide)) hcn))) rfl (pc' := 38) rfl ?_
    refine ax_iload_n dX8_add_38 rfl rfl (pc' := 39) rfl ?_
    refine ax_iast dX8_add_39 sh_62 rfl (by omega) (by omega) (pc' := 40) rfl ?_
    refine ax_aload_n dX8_add_40 rfl rfl (pc' := 41) rfl ?_
    refine ax_dup dX8_add_41 (pc' := 42) rfl ?_
    refine ax_geti (v := cn) dX8_add_42 flX8_31 rfl sh_58 (show (ax_up (ax_up (ax_up M 60 cn kd) 61 cn vl) 62 cn pl) 58 7 = cn from (ax_up_miss (fun h => absurd h.1 (by decide)) (ax_up_miss (fun h => absurd h.1 (by decide)) (ax_up_miss (fun h => absurd h.1 (by decide)) hcn)))) rfl (pc' := 45) rfl ?_
    refine ax_iconst dX8_add_45 (by decide) (pc' := 46) rfl ?_
    refine ax_iadd dX8_add_46 (by omega) (pc' := 47) rfl ?_
    refine ax_puti dX8_add_47 flX8_31 (Or.inl rfl) sh_58 rfl (pc' := 50) rfl ?_
    refine ax_vret dX8_add_50 rfl ?_
    refine ⟨rfl, rfl, ?_, ?_, ?_, ?_, ?_⟩
    · intro x0 i0 hai
      exact (ax_up_miss (fun h => hai (Or.inr (Or.inr (Or.inr h)))) (ax_up_miss (fun h => hai (Or.inr (Or.inr (Or.inl h.1)))) (ax_up_miss (fun h => hai (Or.inr (Or.inl h.1))) (ax_up_miss (fun h => hai (Or.inl h.1)) rfl))))
    · exact (ax_up_rowmiss (by decide) (ax_up_rowmiss (by decide) (ax_up_rowmiss (by decide) (ax_up_rowhit hkk))))
    · exact (ax_up_rowmiss (by decide) (ax_up_rowmiss (by decide) (ax_up_rowhit (ax_up_rowmiss (by decide) hvv))))
    · exact (ax_up_rowmiss (by decide) (ax_up_rowhit (ax_up_rowmiss (by decide) (ax_up_rowmiss (by decide) hss))))
    · exact (ax_up_hit _ _ _ _)
set_option maxRecDepth 20000 in
theorem s_X8_numberFor (E : ax_Env) (l : Launch) (d : Nat) (hd : 0 ≤ d) (M : ax_Mem) (fm to : Int) (tn e : Int) {ta : Int → Int} (hta : M 59 = ta) (hg0 : 0 ≤ fm ∧ fm ≤ to ∧ to ≤ tn ∧ tn ≤ 400) (hg1 : to = min e (fm + 4)) (hg2 : ∀ k, fm ≤ k → k < to → f_dig (f_see ta tn k)) : ax_G E l d iX8_numberFor [.inr 58, .inl fm, .inl to] M (fun z0 M2 => z0 = some (.inl (f_num ta tn fm e)) ∧ M = M2) := by
  refine ax_start rfl (Nat.le_of_ble_eq_true rfl) (ls := [some (.inr 58), some (.inl fm), some (.inl to), none, none]) rfl (fun hav hcm => ?_)
  have hc1 : -2147483648 ≤ fm ∧ fm < 2147483648 := hav (.inl fm) (by simp)
  have hc2 : -2147483648 ≤ to ∧ to < 2147483648 := hav (.inl to) (by simp)
  clear hav
  refine ax_iconst dX8_numberFor_0 (by decide) (pc' := 1) rfl ?_
  refine ax_istore_n dX8_numberFor_1 rfl (by decide) (ls' := [some (.inr 58), some (.inl fm), some (.inl to), some (.inl 0), none]) rfl (pc' := 2) rfl ?_
  refine ax_iload_n dX8_numberFor_2 rfl rfl (pc' := 3) rfl ?_
  refine ax_istore dX8_numberFor_3 (by decide) (ls' := [some (.inr 58), some (.inl fm), some (.inl to), some (.inl 0), some (.inl fm)]) rfl (pc' := 5) rfl ?_
  have LP1 : ∀ (kq2 : Nat) (i v : Int) (hm1 : to - i < (kq2 : Nat)) (iv1_0 : fm ≤ i ∧ i ≤ to) (iv1_1 : v = f_loop (fun k v => 10 * v + f_see ta tn k - 48) fm i 0) (iv1_2 : (0 ≤ v ∧ v ≤ 9999) ∧ (i = fm → v ≤ 0) ∧ (i = fm + 1 → v ≤ 9) ∧ (i = fm + 2 → v ≤ 99) ∧ (i = fm + 3 → v ≤ 999)), ax_W E l d 0 0 iX8_numberFor 5 [some (.inr 58), some (.inl fm), some (.inl to), some (.inl v), some (.inl i)] [] SH M (ax_P (fun z0 M2 => z0 = some (.inl (f_num ta tn fm e)) ∧ M = M2)) := by
    intro kq2
    induction kq2 with
    | zero =>
      intro i v hm1 iv1_0 iv1_1 iv1_2
      exfalso
      omega
    | succ kq2 ih3 =>
      intro i v hm1 iv1_0 iv1_1 iv1_2
      refine ax_iload dX8_numberFor_5 rfl (pc' := 7) rfl ?_
      refine ax_iload_n dX8_numberFor_7 rfl rfl (pc' := 8) rfl ?_
      refine ax_icmp_ge (tgt := 33) dX8_numberFor_8 (by decide) (pc' := 11) rfl (fun h8 => ?_) (fun h8 => ?_)
      · refine ax_iload_n dX8_numberFor_33 rfl rfl (pc' := 34) rfl ?_
        refine ax_iret dX8_numberFor_34 rfl ?_
        refine ⟨rfl, ?_, ?_⟩
        · refine congrArg (fun z => some (Sum.inl z)) ?_
          rw [iv1_1]
          unfold f_num
          rw [← hg1, show i = to by omega]
        · rfl
      · have qdg := hg2 i (by omega) (by omega)
        have qse : f_see ta tn i = ta i := by
          unfold f_see
          rw [if_pos (by omega)]
        unfold f_dig at qdg
        refine ax_iload_n dX8_numberFor_11 rfl rfl (pc' := 12) rfl ?_
        refine ax_bipush dX8_numberFor_12 (by decide) (pc' := 14) rfl ?_
        refine ax_imul dX8_numberFor_14 (by omega) (pc' := 15) rfl ?_
        refine ax_aload_n dX8_numberFor_15 rfl rfl (pc' := 16) rfl ?_
        refine ax_getr (v := 59) dX8_numberFor_16 flX8_9 rfl sh_58 rfl (pc' := 19) rfl ?_
        refine ax_iload dX8_numberFor_19 rfl (pc' := 21) rfl ?_
        refine ax_iald (v := ta i) dX8_numberFor_21 sh_59 rfl (by omega) (by omega) ((congrFun hta i).trans rfl) (pc' := 22) rfl ?_
        refine ax_iadd dX8_numberFor_22 (by omega) (pc' := 23) rfl ?_
        refine ax_bipush dX8_numberFor_23 (by decide) (pc' := 25) rfl ?_
        refine ax_isub dX8_numberFor_25 (by omega) (pc' := 26) rfl ?_
        refine ax_istore_n dX8_numberFor_26 rfl (by decide) (ls' := [some (.inr 58), some (.inl fm), some (.inl to), some (.inl (v * 10 + (ta i) - 48)), some (.inl i)]) rfl (pc' := 27) rfl ?_
        refine ax_iinc dX8_numberFor_27 rfl (by decide) (by omega) (ls' := [some (.inr 58), some (.inl fm), some (.inl to), some (.inl (v * 10 + (ta i) - 48)), some (.inl (i + 1))]) rfl (pc' := 30) rfl ?_
        refine ax_goto dX8_numberFor_30 (pc' := 5) (by decide) ?_
        refine ih3 (i + 1) (v * 10 + (ta i) - 48) ?_ ?_ ?_ ?_
        · omega
        · omega
        · rw [f_loop_last (by omega), ← iv1_1, qse]
          omega
        · omega
  refine LP1 (to - fm : Int).toNat.succ fm 0 ?_ ?_ ?_ ?_
  · omega
  · omega
  · rw [f_loop_done (by omega)]
  · omega
set_option maxRecDepth 20000 in
theorem s_J1_canEncode_9a6ad (E : ax_Env) (l : Launch) (d : Nat) (hd : 0 ≤ d) (M : ax_Mem) (c : Int) (hg0 : 0 ≤ c ∧ c ≤ 255) : ax_G E l d iJ1_canEncode_9a6ad [.inl c] M (fun z0 M2 => z0 = some (.inl 1) ∧ M = M2) := by
  refine ax_start rfl (Nat.le_of_ble_eq_true rfl) (ls := [some (.inl c)]) rfl (fun hav hcm => ?_)
  have hc0 : -2147483648 ≤ c ∧ c < 2147483648 := hav (.inl c) (by simp)
  clear hav
  refine ax_iload_n dJ1_canEncode_9a6ad_0 rfl rfl (pc' := 1) rfl ?_
  refine ax_if_lt (tgt := 15) dJ1_canEncode_9a6ad_1 (by decide) (pc' := 4) rfl (fun h1 => ?_) (fun h1 => ?_)
  · exfalso
    omega
  · refine ax_iload_n dJ1_canEncode_9a6ad_4 rfl rfl (pc' := 5) rfl ?_
    refine ax_sipush dJ1_canEncode_9a6ad_5 (by decide) (pc' := 8) rfl ?_
    refine ax_icmp_gt (tgt := 15) dJ1_canEncode_9a6ad_8 (by decide) (pc' := 11) rfl (fun h8 => ?_) (fun h8 => ?_)
    · exfalso
      omega
    · refine ax_iconst dJ1_canEncode_9a6ad_11 (by decide) (pc' := 12) rfl ?_
      refine ax_goto dJ1_canEncode_9a6ad_12 (pc' := 16) (by decide) ?_
      refine ax_zret dJ1_canEncode_9a6ad_16 rfl (by decide) ?_
      refine ⟨rfl, ?_, ?_⟩
      · rfl
      · rfl
set_option maxRecDepth 20000 in
theorem s_J1_indexOfChar_4cfef (E : ax_Env) (l : Launch) (d : Nat) (hd : 0 ≤ d) (M : ax_Mem) (c a b : Int) (q : Nat) (hg0 : q < 30) (hg1 : 0 ≤ c ∧ c ≤ 255) (hg2 : 0 ≤ a ∧ a ≤ b ∧ b ≤ ax_sl q) : ax_G E l d iJ1_indexOfChar_4cfef [.inr (-(1000 + (q : Int))), .inl c, .inl a, .inl b] M (fun z0 M2 => z0 = some (.inl (f_first (f_icC q c) a b)) ∧ M = M2) := by
  refine ax_start rfl (Nat.le_of_ble_eq_true rfl) (ls := [some (.inr (-(1000 + (q : Int)))), some (.inl c), some (.inl a), some (.inl b), none, none]) rfl (fun hav hcm => ?_)
  have hc1 : -2147483648 ≤ c ∧ c < 2147483648 := hav (.inl c) (by simp)
  have hc2 : -2147483648 ≤ a ∧ a < 2147483648 := hav (.inl a) (by simp)
  have hc3 : -2147483648 ≤ b ∧ b < 2147483648 := hav (.inl b) (by simp)
  clear hav
  have qsl := f_sl_rg ⟨q, hg0⟩
  dsimp only at qsl
  refine ax_iload_n dJ1_indexOfChar_4cfef_0 rfl rfl (pc' := 1) rfl ?_
  refine ax_i2b dJ1_indexOfChar_4cfef_1 (by omega) (pc' := 2) rfl ?_
  refine ax_reS (st2 := [.inl (f_byc c)]) (congrArg (fun z => Sum.inl z :: _) (by rfl)) ?_
  refine ax_istore dJ1_indexOfChar_4cfef_2 (by decide) (ls' := [some (.inr (-(1000 + (q : Int)))), some (.inl c), some (.inl a), some (.inl b), some (.inl (f_byc c)), none]) rfl (pc' := 4) rfl ?_
  refine ax_iload_n dJ1_indexOfChar_4cfef_4 rfl rfl (pc' := 5) rfl ?_
  refine ax_istore dJ1_indexOfChar_4cfef_5 (by decide) (ls' := [some (.inr (-(1000 + (q : Int)))), some (.inl c), some (.inl a), some (.inl b), some (.inl (f_byc c)), some (.inl a)]) rfl (pc' := 7) rfl ?_
  have LP1 : ∀ (kq2 : Nat) (i : Int) (hm1 : b - i < (kq2 : Nat)) (iv1_0 : a ≤ i ∧ i ≤ b) (iv1_1 : f_first (f_icC q c) i b = f_first (f_icC q c) a b), ax_W E l d 0 0 iJ1_indexOfChar_4cfef 7 [some (.inr (-(1000 + (q : Int)))), some (.inl c), some (.inl a), some (.inl b), some (.inl (f_byc c)), some (.inl i)] [] SH M (ax_P (fun z0 M2 => z0 = some (.inl (f_first (f_icC q c) a b)) ∧ M = M2)) := by
    intro kq2
    induction kq2 with
    | zero =>
      intro i hm1 iv1_0 iv1_1
      exfalso
      omega
    | succ kq2 ih3 =>
      intro i hm1 iv1_0 iv1_1
      refine ax_iload dJ1_indexOfChar_4cfef_7 rfl (pc' := 9) rfl ?_
      refine ax_iload_n dJ1_indexOfChar_4cfef_9 rfl rfl (pc' := 10) rfl ?_
      refine ax_icmp_ge (tgt := 31) dJ1_indexOfChar_4cfef_10 (by decide) (pc' := 13) rfl (fun h10 => ?_) (fun h10 => ?_)
      · refine ax_iconst dJ1_indexOfChar_4cfef_31 (by decide) (pc' := 32) rfl ?_
        refine ax_iret dJ1_indexOfChar_4cfef_32 rfl ?_
        refine ⟨rfl, ?_, ?_⟩
        · refine congrArg (fun z => some (Sum.inl z)) ?_
          exact (f_first_done (by omega)).symm.trans iv1_1
        · rfl
      · refine ax_aload_n dJ1_indexOfChar_4cfef_13 rfl rfl (pc' := 14) rfl ?_
        refine ax_iload dJ1_indexOfChar_4cfef_14 rfl (pc' := 16) rfl ?_
        refine ax_bald (i := q) (v := ax_sb q i) dJ1_indexOfChar_4cfef_16 hg0 rfl (by omega) (by omega) rfl (pc' := 17) rfl ?_
        refine ax_iload dJ1_indexOfChar_4cfef_17 rfl (pc' := 19) rfl ?_
        refine ax_icmp_ne (tgt := 25) dJ1_indexOfChar_4cfef_19 (by decide) (pc' := 22) rfl (fun h19 => ?_) (fun h19 => ?_)
        · refine ax_iinc dJ1_indexOfChar_4cfef_25 rfl (by decide) (by omega) (ls' := [some (.inr (-(1000 + (q : Int)))), some (.inl c), some (.inl a), some (.inl b), some (.inl (f_byc c)), some (.inl (i + 1))]) rfl (pc' := 28) rfl ?_
          refine ax_goto dJ1_indexOfChar_4cfef_28 (pc' := 7) (by decide) ?_
          refine ih3 (i + 1) ?_ ?_ ?_
          · omega
          · omega
          · exact (f_first_miss (c := f_icC q c) (by omega) h19).symm.trans iv1_1
        · refine ax_iload dJ1_indexOfChar_4cfef_22 rfl (pc' := 24) rfl ?_
          refine ax_iret dJ1_indexOfChar_4cfef_24 rfl ?_
          refine ⟨rfl, ?_, ?_⟩
          · refine congrArg (fun z => some (Sum.inl z)) ?_
            exact (f_first_hit (c := f_icC q c) (by omega) h19).symm.trans iv1_1
          · rfl
  refine LP1 (b - a : Int).toNat.succ a ?_ ?_ ?_
  · omega
  · omega
  · rfl
set_option maxRecDepth 20000 in
theorem s_J1_indexOf_4cfef (E : ax_Env) (l : Launch) (d : Nat) (hd : 1 ≤ d) (M : ax_Mem) (c a b : Int) (q : Nat) (hg0 : q < 30) (hg1 : 0 ≤ c ∧ c ≤ 255) (hg2 : a = 0 ∧ b = ax_sl q ∧ 0 < b) : ax_G E l d iJ1_indexOf_4cfef [.inr (-(1000 + (q : Int))), .inl c, .inl a, .inl b] M (fun z0 M2 => z0 = some (.inl (f_first (f_icC q c) 0 (ax_sl q))) ∧ M = M2) := by
  obtain ⟨d, rfl⟩ : ∃ d0, d = d0 + 1 := ⟨d - 1, by omega⟩
  refine ax_start rfl (Nat.le_of_ble_eq_true rfl) (ls := [some (.inr (-(1000 + (q : Int)))), some (.inl c), some (.inl a), some (.inl b)]) rfl (fun hav hcm => ?_)
  have hc1 : -2147483648 ≤ c ∧ c < 2147483648 := hav (.inl c) (by simp)
  have hc2 : -2147483648 ≤ a ∧ a < 2147483648 := hav (.inl a) (by simp)
  have hc3 : -2147483648 ≤ b ∧ b < 2147483648 := hav (.inl b) (by simp)
  clear hav
  have qsl := f_sl_rg ⟨q, hg0⟩
  dsimp only at qsl
  refine ax_iload_n dJ1_indexOf_4cfef_0 rfl rfl (pc' := 1) rfl ?_
  refine ax_insG [.inl c] [] dJ1_indexOf_4cfef_1 mlJ1_88 rfl rfl (Nat.le_of_ble_eq_true rfl) (s_J1_canEncode_9a6ad E l _ (by omega) _ c (by first | omega | assumption)) (pc' := 4) rfl (fun vv M_1 hq co1 hcm1 => ?_)
  obtain ⟨rfl, rfl⟩ := hq
  refine ax_reS (st2 := [.inl 1]) rfl ?_
  refine ax_if_ne (tgt := 9) dJ1_indexOf_4cfef_4 (by decide) (pc' := 7) rfl (fun h4 => ?_) (fun h4 => ?_)
  · refine ax_iload_n dJ1_indexOf_4cfef_9 rfl rfl (pc' := 10) rfl ?_
    refine ax_iconst dJ1_indexOf_4cfef_10 (by decide) (pc' := 11) rfl ?_
    refine ax_mmax dJ1_indexOf_4cfef_11 mlJ1_92 (Nat.le_of_ble_eq_true rfl) (pc' := 14) rfl ?_
    refine ax_istore_n dJ1_indexOf_4cfef_14 rfl (by decide) (ls' := [some (.inr (-(1000 + (q : Int)))), some (.inl c), some (.inl (max a 0)), some (.inl b)]) rfl (pc' := 15) rfl ?_
    refine ax_iload_n dJ1_indexOf_4cfef_15 rfl rfl (pc' := 16) rfl ?_
    refine ax_aload_n dJ1_indexOf_4cfef_16 rfl rfl (pc' := 17) rfl ?_
    refine ax_blen (i := q) dJ1_indexOf_4cfef_17 hg0 rfl (by omega) (pc' := 18) rfl ?_
    refine ax_mmin dJ1_indexOf_4cfef_18 mlJ1_38 (Nat.le_of_ble_eq_true rfl) (pc' := 21) rfl ?_
    refine ax_istore_n dJ1_indexOf_4cfef_21 rfl (by decide) (ls' := [some (.inr (-(1000 + (q : Int)))), some (.inl c), some (.inl (max a 0)), some (.inl (min b (ax_sl q)))]) rfl (pc' := 22) rfl ?_
    refine ax_iload_n dJ1_indexOf_4cfef_22 rfl rfl (pc' := 23) rfl ?_
    refine ax_iload_n dJ1_indexOf_4cfef_23 rfl rfl (pc' := 24) rfl ?_
    refine ax_icmp_lt (tgt := 29) dJ1_indexOf_4cfef_24 (by decide) (pc' := 27) rfl (fun h24 => ?_) (fun h24 => ?_)
    · refine ax_aload_n dJ1_indexOf_4cfef_29 rfl rfl (pc' := 30) rfl ?_
      refine ax_iload_n dJ1_indexOf_4cfef_30 rfl rfl (pc' := 31) rfl ?_
      refine ax_iload_n dJ1_indexOf_4cfef_31 rfl rfl (pc' := 32) rfl ?_
      refine ax_iload_n dJ1_indexOf_4cfef_32 rfl rfl (pc' := 33) rfl ?_
      refine ax_insG [.inr (-(1000 + (q : Int))), .inl c, .inl (max a 0), .inl (min b (ax_sl q))] [] dJ1_indexOf_4cfef_33 mlJ1_95 rfl rfl (Nat.le_of_ble_eq_true rfl) (s_J1_indexOfChar_4cfef E l _ (by omega) _ c (max a 0) (min b (ax_sl q)) q (by first | omega | assumption) (by first | omega | assumption) (by first | omega | assumption)) (pc' := 36) rfl (fun vv M_33 hq co33 hcm33 => ?_)
      obtain ⟨rfl, rfl⟩ := hq
      refine ax_reS (st2 := [.inl (f_first (f_icC q c) (max a 0) (min b (ax_sl q)))]) rfl ?_
      have cc33 : -2147483648 ≤ f_first (f_icC q c) (max a 0) (min b (ax_sl q)) ∧ f_first (f_icC q c) (max a 0) (min b (ax_sl q)) < 2147483648 := co33 _ rfl
      refine ax_iret dJ1_indexOf_4cfef_36 rfl ?_
      refine ⟨rfl, ?_, ?_⟩
      · refine congrArg (fun z => some (Sum.inl z)) ?_
        rw [show max a 0 = 0 by omega, show min b (ax_sl q) = ax_sl q by omega]
      · rfl
    · exfalso
      omega
  · exfalso
    omega
set_option maxRecDepth 20000 in
theorem s_J0_indexOf_7cf53 (E : ax_Env) (l : Launch) (d : Nat) (hd : 2 ≤ d) (M : ax_Mem) (c a : Int) (q : Nat) (hg0 : q < 30) (hg1 : 0 ≤ c ∧ c ≤ 255) (hg2 : a = 0 ∧ 0 < ax_sl q) : ax_G E l d iJ0_indexOf_7cf53 [.inr (-(3 + (q : Int))), .inl c, .inl a] M (fun z0 M2 => z0 = some (.inl (f_first (f_icC q c) 0 (ax_sl q))) ∧ M = M2) := by
  obtain ⟨d, rfl⟩ : ∃ d0, d = d0 + 1 := ⟨d - 1, by omega⟩
  refine ax_start rfl (Nat.le_of_ble_eq_true rfl) (ls := [some (.inr (-(3 + (q : Int)))), some (.inl c), some (.inl a)]) rfl (fun hav hcm => ?_)
  have hc1 : -2147483648 ≤ c ∧ c < 2147483648 := hav (.inl c) (by simp)
  have hc2 : -2147483648 ≤ a ∧ a < 2147483648 := hav (.inl a) (by simp)
  clear hav
  have qsl := f_sl_rg ⟨q, hg0⟩
  dsimp only at qsl
  refine ax_aload_n dJ0_indexOf_7cf53_0 rfl rfl (pc' := 1) rfl ?_
  refine ax_invSG (i := q) [] [] dJ0_indexOf_7cf53_1 mlJ0_492 hg0 rfl rfl rfl (Nat.le_of_ble_eq_true rfl) (s_J0_isLatin1_aae02 E l _ (by omega) _ q (by first | omega | assumption)) (pc' := 4) rfl (fun vv M_1 hq co1 hcm1 => ?_)
  obtain ⟨rfl, rfl⟩ := hq
  refine ax_reS (st2 := [.inl 1]) rfl ?_
  refine ax_if_eq (tgt := 23) dJ0_indexOf_7cf53_4 (by decide) (pc' := 7) rfl (fun h4 => ?_) (fun h4 => ?_)
  · exfalso
    omega
  · refine ax_aload_n dJ0_indexOf_7cf53_7 rfl rfl (pc' := 8) rfl ?_
    refine ax_sgetV (i := q) (r := -(1000 + (q : Int))) dJ0_indexOf_7cf53_8 flJ0_9 hg0 rfl rfl (pc' := 11) rfl ?_
    refine ax_iload_n dJ0_indexOf_7cf53_11 rfl rfl (pc' := 12) rfl ?_
    refine ax_iload_n dJ0_indexOf_7cf53_12 rfl rfl (pc' := 13) rfl ?_
    refine ax_aload_n dJ0_indexOf_7cf53_13 rfl rfl (pc' := 14) rfl ?_
    refine ax_invSG (i := q) [] [.inl a, .inl c, .inr (-(1000 + (q : Int)))] dJ0_indexOf_7cf53_14 mlJ0_505 hg0 rfl rfl rfl (Nat.le_of_ble_eq_true rfl) (s_J0_length_8abf5 E l _ (by omega) _ q (by first | omega | assumption)) (pc' := 17) rfl (fun vv M_14 hq co14 hcm14 => ?_)
    obtain ⟨rfl, rfl⟩ := hq
    refine ax_reS (st2 := [.inl (ax_sl q), .inl a, .inl c, .inr (-(1000 + (q : Int)))]) rfl ?_
    have cc14 : -2147483648 ≤ ax_sl q ∧ ax_sl q < 2147483648 := co14 _ rfl
    refine ax_insG [.inr (-(1000 + (q : Int))), .inl c, .inl a, .inl (ax_sl q)] [] dJ0_indexOf_7cf53_17 mlJ0_637 rfl rfl (Nat.le_of_ble_eq_true rfl) (s_J1_indexOf_4cfef E l _ (by omega) _ c a (ax_sl q) q (by first | omega | assumption) (by first | omega | assumption) (by first | omega | assumption)) (pc' := 20) rfl (fun vv M_17 hq co17 hcm17 => ?_)
    obtain ⟨rfl, rfl⟩ := hq
    refine ax_reS (st2 := [.inl (f_first (f_icC q c) 0 (ax_sl q))]) rfl ?_
    have cc17 : -2147483648 ≤ f_first (f_icC q c) 0 (ax_sl q) ∧ f_first (f_icC q c) 0 (ax_sl q) < 2147483648 := co17 _ rfl
    refine ax_goto dJ0_indexOf_7cf53_20 (pc' := 36) (by decide) ?_
    refine ax_iret dJ0_indexOf_7cf53_36 rfl ?_
    refine ⟨rfl, ?_, ?_⟩
    · rfl
    · rfl
set_option maxRecDepth 20000 in
theorem s_J0_indexOf_0f7a4 (E : ax_Env) (l : Launch) (d : Nat) (hd : 3 ≤ d) (M : ax_Mem) (c : Int) (q : Nat) (hg0 : q < 30) (hg1 : 0 ≤ c ∧ c ≤ 255) (hg2 : 0 < ax_sl q) : ax_G E l d iJ0_indexOf_0f7a4 [.inr (-(3 + (q : Int))), .inl c] M (fun z0 M2 => z0 = some (.inl (f_first (f_icC q c) 0 (ax_sl q))) ∧ M = M2) := by
  obtain ⟨d, rfl⟩ : ∃ d0, d = d0 + 1 := ⟨d - 1, by omega⟩
  refine ax_start rfl (Nat.le_of_ble_eq_true rfl) (ls := [some (.inr (-(3 + (q : Int)))), some (.inl c)]) rfl (fun hav hcm => ?_)
  have hc1 : -2147483648 ≤ c ∧ c < 2147483648 := hav (.inl c) (by simp)
  clear hav
  refine ax_aload_n dJ0_indexOf_0f7a4_0 rfl rfl (pc' := 1) rfl ?_
  refine ax_iload_n dJ0_indexOf_0f7a4_1 rfl rfl (pc' := 2) rfl ?_
  refine ax_iconst dJ0_indexOf_0f7a4_2 (by decide) (pc' := 3) rfl ?_
  refine ax_invSG (i := q) [.inl c, .inl 0] [] dJ0_indexOf_0f7a4_3 mlJ0_633 hg0 rfl rfl rfl (Nat.le_of_ble_eq_true rfl) (s_J0_indexOf_7cf53 E l _ (by omega) _ c 0 q (by first | omega | assumption) (by first | omega | assumption) (by first | omega | assumption)) (pc' := 6) rfl (fun vv M_3 hq co3 hcm3 => ?_)
  obtain ⟨rfl, rfl⟩ := hq
  refine ax_reS (st2 := [.inl (f_first (f_icC q c) 0 (ax_sl q))]) rfl ?_
  have cc3 : -2147483648 ≤ f_first (f_icC q c) 0 (ax_sl q) ∧ f_first (f_icC q c) 0 (ax_sl q) < 2147483648 := co3 _ rfl
  refine ax_iret dJ0_indexOf_0f7a4_6 rfl ?_
  refine ⟨rfl, ?_, ?_⟩
  · rfl
  · rfl
set_option maxRecDepth 20000 in
theorem s_X8_standsAt (E : ax_Env) (l : Launch) (d : Nat) (hd : 5 ≤ d) (M : ax_Mem) (st fm n : Int) (q : Nat) {ta : Int → Int} (hta : M 59 = ta) (hg0 : q < 30) (hg1 : 0 ≤ st ∧ 0 ≤ n ∧ st + n ≤ ax_sl q) (hg2 : 0 ≤ fm ∧ fm + n ≤ 400) : ax_G E l d iX8_standsAt [.inr 58, .inr (-(3 + (q : Int))), .inl st, .inl fm, .inl n] M (fun z0 M2 => z0 = some (.inl (f_b (f_saP q ta st fm n))) ∧ M = M2) := by
  obtain ⟨d, rfl⟩ : ∃ d0, d = d0 + 1 := ⟨d - 1, by omega⟩
  refine ax_start rfl (Nat.le_of_ble_eq_true rfl) (ls := [some (.inr 58), some (.inr (-(3 + (q : Int)))), some (.inl st), some (.inl fm), some (.inl n), none]) rfl (fun hav hcm => ?_)
  have hc2 : -2147483648 ≤ st ∧ st < 2147483648 := hav (.inl st) (by simp)
  have hc3 : -2147483648 ≤ fm ∧ fm < 2147483648 := hav (.inl fm) (by simp)
  have hc4 : -2147483648 ≤ n ∧ n < 2147483648 := hav (.inl n) (by simp)
  clear hav
  have qsl := f_sl_rg ⟨q, hg0⟩
  dsimp only at qsl
  refine ax_iconst dX8_standsAt_0 (by decide) (pc' := 1) rfl ?_
  refine ax_istore dX8_standsAt_1 (by decide) (ls' := [some (.inr 58), some (.inr (-(3 + (q : Int)))), some (.inl st), some (.inl fm), some (.inl n), some (.inl 0)]) rfl (pc' := 3) rfl ?_
  have LP1 : ∀ (kq2 : Nat) (i : Int) (hm1 : n - i < (kq2 : Nat)) (iv1_0 : 0 ≤ i ∧ i ≤ n) (iv1_1 : f_first (f_saC q ta st fm) i n = f_first (f_saC q ta st fm) 0 n), ax_W E l (d + 1) 0 0 iX8_standsAt 3 [some (.inr 58), some (.inr (-(3 + (q : Int)))), some (.inl st), some (.inl fm), some (.inl n), some (.inl i)] [] SH M (ax_P (fun z0 M2 => z0 = some (.inl (f_b (f_saP q ta st fm n))) ∧ M = M2)) := by
    intro kq2
    induction kq2 with
    | zero =>
      intro i hm1 iv1_0 iv1_1
      exfalso
      omega
    | succ kq2 ih3 =>
      intro i hm1 iv1_0 iv1_1
      refine ax_iload dX8_standsAt_3 rfl (pc' := 5) rfl ?_
      refine ax_iload dX8_standsAt_5 rfl (pc' := 7) rfl ?_
      refine ax_icmp_ge (tgt := 38) dX8_standsAt_7 (by decide) (pc' := 10) rfl (fun h7 => ?_) (fun h7 => ?_)
      · refine ax_iconst dX8_standsAt_38 (by decide) (pc' := 39) rfl ?_
        refine ax_zret dX8_standsAt_39 rfl (by decide) ?_
        refine ⟨rfl, ?_, ?_⟩
        · refine congrArg (fun z => some (Sum.inl z)) ?_
          refine (f_b_t ?_).symm
          exact iv1_1.symm.trans (f_first_done (by omega))
        · rfl
      · refine ax_aload_n dX8_standsAt_10 rfl rfl (pc' := 11) rfl ?_
        refine ax_iload_n dX8_standsAt_11 rfl rfl (pc' := 12) rfl ?_
        refine ax_iload dX8_standsAt_12 rfl (pc' := 14) rfl ?_
        refine ax_iadd dX8_standsAt_14 (by omega) (pc' := 15) rfl ?_
        refine ax_invSG (i := q) [.inl (st + i)] [] dX8_standsAt_15 mlX8_75 hg0 rfl rfl rfl (Nat.le_of_ble_eq_true rfl) (s_J0_charAt_5068e E l _ (by omega) _ (st + i) q hg0 (by omega)) (pc' := 18) rfl (fun vv M_15 hq co15 hcm15 => ?_)
        obtain ⟨rfl, rfl⟩ := hq
        refine ax_reS (st2 := [.inl (f_ch q (st + i))]) rfl ?_
        have cc15 : -2147483648 ≤ f_ch q (st + i) ∧ f_ch q (st + i) < 2147483648 := co15 _ rfl
        refine ax_aload_n dX8_standsAt_18 rfl rfl (pc' := 19) rfl ?_
        refine ax_getr (v := 59) dX8_standsAt_19 flX8_9 rfl sh_58 rfl (pc' := 22) rfl ?_
        refine ax_iload_n dX8_standsAt_22 rfl rfl (pc' := 23) rfl ?_
        refine ax_iload dX8_standsAt_23 rfl (pc' := 25) rfl ?_
        refine ax_iadd dX8_standsAt_25 (by omega) (pc' := 26) rfl ?_
        refine ax_iald (v := ta (fm + i)) dX8_standsAt_26 sh_59 rfl (by omega) (by omega) ((congrFun hta (fm + i)).trans rfl) (pc' := 27) rfl ?_
        refine ax_icmp_eq (tgt := 32) dX8_standsAt_27 (by decide) (pc' := 30) rfl (fun h27 => ?_) (fun h27 => ?_)
        · refine ax_iinc dX8_standsAt_32 rfl (by decide) (by omega) (ls' := [some (.inr 58), some (.inr (-(3 + (q : Int)))), some (.inl st), some (.inl fm), some (.inl n), some (.inl (i + 1))]) rfl (pc' := 35) rfl ?_
          refine ax_goto dX8_standsAt_35 (pc' := 3) (by decide) ?_
          refine ih3 (i + 1) ?_ ?_ ?_
          · omega
          · omega
          · exact (f_first_miss (by omega) (fun hc => hc h27)).symm.trans iv1_1
        · refine ax_iconst dX8_standsAt_30 (by decide) (pc' := 31) rfl ?_
          refine ax_zret dX8_standsAt_31 rfl (by decide) ?_
          refine ⟨rfl, ?_, ?_⟩
          · refine congrArg (fun z => some (Sum.inl z)) ?_
            refine (f_b_f ?_).symm
            intro hq
            have e := iv1_1.trans hq
            rw [f_first_hit (c := f_saC q ta st fm) (by omega) h27] at e
            omega
          · rfl
  refine LP1 (n - 0 : Int).toNat.succ 0 ?_ ?_ ?_
  · omega
  · omega
  · rfl
set_option maxRecDepth 20000 in
theorem s_X8_wordFor (E : ax_Env) (l : Launch) (d : Nat) (hd : 6 ≤ d) (M : ax_Mem) (fm to : Int) (q : Nat) {ta : Int → Int} (hta : M 59 = ta) (hg0 : q < 30) (hg1 : 0 ≤ fm ∧ fm ≤ to ∧ to ≤ 400) : ax_G E l d iX8_wordFor [.inr 58, .inr (-(3 + (q : Int))), .inl fm, .inl to] M (fun z0 M2 => z0 = some (.inl (f_wfr q ta fm to)) ∧ M = M2) := by
  obtain ⟨d, rfl⟩ : ∃ d0, d = d0 + 1 := ⟨d - 1, by omega⟩
  refine ax_start rfl (Nat.le_of_ble_eq_true rfl) (ls := [some (.inr 58), some (.inr (-(3 + (q : Int)))), some (.inl fm), some (.inl to), none, none, none]) rfl (fun hav hcm => ?_)
  have hc2 : -2147483648 ≤ fm ∧ fm < 2147483648 := hav (.inl fm) (by simp)
  have hc3 : -2147483648 ≤ to ∧ to < 2147483648 := hav (.inl to) (by simp)
  clear hav
  have qsl := f_sl_rg ⟨q, hg0⟩
  dsimp only at qsl
  refine ax_iconst dX8_wordFor_0 (by decide) (pc' := 1) rfl ?_
  refine ax_istore dX8_wordFor_1 (by decide) (ls' := [some (.inr 58), some (.inr (-(3 + (q : Int)))), some (.inl fm), some (.inl to), some (.inl 0), none, none]) rfl (pc' := 3) rfl ?_
  refine ax_iconst dX8_wordFor_3 (by decide) (pc' := 4) rfl ?_
  refine ax_istore dX8_wordFor_4 (by decide) (ls' := [some (.inr 58), some (.inr (-(3 + (q : Int)))), some (.inl fm), some (.inl to), some (.inl 0), some (.inl 0), none]) rfl (pc' := 6) rfl ?_
  refine ax_iconst dX8_wordFor_6 (by decide) (pc' := 7) rfl ?_
  refine ax_istore dX8_wordFor_7 (by decide) (ls' := [some (.inr 58), some (.inr (-(3 + (q : Int)))), some (.inl fm), some (.inl to), some (.inl 0), some (.inl 0), some (.inl 0)]) rfl (pc' := 9) rfl ?_
  have LP1 : ∀ (kq2 : Nat) (nu st i : Int) (hm1 : ax_sl q + 1 - i < (kq2 : Nat)) (iv1_0 : 0 ≤ st ∧ st ≤ i ∧ i ≤ ax_sl q + 1) (iv1_1 : 0 ≤ nu ∧ nu ≤ i) (iv1_2 : f_wgo q ta fm to (f_spl q (ax_sl q + 1 - i).toNat i st) nu = f_wfr q ta fm to), ax_W E l (d + 1) 0 0 iX8_wordFor 9 [some (.inr 58), some (.inr (-(3 + (q : Int)))), some (.inl fm), some (.inl to), some (.inl nu), some (.inl st), some (.inl i)] [] SH M (ax_P (fun z0 M2 => z0 = some (.inl (f_wfr q ta fm to)) ∧ M = M2)) := by
    intro kq2
    induction kq2 with
    | zero =>
      intro nu st i hm1 iv1_0 iv1_1 iv1_2
      exfalso
      omega
    | succ kq2 ih3 =>
      intro nu st i hm1 iv1_0 iv1_1 iv1_2
      refine ax_iload dX8_wordFor_9 rfl (pc' := 11) rfl ?_
      refine ax_aload_n dX8_wordFor_11 rfl rfl (pc' := 12) rfl ?_
      refine ax_invSG (i := q) [] [.inl i] dX8_wordFor_12 mlX8_72 hg0 rfl rfl rfl (Nat.le_of_ble_eq_true rfl) (s_J0_length_8abf5 E l _ (by omega) _ q (by first | omega | assumption)) (pc' := 15) rfl (fun vv M_12 hq co12 hcm12 => ?_)
      obtain ⟨rfl, rfl⟩ := hq
      refine ax_reS (st2 := [.inl (ax_sl q), .inl i]) rfl ?_
      have cc12 : -2147483648 ≤ ax_sl q ∧ ax_sl q < 2147483648 := co12 _ rfl
      refine ax_icmp_gt (tgt := 81) dX8_wordFor_15 (by decide) (pc' := 18) rfl (fun h15 => ?_) (fun h15 => ?_)
      · refine ax_iconst dX8_wordFor_81 (by decide) (pc' := 82) rfl ?_
        refine ax_iret dX8_wordFor_82 rfl ?_
        refine ⟨rfl, ?_, ?_⟩
        · refine congrArg (fun z => some (Sum.inl z)) ?_
          rw [show (ax_sl q + 1 - i).toNat = 0 by omega] at iv1_2
          exact iv1_2
        · rfl
      · have qst := f_spl_st (q := q) (i := i) (s := st) (by omega)
        refine ax_iload dX8_wordFor_18 rfl (pc' := 20) rfl ?_
        refine ax_aload_n dX8_wordFor_20 rfl rfl (pc' := 21) rfl ?_
        refine ax_invSG (i := q) [] [.inl i] dX8_wordFor_21 mlX8_72 hg0 rfl rfl rfl (Nat.le_of_ble_eq_true rfl) (s_J0_length_8abf5 E l _ (by omega) _ q (by first | omega | assumption)) (pc' := 24) rfl (fun vv M_21 hq co21 hcm21 => ?_)
        obtain ⟨rfl, rfl⟩ := hq
        refine ax_reS (st2 := [.inl (ax_sl q), .inl i]) rfl ?_
        have cc21 : -2147483648 ≤ ax_sl q ∧ ax_sl q < 2147483648 := co21 _ rfl
        refine ax_icmp_eq (tgt := 38) dX8_wordFor_24 (by decide) (pc' := 27) rfl (fun h24 => ?_) (fun h24 => ?_)
        · have qsp : f_spl q (ax_sl q + 1 - i).toNat i st = (st, i - st) :: f_spl q (ax_sl q + 1 - (i + 1)).toNat (i + 1) (i + 1) := by
            rw [qst, if_pos (by omega)]
          refine ax_iload dX8_wordFor_38 rfl (pc' := 40) rfl ?_
          refine ax_iload dX8_wordFor_40 rfl (pc' := 42) rfl ?_
          refine ax_isub dX8_wordFor_42 (by omega) (pc' := 43) rfl ?_
          refine ax_iload_n dX8_wordFor_43 rfl rfl (pc' := 44) rfl ?_
          refine ax_iload_n dX8_wordFor_44 rfl rfl (pc' := 45) rfl ?_
          refine ax_isub dX8_wordFor_45 (by omega) (pc' := 46) rfl ?_
          refine ax_icmp_ne (tgt := 66) dX8_wordFor_46 (by decide) (pc' := 49) rfl (fun h46 => ?_) (fun h46 => ?_)
          · have qnm : ¬ (i - st = to - fm ∧ f_saP q ta st fm (i - st)) := fun hq => h46 hq.1
            refine ax_iinc dX8_wordFor_66 rfl (by decide) (by omega) (ls' := [some (.inr 58), some (.inr (-(3 + (q : Int)))), some (.inl fm), some (.inl to), some (.inl (nu + 1)), some (.inl st), some (.inl i)]) rfl (pc' := 69) rfl ?_
            refine ax_iload dX8_wordFor_69 rfl (pc' := 71) rfl ?_
            refine ax_iconst dX8_wordFor_71 (by decide) (pc' := 72) rfl ?_
            refine ax_iadd dX8_wordFor_72 (by omega) (pc' := 73) rfl ?_
            refine ax_istore dX8_wordFor_73 (by decide) (ls' := [some (.inr 58), some (.inr (-(3 + (q : Int)))), some (.inl fm), some (.inl to), some (.inl (nu + 1)), some (.inl (i + 1)), some (.inl i)]) rfl (pc' := 75) rfl ?_
            refine ax_iinc dX8_wordFor_75 rfl (by decide) (by omega) (ls' := [some (.inr 58), some (.inr (-(3 + (q : Int)))), some (.inl fm), some (.inl to), some (.inl (nu + 1)), some (.inl (i + 1)), some (.inl (i + 1))]) rfl (pc' := 78) rfl ?_
            refine ax_goto dX8_wordFor_78 (pc' := 9) (by decide) ?_
            refine ih3 (nu + 1) (i + 1) (i + 1) ?_ ?_ ?_ ?_
            · omega
            · omega
            · omega
            · first
                | (rw [qsp] at iv1_2
                   rw [← iv1_2]
                   exact (if_neg qnm).symm)
                | (rw [qst, if_neg (by omega)] at iv1_2
                   exact iv1_2)
          · refine ax_aload_n dX8_wordFor_49 rfl rfl (pc' := 50) rfl ?_
            refine ax_aload_n dX8_wordFor_50 rfl rfl (pc' := 51) rfl ?_
            refine ax_iload dX8_wordFor_51 rfl (pc' := 53) rfl ?_
            refine ax_iload_n dX8_wordFor_53 rfl rfl (pc' := 54) rfl ?_
            refine ax_iload_n dX8_wordFor_54 rfl rfl (pc' := 55) rfl ?_
            refine ax_iload_n dX8_wordFor_55 rfl rfl (pc' := 56) rfl ?_
            refine ax_isub dX8_wordFor_56 (by omega) (pc' := 57) rfl ?_
            refine ax_invG [.inr (-(3 + (q : Int))), .inl st, .inl fm, .inl (to - fm)] [] dX8_wordFor_57 mlX8_79 sh_58 rfl rfl rfl (Nat.le_of_ble_eq_true rfl) (s_X8_standsAt E l _ (by omega) _ st fm (to - fm) q hta hg0 (by omega) (by omega)) (pc' := 60) rfl (fun vv M_57 hq co57 hcm57 => ?_)
            obtain ⟨rfl, rfl⟩ := hq
            refine ax_reS (st2 := [.inl (f_b (f_saP q ta st fm (to - fm)))]) rfl ?_
            refine ax_if_eq (tgt := 66) dX8_wordFor_60 (by decide) (pc' := 63) rfl (fun h60 => ?_) (fun h60 => ?_)
            · replace h60 := f_b_0 h60
              have qnm : ¬ (i - st = to - fm ∧ f_saP q ta st fm (i - st)) := fun hq => h60 (by rw [← hq.1]; exact hq.2)
              refine ax_iinc dX8_wordFor_66 rfl (by decide) (by omega) (ls' := [some (.inr 58), some (.inr (-(3 + (q : Int)))), some (.inl fm), some (.inl to), some (.inl (nu + 1)), some (.inl st), some (.inl i)]) rfl (pc' := 69) rfl ?_
              refine ax_iload dX8_wordFor_69 rfl (pc' := 71) rfl ?_
              refine ax_iconst dX8_wordFor_71 (by decide) (pc' := 72) rfl ?_
              refine ax_iadd dX8_wordFor_72 (by omega) (pc' := 73) rfl ?_
              refine ax_istore dX8_wordFor_73 (by decide) (ls' := [some (.inr 58), some (.inr (-(3 + (q : Int)))), some (.inl fm), some (.inl to), some (.inl (nu + 1)), some (.inl (i + 1)), some (.inl i)]) rfl (pc' := 75) rfl ?_
              refine ax_iinc dX8_wordFor_75 rfl (by decide) (by omega) (ls' := [some (.inr 58), some (.inr (-(3 + (q : Int)))), some (.inl fm), some (.inl to), some (.inl (nu + 1)), some (.inl (i + 1)), some (.inl (i + 1))]) rfl (pc' := 78) rfl ?_
              refine ax_goto dX8_wordFor_78 (pc' := 9) (by decide) ?_
              refine ih3 (nu + 1) (i + 1) (i + 1) ?_ ?_ ?_ ?_
              · omega
              · omega
              · omega
              · first
                  | (rw [qsp] at iv1_2
                     rw [← iv1_2]
                     exact (if_neg qnm).symm)
                  | (rw [qst, if_neg (by omega)] at iv1_2
                     exact iv1_2)
            · replace h60 := f_b_1 h60
              refine ax_iload dX8_wordFor_63 rfl (pc' := 65) rfl ?_
              refine ax_iret dX8_wordFor_65 rfl ?_
              refine ⟨rfl, ?_, ?_⟩
              · refine congrArg (fun z => some (Sum.inl z)) ?_
                rw [qsp] at iv1_2
                rw [← iv1_2]
                exact (if_pos ⟨h46, by rw [h46]; exact h60⟩).symm
              · rfl
        · refine ax_aload_n dX8_wordFor_27 rfl rfl (pc' := 28) rfl ?_
          refine ax_iload dX8_wordFor_28 rfl (pc' := 30) rfl ?_
          refine ax_invSG (i := q) [.inl i] [] dX8_wordFor_30 mlX8_75 hg0 rfl rfl rfl (Nat.le_of_ble_eq_true rfl) (s_J0_charAt_5068e E l _ (by omega) _ i q hg0 (by omega)) (pc' := 33) rfl (fun vv M_30 hq co30 hcm30 => ?_)
          obtain ⟨rfl, rfl⟩ := hq
          refine ax_reS (st2 := [.inl (f_ch q i)]) rfl ?_
          have cc30 : -2147483648 ≤ f_ch q i ∧ f_ch q i < 2147483648 := co30 _ rfl
          refine ax_bipush dX8_wordFor_33 (by decide) (pc' := 35) rfl ?_
          refine ax_icmp_ne (tgt := 75) dX8_wordFor_35 (by decide) (pc' := 38) rfl (fun h35 => ?_) (fun h35 => ?_)
          · refine ax_iinc dX8_wordFor_75 rfl (by decide) (by omega) (ls' := [some (.inr 58), some (.inr (-(3 + (q : Int)))), some (.inl fm), some (.inl to), some (.inl nu), some (.inl st), some (.inl (i + 1))]) rfl (pc' := 78) rfl ?_
            refine ax_goto dX8_wordFor_78 (pc' := 9) (by decide) ?_
            refine ih3 nu st (i + 1) ?_ ?_ ?_ ?_
            · omega
            · omega
            · omega
            · first
                | (rw [qsp] at iv1_2
                   rw [← iv1_2]
                   exact (if_neg qnm).symm)
                | (rw [qst, if_neg (by omega)] at iv1_2
                   exact iv1_2)
          · have qsp : f_spl q (ax_sl q + 1 - i).toNat i st = (st, i - st) :: f_spl q (ax_sl q + 1 - (i + 1)).toNat (i + 1) (i + 1) := by
              rw [qst, if_pos (by omega)]
            refine ax_iload dX8_wordFor_38 rfl (pc' := 40) rfl ?_
            refine ax_iload dX8_wordFor_40 rfl (pc' := 42) rfl ?_
            refine ax_isub dX8_wordFor_42 (by omega) (pc' := 43) rfl ?_
            refine ax_iload_n dX8_wordFor_43 rfl rfl (pc' := 44) rfl ?_
            refine ax_iload_n dX8_wordFor_44 rfl rfl (pc' := 45) rfl ?_
            refine ax_isub dX8_wordFor_45 (by omega) (pc' := 46) rfl ?_
            refine ax_icmp_ne (tgt := 66) dX8_wordFor_46 (by decide) (pc' := 49) rfl (fun h46 => ?_) (fun h46 => ?_)
            · have qnm : ¬ (i - st = to - fm ∧ f_saP q ta st fm (i - st)) := fun hq => h46 hq.1
              refine ax_iinc dX8_wordFor_66 rfl (by decide) (by omega) (ls' := [some (.inr 58), some (.inr (-(3 + (q : Int)))), some (.inl fm), some (.inl to), some (.inl (nu + 1)), some (.inl st), some (.inl i)]) rfl (pc' := 69) rfl ?_
              refine ax_iload dX8_wordFor_69 rfl (pc' := 71) rfl ?_
              refine ax_iconst dX8_wordFor_71 (by decide) (pc' := 72) rfl ?_
              refine ax_iadd dX8_wordFor_72 (by omega) (pc' := 73) rfl ?_
              refine ax_istore dX8_wordFor_73 (by decide) (ls' := [some (.inr 58), some (.inr (-(3 + (q : Int)))), some (.inl fm), some (.inl to), some (.inl (nu + 1)), some (.inl (i + 1)), some (.inl i)]) rfl (pc' := 75) rfl ?_
              refine ax_iinc dX8_wordFor_75 rfl (by decide) (by omega) (ls' := [some (.inr 58), some (.inr (-(3 + (q : Int)))), some (.inl fm), some (.inl to), some (.inl (nu + 1)), some (.inl (i + 1)), some (.inl (i + 1))]) rfl (pc' := 78) rfl ?_
              refine ax_goto dX8_wordFor_78 (pc' := 9) (by decide) ?_
              refine ih3 (nu + 1) (i + 1) (i + 1) ?_ ?_ ?_ ?_
              · omega
              · omega
              · omega
              · first
                  | (rw [qsp] at iv1_2
                     rw [← iv1_2]
                     exact (if_neg qnm).symm)
                  | (rw [qst, if_neg (by omega)] at iv1_2
                     exact iv1_2)
            · refine ax_aload_n dX8_wordFor_49 rfl rfl (pc' := 50) rfl ?_
              refine ax_aload_n dX8_wordFor_50 rfl rfl (pc' := 51) rfl ?_
              refine ax_iload dX8_wordFor_51 rfl (pc' := 53) rfl ?_
              refine ax_iload_n dX8_wordFor_53 rfl rfl (pc' := 54) rfl ?_
              refine ax_iload_n dX8_wordFor_54 rfl rfl (pc' := 55) rfl ?_
              refine ax_iload_n dX8_wordFor_55 rfl rfl (pc' := 56) rfl ?_
              refine ax_isub dX8_wordFor_56 (by omega) (pc' := 57) rfl ?_
              refine ax_invG [.inr (-(3 + (q : Int))), .inl st, .inl fm, .inl (to - fm)] [] dX8_wordFor_57 mlX8_79 sh_58 rfl rfl rfl (Nat.le_of_ble_eq_true rfl) (s_X8_standsAt E l _ (by omega) _ st fm (to - fm) q hta hg0 (by omega) (by omega)) (pc' := 60) rfl (fun vv M_57 hq co57 hcm57 => ?_)
              obtain ⟨rfl, rfl⟩ := hq
              refine ax_reS (st2 := [.inl (f_b (f_saP q ta st fm (to - fm)))]) rfl ?_
              refine ax_if_eq (tgt := 66) dX8_wordFor_60 (by decide) (pc' := 63) rfl (fun h60 => ?_) (fun h60 => ?_)
              · replace h60 := f_b_0 h60
                have qnm : ¬ (i - st = to - fm ∧ f_saP q ta st fm (i - st)) := fun hq => h60 (by rw [← hq.1]; exact hq.2)
                refine ax_iinc dX8_wordFor_66 rfl (by decide) (by omega) (ls' := [some (.inr 58), some (.inr (-(3 + (q : Int)))), some (.inl fm), some (.inl to), some (.inl (nu + 1)), some (.inl st), some (.inl i)]) rfl (pc' := 69) rfl ?_
                refine ax_iload dX8_wordFor_69 rfl (pc' := 71) rfl ?_
                refine ax_iconst dX8_wordFor_71 (by decide) (pc' := 72) rfl ?_
                refine ax_iadd dX8_wordFor_72 (by omega) (pc' := 73) rfl ?_
                refine ax_istore dX8_wordFor_73 (by decide) (ls' := [some (.inr 58), some (.inr (-(3 + (q : Int)))), some (.inl fm), some (.inl to), some (.inl (nu + 1)), some (.inl (i + 1)), some (.inl i)]) rfl (pc' := 75) rfl ?_
                refine ax_iinc dX8_wordFor_75 rfl (by decide) (by omega) (ls' := [some (.inr 58), some (.inr (-(3 + (q : Int)))), some (.inl fm), some (.inl to), some (.inl (nu + 1)), some (.inl (i + 1)), some (.inl (i + 1))]) rfl (pc' := 78) rfl ?_
                refine ax_goto dX8_wordFor_78 (pc' := 9) (by decide) ?_
                refine ih3 (nu + 1) (i + 1) (i + 1) ?_ ?_ ?_ ?_
                · omega
                · omega
                · omega
                · first
                    | (rw [qsp] at iv1_2
                       rw [← iv1_2]
                       exact (if_neg qnm).symm)
                    | (rw [qst, if_neg (by omega)] at iv1_2
                       exact iv1_2)
              · replace h60 := f_b_1 h60
                refine ax_iload dX8_wordFor_63 rfl (pc' := 65) rfl ?_
                refine ax_iret dX8_wordFor_65 rfl ?_
                refine ⟨rfl, ?_, ?_⟩
                · refine congrArg (fun z => some (Sum.inl z)) ?_
                  rw [qsp] at iv1_2
                  rw [← iv1_2]
                  exact (if_pos ⟨h46, by rw [h46]; exact h60⟩).symm
                · rfl
  refine LP1 (ax_sl q + 1 - 0 : Int).toNat.succ 0 0 0 ?_ ?_ ?_ ?_
  · omega
  · omega
  · omega
  · unfold f_wfr
    rw [Int.sub_zero]
