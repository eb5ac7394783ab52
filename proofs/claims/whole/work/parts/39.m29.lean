/-! drills over tokens -/
abbrev f_Sp : Type := Int × Int × Int
abbrev f_Rd : Type := (Int × Int) ⊕ (List f_Tk × List f_Sp)
def f_nbr (lo hi : Int) (L : List f_Tk) : f_Rs := if f_T L ≠ 2 then .inl (1, f_S L) else if ¬ (lo ≤ f_V L ∧ f_V L ≤ hi) then .inl (2, f_S L) else .inr (L.tail, [])
def f_gst (k : Int) : Int := if k = 10 then 5 else if k = 11 then 23 else if k = 12 then 99 else if k = 13 then 9 else 30
def f_bd (r : f_Rs) (k : List f_Tk → f_Rd) : f_Rd := match r with
  | .inl e => .inl e
  | .inr (L, _) => k L
def f_stE (s : f_Sp) (L : List f_Tk) : f_Rd := f_bd (f_ned 159 L) (fun L5 => .inr (L5, [s]))
def f_stT (a : Int) (L : List f_Tk) : f_Rd := f_bd (f_ned 16 L) (fun L3 => f_bd (f_nbr 0 23 L3) (f_stE (10, a, f_V L3)))
def f_stp (L : List f_Tk) : f_Rd := f_bd (f_nbr (if f_T L = 14 then 1 else 0) (f_gst (f_T L)) L.tail) (fun L2 => if f_T L = 10 then f_stT (f_V L.tail) L2 else f_stE (f_T L, f_V L.tail, 0) L2)
def f_tms (r : Nat) (ss : List f_Sp) : List f_Sp := (List.replicate r ss).flatten
def f_agE (r : Nat) (x : f_Rd) : f_Rd := match x with
  | .inl e => .inl e
  | .inr (L, ss) => f_bd (f_ned 141 L) (fun L5 => .inr (L5, f_tms r ss))
def f_agn (body : List f_Tk → f_Rd) (L : List f_Tk) : f_Rd := f_bd (f_nbr 1 9 L.tail) (fun L2 => f_bd (f_ned 140 L2) (fun L3 => f_agE (f_V L.tail).toNat (body L3)))
def f_preD (a : List f_Sp) (r : f_Rd) : f_Rd := match r with
  | .inl e => .inl e
  | .inr (L, b) => .inr (L, a ++ b)
def f_seqD (r : f_Rd) (k : List f_Tk → f_Rd) : f_Rd := match r with
  | .inl e => .inl e
  | .inr (L, a) => f_preD a (k L)
def f_itm (ag : List f_Tk → f_Rd) (L : List f_Tk) : f_Rd := if f_T L = 15 then ag L else f_stp L
def f_mnyD (ag : List f_Tk → f_Rd) : Nat → List f_Tk → f_Rd
  | 0, L => .inr (L, [])
  | n + 1, L => if 10 ≤ f_T L ∧ f_T L ≤ 15 then f_seqD (f_itm ag L) (f_mnyD ag n) else .inr (L, [])
def f_repD (ag : List f_Tk → f_Rd) (L : List f_Tk) : f_Rd := f_mnyD ag (L.length + 1) L
def f_agd : Nat → List f_Tk → f_Rd
  | 0 => fun L => .inl (3, f_S L)
  | d + 1 => f_agn (f_repD (f_agd d))
def f_sts (d : Nat) (L : List f_Tk) : f_Rd := f_repD (f_agd d) L
def f_rdb (r : f_Rd) : Int := match r with
  | .inl _ => 0
  | .inr _ => 1
theorem f_rdb_ok {r : f_Rd} (h : f_rdb r ≠ 0) : ∃ L o, r = .inr (L, o) := by
  match r, h with
  | .inl e, h => exact absurd rfl h
  | .inr (L, o), h => exact ⟨L, o, rfl⟩
theorem f_rdb_no {r : f_Rd} (h : f_rdb r = 0) : ∃ k s, r = .inl (k, s) := by
  match r, h with
  | .inl (k, s), h => exact ⟨k, s, rfl⟩
theorem f_rdb_01 (r : f_Rd) : f_rdb r = 0 ∨ f_rdb r = 1 := by
  cases r with
  | inl e => exact Or.inl rfl
  | inr e => exact Or.inr rfl
theorem f_preD_preD (a b : List f_Sp) (r : f_Rd) : f_preD a (f_preD b r) = f_preD (a ++ b) r := by
  match r with
  | .inl e => rfl
  | .inr (L, o) =>
    show (.inr (L, a ++ (b ++ o)) : f_Rd) = .inr (L, a ++ b ++ o)
    rw [List.append_assoc]
theorem f_preD_nil (a : List f_Sp) (L : List f_Tk) : f_preD a (.inr (L, [])) = .inr (L, a) := by
  show (.inr (L, a ++ []) : f_Rd) = _
  rw [List.append_nil]
/-- tokens grow less; steps are at most c for each -/
def f_gD (c : Nat) (L : List f_Tk) (r : f_Rd) : Prop := ∀ L2 ss, r = .inr (L2, ss) → L2.length < L.length ∧ ss.length + c * L2.length ≤ c * L.length ∧ ∀ t ∈ L2, t ∈ L
def f_gD0 (c : Nat) (L : List f_Tk) (r : f_Rd) : Prop := ∀ L2 ss, r = .inr (L2, ss) → L2.length ≤ L.length ∧ ss.length + c * L2.length ≤ c * L.length ∧ ∀ t ∈ L2, t ∈ L
theorem f_nbr_inr {lo hi : Int} {L L2 : List f_Tk} {o : List f_Op} (h : f_nbr lo hi L = .inr (L2, o)) : (f_T L = 2 ∧ lo ≤ f_V L ∧ f_V L ≤ hi) ∧ L2 = L.tail ∧ o = [] := by
  unfold f_nbr at h
  split at h
  · cases h
  · split at h
    · cases h
    · rename_i h1 h2
      cases h
      exact ⟨by omega, rfl, rfl⟩
theorem f_ned_inr {t : Int} {L L2 : List f_Tk} {o : List f_Op} (h : f_ned t L = .inr (L2, o)) : f_T L = t ∧ L2 = L.tail ∧ o = [] := by
  unfold f_ned at h
  split at h
  · rename_i h1
    cases h
    exact ⟨h1, rfl, rfl⟩
  · cases h
theorem f_bd_inr {r : f_Rs} {k : List f_Tk → f_Rd} {L2 : List f_Tk} {ss : List f_Sp} (h : f_bd r k = .inr (L2, ss)) : ∃ L1 o, r = .inr (L1, o) ∧ k L1 = .inr (L2, ss) := by
  match r, h with
  | .inr (L1, o), h => exact ⟨L1, o, rfl, h⟩
def f_sok (s : f_Sp) : Prop := (10 ≤ s.1 ∧ s.1 ≤ 14) ∧ (0 ≤ s.2.1 ∧ s.2.1 ≤ f_gst s.1) ∧ (0 ≤ s.2.2 ∧ s.2.2 ≤ 23) ∧ (s.1 = 14 → 1 ≤ s.2.1) ∧ (s.1 ≠ 10 → s.2.2 = 0)
theorem f_stE_inr {s : f_Sp} {L L2 : List f_Tk} {ss : List f_Sp} (h : f_stE s L = .inr (L2, ss)) : ss = [s] ∧ L2 = L.tail ∧ f_T L = 159 := by
  obtain ⟨L1, o, e1, e2⟩ := f_bd_inr h
  have h1 := f_ned_inr e1
  cases e2
  exact ⟨rfl, h1.2.1, h1.1⟩
theorem f_stp_inr {L L2 : List f_Tk} {ss : List f_Sp} (h0 : 10 ≤ f_T L ∧ f_T L ≤ 14) (h : f_stp L = .inr (L2, ss)) : ∃ s, ss = [s] ∧ f_sok s ∧ L2.length < L.length ∧ ∀ t ∈ L2, t ∈ L := by
  obtain ⟨L1, o, e1, e2⟩ := f_bd_inr h
  obtain ⟨h1, rfl, -⟩ := f_nbr_inr e1
  have l0 := f_tail_len (L := L) (by omega)
  have l1 := f_tail_len (L := L.tail) (by omega)
  have g0 : (if f_T L = 14 then (1 : Int) else 0) ≥ 0 := by split <;> omega
  by_cases h10 : f_T L = 10
  · rw [if_pos h10] at e2
    obtain ⟨L3, o3, e3, e4⟩ := f_bd_inr e2
    obtain ⟨h3, rfl, -⟩ := f_ned_inr e3
    obtain ⟨L4, o4, e5, e6⟩ := f_bd_inr e4
    obtain ⟨h5, rfl, -⟩ := f_nbr_inr e5
    obtain ⟨rfl, rfl, h6⟩ := f_stE_inr e6
    have l2 := f_tail_len (L := L.tail.tail) (by omega)
    have l3 := f_tail_len (L := L.tail.tail.tail) (by omega)
    have l4 := f_tail_len (L := L.tail.tail.tail.tail) (by omega)
    refine ⟨_, rfl, ⟨⟨by show (10 : Int) ≤ 10; decide, by show (10 : Int) ≤ 14; decide⟩, ⟨by show 0 ≤ f_V L.tail; omega, ?_⟩, ⟨h5.2.1, h5.2.2⟩, fun q => ?_, fun q => absurd rfl q⟩, by omega, fun t ht => f_tail_in t (f_tail_in t (f_tail_in t (f_tail_in t (f_tail_in t ht))))⟩
    · have := h1.2.2
      rw [h10] at this
      exact this
    · have q2 : (10 : Int) = 14 := q
      omega
  · rw [if_neg h10] at e2
    obtain ⟨rfl, rfl, h6⟩ := f_stE_inr e2
    have l2 := f_tail_len (L := L.tail.tail) (by omega)
    refine ⟨_, rfl, ⟨h0, ⟨by show 0 ≤ f_V L.tail; omega, h1.2.2⟩, ⟨by show (0 : Int) ≤ 0; decide, by show (0 : Int) ≤ 23; decide⟩, fun q => ?_, fun _ => rfl⟩, by omega, fun t ht => f_tail_in t (f_tail_in t (f_tail_in t ht))⟩
    have q2 : f_T L = 14 := q
    have h7 := h1.2.1
    rw [if_pos q2] at h7
    exact h7
theorem f_tms_len : ∀ (r : Nat) (ss : List f_Sp), (f_tms r ss).length = r * ss.length
  | 0, ss => (Nat.zero_mul _).symm
  | r + 1, ss => by
    show (ss ++ f_tms r ss).length = _
    rw [List.length_append, f_tms_len r ss, Nat.succ_mul]
    omega
theorem f_tms_in : ∀ (r : Nat) (ss : List f_Sp) (s : f_Sp), s ∈ f_tms r ss → s ∈ ss
  | 0, ss, s, h => absurd h (List.not_mem_nil)
  | r + 1, ss, s, h => by
    have h2 : s ∈ ss ++ f_tms r ss := h
    rcases List.mem_append.mp h2 with h3 | h3
    · exact h3
    · exact f_tms_in r ss s h3
theorem f_tms_comm : ∀ (r : Nat) (ss : List f_Sp), ss ++ f_tms r ss = f_tms r ss ++ ss
  | 0, ss => List.append_nil ss
  | r + 1, ss => by
    show ss ++ (ss ++ f_tms r ss) = ss ++ f_tms r ss ++ ss
    rw [List.append_assoc, ← f_tms_comm r ss]
theorem f_agn_inr {body : List f_Tk → f_Rd} {L L2 : List f_Tk} {ss : List f_Sp} (h : f_agn body L = .inr (L2, ss)) : ∃ L4 sb, body L.tail.tail.tail = .inr (L4, sb) ∧ (f_T L.tail = 2 ∧ 1 ≤ f_V L.tail ∧ f_V L.tail ≤ 9) ∧ f_T L.tail.tail = 140 ∧ f_T L4 = 141 ∧ L2 = L4.tail ∧ ss = f_tms (f_V L.tail).toNat sb := by
  obtain ⟨L1, o, e1, e2⟩ := f_bd_inr h
  obtain ⟨h1, rfl, -⟩ := f_nbr_inr e1
  obtain ⟨L3, o3, e3, e4⟩ := f_bd_inr e2
  obtain ⟨h3, rfl, -⟩ := f_ned_inr e3
  match e5 : body L.tail.tail.tail, e4 with
  | .inl x, e4 => cases e4
  | .inr (L4, sb), e4 =>
    obtain ⟨L6, o6, e6, e7⟩ := f_bd_inr e4
    obtain ⟨h6, rfl, -⟩ := f_ned_inr e6
    cases e7
    exact ⟨L4, sb, rfl, h1, h3, h6, rfl, rfl⟩
theorem f_seqD_inr {r : f_Rd} {k : List f_Tk → f_Rd} {L2 : List f_Tk} {o : List f_Sp} (h : f_seqD r k = .inr (L2, o)) : ∃ L1 a b, r = .inr (L1, a) ∧ k L1 = .inr (L2, b) ∧ o = a ++ b := by
  match r, h with
  | .inr (L1, a), h =>
    have h2 : f_preD a (k L1) = .inr (L2, o) := h
    match e : k L1, h2 with
    | .inl x, h2 => cases h2
    | .inr (L3, b), h2 =>
      cases h2
      exact ⟨L1, a, b, rfl, e, rfl⟩
theorem f_itm_gD {c : Nat} {ag : List f_Tk → f_Rd} (hc : 1 ≤ c) (hg : ∀ L, f_gD c L (ag L)) (L : List f_Tk) (h0 : 10 ≤ f_T L ∧ f_T L ≤ 15) : f_gD c L (f_itm ag L) := by
  unfold f_itm
  split
  · exact hg L
  · intro L2 ss e
    obtain ⟨s, rfl, -, h1, h2⟩ := f_stp_inr (by omega) e
    refine ⟨h1, ?_, h2⟩
    have h3 : c * (L2.length + 1) ≤ c * L.length := Nat.mul_le_mul_left c h1
    rw [Nat.mul_succ] at h3
    show 1 + _ ≤ _
    omega
theorem f_mnyD_g0 {c : Nat} {ag : List f_Tk → f_Rd} (hc : 1 ≤ c) (hg : ∀ L, f_gD c L (ag L)) : ∀ (n : Nat) (L : List f_Tk), f_gD0 c L (f_mnyD ag n L) := by
  intro n
  induction n with
  | zero =>
    intro L L2 ss e
    cases e
    exact ⟨Nat.le_refl _, by show 0 + _ ≤ _; omega, fun t h => h⟩
  | succ n ih =>
    intro L L2 ss e
    have e1 : (if 10 ≤ f_T L ∧ f_T L ≤ 15 then f_seqD (f_itm ag L) (f_mnyD ag n) else .inr (L, [])) = .inr (L2, ss) := e
    split at e1
    · rename_i h0
      obtain ⟨L1, a, b, e2, e3, rfl⟩ := f_seqD_inr e1
      have h1 := f_itm_gD hc hg L h0 L1 a e2
      have h2 := ih L1 L2 b e3
      rw [List.length_append]
      exact ⟨by omega, by omega, fun t ht => h1.2.2 t (h2.2.2 t ht)⟩
    · cases e1
      exact ⟨Nat.le_refl _, by show 0 + _ ≤ _; omega, fun t h => h⟩
theorem f_mnyD_fuel {c : Nat} {ag : List f_Tk → f_Rd} (hc : 1 ≤ c) (hg : ∀ L, f_gD c L (ag L)) : ∀ (n m : Nat) (L : List f_Tk), L.length < n → L.length < m → f_mnyD ag n L = f_mnyD ag m L := by
  intro n
  induction n with
  | zero => intro m L h; omega
  | succ n ih =>
    intro m L h1 h2
    obtain ⟨m, rfl⟩ : ∃ k, m = k + 1 := ⟨m - 1, by omega⟩
    show (if 10 ≤ f_T L ∧ f_T L ≤ 15 then f_seqD (f_itm ag L) (f_mnyD ag n) else .inr (L, [])) = (if 10 ≤ f_T L ∧ f_T L ≤ 15 then f_seqD (f_itm ag L) (f_mnyD ag m) else .inr (L, []))
    by_cases h0 : 10 ≤ f_T L ∧ f_T L ≤ 15
    · rw [if_pos h0, if_pos h0]
      match e : f_itm ag L with
      | .inl x => rfl
      | .inr (L2, o) =>
        have h3 := f_itm_gD hc hg L h0 L2 o e
        show f_preD o (f_mnyD ag n L2) = f_preD o (f_mnyD ag m L2)
        rw [ih m L2 (by omega) (by omega)]
    · rw [if_neg h0, if_neg h0]
theorem f_repD_none {ag : List f_Tk → f_Rd} {L : List f_Tk} (h : ¬ (10 ≤ f_T L ∧ f_T L ≤ 15)) : f_repD ag L = .inr (L, []) := if_neg h
theorem f_repD_some {c : Nat} {ag : List f_Tk → f_Rd} (hc : 1 ≤ c) (hg : ∀ L, f_gD c L (ag L)) {L : List f_Tk} (h : 10 ≤ f_T L ∧ f_T L ≤ 15) : f_repD ag L = f_seqD (f_itm ag L) (f_repD ag) := by
  show (if 10 ≤ f_T L ∧ f_T L ≤ 15 then f_seqD (f_itm ag L) (f_mnyD ag L.length) else .inr (L, [])) = _
  rw [if_pos h]
  match e : f_itm ag L with
  | .inl x => rfl
  | .inr (L2, o) =>
    have h3 := f_itm_gD hc hg L h L2 o e
    show f_preD o (f_mnyD ag L.length L2) = f_preD o (f_mnyD ag (L2.length + 1) L2)
    rw [f_mnyD_fuel hc hg L.length (L2.length + 1) L2 (by omega) (by omega)]
def f_cap : Nat → Nat
  | 0 => 1
  | d + 1 => 9 * f_cap d
theorem f_cap_1 : ∀ d, 1 ≤ f_cap d
  | 0 => Nat.le_refl 1
  | d + 1 => by
    have := f_cap_1 d
    show 1 ≤ 9 * f_cap d
    omega
theorem f_agd_gD : ∀ (d : Nat) (L : List f_Tk), f_gD (f_cap d) L (f_agd d L)
  | 0, L => fun L2 ss e => by cases e
  | d + 1, L => by
    intro L2 ss e
    obtain ⟨L4, sb, e1, h1, h2, h3, rfl, rfl⟩ := f_agn_inr (body := f_repD (f_agd d)) e
    have l0 : f_T L ≠ 0 ∨ f_T L = 0 := by omega
    have l1 := f_tail_len (L := L.tail) (by omega)
    have l2 := f_tail_len (L := L.tail.tail) (by omega)
    have l4 := f_tail_len (L := L4) (by omega)
    have lt : L.tail.length ≤ L.length := by rw [List.length_tail]; omega
    have h4 := f_mnyD_g0 (f_cap_1 d) (f_agd_gD d) _ _ L4 sb e1
    refine ⟨by omega, ?_, fun t ht => f_tail_in t (f_tail_in t (f_tail_in t (h4.2.2 t (f_tail_in t ht))))⟩
    rw [f_tms_len]
    have h5 : (f_V L.tail).toNat * sb.length ≤ 9 * sb.length := Nat.mul_le_mul_right _ (by omega)
    show (f_V L.tail).toNat * sb.length + 9 * f_cap d * L4.tail.length ≤ 9 * f_cap d * L.length
    have h6 : f_cap d * L.tail.tail.tail.length ≤ f_cap d * L.length := Nat.mul_le_mul_left _ (by omega)
    have h7 : f_cap d * L4.tail.length ≤ f_cap d * L4.length := Nat.mul_le_mul_left _ (by omega)
    rw [Nat.mul_assoc, Nat.mul_assoc]
    omega
theorem f_sts_g0 (d : Nat) (L : List f_Tk) : f_gD0 (f_cap d) L (f_sts d L) := f_mnyD_g0 (f_cap_1 d) (f_agd_gD d) _ L
theorem f_sts_ok : ∀ (d : Nat) (L L2 : List f_Tk) (ss : List f_Sp), f_sts d L = .inr (L2, ss) → ∀ s ∈ ss, f_sok s := by
  intro d
  have hm : ∀ (ag : List f_Tk → f_Rd), (∀ L L2 ss, ag L = .inr (L2, ss) → ∀ s ∈ ss, f_sok s) → ∀ (n : Nat) (L L2 : List f_Tk) (ss : List f_Sp), f_mnyD ag n L = .inr (L2, ss) → ∀ s ∈ ss, f_sok s := by
    intro ag hg n
    induction n with
    | zero =>
      intro L L2 ss e s hs
      cases e
      exact absurd hs (List.not_mem_nil)
    | succ n ih =>
      intro L L2 ss e s hs
      have e1 : (if 10 ≤ f_T L ∧ f_T L ≤ 15 then f_seqD (f_itm ag L) (f_mnyD ag n) else .inr (L, [])) = .inr (L2, ss) := e
      split at e1
      · rename_i h0
        obtain ⟨L1, a, b, e2, e3, rfl⟩ := f_seqD_inr e1
        rcases List.mem_append.mp hs with h1 | h1
        · unfold f_itm at e2
          split at e2
          · exact hg L L1 a e2 s h1
          · obtain ⟨x, rfl, hx, -⟩ := f_stp_inr (by omega) e2
            rw [List.mem_singleton.mp h1]
            exact hx
        · exact ih L1 L2 b e3 s h1
      · cases e1
        exact absurd hs (List.not_mem_nil)
  have ha : ∀ L L2 ss, f_agd d L = .inr (L2, ss) → ∀ s ∈ ss, f_sok s := by
    induction d with
    | zero => intro L L2 ss e; cases e
    | succ d ih =>
      intro L L2 ss e s hs
      obtain ⟨L4, sb, e1, h1, h2, h3, rfl, rfl⟩ := f_agn_inr (body := f_repD (f_agd d)) e
      exact hm (f_agd d) ih _ _ L4 sb e1 s (f_tms_in _ _ s hs)
  exact fun L L2 ss e => hm (f_agd d) ha _ L L2 ss e
def f_tel (fd : Int → Int) (n : Int) (s : f_Sp) : Int → Int := if n < 150 then f_up (f_up (f_up fd (3 * n) s.1) (3 * n + 1) s.2.1) (3 * n + 2) s.2.2 else fd
def f_putD (fd : Int → Int) : Int → List f_Sp → (Int → Int)
  | _, [] => fd
  | n, s :: tl => f_putD (f_tel fd n s) (n + 1) tl
theorem f_putD_app : ∀ (a b : List f_Sp) (fd : Int → Int) (n : Int), f_putD fd n (a ++ b) = f_putD (f_putD fd n a) (n + (a.length : Int)) b
  | [], b, fd, n => by
    show f_putD fd n b = f_putD fd (n + 0) b
    rw [Int.add_zero]
  | o :: tl, b, fd, n => by
    show f_putD (f_tel fd n o) (n + 1) (tl ++ b) = f_putD (f_putD (f_tel fd n o) (n + 1) tl) (n + ((tl.length + 1 : Nat) : Int)) b
    rw [f_putD_app tl b, show n + 1 + (tl.length : Int) = n + ((tl.length + 1 : Nat) : Int) by omega]
theorem f_putD_more {fd A : Int → Int} {dn n : Int} {o b : List f_Sp} (h1 : A = f_putD fd dn o) (h2 : n = dn + (o.length : Int)) : f_putD A n b = f_putD fd dn (o ++ b) := by
  rw [f_putD_app, ← h1, ← h2]
theorem f_putD_lt : ∀ (ss : List f_Sp) (fd : Int → Int) (n i : Int), i < 3 * n → f_putD fd n ss i = fd i
  | [], _, _, _, _ => rfl
  | s :: tl, fd, n, i, h => by
    show f_putD (f_tel fd n s) (n + 1) tl i = fd i
    rw [f_putD_lt tl _ (n + 1) i (by omega)]
    unfold f_tel
    split
    · unfold f_up
      rw [if_neg (by omega), if_neg (by omega), if_neg (by omega)]
    · rfl
theorem f_putD_get : ∀ (ss : List f_Sp) (fd : Int → Int) (n : Int) (i : Nat) (s : f_Sp), ss[i]? = some s → n + (i : Int) < 150 → f_putD fd n ss (3 * (n + (i : Int))) = s.1 ∧ f_putD fd n ss (3 * (n + (i : Int)) + 1) = s.2.1 ∧ f_putD fd n ss (3 * (n + (i : Int)) + 2) = s.2.2
  | [], _, _, _, _, h, _ => by cases h
  | x :: tl, fd, n, 0, s, h, h2 => by
    cases h
    show f_putD (f_tel fd n x) (n + 1) tl _ = _ ∧ f_putD (f_tel fd n x) (n + 1) tl _ = _ ∧ f_putD (f_tel fd n x) (n + 1) tl _ = _
    rw [f_putD_lt tl _ (n + 1) _ (by omega), f_putD_lt tl _ (n + 1) _ (by omega), f_putD_lt tl _ (n + 1) _ (by omega)]
    unfold f_tel
    rw [if_pos (by omega)]
    unfold f_up
    refine ⟨?_, ?_, ?_⟩
    · rw [if_neg (by omega), if_neg (by omega), if_pos (by omega)]
    · rw [if_neg (by omega), if_pos (by omega)]
    · rw [if_pos (by omega)]
  | x :: tl, fd, n, i + 1, s, h, h2 => by
    have h3 := f_putD_get tl (f_tel fd n x) (n + 1) i s h (by omega)
    rw [show n + 1 + (i : Int) = n + ((i + 1 : Nat) : Int) by omega] at h3
    exact h3
theorem f_prd {r : Nat} {sb c rem : List f_Sp} {s : f_Sp} (h : f_tms r sb = c ++ s :: rem) : (sb ++ c)[c.length]? = some s := by
  have e := f_tms_comm r sb
  rw [h] at e
  have hl : 0 < sb.length := by
    cases sb with
    | nil =>
      have e2 := f_tms_len r []
      rw [h, List.length_append] at e2
      simp only [List.length_cons, List.length_nil] at e2
      omega
    | cons x y =>
      simp only [List.length_cons]
      omega
  have e3 : (sb ++ (c ++ s :: rem))[c.length]? = some s := by
    rw [e, List.append_assoc, List.getElem?_append_right (Nat.le_refl _), Nat.sub_self]
    rfl
  rw [← List.append_assoc, List.getElem?_append_left (by rw [List.length_append]; omega)] at e3
  exact e3
def f_dok (ta : Int → Int) (tn rd : Int) (fd : Int → Int) (dn : Int) (r : f_Rd) (M2 : ax_Mem) : Prop := match r with
  | .inl (k, s) => M2 330 22 = k ∧ M2 330 23 = s
  | .inr (L2, o) => M2 337 = f_putD fd dn o ∧ M2 330 16 = dn + (o.length : Int) ∧ f_cur ta tn rd L2 (M2 330 18) (M2 330 19) (M2 330 20) (M2 330 21)
theorem f_dok_ok {ta : Int → Int} {tn rd : Int} {fd : Int → Int} {dn : Int} {r : f_Rd} {M2 : ax_Mem} {L2 : List f_Tk} {o : List f_Sp} {p to tk v : Int} (e : r = .inr (L2, o)) (h1 : M2 337 = f_putD fd dn o) (h2 : M2 330 16 = dn + (o.length : Int)) (hc : f_cur ta tn rd L2 p to tk v) (h3 : M2 330 18 = p) (h4 : M2 330 19 = to) (h5 : M2 330 20 = tk) (h6 : M2 330 21 = v) : f_dok ta tn rd fd dn r M2 := by
  rw [e]
  exact ⟨h1, h2, f_cur_eq hc h3 h4 h5 h6⟩
theorem f_dok_no {ta : Int → Int} {tn rd : Int} {fd : Int → Int} {dn : Int} {r : f_Rd} {M2 : ax_Mem} {k s : Int} (e : r = .inl (k, s)) (h1 : M2 330 22 = k) (h2 : M2 330 23 = s) : f_dok ta tn rd fd dn r M2 := by
  rw [e]
  exact ⟨h1, h2⟩
def f_nok (ta : Int → Int) (tn rd : Int) (r : f_Rs) (M2 : ax_Mem) : Prop := match r with
  | .inl (k, s) => M2 330 22 = k ∧ M2 330 23 = s
  | .inr (L2, _) => f_cur ta tn rd L2 (M2 330 18) (M2 330 19) (M2 330 20) (M2 330 21)
theorem f_nok_ok {ta : Int → Int} {tn rd : Int} {r : f_Rs} {M2 : ax_Mem} {L2 : List f_Tk} {o : List f_Op} {p to tk v : Int} (e : r = .inr (L2, o)) (hc : f_cur ta tn rd L2 p to tk v) (h3 : M2 330 18 = p) (h4 : M2 330 19 = to) (h5 : M2 330 20 = tk) (h6 : M2 330 21 = v) : f_nok ta tn rd r M2 := by
  rw [e]
  exact f_cur_eq hc h3 h4 h5 h6
theorem f_nok_no {ta : Int → Int} {tn rd : Int} {r : f_Rs} {M2 : ax_Mem} {k s : Int} (e : r = .inl (k, s)) (h1 : M2 330 22 = k) (h2 : M2 330 23 = s) : f_nok ta tn rd r M2 := by
  rw [e]
  exact ⟨h1, h2⟩
theorem f_mul8 {a b : Int} (h1 : 0 ≤ a) (h2 : 0 ≤ b) (h3 : b ≤ 8) : 0 ≤ a * b ∧ a * b ≤ 8 * a := by
  refine ⟨Int.mul_nonneg h1 h2, ?_⟩
  rw [Int.mul_comm 8 a]
  exact Int.mul_le_mul_of_nonneg_left h3 h1
set_option maxRecDepth 20000 in
theorem s_X12_needD (E : ax_Env) (l : Launch) (d : Nat) (hd : 10 ≤ d) (M : ax_Mem) (t : Int) (L : List f_Tk) {ta : Int → Int} (hta : M 339 = ta) {p0 : Int} (hp0 : M 330 18 = p0) {to : Int} (hto : M 330 19 = to) {tk : Int} (htk : M 330 20 = tk) {v0 : Int} (hv0 : M 330 21 = v0) {tn : Int} (htn : M 330 17 = tn) {rd : Int} (hrd : M 330 13 = rd) (hg0 : 0 ≤ tn ∧ tn ≤ 400) (hg1 : f_tp ta tn) (hg2 : f_cur ta tn rd L p0 to tk v0) (hg3 : t ≠ 0) : ax_G E l d iX12_need [.inr 330, .inl t] M (fun z0 M2 => z0 = some (.inl (f_rb (f_ned t L))) ∧ (∀ x0 i0 : Int, ¬ ((x0 = 330 ∧ i0 = 18) ∨ (x0 = 330 ∧ i0 = 19) ∨ (x0 = 330 ∧ i0 = 20) ∨ (x0 = 330 ∧ i0 = 21) ∨ (x0 = 330 ∧ i0 = 22) ∨ (x0 = 330 ∧ i0 = 23)) → M2 x0 i0 = M x0 i0) ∧ (f_nok ta tn rd (f_ned t L) M2) ∧ (0 ≤ M2 330 21 ∧ M2 330 21 ≤ 9999)) := by
  obtain ⟨d, rfl⟩ : ∃ d0, d = d0 + 1 := ⟨d - 1, by omega⟩
  refine ax_start rfl (Nat.le_of_ble_eq_true rfl) (ls := [some (.inr 330), some (.inl t)]) rfl (fun hav hcm => ?_)
  have hc1 : -2147483648 ≤ t ∧ t < 2147483648 := hav (.inl t) (by simp)
  clear hav
  have qR := f_cur_rg hg2
  have qh := f_cur_hd hg2
  refine ax_aload_n dX12_need_0 rfl rfl (pc' := 1) rfl ?_
  refine ax_geti (v := to) dX12_need_1 flX12_208 rfl sh_330 hto rfl (pc' := 4) rfl ?_
  refine ax_iload_n dX12_need_4 rfl rfl (pc' := 5) rfl ?_
  refine ax_icmp_eq (tgt := 14) dX12_need_5 (by decide) (pc' := 8) rfl (fun h5 => ?_) (fun h5 => ?_)
  · have qz : f_ned t L = .inr (L.tail, []) := by
      unfold f_ned
      rw [if_pos (by omega)]
    obtain ⟨L9, qt9, ql9, qc9⟩ := f_cur_next hg2 (by omega)
    have qR9 := f_cur_rg qc9
    have qh9 := f_cur_hd qc9
    refine ax_aload_n dX12_need_14 rfl rfl (pc' := 15) rfl ?_
    refine ax_invG [] [] dX12_need_15 mlX12_232 sh_330 rfl rfl rfl (Nat.le_of_ble_eq_true rfl) (s_X12_next0 E l _ (by omega) _ hta hp0 htn hrd hv0 (by first | omega | assumption) (by first | omega | assumption)) (pc' := 18) rfl (fun vv M_15 hq co15 hcm15 => ?_)
    obtain ⟨rfl, frM_15, msM_15_0, msM_15_1, msM_15_2, msM_15_3⟩ := hq
    refine ax_reS (st2 := []) rfl ?_
    refine ax_iconst dX12_need_18 (by decide) (pc' := 19) rfl ?_
    refine ax_zret dX12_need_19 rfl (by decide) ?_
    refine ⟨rfl, ?_, ?_, ?_, ?_⟩
    · refine congrArg (fun z => some (Sum.inl z)) ?_
      rw [qz]
      rfl
    · intro x0 i0 hai
      exact ((frM_15 x0 i0 (fun h => h.elim (fun h => hai (Or.inl h)) (fun h => h.elim (fun h => hai (Or.inr (Or.inl h))) (fun h => h.elim (fun h => hai (Or.inr (Or.inr (Or.inl h)))) (fun h => hai (Or.inr (Or.inr (Or.inr (Or.inl h))))))))).trans rfl)
    · exact f_nok_ok (qz.trans (by rw [qt9])) qc9 msM_15_0 msM_15_1 msM_15_2 msM_15_3
    · have q9 : M_15 330 21 = f_nV ta tn p0 v0 := msM_15_3
      have q9b : 0 ≤ f_nV ta tn p0 v0 ∧ f_nV ta tn p0 v0 ≤ 9999 := by omega
      exact f_r9 q9 q9b
  · have qz : f_ned t L = .inl (1, tk) := by
      unfold f_ned
      rw [if_neg (by omega), qh.2.2]
    refine ax_aload_n dX12_need_8 rfl rfl (pc' := 9) rfl ?_
    refine ax_iconst dX12_need_9 (by decide) (pc' := 10) rfl ?_
    refine ax_invG [.inl 1] [] dX12_need_10 mlX12_229 sh_330 rfl rfl rfl (Nat.le_of_ble_eq_true rfl) (s_X12_bad E l _ (by omega) _ 1 htk) (pc' := 13) rfl (fun vv M_10 hq co10 hcm10 => ?_)
    obtain ⟨rfl, frM_10, msM_10_0, msM_10_1⟩ := hq
    refine ax_reS (st2 := [.inl 0]) rfl ?_
    refine ax_zret dX12_need_13 rfl (by decide) ?_
    refine ⟨rfl, ?_, ?_, ?_, ?_⟩
    · refine congrArg (fun z => some (Sum.inl z)) ?_
      rw [qz]
      rfl
    · intro x0 i0 hai
      exact ((frM_10 x0 i0 (fun h => h.elim (fun h => hai (Or.inr (Or.inr (Or.inr (Or.inr (Or.inl h)))))) (fun h => hai (Or.inr (Or.inr (Or.inr (Or.inr (Or.inr h)))))))).trans rfl)
    · exact f_nok_no qz msM_10_0 msM_10_1
    · have q9 : M_10 330 21 = v0 := ((frM_10 330 21 (fun h => h.elim (fun h => absurd h.2 (by decide)) (fun h => absurd h.2 (by decide)))).trans hv0)
      have q9b : 0 ≤ v0 ∧ v0 ≤ 9999 := by omega
      exact f_r9 q9 q9b
set_option maxRecDepth 20000 in
theorem s_X12_number (E : ax_Env) (l : Launch) (d : Nat) (hd : 10 ≤ d) (M : ax_Mem) (lo hi : Int) (L : List f_Tk) {ta : Int → Int} (hta : M 339 = ta) {p0 : Int} (hp0 : M 330 18 = p0) {to : Int} (hto : M 330 19 = to) {tk : Int} (htk : M 330 20 = tk) {v0 : Int} (hv0 : M 330 21 = v0) {tn : Int} (htn : M 330 17 = tn) {rd : Int} (hrd : M 330 13 = rd) (hg0 : 0 ≤ tn ∧ tn ≤ 400) (hg1 : f_tp ta tn) (hg2 : f_cur ta tn rd L p0 to tk v0) : ax_G E l d iX12_number [.inr 330, .inl lo, .inl hi] M (fun z0 M2 => z0 = some (.inl (f_rb (f_nbr lo hi L))) ∧ (∀ x0 i0 : Int, ¬ ((x0 = 330 ∧ i0 = 18) ∨ (x0 = 330 ∧ i0 = 19) ∨ (x0 = 330 ∧ i0 = 20) ∨ (x0 = 330 ∧ i0 = 21) ∨ (x0 = 330 ∧ i0 = 22) ∨ (x0 = 330 ∧ i0 = 23) ∨ (x0 = 330 ∧ i0 = 27)) → M2 x0 i0 = M x0 i0) ∧ (f_nok ta tn rd (f_nbr lo hi L) M2) ∧ (f_rb (f_nbr lo hi L) ≠ 0 → M2 330 27 = f_V L) ∧ (0 ≤ M2 330 21 ∧ M2 330 21 ≤ 9999)) := by
  obtain ⟨d, rfl⟩ : ∃ d0, d = d0 + 1 := ⟨d - 1, by omega⟩
  refine ax_start rfl (Nat.le_of_ble_eq_true rfl) (ls := [some (.inr 330), some (.inl lo), some (.inl hi)]) rfl (fun hav hcm => ?_)
  have hc1 : -2147483648 ≤ lo ∧ lo < 2147483648 := hav (.inl lo) (by simp)
  have hc2 : -2147483648 ≤ hi ∧ hi < 2147483648 := hav (.inl hi) (by simp)
  clear hav
  have qR := f_cur_rg hg2
  have qh := f_cur_hd hg2
  refine ax_aload_n dX12_number_0 rfl rfl (pc' := 1) rfl ?_
  refine ax_geti (v := to) dX12_number_1 flX12_208 rfl sh_330 hto rfl (pc' := 4) rfl ?_
  refine ax_iconst dX12_number_4 (by decide) (pc' := 5) rfl ?_
  refine ax_icmp_eq (tgt := 14) dX12_number_5 (by decide) (pc' := 8) rfl (fun h5 => ?_) (fun h5 => ?_)
  · refine ax_aload_n dX12_number_14 rfl rfl (pc' := 15) rfl ?_
    refine ax_geti (v := v0) dX12_number_15 flX12_220 rfl sh_330 hv0 rfl (pc' := 18) rfl ?_
    refine ax_iload_n dX12_number_18 rfl rfl (pc' := 19) rfl ?_
    refine ax_iload_n dX12_number_19 rfl rfl (pc' := 20) rfl ?_
    refine ax_insG [.inl v0, .inl lo, .inl hi] [] dX12_number_20 mlX12_74 rfl rfl (Nat.le_of_ble_eq_true rfl) (s_X12_isIn E l _ (by omega) _ v0 lo hi) (pc' := 23) rfl (fun vv M_20 hq co20 hcm20 => ?_)
    obtain ⟨rfl, rfl⟩ := hq
    refine ax_reS (st2 := [.inl (f_b (lo ≤ v0 ∧ v0 ≤ hi))]) rfl ?_
    refine ax_if_ne (tgt := 32) dX12_number_23 (by decide) (pc' := 26) rfl (fun h23 => ?_) (fun h23 => ?_)
    · replace h23 := f_b_1 h23
      have qz : f_nbr lo hi L = .inr (L.tail, []) := by
        unfold f_nbr
        rw [if_neg (by omega), if_neg (by rw [qh.2.1]; exact fun q => q h23)]
      refine ax_aload_n dX12_number_32 rfl rfl (pc' := 33) rfl ?_
      refine ax_aload_n dX12_number_33 rfl rfl (pc' := 34) rfl ?_
      refine ax_geti (v := v0) dX12_number_34 flX12_220 rfl sh_330 hv0 rfl (pc' := 37) rfl ?_
      refine ax_puti dX12_number_37 flX12_276 (Or.inl rfl) sh_330 rfl (pc' := 40) rfl ?_
      obtain ⟨L9, qt9, ql9, qc9⟩ := f_cur_next hg2 (by omega)
      have qR9 := f_cur_rg qc9
      have qh9 := f_cur_hd qc9
      refine ax_aload_n dX12_number_40 rfl rfl (pc' := 41) rfl ?_
      refine ax_invG [] [] dX12_number_41 mlX12_232 sh_330 rfl rfl rfl (Nat.le_of_ble_eq_true rfl) (s_X12_next0 E l _ (by omega) _ (ax_up_rowmiss (by decide) hta) (ax_up_miss (by decide) hp0) (ax_up_miss (by decide) htn) (ax_up_miss (by decide) hrd) (ax_up_miss (by decide) hv0) (by first | omega | assumption) (by first | omega | assumption)) (pc' := 44) rfl (fun vv M_41 hq co41 hcm41 => ?_)
      obtain ⟨rfl, frM_41, msM_41_0, msM_41_1, msM_41_2, msM_41_3⟩ := hq
      refine ax_reS (st2 := []) rfl ?_
      refine ax_iconst dX12_number_44 (by decide) (pc' := 45) rfl ?_
      refine ax_zret dX12_number_45 rfl (by decide) ?_
      refine ⟨rfl, ?_, ?_, ?_, ?_, ?_⟩
      · refine congrArg (fun z => some (Sum.inl z)) ?_
        rw [qz]
        rfl
      · intro x0 i0 hai
        exact ((frM_41 x0 i0 (fun h => h.elim (fun h => hai (Or.inl h)) (fun h => h.elim (fun h => hai (Or.inr (Or.inl h))) (fun h => h.elim (fun h => hai (Or.inr (Or.inr (Or.inl h)))) (fun h => hai (Or.inr (Or.inr (Or.inr (Or.inl h))))))))).trans (ax_up_miss (fun h => hai (Or.inr (Or.inr (Or.inr (Or.inr (Or.inr (Or.inr h))))))) rfl))
      · exact f_nok_ok (qz.trans (by rw [qt9])) qc9 msM_41_0 msM_41_1 msM_41_2 msM_41_3
      · intro q
        exact Eq.trans ((frM_41 330 27 (fun h => h.elim (fun h => absurd h.2 (by decide)) (fun h => h.elim (fun h => absurd h.2 (by decide)) (fun h => h.elim (fun h => absurd h.2 (by decide)) (fun h => absurd h.2 (by decide)))))).trans (ax_up_hit _ _ _ _)) qh.2.1.symm
      · have q9 : M_41 330 21 = f_nV ta tn p0 v0 := msM_41_3
        have q9b : 0 ≤ f_nV ta tn p0 v0 ∧ f_nV ta tn p0 v0 ≤ 9999 := by omega
        exact f_r9 q9 q9b
    · replace h23 := f_b_0 h23
      have qz : f_nbr lo hi L = .inl (2, tk) := by
        unfold f_nbr
        rw [if_neg (by omega), if_pos (by rw [qh.2.1]; exact h23), qh.2.2]
      refine ax_aload_n dX12_number_26 rfl rfl (pc' := 27) rfl ?_
      refine ax_iconst dX12_number_27 (by decide) (pc' := 28) rfl ?_
      refine ax_invG [.inl 2] [] dX12_number_28 mlX12_229 sh_330 rfl rfl rfl (Nat.le_of_ble_eq_true rfl) (s_X12_bad E l _ (by omega) _ 2 htk) (pc' := 31) rfl (fun vv M_28 hq co28 hcm28 => ?_)
      obtain ⟨rfl, frM_28, msM_28_0, msM_28_1⟩ := hq
      refine ax_reS (st2 := [.inl 0]) rfl ?_
      refine ax_zret dX12_number_31 rfl (by decide) ?_
      refine ⟨rfl, ?_, ?_, ?_, ?_, ?_⟩
      · refine congrArg (fun z => some (Sum.inl z)) ?_
        rw [qz]
        rfl
      · intro x0 i0 hai
        exact ((frM_28 x0 i0 (fun h => h.elim (fun h => hai (Or.inr (Or.inr (Or.inr (Or.inr (Or.inl h)))))) (fun h => hai (Or.inr (Or.inr (Or.inr (Or.inr (Or.inr (Or.inl h))))))))).trans rfl)
      · exact f_nok_no qz msM_28_0 msM_28_1
      · intro q
        exact absurd (by rw [qz]; rfl) q
      · have q9 : M_28 330 21 = v0 := ((frM_28 330 21 (fun h => h.elim (fun h => absurd h.2 (by decide)) (fun h => absurd h.2 (by decide)))).trans hv0)
        have q9b : 0 ≤ v0 ∧ v0 ≤ 9999 := by omega
        exact f_r9 q9 q9b
  · have qz : f_nbr lo hi L = .inl (1, tk) := by
      unfold f_nbr
      rw [if_pos (by omega), qh.2.2]
    refine ax_aload_n dX12_number_8 rfl rfl (pc' := 9) rfl ?_
    refine ax_iconst dX12_number_9 (by decide) (pc' := 10) rfl ?_
    refine ax_invG [.inl 1] [] dX12_number_10 mlX12_229 sh_330 rfl rfl rfl (Nat.le_of_ble_eq_true rfl) (s_X12_bad E l _ (by omega) _ 1 htk) (pc' := 13) rfl (fun vv M_10 hq co10 hcm10 => ?_)
    obtain ⟨rfl, frM_10, msM_10_0, msM_10_1⟩ := hq
    refine ax_reS (st2 := [.inl 0]) rfl ?_
    refine ax_zret dX12_number_13 rfl (by decide) ?_
    refine ⟨rfl, ?_, ?_, ?_, ?_, ?_⟩
    · refine congrArg (fun z => some (Sum.inl z)) ?_
      rw [qz]
      rfl
    · intro x0 i0 hai
      exact ((frM_10 x0 i0 (fun h => h.elim (fun h => hai (Or.inr (Or.inr (Or.inr (Or.inr (Or.inl h)))))) (fun h => hai (Or.inr (Or.inr (Or.inr (Or.inr (Or.inr (Or.inl h))))))))).trans rfl)
    · exact f_nok_no qz msM_10_0 msM_10_1
    · intro q
      exact absurd (by rw [qz]; rfl) q
    · have q9 : M_10 330 21 = v0 := ((frM_10 330 21 (fun h => h.elim (fun h => absurd h.2 (by decide)) (fun h => absurd h.2 (by decide)))).trans hv0)
      have q9b : 0 ≤ v0 ∧ v0 ≤ 9999 := by omega
      exact f_r9 q9 q9b
set_option maxRecDepth 20000 in
theorem s_X12_tells (E : ax_Env) (l : Launch) (d : Nat) (hd : 0 ≤ d) (M : ax_Mem) (k a b : Int) {fd : Int → Int} (hfd : M 337 = fd) {dn : Int} (hdn : M 330 16 = dn) (hg0 : 0 ≤ dn ∧ dn ≤ 100000000) : ax_G E l d iX12_tells [.inr 330, .inl k, .inl a, .inl b] M (fun z0 M2 => z0 = none ∧ (∀ x0 i0 : Int, ¬ (x0 = 337 ∨ (x0 = 330 ∧ i0 = 16)) → M2 x0 i0 = M x0 i0) ∧ M2 337 = f_tel fd dn (k, a, b) ∧ M2 330 16 = dn + 1) := by
  refine ax_start rfl (Nat.le_of_ble_eq_true rfl) (ls := [some (.inr 330), some (.inl k), some (.inl a), some (.inl b)]) rfl (fun hav hcm => ?_)
  have hc1 : -2147483648 ≤ k ∧ k < 2147483648 := hav (.inl k) (by simp)
  have hc2 : -2147483648 ≤ a ∧ a < 2147483648 := hav (.inl a) (by simp)
  have hc3 : -2147483648 ≤ b ∧ b < 2147483648 := hav (.inl b) (by simp)
  clear hav
  refine ax_aload_n dX12_tells_0 rfl rfl (pc' := 1) rfl ?_
  refine ax_geti (v := dn) dX12_tells_1 flX12_279 rfl sh_330 hdn rfl (pc' := 4) rfl ?_
  refine ax_sipush dX12_tells_4 (by decide) (pc' := 7) rfl ?_
  refine ax_icmp_ge (tgt := 50) dX12_tells_7 (by decide) (pc' := 10) rfl (fun h7 => ?_) (fun h7 => ?_)
  · refine ax_aload_n dX12_tells_50 rfl rfl (pc' := 51) rfl ?_
    refine ax_dup dX12_tells_51 (pc' := 52) rfl ?_
    refine ax_geti (v := dn) dX12_tells_52 flX12_279 rfl sh_330 hdn rfl (pc' := 55) rfl ?_
    refine ax_iconst dX12_tells_55 (by decide) (pc' := 56) rfl ?_
    refine ax_iadd dX12_tells_56 (by omega) (pc' := 57) rfl ?_
    refine ax_puti dX12_tells_57 flX12_279 (Or.inl rfl) sh_330 rfl (pc' := 60) rfl ?_
    refine ax_vret dX12_tells_60 rfl ?_
    refine ⟨rfl, rfl, ?_, ?_, ?_⟩
    · intro x0 i0 hai
      exact (ax_up_miss (fun h => hai (Or.inr h)) rfl)
    · refine Eq.trans (ax_up_rowmiss (by decide) hfd) ?_
      unfold f_tel
      split
      · first | rfl | (exfalso; omega)
      · first | rfl | (exfalso; omega)
    · exact (ax_up_hit _ _ _ _)
  · refine ax_aload_n dX12_tells_10 rfl rfl (pc' := 11) rfl ?_
    refine ax_getr (v := 337) dX12_tells_11 flX12_28 rfl sh_330 rfl (pc' := 14) rfl ?_
    refine ax_iconst dX12_tells_14 (by decide) (pc' := 15) rfl ?_
    refine ax_aload_n dX12_tells_15 rfl rfl (pc' := 16) rfl ?_
    refine ax_geti (v := dn) dX12_tells_16 flX12_279 rfl sh_330 hdn rfl (pc' := 19) rfl ?_
    refine ax_imul dX12_tells_19 (by omega) (pc' := 20) rfl ?_
    refine ax_iload_n dX12_tells_20 rfl rfl (pc' := 21) rfl ?_
    refine ax_iast dX12_tells_21 sh_337 rfl (by omega) (by omega) (pc' := 22) rfl ?_
    refine ax_aload_n dX12_tells_22 rfl rfl (pc' := 23) rfl ?_
    refine ax_getr (v := 337) dX12_tells_23 flX12_28 rfl sh_330 rfl (pc' := 26) rfl ?_
    refine ax_iconst dX12_tells_26 (by decide) (pc' := 27) rfl ?_
    refine ax_aload_n dX12_tells_27 rfl rfl (pc' := 28) rfl ?_
    refine ax_geti (v := dn) dX12_tells_28 flX12_279 rfl sh_330 (show (ax_up M 337 (3 * dn) k) 330 16 = dn from (ax_up_miss (fun h => absurd h.1 (by decide)) hdn)) rfl (pc' := 31) rfl ?_
    refine ax_imul dX12_tells_31 (by omega) (pc' := 32) rfl ?_
    refine ax_iconst dX12_tells_32 (by decide) (pc' := 33) rfl ?_
    refine ax_iadd dX12_tells_33 (by omega) (pc' := 34) rfl ?_
    refine ax_iload_n dX12_tells_34 rfl rfl (pc' := 35) rfl ?_
    refine ax_iast dX12_tells_35 sh_337 rfl (by omega) (by omega) (pc' := 36) rfl ?_
    refine ax_aload_n dX12_tells_36 rfl rfl (pc' := 37) rfl ?_
    refine ax_getr (v := 337) dX12_tells_37 flX12_28 rfl sh_330 rfl (pc' := 40) rfl ?_
    refine ax_iconst dX12_tells_40 (by decide) (pc' := 41) rfl ?_
    refine ax_aload_n dX12_tells_41 rfl rfl (pc' := 42) rfl ?_
    refine ax_geti (v := dn) dX12_tells_42 flX12_279 rfl sh_330 (show (ax_up (ax_up M 337 (3 * dn) k) 337 (3 * dn + 1) a) 330 16 = dn from (ax_up_miss (fun h => absurd h.1 (by decide)) (ax_up_miss (fun h => absurd h.1 (by decide)) hdn))) rfl (pc' := 45) rfl ?_
    refine ax_imul dX12_tells_45 (by omega) (pc' := 46) rfl ?_
    refine ax_iconst dX12_tells_46 (by decide) (pc' := 47) rfl ?_
    refine ax_iadd dX12_tells_47 (by omega) (pc' := 48) rfl ?_
    refine ax_iload_n dX12_tells_48 rfl rfl (pc' := 49) rfl ?_
    refine ax_iast dX12_tells_49 sh_337 rfl (by omega) (by omega) (pc' := 50) rfl ?_
    refine ax_aload_n dX12_tells_50 rfl rfl (pc' := 51) rfl ?_
    refine ax_dup dX12_tells_51 (pc' := 52) rfl ?_
    refine ax_geti (v := dn) dX12_tells_52 flX12_279 rfl sh_330 (show (ax_up (ax_up (ax_up M 337 (3 * dn) k) 337 (3 * dn + 1) a) 337 (3 * dn + 2) b) 330 16 = dn from (ax_up_miss (fun h => absurd h.1 (by decide)) (ax_up_miss (fun h => absurd h.1 (by decide)) (ax_up_miss (fun h => absurd h.1 (by decide)) hdn)))) rfl (pc' := 55) rfl ?_
    refine ax_iconst dX12_tells_55 (by decide) (pc' := 56) rfl ?_
    refine ax_iadd dX12_tells_56 (by omega) (pc' := 57) rfl ?_
    refine ax_puti dX12_tells_57 flX12_279 (Or.inl rfl) sh_330 rfl (pc' := 60) rfl ?_
    refine ax_vret dX12_tells_60 rfl ?_
    refine ⟨rfl, rfl, ?_, ?_, ?_⟩
    · intro x0 i0 hai
      exact (ax_up_miss (fun h => hai (Or.inr h)) (ax_up_miss (fun h => hai (Or.inl h.1)) (ax_up_miss (fun h => hai (Or.inl h.1)) (ax_up_miss (fun h => hai (Or.inl h.1)) rfl))))
    · refine Eq.trans (ax_up_rowmiss (by decide) (ax_up_rowhit (ax_up_rowhit (ax_up_rowhit hfd)))) ?_
      unfold f_tel
      split
      · first | rfl | (exfalso; omega)
      · first | rfl | (exfalso; omega)
    · exact (ax_up_hit _ _ _ _)
set_option maxRecDepth 20000 in
theorem s_X12_greatestOf (E : ax_Env) (l : Launch) (d : Nat) (hd : 0 ≤ d) (M : ax_Mem) (k : Int) : ax_G E l d iX12_greatestOf [.inl k] M (fun z0 M2 => z0 = some (.inl (f_gst k)) ∧ M = M2) := by
  refine ax_start rfl (Nat.le_of_ble_eq_true rfl) (ls := [some (.inl k)]) rfl (fun hav hcm => ?_)
  have hc0 : -2147483648 ≤ k ∧ k < 2147483648 := hav (.inl k) (by simp)
  clear hav
  refine ax_iload_n dX12_greatestOf_0 rfl rfl (pc' := 1) rfl ?_
  by_cases h1_10 : k = 10
  · refine ax_reS (st2 := [.inl 10]) (by rw [h1_10]) ?_
    refine ax_tabIn (tgt := 32) dX12_greatestOf_1 (by decide) (by decide) rfl (by decide) ?_
    refine ax_iconst dX12_greatestOf_32 (by decide) (pc' := 33) rfl ?_
    refine ax_iret dX12_greatestOf_33 rfl ?_
    refine ⟨rfl, ?_, ?_⟩
    · refine congrArg (fun z => some (Sum.inl z)) ?_
      unfold f_gst
      repeat' split
      all_goals first | rfl | omega | (exfalso; omega)
    · rfl
  by_cases h1_11 : k = 11
  · refine ax_reS (st2 := [.inl 11]) (by rw [h1_11]) ?_
    refine ax_tabIn (tgt := 34) dX12_greatestOf_1 (by decide) (by decide) rfl (by decide) ?_
    refine ax_bipush dX12_greatestOf_34 (by decide) (pc' := 36) rfl ?_
    refine ax_iret dX12_greatestOf_36 rfl ?_
    refine ⟨rfl, ?_, ?_⟩
    · refine congrArg (fun z => some (Sum.inl z)) ?_
      unfold f_gst
      repeat' split
      all_goals first | rfl | omega | (exfalso; omega)
    · rfl
  by_cases h1_12 : k = 12
  · refine ax_reS (st2 := [.inl 12]) (by rw [h1_12]) ?_
    refine ax_tabIn (tgt := 37) dX12_greatestOf_1 (by decide) (by decide) rfl (by decide) ?_
    refine ax_bipush dX12_greatestOf_37 (by decide) (pc' := 39) rfl ?_
    refine ax_iret dX12_greatestOf_39 rfl ?_
    refine ⟨rfl, ?_, ?_⟩
    · refine congrArg (fun z => some (Sum.inl z)) ?_
      unfold f_gst
      repeat' split
      all_goals first | rfl | omega | (exfalso; omega)
    · rfl
  by_cases h1_13 : k = 13
  · refine ax_reS (st2 := [.inl 13]) (by rw [h1_13]) ?_
    refine ax_tabIn (tgt := 40) dX12_greatestOf_1 (by decide) (by decide) rfl (by decide) ?_
    refine ax_bipush dX12_greatestOf_40 (by decide) (pc' := 42) rfl ?_
    refine ax_iret dX12_greatestOf_42 rfl ?_
    refine ⟨rfl, ?_, ?_⟩
    · refine congrArg (fun z => some (Sum.inl z)) ?_
      unfold f_gst
      repeat' split
      all_goals first | rfl | omega | (exfalso; omega)
    · rfl
  refine ax_tabOut (tgt := 43) dX12_greatestOf_1 (by omega) (by decide) ?_
  refine ax_bipush dX12_greatestOf_43 (by decide) (pc' := 45) rfl ?_
  refine ax_iret dX12_greatestOf_45 rfl ?_
  refine ⟨rfl, ?_, ?_⟩
  · refine congrArg (fun z => some (Sum.inl z)) ?_
    unfold f_gst
    repeat' split
    all_goals first | rfl | omega | (exfalso; omega)
  · rfl
