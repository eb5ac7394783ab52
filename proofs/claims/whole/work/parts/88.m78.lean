/-! yards: sets of orders, rope by rope, against the fewest over all ways -/
def f_ms : List Int → Nat → Int
  | [], _ => 0
  | o :: tl, m => ((m % 2 : Nat) : Int) * o + f_ms tl (m / 2)
def f_ble : Nat → Nat → Nat → Bool
  | 0, p, _ => p == 0
  | n + 1, p, m => decide (p % 2 ≤ m % 2) && f_ble n (p / 2) (m / 2)
theorem f_ble_s {n p m : Nat} : f_ble (n + 1) p m = true ↔ p % 2 ≤ m % 2 ∧ f_ble n (p / 2) (m / 2) = true := by
  show (decide (p % 2 ≤ m % 2) && f_ble n (p / 2) (m / 2)) = true ↔ _
  rw [Bool.and_eq_true, decide_eq_true_iff]
theorem f_ble_z {p m : Nat} : f_ble 0 p m = true ↔ p = 0 := by
  show (p == 0) = true ↔ _
  exact beq_iff_eq
theorem f_ble_le : ∀ {n p m : Nat}, f_ble n p m = true → p ≤ m
  | 0, p, m, h => by
    have := f_ble_z.mp h
    omega
  | n + 1, p, m, h => by
    obtain ⟨h1, h2⟩ := f_ble_s.mp h
    have := f_ble_le h2
    omega
def f_ac (u lv : Int → Int) (os : List Int) : Nat → Nat → Int → Prop
  | 0, m, v => m = 0 ∧ v = 0
  | R + 1, m, v => f_ac u lv os R m (v - u (R : Int)) ∨ ∃ p, 0 < p ∧ f_ble os.length p m = true ∧ f_ms os p ≤ lv (R : Int) ∧ f_ac u lv os R (m - p) (v - 1)
theorem f_ac_cong {u lv u2 lv2 : Int → Int} {os : List Int} : ∀ {R m : Nat} {v : Int}, (∀ k : Nat, k < R → u (k : Int) = u2 (k : Int) ∧ lv (k : Int) = lv2 (k : Int)) → f_ac u lv os R m v → f_ac u2 lv2 os R m v
  | 0, _, _, _, h => h
  | R + 1, m, v, hk, h => by
    have h1 := hk R (by omega)
    have ih : ∀ {m : Nat} {v : Int}, f_ac u lv os R m v → f_ac u2 lv2 os R m v := fun h => f_ac_cong (fun k hk1 => hk k (by omega)) h
    rcases h with h | ⟨p, p1, p2, p3, p4⟩
    · exact Or.inl (by rw [← h1.1]; exact ih h)
    · exact Or.inr ⟨p, p1, p2, by rw [← h1.2]; exact p3, ih p4⟩
theorem f_ms_ev {o : Int} {tl : List Int} {p : Nat} : f_ms (o :: tl) (2 * p) = f_ms tl p := by
  show ((2 * p % 2 : Nat) : Int) * o + f_ms tl (2 * p / 2) = _
  rw [show 2 * p % 2 = 0 by omega, show 2 * p / 2 = p by omega]
  show (0 : Int) * o + _ = _
  rw [Int.zero_mul, Int.zero_add]
theorem f_ms_od {o : Int} {tl : List Int} {p : Nat} : f_ms (o :: tl) (2 * p + 1) = o + f_ms tl p := by
  show (((2 * p + 1) % 2 : Nat) : Int) * o + f_ms tl ((2 * p + 1) / 2) = _
  rw [show (2 * p + 1) % 2 = 1 by omega, show (2 * p + 1) / 2 = p by omega]
  show (1 : Int) * o + _ = _
  rw [Int.one_mul]
theorem f_ms_0 : ∀ (os : List Int), f_ms os 0 = 0
  | [] => rfl
  | o :: tl => (f_ms_ev (p := 0)).trans (f_ms_0 tl)
theorem f_ms_nn : ∀ {os : List Int} {p : Nat}, (∀ o ∈ os, 0 ≤ o) → 0 ≤ f_ms os p
  | [], _, _ => Int.le_refl 0
  | o :: tl, p, h => by
    have h1 := f_ms_nn (os := tl) (p := p / 2) (fun x hx => h x (List.mem_cons_of_mem _ hx))
    have h2 := h o (List.mem_cons_self)
    show 0 ≤ ((p % 2 : Nat) : Int) * o + f_ms tl (p / 2)
    rcases (by omega : p % 2 = 0 ∨ p % 2 = 1) with e | e
    · rw [e]
      show 0 ≤ (0 : Int) * o + _
      omega
    · rw [e]
      show 0 ≤ (1 : Int) * o + _
      omega
theorem f_ac_ev {u lv : Int → Int} {o : Int} {tl : List Int} : ∀ {R m : Nat} {v : Int}, f_ac u lv (o :: tl) R (2 * m) v ↔ f_ac u lv tl R m v
  | 0, m, v => by
    show 2 * m = 0 ∧ v = 0 ↔ m = 0 ∧ v = 0
    omega
  | R + 1, m, v => by
    constructor
    · rintro (h | ⟨p, p1, p2, p3, p4⟩)
      · exact Or.inl (f_ac_ev.mp h)
      · obtain ⟨h1, h2⟩ := f_ble_s.mp p2
        obtain ⟨q, rfl⟩ : ∃ q, p = 2 * q := ⟨p / 2, by omega⟩
        rw [show 2 * q / 2 = q by omega, show 2 * m / 2 = m by omega] at h2
        rw [f_ms_ev] at p3
        rw [show 2 * m - 2 * q = 2 * (m - q) by omega] at p4
        exact Or.inr ⟨q, by omega, h2, p3, f_ac_ev.mp p4⟩
    · rintro (h | ⟨p, p1, p2, p3, p4⟩)
      · exact Or.inl (f_ac_ev.mpr h)
      · refine Or.inr ⟨2 * p, by omega, f_ble_s.mpr ⟨by omega, ?_⟩, by rw [f_ms_ev]; exact p3, ?_⟩
        · rw [show 2 * p / 2 = p by omega, show 2 * m / 2 = m by omega]
          exact p2
        · rw [show 2 * m - 2 * p = 2 * (m - p) by omega]
          exact f_ac_ev.mpr p4
theorem f_ac_od {u lv : Int → Int} {o : Int} {tl : List Int} (ht : ∀ x ∈ tl, 0 ≤ x) : ∀ {R m : Nat} {v : Int}, f_ac u lv (o :: tl) R (2 * m + 1) v ↔ ∃ r : Nat, r < R ∧ o ≤ lv (r : Int) ∧ f_ac (f_up u (r : Int) 1) (f_up lv (r : Int) (lv (r : Int) - o)) tl R m v
  | 0, m, v => by
    constructor
    · rintro ⟨h, -⟩
      omega
    · rintro ⟨r, h, -⟩
      omega
  | R + 1, m, v => by
    have ups : ∀ (f : Int → Int) (r k : Nat) (x : Int), r ≠ k → f_up f (r : Int) x (k : Int) = f (k : Int) := fun f r k x h => f_up_ne (by omega) rfl
    constructor
    · rintro (h | ⟨p, p1, p2, p3, p4⟩)
      · obtain ⟨r, h1, h2, h3⟩ := (f_ac_od ht).mp h
        refine ⟨r, by omega, h2, Or.inl ?_⟩
        rw [ups u r R 1 (by omega)]
        exact h3
      · obtain ⟨q1, q2⟩ := f_ble_s.mp p2
        have hm2 : (2 * m + 1) / 2 = m := by omega
        rw [hm2] at q2
        rcases (by omega : p % 2 = 0 ∨ p % 2 = 1) with e | e
        · obtain ⟨q, rfl⟩ : ∃ q, p = 2 * q := ⟨p / 2, by omega⟩
          rw [show 2 * q / 2 = q by omega] at q2
          rw [f_ms_ev] at p3
          have hq := f_ble_le q2
          rw [show 2 * m + 1 - 2 * q = 2 * (m - q) + 1 by omega] at p4
          obtain ⟨r, h1, h2, h3⟩ := (f_ac_od ht).mp p4
          refine ⟨r, by omega, h2, Or.inr ⟨q, by omega, q2, ?_, h3⟩⟩
          rw [ups lv r R _ (by omega)]
          exact p3
        · obtain ⟨q, rfl⟩ : ∃ q, p = 2 * q + 1 := ⟨p / 2, by omega⟩
          rw [show (2 * q + 1) / 2 = q by omega] at q2
          rw [f_ms_od] at p3
          have hq := f_ble_le q2
          have hn := f_ms_nn (p := q) ht
          rw [show 2 * m + 1 - (2 * q + 1) = 2 * (m - q) by omega] at p4
          have h3 := f_ac_ev.mp p4
          have h4 : f_ac (f_up u (R : Int) 1) (f_up lv (R : Int) (lv (R : Int) - o)) tl R (m - q) (v - 1) := f_ac_cong (fun k hk => ⟨(ups u R k 1 (by omega)).symm, (ups lv R k _ (by omega)).symm⟩) h3
          refine ⟨R, by omega, by omega, ?_⟩
          by_cases h0 : q = 0
          · refine Or.inl ?_
            rw [show f_up u (R : Int) 1 (R : Int) = 1 from f_up_same _ _ _]
            rw [h0, Nat.sub_zero] at h4
            exact h4
          · refine Or.inr ⟨q, by omega, q2, ?_, h4⟩
            rw [show f_up lv (R : Int) (lv (R : Int) - o) (R : Int) = lv (R : Int) - o from f_up_same _ _ _]
            omega
    · rintro ⟨r, h1, h2, h3⟩
      by_cases hr : r = R
      · subst hr
        have back : ∀ {m : Nat} {v : Int}, f_ac (f_up u (r : Int) 1) (f_up lv (r : Int) (lv (r : Int) - o)) tl r m v → f_ac u lv tl r m v := fun h => f_ac_cong (fun k hk => ⟨ups u r k 1 (by omega), ups lv r k _ (by omega)⟩) h
        have one : f_ble (o :: tl).length 1 (2 * m + 1) = true := by
          refine f_ble_s.mpr ⟨by omega, ?_⟩
          have z : ∀ (n a : Nat), f_ble n 0 a = true := by
            intro n
            induction n with
            | zero => intro a; rfl
            | succ n ih => intro a; exact f_ble_s.mpr ⟨by omega, ih _⟩
          exact z _ _
        rcases h3 with h | ⟨p, p1, p2, p3, p4⟩
        · rw [show f_up u (r : Int) 1 (r : Int) = 1 from f_up_same _ _ _] at h
          refine Or.inr ⟨1, by omega, one, ?_, ?_⟩
          · rw [show (1 : Nat) = 2 * 0 + 1 by omega, f_ms_od, f_ms_0]
            omega
          · rw [show 2 * m + 1 - 1 = 2 * m by omega]
            exact f_ac_ev.mpr (back h)
        · rw [show f_up lv (r : Int) (lv (r : Int) - o) (r : Int) = lv (r : Int) - o from f_up_same _ _ _] at p3
          have hq := f_ble_le p2
          refine Or.inr ⟨2 * p + 1, by omega, f_ble_s.mpr ⟨by omega, ?_⟩, ?_, ?_⟩
          · rw [show (2 * p + 1) / 2 = p by omega, show (2 * m + 1) / 2 = m by omega]
            exact p2
          · rw [f_ms_od]
            omega
          · rw [show 2 * m + 1 - (2 * p + 1) = 2 * (m - p) by omega]
            exact f_ac_ev.mpr (back p4)
      · rcases h3 with h | ⟨p, p1, p2, p3, p4⟩
        · rw [ups u r R 1 hr] at h
          exact Or.inl ((f_ac_od ht).mpr ⟨r, by omega, h2, h⟩)
        · rw [ups lv r R _ hr] at p3
          have hq := f_ble_le p2
          refine Or.inr ⟨2 * p, by omega, f_ble_s.mpr ⟨by omega, ?_⟩, by rw [f_ms_ev]; exact p3, ?_⟩
          · rw [show 2 * p / 2 = p by omega, show (2 * m + 1) / 2 = m by omega]
            exact p2
          · rw [show 2 * m + 1 - 2 * p = 2 * (m - p) + 1 by omega]
            exact (f_ac_od ht).mpr ⟨r, by omega, h2, p4⟩
def f_cs (u : Int → Int) : Nat → Int
  | 0 => 0
  | R + 1 => f_cs u R + u (R : Int)
theorem f_cs_ne {u : Int → Int} {r : Nat} {x : Int} : ∀ {R : Nat}, R ≤ r → f_cs (f_up u (r : Int) x) R = f_cs u R
  | 0, _ => rfl
  | R + 1, h => by
    show f_cs (f_up u (r : Int) x) R + f_up u (r : Int) x (R : Int) = f_cs u R + u (R : Int)
    rw [f_cs_ne (by omega), show f_up u (r : Int) x (R : Int) = u (R : Int) from f_up_ne (by omega) rfl]
theorem f_cs_up {u : Int → Int} {r : Nat} : ∀ {R : Nat}, r < R → f_cs (f_up u (r : Int) 1) R = f_cs u R + 1 - u (r : Int)
  | 0, h => by omega
  | R + 1, h => by
    show f_cs (f_up u (r : Int) 1) R + f_up u (r : Int) 1 (R : Int) = f_cs u R + u (R : Int) + 1 - u (r : Int)
    by_cases hr : r = R
    · subst hr
      rw [f_cs_ne (Nat.le_refl _), show f_up u (r : Int) 1 (r : Int) = 1 from f_up_same _ _ _]
      omega
    · rw [f_cs_up (by omega), show f_up u (r : Int) 1 (R : Int) = u (R : Int) from f_up_ne (by omega) rfl]
      omega
theorem f_ac_nil {u lv : Int → Int} : ∀ {R : Nat} {v : Int}, f_ac u lv [] R 0 v ↔ v = f_cs u R
  | 0, v => by
    show 0 = 0 ∧ v = 0 ↔ v = 0
    omega
  | R + 1, v => by
    constructor
    · rintro (h | ⟨p, p1, p2, -⟩)
      · have h1 := f_ac_nil.mp h
        show v = f_cs u R + u (R : Int)
        omega
      · have := f_ble_z.mp p2
        omega
    · intro h
      have h2 : v = f_cs u R + u (R : Int) := h
      exact Or.inl (f_ac_nil.mpr (by omega))
theorem f_bst_le {g : Int → Int} : ∀ (n : Nat) (r : Nat), r < n → (f_bst g (n : Int)).1 ≤ g (r : Int)
  | 0, r, h => by omega
  | n + 1, r, h => by
    rw [show ((n + 1 : Nat) : Int) = (n : Int) + 1 by omega, f_bst_last (by omega)]
    unfold f_bsS
    by_cases hr : r = n
    · subst hr
      split
      · exact Int.le_refl _
      · omega
    · have h1 := f_bst_le (g := g) n r (by omega)
      split
      · show g (n : Int) ≤ g (r : Int)
        omega
      · exact h1
def f_full : Nat → Nat
  | 0 => 0
  | n + 1 => 2 * f_full n + 1
theorem f_mn_ac : ∀ (os : List Int) (c : Int) (u lv : Int → Int), (∀ o ∈ os, 0 ≤ o) → (∀ v, f_ac u lv os 8 (f_full os.length) v → f_mn c u lv os ≤ c - f_cs u 8 + v) ∧ (f_mn c u lv os < 1000 → f_ac u lv os 8 (f_full os.length) (f_mn c u lv os - c + f_cs u 8))
  | [], c, u, lv, _ => by
    constructor
    · intro v h
      have h1 := f_ac_nil.mp h
      show c ≤ _
      omega
    · intro _
      refine f_ac_nil.mpr ?_
      show c - c + f_cs u 8 = _
      omega
  | o :: tl, c, u, lv, ho => by
    have ht : ∀ x ∈ tl, 0 ≤ x := fun x hx => ho x (List.mem_cons_of_mem _ hx)
    rw [f_mn_cons]
    show (∀ v, f_ac u lv (o :: tl) 8 (2 * f_full tl.length + 1) v → _) ∧ (_ → f_ac u lv (o :: tl) 8 (2 * f_full tl.length + 1) _)
    constructor
    · intro v h
      obtain ⟨r, h1, h2, h3⟩ := (f_ac_od ht).mp h
      have h4 := (f_mn_ac tl (c + 1 - u (r : Int)) (f_up u (r : Int) 1) (f_up lv (r : Int) (lv (r : Int) - o)) ht).1 v h3
      rw [f_cs_up h1] at h4
      have h5 := f_bst_le (g := f_mnG c u lv o tl) 8 r h1
      have h6 : f_mnG c u lv o tl (r : Int) = f_mn (c + 1 - u (r : Int)) (f_up u (r : Int) 1) (f_up lv (r : Int) (lv (r : Int) - o)) tl := if_pos h2
      have h7 : (f_bst (f_mnG c u lv o tl) 8).1 ≤ f_mnG c u lv o tl (r : Int) := h5
      omega
    · intro h
      obtain ⟨⟨h1, h2⟩, h3⟩ := f_bst_ix (g := f_mnG c u lv o tl) 8 h
      have h1' : 0 ≤ (f_bst (f_mnG c u lv o tl) 8).2 := h1
      have h2' : (f_bst (f_mnG c u lv o tl) 8).2 < 8 := h2
      obtain ⟨r, hr⟩ : ∃ r : Nat, (r : Int) = (f_bst (f_mnG c u lv o tl) 8).2 := ⟨(f_bst (f_mnG c u lv o tl) 8).2.toNat, by omega⟩
      have h3' : f_mnG c u lv o tl (f_bst (f_mnG c u lv o tl) 8).2 = (f_bst (f_mnG c u lv o tl) 8).1 := h3
      rw [← hr] at h3'
      have h8 : o ≤ lv (r : Int) := by
        rcases Int.lt_or_le (lv (r : Int)) o with h9 | h9
        · have e : f_mnG c u lv o tl (r : Int) = 1000 := if_neg (by omega)
          omega
        · exact h9
      have h6 : f_mnG c u lv o tl (r : Int) = f_mn (c + 1 - u (r : Int)) (f_up u (r : Int) 1) (f_up lv (r : Int) (lv (r : Int) - o)) tl := if_pos h8
      have h4 := (f_mn_ac tl (c + 1 - u (r : Int)) (f_up u (r : Int) 1) (f_up lv (r : Int) (lv (r : Int) - o)) ht).2 (by omega)
      rw [f_cs_up (by omega)] at h4
      refine (f_ac_od ht).mpr ⟨r, by omega, h8, ?_⟩
      rw [show (f_bst (f_mnG c u lv o tl) 8).1 - c + f_cs u 8 = f_mn (c + 1 - u (r : Int)) (f_up u (r : Int) 1) (f_up lv (r : Int) (lv (r : Int) - o)) tl - (c + 1 - u (r : Int)) + (f_cs u 8 + 1 - u (r : Int)) by omega]
      exact h4
/-- the row of the fewest, when R ropes are done -/
def f_dp2 (u lv : Int → Int) (os : List Int) (R : Nat) (b : Int → Int) : Prop := ∀ m : Nat, m ≤ f_full os.length → (∀ v, f_ac u lv os R m v → b (m : Int) ≤ v) ∧ (b (m : Int) < 1000 → f_ac u lv os R m (b (m : Int))) ∧ 0 ≤ b (m : Int) ∧ b (m : Int) ≤ 1000 + (R : Int)
def f_bw2 (u lv : Int → Int) (os : List Int) (R : Nat) (b : Int → Int) (m : Nat) (x : Int) : Prop := (x ≤ b (m : Int) + u (R : Int) ∧ ∀ p, 0 < p → f_ble os.length p m = true → f_ms os p ≤ lv (R : Int) → x ≤ b ((m - p : Nat) : Int) + 1) ∧ (x = b (m : Int) + u (R : Int) ∨ ∃ p, 0 < p ∧ f_ble os.length p m = true ∧ f_ms os p ≤ lv (R : Int) ∧ x = b ((m - p : Nat) : Int) + 1)
theorem f_dp2_0 {u lv : Int → Int} {os : List Int} {b : Int → Int} (h0 : b 0 = 0) (h1 : ∀ m : Nat, 0 < m → m ≤ f_full os.length → b (m : Int) = 1000) : f_dp2 u lv os 0 b := by
  intro m hm
  by_cases h : m = 0
  · subst h
    have e : b ((0 : Nat) : Int) = 0 := h0
    rw [e]
    exact ⟨fun v hv => by have := hv.2; omega, fun _ => ⟨rfl, rfl⟩, by omega, by omega⟩
  · rw [h1 m (by omega) hm]
    exact ⟨fun v hv => absurd hv.1 h, fun hv => absurd hv (by decide), by omega, by omega⟩
theorem f_dp2_s {u lv : Int → Int} {os : List Int} {R : Nat} {b b2 : Int → Int} (hu : u (R : Int) = 0 ∨ u (R : Int) = 1) (h : f_dp2 u lv os R b) (h2 : ∀ m : Nat, m ≤ f_full os.length → f_bw2 u lv os R b m (b2 (m : Int))) : f_dp2 u lv os (R + 1) b2 := by
  intro m hm
  obtain ⟨⟨a1, a2⟩, a3⟩ := h2 m hm
  have a4 := h m hm
  refine ⟨fun v hv => ?_, fun hv => ?_, ?_⟩
  · rcases hv with q | ⟨p, p1, p2, p3, p4⟩
    · have := a4.1 _ q
      omega
    · have q1 := a2 p p1 p2 p3
      have q2 := (h (m - p) (by omega)).1 _ p4
      omega
  · rcases a3 with q | ⟨p, p1, p2, p3, p4⟩
    · refine Or.inl ?_
      rw [show b2 (m : Int) - u (R : Int) = b (m : Int) by omega]
      exact a4.2.1 (by omega)
    · refine Or.inr ⟨p, p1, p2, p3, ?_⟩
      rw [show b2 (m : Int) - 1 = b ((m - p : Nat) : Int) by omega]
      exact (h (m - p) (by omega)).2.1 (by omega)
  · rcases a3 with q | ⟨p, p1, p2, p3, p4⟩
    · omega
    · have q2 := (h (m - p) (by omega)).2.2
      omega
theorem f_dp2_8 {u lv : Int → Int} {os : List Int} {b : Int → Int} (ho : ∀ o ∈ os, 0 ≤ o) (h : f_dp2 u lv os 8 b) : b (f_full os.length : Int) < 1000 ∨ f_mn (f_cs u 8) u lv os < 1000 → b (f_full os.length : Int) = f_mn (f_cs u 8) u lv os := by
  have h1 := h (f_full os.length) (Nat.le_refl _)
  have h2 := f_mn_ac os (f_cs u 8) u lv ho
  have key1 : b (f_full os.length : Int) < 1000 → f_mn (f_cs u 8) u lv os ≤ b (f_full os.length : Int) := by
    intro hb
    have := h2.1 _ (h1.2.1 hb)
    omega
  have key2 : f_mn (f_cs u 8) u lv os < 1000 → b (f_full os.length : Int) ≤ f_mn (f_cs u 8) u lv os := by
    intro hb
    have := h1.1 _ (h2.2 hb)
    omega
  intro hh
  rcases hh with hb | hb
  · have := key1 hb
    have := key2 (by omega)
    omega
  · have := key2 hb
    have := key1 (by omega)
    omega

