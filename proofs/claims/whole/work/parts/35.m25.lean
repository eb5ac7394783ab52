/-! a law's text over its tokens: (token, value, place, place behind) -/
abbrev f_Tk : Type := Int × Int × Int × Int
abbrev f_Rs : Type := (Int × Int) ⊕ (List f_Tk × List f_Op)
def f_T (L : List f_Tk) : Int := match L with
  | [] => 0
  | t :: _ => t.1
def f_V (L : List f_Tk) : Int := match L with
  | [] => 0
  | t :: _ => t.2.1
def f_S (L : List f_Tk) : Int := match L with
  | [] => 0
  | t :: _ => t.2.2.1
def f_pre (o : List f_Op) (r : f_Rs) : f_Rs := match r with
  | .inl e => .inl e
  | .inr (L, a) => .inr (L, o ++ a)
def f_aft (o : List f_Op) (r : f_Rs) : f_Rs := match r with
  | .inl e => .inl e
  | .inr (L, a) => .inr (L, a ++ o)
def f_seq (r : f_Rs) (k : List f_Tk → f_Rs) : f_Rs := match r with
  | .inl e => .inl e
  | .inr (L, a) => f_pre a (k L)
def f_mny (q : List f_Tk → Option f_Rs) : Nat → List f_Tk → f_Rs
  | 0, L => .inr (L, [])
  | n + 1, L => match q L with
    | none => .inr (L, [])
    | some r => f_seq r (f_mny q n)
def f_rep (q : List f_Tk → Option f_Rs) (L : List f_Tk) : f_Rs := f_mny q (L.length + 1) L
def f_unit (L : List f_Tk) : f_Rs := if f_T L = 2 then .inr (L.tail, [(0, f_V L)]) else if 41 ≤ f_T L ∧ f_T L ≤ 53 then .inr (L.tail, [(f_T L - 40, f_V L)]) else .inl (1, f_S L)
def f_qMul (L : List f_Tk) : Option f_Rs := if f_T L = 142 then some (f_aft [(25, 0)] (f_unit L.tail)) else if f_T L = 147 then some (if f_T L.tail ≠ 2 then .inl (1, f_S L.tail) else if f_V L.tail = 0 then .inl (2, f_S L.tail) else .inr (L.tail.tail, [(26, f_V L.tail)])) else none
def f_prod (L : List f_Tk) : f_Rs := f_seq (f_unit L) (f_rep f_qMul)
def f_qAdd (L : List f_Tk) : Option f_Rs := if f_T L = 143 then some (f_aft [(23, 0)] (f_prod L.tail)) else if f_T L = 145 then some (f_aft [(24, 0)] (f_prod L.tail)) else none
def f_sumU (L : List f_Tk) : f_Rs := f_seq (f_prod L) (f_rep f_qAdd)
def f_cmpS (L : List f_Tk) : Int := if f_T L = 160 then 27 else if f_T L = 161 then 28 else if f_T L = 162 then 29 else -1
def f_cmp2 (L : List f_Tk) : f_Rs := if f_cmpS L = -1 then .inl (1, f_S L) else f_aft [(f_cmpS L, 0)] (f_sumU L.tail)
def f_cmp (L : List f_Tk) : f_Rs := f_seq (f_sumU L) f_cmp2
def f_qOp (t s : Int) (p : List f_Tk → f_Rs) (L : List f_Tk) : Option f_Rs := if f_T L = t then some (f_aft [(s, 0)] (p L.tail)) else none
def f_evy (one : List f_Tk → f_Rs) (L : List f_Tk) : f_Rs := f_seq (one L) (f_rep (f_qOp 5 31 one))
def f_any (one : List f_Tk → f_Rs) (L : List f_Tk) : f_Rs := f_seq (f_evy one L) (f_rep (f_qOp 4 32 (f_evy one)))
def f_ned (t : Int) (L : List f_Tk) : f_Rs := if f_T L = t then .inr (L.tail, []) else .inl (1, f_S L)
def f_one : Nat → List f_Tk → f_Rs
  | 0, L => if f_T L = 6 ∨ f_T L = 140 then .inl (3, f_S L) else f_cmp L
  | d + 1, L => if f_T L = 6 then f_aft [(30, 0)] (f_one d L.tail) else if f_T L = 140 then f_seq (f_any (f_one d) L.tail) (f_ned 141) else f_cmp L
def f_rb (r : f_Rs) : Int := match r with
  | .inl _ => 0
  | .inr _ => 1
theorem f_rb_ok {r : f_Rs} (h : f_rb r ≠ 0) : ∃ L o, r = .inr (L, o) := by
  match r, h with
  | .inl e, h => exact absurd rfl h
  | .inr (L, o), h => exact ⟨L, o, rfl⟩
theorem f_rb_no {r : f_Rs} (h : f_rb r = 0) : ∃ k s, r = .inl (k, s) := by
  match r, h with
  | .inl (k, s), h => exact ⟨k, s, rfl⟩
theorem f_rb_01 (r : f_Rs) : f_rb r = 0 ∨ f_rb r = 1 := by
  cases r with
  | inl e => exact Or.inl rfl
  | inr e => exact Or.inr rfl
def f_wt : List f_Op → Nat
  | [] => 0
  | o :: tl => (if o.1 = 26 then 2 else 1) + f_wt tl
theorem f_wt_app : ∀ (a b : List f_Op), f_wt (a ++ b) = f_wt a + f_wt b
  | [], b => (Nat.zero_add _).symm
  | o :: tl, b => by
    show (if o.1 = 26 then 2 else 1) + f_wt (tl ++ b) = (if o.1 = 26 then 2 else 1) + f_wt tl + f_wt b
    rw [f_wt_app tl b]
    omega
theorem f_wt_len : ∀ (a : List f_Op), a.length ≤ f_wt a
  | [] => Nat.le_refl 0
  | o :: tl => by
    have e := f_wt_len tl
    show tl.length + 1 ≤ (if o.1 = 26 then 2 else 1) + f_wt tl
    split <;> omega
/-- what is left is less by what was laid -/
def f_g0 (L : List f_Tk) (r : f_Rs) : Prop := ∀ L2 o, r = .inr (L2, o) → f_wt o + L2.length ≤ L.length ∧ ∀ t ∈ L2, t ∈ L
def f_gd (L : List f_Tk) (r : f_Rs) : Prop := ∀ L2 o, r = .inr (L2, o) → 1 ≤ f_wt o ∧ f_wt o + L2.length ≤ L.length ∧ ∀ t ∈ L2, t ∈ L
theorem f_gd_0 {L : List f_Tk} {r : f_Rs} (h : f_gd L r) : f_g0 L r := fun L2 o e => (h L2 o e).2
theorem f_gd_inl {L : List f_Tk} {e : Int × Int} : f_gd L (.inl e) := fun L2 o h => by cases h
theorem f_tail_len {L : List f_Tk} (h : f_T L ≠ 0) : L.tail.length + 1 = L.length := by
  cases L with
  | nil => exact absurd rfl h
  | cons t tl => rfl
theorem f_tail_in {L : List f_Tk} : ∀ t ∈ L.tail, t ∈ L := by
  cases L with
  | nil => exact fun t h => h
  | cons t tl => exact fun u h => List.mem_cons_of_mem _ h
theorem f_seq_inr {r : f_Rs} {k : List f_Tk → f_Rs} {L2 : List f_Tk} {o : List f_Op} (h : f_seq r k = .inr (L2, o)) : ∃ L1 a b, r = .inr (L1, a) ∧ k L1 = .inr (L2, b) ∧ o = a ++ b := by
  match r, h with
  | .inr (L1, a), h =>
    have h2 : f_pre a (k L1) = .inr (L2, o) := h
    match e : k L1, h2 with
    | .inl x, h2 => cases h2
    | .inr (L3, b), h2 =>
      cases h2
      exact ⟨L1, a, b, rfl, e, rfl⟩
theorem f_aft_inr {r : f_Rs} {a : List f_Op} {L2 : List f_Tk} {o : List f_Op} (h : f_aft a r = .inr (L2, o)) : ∃ b, r = .inr (L2, b) ∧ o = b ++ a := by
  match r, h with
  | .inr (L1, b), h =>
    cases h
    exact ⟨b, rfl, rfl⟩
theorem f_seq_gd {L : List f_Tk} {r : f_Rs} {k : List f_Tk → f_Rs} (h : f_gd L r) (hk : ∀ L1, f_g0 L1 (k L1)) : f_gd L (f_seq r k) := by
  intro L2 o e
  obtain ⟨L1, a, b, e1, e2, rfl⟩ := f_seq_inr e
  have h1 := h L1 a e1
  have h2 := hk L1 L2 b e2
  rw [f_wt_app]
  exact ⟨by omega, by omega, fun t ht => h1.2.2 t (h2.2 t ht)⟩
theorem f_aft_gd {L : List f_Tk} {p : List f_Tk → f_Rs} {s : Int} (ht : f_T L ≠ 0) (hs : s ≠ 26) (hp : ∀ L, f_gd L (p L)) : f_gd L (f_aft [(s, 0)] (p L.tail)) := by
  intro L2 o e
  obtain ⟨b, e1, rfl⟩ := f_aft_inr e
  have h1 := hp L.tail L2 b e1
  have h2 := f_tail_len ht
  have h3 : f_wt [(s, (0 : Int))] = 1 := by
    show (if s = 26 then 2 else 1) + 0 = 1
    rw [if_neg hs]
  rw [f_wt_app, h3]
  exact ⟨by omega, by omega, fun t ht => f_tail_in t (h1.2.2 t ht)⟩
theorem f_unit_gd (L : List f_Tk) : f_gd L (f_unit L) := by
  unfold f_unit
  split
  · intro L2 o e
    cases e
    have h2 := f_tail_len (L := L) (by omega)
    exact ⟨Nat.le_refl 1, by show 1 + _ ≤ _; omega, f_tail_in⟩
  · split
    · intro L2 o e
      cases e
      have h2 := f_tail_len (L := L) (by omega)
      have h3 : f_wt [(f_T L - 40, f_V L)] = 1 := by
        show (if f_T L - 40 = 26 then 2 else 1) + 0 = 1
        rw [if_neg (by omega)]
      rw [h3]
      exact ⟨Nat.le_refl 1, by omega, f_tail_in⟩
    · exact f_gd_inl
def f_gq (q : List f_Tk → Option f_Rs) : Prop := ∀ L r, q L = some r → f_gd L r
theorem f_qMul_gd : f_gq f_qMul := by
  intro L r h
  unfold f_qMul at h
  split at h
  · cases h
    exact f_aft_gd (by omega) (by decide) f_unit_gd
  · split at h
    · cases h
      split
      · exact f_gd_inl
      · split
        · exact f_gd_inl
        · intro L2 o e
          cases e
          have h2 := f_tail_len (L := L) (by omega)
          have h3 := f_tail_len (L := L.tail) (by omega)
          exact ⟨by show 1 ≤ 2 + 0; decide, by show 2 + 0 + _ ≤ _; omega, fun t ht => f_tail_in t (f_tail_in t ht)⟩
    · cases h
theorem f_mny_fuel {q : List f_Tk → Option f_Rs} (hq : f_gq q) : ∀ (n m : Nat) (L : List f_Tk), L.length < n → L.length < m → f_mny q n L = f_mny q m L := by
  intro n
  induction n with
  | zero => intro m L h; omega
  | succ n ih =>
    intro m L h1 h2
    obtain ⟨m, rfl⟩ : ∃ k, m = k + 1 := ⟨m - 1, by omega⟩
    show (match q L with | none => (Sum.inr (L, []) : f_Rs) | some r => f_seq r (f_mny q n)) = (match q L with | none => (Sum.inr (L, []) : f_Rs) | some r => f_seq r (f_mny q m))
    match e : q L with
    | none => rfl
    | some (.inl x) => rfl
    | some (.inr (L2, o)) =>
      have h3 := hq L _ e L2 o rfl
      show f_pre o (f_mny q n L2) = f_pre o (f_mny q m L2)
      rw [ih m L2 (by omega) (by omega)]
theorem f_rep_none {q : List f_Tk → Option f_Rs} {L : List f_Tk} (h : q L = none) : f_rep q L = .inr (L, []) := by
  show (match q L with | none => (Sum.inr (L, []) : f_Rs) | some r => f_seq r (f_mny q L.length)) = _
  rw [h]
theorem f_rep_some {q : List f_Tk → Option f_Rs} (hq : f_gq q) {L : List f_Tk} {r : f_Rs} (h : q L = some r) : f_rep q L = f_seq r (f_rep q) := by
  show (match q L with | none => (Sum.inr (L, []) : f_Rs) | some r => f_seq r (f_mny q L.length)) = _
  rw [h]
  match r, h with
  | .inl x, h => rfl
  | .inr (L2, o), h =>
    have h3 := hq L _ h L2 o rfl
    show f_pre o (f_mny q L.length L2) = f_pre o (f_mny q (L2.length + 1) L2)
    rw [f_mny_fuel hq L.length (L2.length + 1) L2 (by omega) (by omega)]
theorem f_rep_g0 {q : List f_Tk → Option f_Rs} (hq : f_gq q) (L : List f_Tk) : f_g0 L (f_rep q L) := by
  have key : ∀ (n : Nat) (L : List f_Tk), f_g0 L (f_mny q n L) := by
    intro n
    induction n with
    | zero =>
      intro L L2 o e
      cases e
      exact ⟨by show 0 + _ ≤ _; omega, fun t h => h⟩
    | succ n ih =>
      intro L
      show f_g0 L (match q L with | none => (Sum.inr (L, []) : f_Rs) | some r => f_seq r (f_mny q n))
      match e : q L with
      | none =>
        intro L2 o e2
        cases e2
        exact ⟨by show 0 + _ ≤ _; omega, fun t h => h⟩
      | some r => exact f_gd_0 (f_seq_gd (hq L r e) ih)
  exact key _ L
theorem f_prod_gd (L : List f_Tk) : f_gd L (f_prod L) := f_seq_gd (f_unit_gd L) (f_rep_g0 f_qMul_gd)
theorem f_qAdd_gd : f_gq f_qAdd := by
  intro L r h
  unfold f_qAdd at h
  split at h
  · cases h
    exact f_aft_gd (by omega) (by decide) f_prod_gd
  · split at h
    · cases h
      exact f_aft_gd (by omega) (by decide) f_prod_gd
    · cases h
theorem f_sumU_gd (L : List f_Tk) : f_gd L (f_sumU L) := f_seq_gd (f_prod_gd L) (f_rep_g0 f_qAdd_gd)
theorem f_cmpS_cs (L : List f_Tk) : f_cmpS L = -1 ∨ (f_T L ≠ 0 ∧ (f_cmpS L = 27 ∨ f_cmpS L = 28 ∨ f_cmpS L = 29)) := by
  unfold f_cmpS
  split
  · exact Or.inr ⟨by omega, by omega⟩
  · split
    · exact Or.inr ⟨by omega, by omega⟩
    · split
      · exact Or.inr ⟨by omega, by omega⟩
      · exact Or.inl rfl
theorem f_cmp2_gd (L : List f_Tk) : f_gd L (f_cmp2 L) := by
  unfold f_cmp2
  split
  · exact f_gd_inl
  · have h := f_cmpS_cs L
    exact f_aft_gd (by omega) (by omega) f_sumU_gd
theorem f_cmp_gd (L : List f_Tk) : f_gd L (f_cmp L) := f_seq_gd (f_sumU_gd L) (fun L1 => f_gd_0 (f_cmp2_gd L1))
theorem f_qOp_gd {t s : Int} {p : List f_Tk → f_Rs} (ht : t ≠ 0) (hs : s ≠ 26) (hp : ∀ L, f_gd L (p L)) : f_gq (f_qOp t s p) := by
  intro L r h
  unfold f_qOp at h
  split at h
  · cases h
    exact f_aft_gd (by omega) hs hp
  · cases h
theorem f_evy_gd {p : List f_Tk → f_Rs} (hp : ∀ L, f_gd L (p L)) (L : List f_Tk) : f_gd L (f_evy p L) := f_seq_gd (hp L) (f_rep_g0 (f_qOp_gd (by decide) (by decide) hp))
theorem f_any_gd {p : List f_Tk → f_Rs} (hp : ∀ L, f_gd L (p L)) (L : List f_Tk) : f_gd L (f_any p L) := f_seq_gd (f_evy_gd hp L) (f_rep_g0 (f_qOp_gd (by decide) (by decide) (f_evy_gd hp)))
theorem f_ned_g0 {t : Int} (ht : t ≠ 0) (L : List f_Tk) : f_g0 L (f_ned t L) := by
  unfold f_ned
  split
  · intro L2 o e
    cases e
    have h2 := f_tail_len (L := L) (by omega)
    exact ⟨by show 0 + _ ≤ _; omega, f_tail_in⟩
  · exact f_gd_0 f_gd_inl
theorem f_gd_tail {L : List f_Tk} {r : f_Rs} (h : f_gd L.tail r) : f_gd L r := by
  intro L2 o e
  have h1 := h L2 o e
  have h2 : L.tail.length ≤ L.length := by rw [List.length_tail]; omega
  exact ⟨h1.1, by omega, fun t ht => f_tail_in t (h1.2.2 t ht)⟩
theorem f_one_gd : ∀ (d : Nat) (L : List f_Tk), f_gd L (f_one d L)
  | 0, L => by
    unfold f_one
    split
    · exact f_gd_inl
    · exact f_cmp_gd L
  | d + 1, L => by
    unfold f_one
    split
    · exact f_aft_gd (by omega) (by decide) (f_one_gd d)
    · split
      · exact f_seq_gd (f_gd_tail (f_any_gd (f_one_gd d) L.tail)) (f_ned_g0 (by decide))
      · exact f_cmp_gd L
/-! kinds of what is laid -/
def f_tkr (rd : Int) (t : f_Tk) : Prop := (0 ≤ t.2.1 ∧ t.2.1 ≤ 9999) ∧ (41 ≤ t.1 ∧ t.1 ≤ 53 → f_al rd (t.1 - 40))
def f_tt (c : Nat) (s t : List Bool) (o : List f_Op) : Prop := ∀ ts : List Bool, ts.length + c ≤ 40 → f_tys o (s ++ ts) = some (t ++ ts)
def f_pt (rd : Int) (c : Nat) (s t : List Bool) (L : List f_Tk) (r : f_Rs) : Prop := ∀ L2 o, r = .inr (L2, o) → (∀ x ∈ L, f_tkr rd x) → f_us rd o ∧ f_tt c s t o
theorem f_tys_app : ∀ (a b : List f_Op) (ts t2 : List Bool), f_tys a ts = some t2 → f_tys (a ++ b) ts = f_tys b t2
  | [], b, ts, t2, h => by
    cases h
    rfl
  | o :: tl, b, ts, t2, h => by
    obtain ⟨z, h1, h2⟩ : ∃ z, f_ty o ts = some z ∧ f_tys tl z = some t2 := Option.bind_eq_some_iff.mp h
    show (f_ty o ts).bind (f_tys (tl ++ b)) = _
    rw [h1]
    exact f_tys_app tl b z t2 h2
theorem f_tt_app {c : Nat} {s t u : List Bool} {a b : List f_Op} (h1 : f_tt c s t a) (h2 : f_tt c t u b) : f_tt c s u (a ++ b) := fun ts h => (f_tys_app a b _ _ (h1 ts h)).trans (h2 ts h)
theorem f_tt_mono {c c2 : Nat} {s t : List Bool} {a : List f_Op} (h : c ≤ c2) (h1 : f_tt c s t a) : f_tt c2 s t a := fun ts h2 => h1 ts (by omega)
theorem f_tt_under {c : Nat} {s t : List Bool} {b : Bool} {a : List f_Op} (h1 : f_tt c s t a) : f_tt (c + 1) (s ++ [b]) (t ++ [b]) a := by
  intro ts h2
  rw [List.append_assoc, List.append_assoc]
  exact h1 ([b] ++ ts) (by simp only [List.length_append, List.length_cons, List.length_nil]; omega)
theorem f_us_app {k : Int} {a b : List f_Op} (h1 : f_us k a) (h2 : f_us k b) : f_us k (a ++ b) := fun o ho => (List.mem_append.mp ho).elim (h1 o) (h2 o)
theorem f_us_one {k : Int} {o : f_Op} (h : 23 ≤ o.1) : f_us k [o] := by
  intro x hx h1
  rw [List.mem_singleton.mp hx] at h1
  omega
theorem f_pt_inl {rd : Int} {c : Nat} {s t : List Bool} {L : List f_Tk} {e : Int × Int} : f_pt rd c s t L (.inl e) := fun L2 o h => by cases h
theorem f_pt_mono {rd : Int} {c c2 : Nat} {s t : List Bool} {L : List f_Tk} {r : f_Rs} (h : c ≤ c2) (h1 : f_pt rd c s t L r) : f_pt rd c2 s t L r := fun L2 o e hx => ⟨(h1 L2 o e hx).1, f_tt_mono h (h1 L2 o e hx).2⟩
theorem f_seq_pt {rd : Int} {c : Nat} {s t u : List Bool} {L : List f_Tk} {r : f_Rs} {k : List f_Tk → f_Rs} (hg : f_g0 L r) (h : f_pt rd c s t L r) (hk : ∀ L1, f_pt rd c t u L1 (k L1)) : f_pt rd c s u L (f_seq r k) := by
  intro L2 o e hx
  obtain ⟨L1, a, b, e1, e2, rfl⟩ := f_seq_inr e
  have h1 := h L1 a e1 hx
  have h2 := hk L1 L2 b e2 (fun x hm => hx x ((hg L1 a e1).2 x hm))
  exact ⟨f_us_app h1.1 h2.1, f_tt_app h1.2 h2.2⟩
theorem f_aft_pt {rd : Int} {c : Nat} {s t u : List Bool} {L : List f_Tk} {r : f_Rs} {x : Int} (h : f_pt rd c s t L.tail r) (hx : 23 ≤ x) (ho : f_tt c t u [(x, 0)]) : f_pt rd c s u L (f_aft [(x, 0)] r) := by
  intro L2 o e hm
  obtain ⟨b, e1, rfl⟩ := f_aft_inr e
  have h1 := h L2 b e1 (fun y hy => hm y (f_tail_in y hy))
  exact ⟨f_us_app h1.1 (f_us_one hx), f_tt_app h1.2 ho⟩
theorem f_pt_under {rd : Int} {c : Nat} {s t : List Bool} {L : List f_Tk} {r : f_Rs} (b : Bool) (h : f_pt rd c s t L r) : f_pt rd (c + 1) (s ++ [b]) (t ++ [b]) L r := fun L2 o e hx => ⟨(h L2 o e hx).1, f_tt_under (h L2 o e hx).2⟩
theorem f_rep_pt {rd : Int} {c : Nat} {t : List Bool} {q : List f_Tk → Option f_Rs} (hg : f_gq q) (hq : ∀ L r, q L = some r → f_pt rd c t t L r) (L : List f_Tk) : f_pt rd c t t L (f_rep q L) := by
  have key : ∀ (n : Nat) (L : List f_Tk), f_pt rd c t t L (f_mny q n L) := by
    intro n
    induction n with
    | zero =>
      intro L L2 o e hx
      cases e
      exact ⟨fun o ho => absurd ho (List.not_mem_nil), fun ts h => rfl⟩
    | succ n ih =>
      intro L
      show f_pt rd c t t L (match q L with | none => (Sum.inr (L, []) : f_Rs) | some r => f_seq r (f_mny q n))
      match e : q L with
      | none =>
        intro L2 o e2 hx
        cases e2
        exact ⟨fun o ho => absurd ho (List.not_mem_nil), fun ts h => rfl⟩
      | some r => exact f_seq_pt (f_gd_0 (hg L r e)) (hq L r e) ih
  exact key _ L
theorem f_hd_in {L : List f_Tk} {P : f_Tk → Prop} (h : f_T L ≠ 0) (hx : ∀ x ∈ L, P x) : ∃ t tl, L = t :: tl ∧ P t := by
  cases L with
  | nil => exact absurd rfl h
  | cons t tl => exact ⟨t, tl, rfl, hx t (List.mem_cons_self)⟩
theorem f_unit_pt (rd : Int) (L : List f_Tk) : f_pt rd 1 [] [false] L (f_unit L) := by
  unfold f_unit
  split
  · rename_i ht
    intro L2 o e hx
    cases e
    obtain ⟨t, tl, rfl, h1⟩ := f_hd_in (by omega) hx
    refine ⟨fun o ho h2 => Or.inl (by rw [List.mem_singleton.mp ho]), fun ts h => ?_⟩
    show (f_ty (0, t.2.1) ts).bind _ = _
    have e2 : f_ty (0, t.2.1) ts = some (false :: ts) := by
      unfold f_ty
      rw [if_pos (by show (0 : Int) < 23; decide), if_pos ⟨by show (0 : Int) ≤ 0; decide, by show (0 : Int) < 14; decide, h1.1.1, h1.1.2, by omega⟩]
    rw [e2]
    rfl
  · split
    · rename_i ht
      intro L2 o e hx
      cases e
      obtain ⟨t, tl, rfl, h1⟩ := f_hd_in (by omega) hx
      have ht2 : 41 ≤ t.1 ∧ t.1 ≤ 53 := ht
      refine ⟨fun o ho h2 => Or.inr (by rw [List.mem_singleton.mp ho]; exact h1.2 ht2), fun ts h => ?_⟩
      show (f_ty (t.1 - 40, t.2.1) ts).bind _ = _
      have e2 : f_ty (t.1 - 40, t.2.1) ts = some (false :: ts) := by
        unfold f_ty
        rw [if_pos (by show t.1 - 40 < 23; omega), if_pos ⟨by show 0 ≤ t.1 - 40; omega, by show t.1 - 40 < 14; omega, h1.1.1, h1.1.2, by omega⟩]
      rw [e2]
      rfl
    · exact f_pt_inl
theorem f_tt_ar {x : Int} (h : x = 23 ∨ x = 24 ∨ x = 25) : f_tt 0 [false, false] [false] [(x, 0)] := by
  intro ts _
  rcases h with rfl | rfl | rfl <;> rfl
theorem f_tt_cmp {x : Int} (h : x = 27 ∨ x = 28 ∨ x = 29) : f_tt 0 [false, false] [true] [(x, 0)] := by
  intro ts _
  rcases h with rfl | rfl | rfl <;> rfl
theorem f_tt_lg {x : Int} (h : x = 31 ∨ x = 32) : f_tt 0 [true, true] [true] [(x, 0)] := by
  intro ts _
  rcases h with rfl | rfl <;> rfl
theorem f_tt_not : f_tt 0 [true] [true] [(30, 0)] := fun ts _ => rfl
theorem f_qMul_pt (rd : Int) (L : List f_Tk) (r : f_Rs) (h : f_qMul L = some r) : f_pt rd 2 [false] [false] L r := by
  unfold f_qMul at h
  split at h
  · cases h
    exact f_aft_pt (f_pt_under false (f_unit_pt rd L.tail)) (by decide) (f_tt_mono (by decide) (f_tt_ar (Or.inr (Or.inr rfl))))
  · split at h
    · cases h
      split
      · exact f_pt_inl
      · rename_i h2
        split
        · exact f_pt_inl
        · rename_i h3
          intro L2 o e hx
          cases e
          obtain ⟨t, tl, e2, h1⟩ := f_hd_in (L := L.tail) (P := f_tkr rd) (by omega) (fun x hm => hx x (f_tail_in x hm))
          rw [e2] at h3 ⊢
          refine ⟨f_us_one (by show (23 : Int) ≤ 26; decide), fun ts h => ?_⟩
          have h4 := h1.1
          have h5 : t.2.1 ≠ 0 := h3
          show (f_ty (26, t.2.1) (false :: ts)).bind _ = _
          have e2 : f_ty (26, t.2.1) (false :: ts) = some (false :: ts) := by
            show (if (false : Bool) = false ∧ 0 < t.2.1 ∧ t.2.1 ≤ 9999 then some (false :: ts) else none) = _
            rw [if_pos ⟨rfl, by omega, by omega⟩]
          rw [e2]
          rfl
    · cases h
theorem f_prod_pt (rd : Int) (L : List f_Tk) : f_pt rd 2 [] [false] L (f_prod L) := f_seq_pt (f_gd_0 (f_unit_gd L)) (f_pt_mono (by decide) (f_unit_pt rd L)) (f_rep_pt f_qMul_gd (f_qMul_pt rd))
theorem f_qAdd_pt (rd : Int) (L : List f_Tk) (r : f_Rs) (h : f_qAdd L = some r) : f_pt rd 3 [false] [false] L r := by
  unfold f_qAdd at h
  split at h
  · cases h
    exact f_aft_pt (f_pt_under false (f_prod_pt rd L.tail)) (by decide) (f_tt_mono (by decide) (f_tt_ar (Or.inl rfl)))
  · split at h
    · cases h
      exact f_aft_pt (f_pt_under false (f_prod_pt rd L.tail)) (by decide) (f_tt_mono (by decide) (f_tt_ar (Or.inr (Or.inl rfl))))
    · cases h
theorem f_sumU_pt (rd : Int) (L : List f_Tk) : f_pt rd 3 [] [false] L (f_sumU L) := f_seq_pt (f_gd_0 (f_prod_gd L)) (f_pt_mono (by decide) (f_prod_pt rd L)) (f_rep_pt f_qAdd_gd (f_qAdd_pt rd))
theorem f_cmp_pt (rd : Int) (L : List f_Tk) : f_pt rd 4 [] [true] L (f_cmp L) := by
  refine f_seq_pt (f_gd_0 (f_sumU_gd L)) (f_pt_mono (by decide) (f_sumU_pt rd L)) (fun L1 => ?_)
  unfold f_cmp2
  split
  · exact f_pt_inl
  · have h := f_cmpS_cs L1
    exact f_aft_pt (f_pt_under false (f_sumU_pt rd L1.tail)) (by omega) (f_tt_mono (by decide) (f_tt_cmp (by omega)))
theorem f_evy_pt {rd : Int} {c : Nat} {p : List f_Tk → f_Rs} (hg : ∀ L, f_gd L (p L)) (hp : ∀ L, f_pt rd c [] [true] L (p L)) (L : List f_Tk) : f_pt rd (c + 1) [] [true] L (f_evy p L) := by
  refine f_seq_pt (f_gd_0 (hg L)) (f_pt_mono (Nat.le_succ c) (hp L)) (f_rep_pt (f_qOp_gd (by decide) (by decide) hg) (fun L1 r h => ?_))
  unfold f_qOp at h
  split at h
  · cases h
    exact f_aft_pt (f_pt_under true (hp L1.tail)) (by decide) (f_tt_mono (Nat.zero_le _) (f_tt_lg (Or.inl rfl)))
  · cases h
theorem f_any_pt {rd : Int} {c : Nat} {p : List f_Tk → f_Rs} (hg : ∀ L, f_gd L (p L)) (hp : ∀ L, f_pt rd c [] [true] L (p L)) (L : List f_Tk) : f_pt rd (c + 2) [] [true] L (f_any p L) := by
  refine f_seq_pt (f_gd_0 (f_evy_gd hg L)) (f_pt_mono (Nat.le_succ _) (f_evy_pt hg hp L)) (f_rep_pt (f_qOp_gd (by decide) (by decide) (f_evy_gd hg)) (fun L1 r h => ?_))
  unfold f_qOp at h
  split at h
  · cases h
    exact f_aft_pt (f_pt_under true (f_evy_pt hg hp L1.tail)) (by decide) (f_tt_mono (Nat.zero_le _) (f_tt_lg (Or.inr rfl)))
  · cases h
theorem f_one_pt (rd : Int) : ∀ (d : Nat) (L : List f_Tk), f_pt rd (4 + 2 * d) [] [true] L (f_one d L)
  | 0, L => by
    unfold f_one
    split
    · exact f_pt_inl
    · exact f_cmp_pt rd L
  | d + 1, L => by
    unfold f_one
    split
    · exact f_aft_pt (f_pt_mono (by omega) (f_one_pt rd d L.tail)) (by decide) (f_tt_mono (Nat.zero_le _) f_tt_not)
    · split
      · refine f_seq_pt (L := L) (f_gd_0 (f_gd_tail (f_any_gd (f_one_gd d) L.tail))) (t := [true]) ?_ (fun L1 => ?_)
        · intro L2 o e hx
          exact f_any_pt (f_one_gd d) (f_one_pt rd d) L.tail L2 o e (fun x hm => hx x (f_tail_in x hm))
        · unfold f_ned
          split
          · intro L2 o e hx
            cases e
            exact ⟨fun o ho => absurd ho (List.not_mem_nil), fun ts h => rfl⟩
          · exact f_pt_inl
      · exact f_pt_mono (by omega) (f_cmp_pt rd L)

