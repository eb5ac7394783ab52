/-! splices -/
def f_mx (w : Int → Int) (a p b k : Int) : Int := max (f_P w a p (1 + k)) (f_P w b 0 (1 + k))
def f_sx (w : Int → Int) (a p b k : Int) : Int := if f_mx w a p b k = 0 then 0 else f_snb w a p b 0 k
def f_spI (w : Int → Int) (a p b k : Int) (x : Int → Int) : Prop := (∀ r q f, 0 ≤ r ∧ r < 8 ∧ 0 ≤ q ∧ q < 24 ∧ 0 ≤ f ∧ f < 13 → ¬ ((r = a ∧ q = p ∨ r = b ∧ q = 0) ∧ (1 ≤ f ∧ f < 1 + k ∨ 7 ≤ f ∧ f < 7 + k)) → f_P x r q f = f_P w r q f) ∧ (∀ j, 0 ≤ j → j < k → (f_P x a p (1 + j) = f_mx w a p b j ∧ f_P x a p (7 + j) = f_sx w a p b j) ∧ f_P x b 0 (1 + j) = f_mx w a p b j ∧ f_P x b 0 (7 + j) = f_sx w a p b j) ∧ (∀ r f, 0 ≤ r ∧ r < 8 ∧ 0 ≤ f ∧ f < 8 → f_R x r f = f_R w r f) ∧ ∀ i, i < 4 ∨ 2564 ≤ i → x i = w i
theorem f_spI_s {w x : Int → Int} {a n b k : Int} (ha : 0 ≤ a ∧ a < 8) (hb : 0 ≤ b ∧ b < 8) (hn : a ≠ b) (hp : 1 ≤ n ∧ n ≤ 24) (hk : 0 ≤ k ∧ k < 6) (h : f_spI w a (n - 1) b k x) : f_spI w a (n - 1) b (k + 1) (f_spS a n b k x) := by
  obtain ⟨h1, h2, h3, h4⟩ := h
  have e1 : f_P x a (n - 1) (1 + k) = f_P w a (n - 1) (1 + k) := h1 _ _ _ (by omega) (by omega)
  have e2 : f_P x b 0 (1 + k) = f_P w b 0 (1 + k) := h1 _ _ _ (by omega) (by omega)
  have e3 : f_P x a (n - 1) (7 + k) = f_P w a (n - 1) (7 + k) := h1 _ _ _ (by omega) (by omega)
  have e4 : f_P x b 0 (7 + k) = f_P w b 0 (7 + k) := h1 _ _ _ (by omega) (by omega)
  have em : max (f_P x a (n - 1) (1 + k)) (f_P x b 0 (1 + k)) = f_mx w a (n - 1) b k := by rw [e1, e2]; rfl
  have es : f_snb x a (n - 1) b 0 k = f_snb w a (n - 1) b 0 k := by
    unfold f_snb
    rw [e1, e2, e3, e4]
  have eS : f_spS a n b k x = f_hab (f_hab x a (n - 1) k (f_mx w a (n - 1) b k) (f_snb w a (n - 1) b 0 k)) b 0 k (f_mx w a (n - 1) b k) (f_snb w a (n - 1) b 0 k) := by
    unfold f_spS
    rw [em, es]
  have hA : 0 ≤ a ∧ a < 8 ∧ 0 ≤ n - 1 ∧ n - 1 < 24 ∧ 0 ≤ k ∧ k < 6 := by omega
  have hB : 0 ≤ b ∧ b < 8 ∧ (0 : Int) ≤ 0 ∧ (0 : Int) < 24 ∧ 0 ≤ k ∧ k < 6 := by omega
  have rd : ∀ r q f, 0 ≤ r ∧ r < 8 ∧ 0 ≤ q ∧ q < 24 ∧ 0 ≤ f ∧ f < 13 → f_P (f_spS a n b k x) r q f = if r = b ∧ q = 0 ∧ f = 1 + k then f_mx w a (n - 1) b k else if r = b ∧ q = 0 ∧ f = 7 + k then f_sx w a (n - 1) b k else if r = a ∧ q = n - 1 ∧ f = 1 + k then f_mx w a (n - 1) b k else if r = a ∧ q = n - 1 ∧ f = 7 + k then f_sx w a (n - 1) b k else f_P x r q f := fun r q f hr => by
    rw [eS, f_P_hab hB hr, f_P_hab hA hr]
    rfl
  rw [eS] at rd ⊢
  refine ⟨fun r q f hr hne => ?_, fun j j1 j2 => ?_, fun r f hr => ?_, fun i hi => ?_⟩
  · rw [rd r q f hr, if_neg (by omega), if_neg (by omega), if_neg (by omega), if_neg (by omega)]
    exact h1 r q f hr (by omega)
  · by_cases hj : j = k
    · rw [rd a (n - 1) (1 + j) (by omega), rd a (n - 1) (7 + j) (by omega), rd b 0 (1 + j) (by omega), rd b 0 (7 + j) (by omega), hj]
      refine ⟨⟨?_, ?_⟩, ?_, ?_⟩
      · rw [if_neg (by omega), if_neg (by omega), if_pos ⟨rfl, rfl, rfl⟩]
      · rw [if_neg (by omega), if_neg (by omega), if_neg (by omega), if_pos ⟨rfl, rfl, rfl⟩]
      · rw [if_pos ⟨rfl, rfl, rfl⟩]
      · rw [if_neg (by omega), if_pos ⟨rfl, rfl, rfl⟩]
    · have h5 := h2 j j1 (by omega)
      have r1 : ∀ r q f, 0 ≤ r ∧ r < 8 ∧ 0 ≤ q ∧ q < 24 ∧ 0 ≤ f ∧ f < 13 → f ≠ 1 + k → f ≠ 7 + k → f_P (f_hab (f_hab x a (n - 1) k (f_mx w a (n - 1) b k) (f_snb w a (n - 1) b 0 k)) b 0 k (f_mx w a (n - 1) b k) (f_snb w a (n - 1) b 0 k)) r q f = f_P x r q f := fun r q f hr f1 f2 => by
        rw [rd r q f hr, if_neg (by omega), if_neg (by omega), if_neg (by omega), if_neg (by omega)]
      rw [r1 a (n - 1) (1 + j) (by omega) (by omega) (by omega), r1 a (n - 1) (7 + j) (by omega) (by omega) (by omega), r1 b 0 (1 + j) (by omega) (by omega) (by omega), r1 b 0 (7 + j) (by omega) (by omega) (by omega)]
      exact h5
  · rw [f_R_hab hB hr, f_R_hab hA hr]
    exact h3 r f hr
  · rw [f_hab_out hB hi, f_hab_out hA hi]
    exact h4 i hi
theorem f_sp1_I {w : Int → Int} {a n b : Int} (ha : 0 ≤ a ∧ a < 8) (hb : 0 ≤ b ∧ b < 8) (hn : a ≠ b) (hp : 1 ≤ n ∧ n ≤ 24) : f_spI (f_note w a n b 4 (-1)) a (n - 1) b 6 (f_sp1 w a n b) := f_loop_ix (P := fun k x => f_spI (f_note w a n b 4 (-1)) a (n - 1) b k x) (g := f_spS a n b) (lo := 0) (hi := 6) (by decide) ⟨fun _ _ _ _ _ => rfl, fun j j1 j2 => by omega, fun _ _ _ => rfl, fun _ _ => rfl⟩ (fun k x k1 k2 hx => f_spI_s ha hb hn hp ⟨k1, k2⟩ hx)
theorem f_sp2_I {w : Int → Int} {a n b : Int} (ha : 0 ≤ a ∧ a < 8) (hb : 0 ≤ b ∧ b < 8) (hn : a ≠ b) (hp : 1 ≤ n ∧ n + f_R w b 1 ≤ 24) (hl : 0 ≤ f_R w b 1) : f_onl a (f_sp1 w a n b) (f_sp2 w a n b) ∧ (∀ q f, 0 ≤ q ∧ q < 24 → 0 ≤ f ∧ f < 13 → f_P (f_sp2 w a n b) a q f = if n ≤ q ∧ q < n + f_R w b 1 then f_P (f_sp1 w a n b) b (q - n) f else f_P (f_sp1 w a n b) a q f) ∧ ∀ f, 0 ≤ f ∧ f < 8 → f_R (f_sp2 w a n b) a f = f_R (f_sp1 w a n b) a f := by
  have key := f_loop_ix (P := fun j x => f_onl a (f_sp1 w a n b) x ∧ (∀ q f, 0 ≤ q ∧ q < 24 → 0 ≤ f ∧ f < 13 → f_P x a q f = if n ≤ q ∧ q < n + j then f_P (f_sp1 w a n b) b (q - n) f else f_P (f_sp1 w a n b) a q f) ∧ ∀ f, 0 ≤ f ∧ f < 8 → f_R x a f = f_R (f_sp1 w a n b) a f) (g := fun q x => f_cpy x a (n + q) b q) (lo := 0) (hi := f_R w b 1) (a := f_sp1 w a n b) hl ⟨f_onl_refl, fun q f _ _ => by rw [if_neg (by omega)], fun _ _ => rfl⟩ (fun j x j1 j2 hx => by
    refine ⟨f_onl_tr hx.1 (f_onl_cpy ⟨by omega, by omega⟩), fun q f hq hf => ?_, fun f hf => ?_⟩
    · show f_P (f_cpy x a (n + j) b j) a q f = _
      rw [f_P_cpy ha ⟨by omega, by omega⟩ hb ⟨by omega, by omega⟩ (fun e => hn e.symm) hq hf]
      by_cases h1 : q = n + j
      · rw [if_pos h1, if_pos (by omega), f_onl_P hx.1 (fun e => hn e.symm) ⟨by omega, by omega⟩ hf, show q - n = j by omega]
      · rw [if_neg h1, hx.2.1 q f hq hf]
        by_cases h2 : n ≤ q ∧ q < n + j
        · rw [if_pos h2, if_pos (by omega)]
        · rw [if_neg h2, if_neg (by omega)]
    · show f_R (f_cpy x a (n + j) b j) a f = _
      rw [f_R_cpy ha ⟨by omega, by omega⟩ ⟨ha.1, ha.2, hf.1, hf.2⟩]
      exact hx.2.2 f hf)
  exact key

