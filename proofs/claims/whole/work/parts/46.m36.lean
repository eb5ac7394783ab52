/-! one rope alone -/
def f_onl (r : Int) (w v : Int → Int) : Prop := ∀ i, (i < 4 + 320 * r ∨ 324 + 320 * r ≤ i) → v i = w i
theorem f_onl_refl {r : Int} {w : Int → Int} : f_onl r w w := fun _ _ => rfl
theorem f_onl_tr {r : Int} {w v u : Int → Int} (h1 : f_onl r w v) (h2 : f_onl r v u) : f_onl r w u := fun i h => (h2 i h).trans (h1 i h)
theorem f_onl_sP {w : Int → Int} {r p f v : Int} (hp : 0 ≤ p ∧ p < 24) (hf : 0 ≤ f ∧ f < 13) : f_onl r w (f_sP w r p f v) := fun i h => f_up_o (by omega)
theorem f_onl_sR {w : Int → Int} {r f v : Int} (hf : 0 ≤ f ∧ f < 8) : f_onl r w (f_sR w r f v) := fun i h => f_up_o (by omega)
theorem f_onl_hab {w : Int → Int} {r p k v s : Int} (hp : 0 ≤ p ∧ p < 24) (hk : 0 ≤ k ∧ k < 6) : f_onl r w (f_hab w r p k v s) := f_onl_tr (f_onl_sP hp ⟨by omega, by omega⟩) (f_onl_sP hp ⟨by omega, by omega⟩)
theorem f_onl_lp {r lo hi : Int} {w : Int → Int} {g : Int → (Int → Int) → (Int → Int)} (hg : ∀ i x, lo ≤ i → i < hi → f_onl r x (g i x)) : f_onl r w (f_loop g lo hi w) := f_loop_inv (P := fun x => f_onl r w x) f_onl_refl (fun i x a b c => f_onl_tr c (hg i x a b))
theorem f_onl_more {w : Int → Int} {r p k v : Int} (hp : 0 ≤ p ∧ p < 24) (hk : 0 ≤ k ∧ k < 6) : f_onl r w (f_more w r p k v) := f_onl_hab hp hk
theorem f_onl_clr {w : Int → Int} {r p : Int} (hp : 0 ≤ p ∧ p < 24) : f_onl r w (f_clr w r p) := f_onl_lp (fun i x a b => f_onl_hab hp ⟨a, b⟩)
theorem f_onl_hlv {w : Int → Int} {r p : Int} (hp : 0 ≤ p ∧ p < 24) : f_onl r w (f_hlv w r p) := f_onl_lp (fun i x a b => f_onl_hab hp ⟨a, b⟩)
theorem f_onl_cpy {w : Int → Int} {r p s q : Int} (hp : 0 ≤ p ∧ p < 24) : f_onl r w (f_cpy w r p s q) := f_onl_lp (fun i x a b => f_onl_sP hp ⟨a, b⟩)
theorem f_onl_beg {w : Int → Int} {r n ow bo we : Int} : f_onl r w (f_beg w r n ow bo we) := by
  refine f_onl_tr (v := f_sR (f_sR (f_sR (f_sR (f_sR w r 0 1) r 1 n) r 2 ow) r 3 bo) r 4 we) ?_ (f_onl_lp (fun i x a b => ?_))
  · exact f_onl_tr (f_onl_tr (f_onl_tr (f_onl_tr (f_onl_sR (by omega)) (f_onl_sR (by omega))) (f_onl_sR (by omega))) (f_onl_sR (by omega))) (f_onl_sR (by omega))
  · exact f_onl_tr (f_onl_sP ⟨a, b⟩ (by omega)) (f_onl_lp (fun k y c d => f_onl_hab ⟨a, b⟩ ⟨c, d⟩))
theorem f_onl_wets {w : Int → Int} {r v : Int} (hl : f_R w r 1 ≤ 24) : f_onl r w (f_wets w r v) := by
  unfold f_wets
  split
  · refine f_onl_tr (f_onl_sR (by omega)) (f_onl_lp (fun i x a b => ?_))
    unfold f_wetS
    split
    · exact f_onl_refl
    · have := f_call_rg (w := x) (r := r) (p := i)
      exact f_onl_more ⟨a, by omega⟩ ⟨by omega, by omega⟩
  · exact f_onl_sR (by omega)
theorem f_onl_P {w v : Int → Int} {r s p f : Int} (h : f_onl r w v) (hs : s ≠ r) (hp : 0 ≤ p ∧ p < 24) (hf : 0 ≤ f ∧ f < 13) : f_P v s p f = f_P w s p f := h _ (by omega)
theorem f_onl_R {w v : Int → Int} {r s f : Int} (h : f_onl r w v) (hs : s ≠ r) (hf : 0 ≤ f ∧ f < 8) : f_R v s f = f_R w s f := h _ (by omega)
/-! what is read behind a beginning, a copy, a half, nothing -/
theorem f_P_clr {w : Int → Int} {r p q f : Int} (hr : 0 ≤ r ∧ r < 8) (hp : 0 ≤ p ∧ p < 24) (hq : 0 ≤ q ∧ q < 24) (hf : 0 ≤ f ∧ f < 13) : f_P (f_clr w r p) r q f = if q = p ∧ 1 ≤ f then 0 else f_P w r q f := by
  have key := f_loop_ix (P := fun k x => f_P x r q f = if q = p ∧ (1 ≤ f ∧ f < 1 + k ∨ 7 ≤ f ∧ f < 7 + k) then 0 else f_P w r q f) (g := fun k w => f_hab w r p k 0 0) (lo := 0) (hi := 6) (a := w) (by decide) (by rw [if_neg (by omega)]) (fun k x k1 k2 hx => by
    show f_P (f_hab x r p k 0 0) r q f = _
    rw [f_P_hab ⟨hr.1, hr.2, hp.1, hp.2, k1, k2⟩ ⟨hr.1, hr.2, hq.1, hq.2, hf.1, hf.2⟩, hx, if_pos rfl]
    by_cases h1 : q = p
    · by_cases h2 : f = 1 + k
      · rw [if_pos ⟨rfl, h1, h2⟩, if_pos ⟨h1, by omega⟩]
      · rw [if_neg (by omega)]
        by_cases h3 : f = 7 + k
        · rw [if_pos ⟨rfl, h1, h3⟩, if_pos ⟨h1, by omega⟩]
        · rw [if_neg (by omega)]
          by_cases h4 : 1 ≤ f ∧ f < 1 + k ∨ 7 ≤ f ∧ f < 7 + k
          · rw [if_pos ⟨h1, h4⟩, if_pos ⟨h1, by omega⟩]
          · rw [if_neg (fun h => h4 h.2), if_neg (by omega)]
    · rw [if_neg (by omega), if_neg (by omega), if_neg (by omega), if_neg (by omega)])
  have key2 : f_P (f_clr w r p) r q f = if q = p ∧ (1 ≤ f ∧ f < 1 + 6 ∨ 7 ≤ f ∧ f < 7 + 6) then 0 else f_P w r q f := key
  rw [key2]
  by_cases h1 : q = p ∧ 1 ≤ f
  · rw [if_pos h1, if_pos (by omega)]
  · rw [if_neg h1, if_neg (by omega)]
theorem f_P_cpy {w : Int → Int} {r p s q p2 f : Int} (hr : 0 ≤ r ∧ r < 8) (hp : 0 ≤ p ∧ p < 24) (hs : 0 ≤ s ∧ s < 8) (hq : 0 ≤ q ∧ q < 24) (hn : s ≠ r) (hp2 : 0 ≤ p2 ∧ p2 < 24) (hf : 0 ≤ f ∧ f < 13) : f_P (f_cpy w r p s q) r p2 f = if p2 = p then f_P w s q f else f_P w r p2 f := by
  have key := f_loop_ix (P := fun k x => f_onl r w x ∧ f_P x r p2 f = if p2 = p ∧ f < k then f_P w s q f else f_P w r p2 f) (g := fun k w => f_sP w r p k (f_P w s q k)) (lo := 0) (hi := 13) (a := w) (by decide) ⟨f_onl_refl, by rw [if_neg (by omega)]⟩ (fun k x k1 k2 hx => by
    refine ⟨f_onl_tr hx.1 (f_onl_sP hp ⟨k1, k2⟩), ?_⟩
    show f_P (f_sP x r p k (f_P x s q k)) r p2 f = _
    rw [f_P_sP ⟨hr.1, hr.2, hp.1, hp.2, k1, k2⟩ ⟨hr.1, hr.2, hp2.1, hp2.2, hf.1, hf.2⟩, hx.2]
    by_cases h1 : p2 = p
    · by_cases h2 : f = k
      · rw [if_pos ⟨rfl, h1, h2⟩, if_pos ⟨h1, by omega⟩, f_onl_P hx.1 hn hq ⟨k1, k2⟩, h2]
      · rw [if_neg (by omega)]
        by_cases h3 : f < k
        · rw [if_pos ⟨h1, h3⟩, if_pos ⟨h1, by omega⟩]
        · rw [if_neg (by omega), if_neg (by omega)]
    · rw [if_neg (by omega), if_neg (by omega), if_neg (by omega)])
  have key2 : f_P (f_cpy w r p s q) r p2 f = if p2 = p ∧ f < 13 then f_P w s q f else f_P w r p2 f := key.2
  rw [key2]
  by_cases h1 : p2 = p
  · rw [if_pos ⟨h1, hf.2⟩, if_pos h1]
  · rw [if_neg (by omega), if_neg h1]
theorem f_P_habe {w : Int → Int} {r p k v s : Int} (h : 0 ≤ r ∧ r < 8 ∧ 0 ≤ p ∧ p < 24 ∧ 0 ≤ k ∧ k < 6) : f_P (f_hab w r p k v s) r p (1 + k) = v ∧ f_P (f_hab w r p k v s) r p (7 + k) = if v = 0 then 0 else s := by
  rw [f_P_hab h ⟨by omega, by omega, by omega, by omega, by omega, by omega⟩, f_P_hab h ⟨by omega, by omega, by omega, by omega, by omega, by omega⟩, if_pos ⟨rfl, rfl, rfl⟩, if_neg (by omega), if_pos ⟨rfl, rfl, rfl⟩]
  exact ⟨rfl, rfl⟩
theorem f_P_habn {w : Int → Int} {r p k v s q i : Int} (h : 0 ≤ r ∧ r < 8 ∧ 0 ≤ p ∧ p < 24 ∧ 0 ≤ k ∧ k < 6) (hq : 0 ≤ q ∧ q < 24) (hi : 0 ≤ i ∧ i < 6) (hn : ¬ (q = p ∧ i = k)) : f_P (f_hab w r p k v s) r q (1 + i) = f_P w r q (1 + i) ∧ f_P (f_hab w r p k v s) r q (7 + i) = f_P w r q (7 + i) := by
  rw [f_P_hab h ⟨by omega, by omega, by omega, by omega, by omega, by omega⟩, f_P_hab h ⟨by omega, by omega, by omega, by omega, by omega, by omega⟩, if_neg (by omega), if_neg (by omega), if_neg (by omega), if_neg (by omega)]
  exact ⟨rfl, rfl⟩
theorem f_P_hlv {w : Int → Int} {r p q k : Int} (hr : 0 ≤ r ∧ r < 8) (hp : 0 ≤ p ∧ p < 24) (hq : 0 ≤ q ∧ q < 24) (hk : 0 ≤ k ∧ k < 6) : f_P (f_hlv w r p) r q 0 = f_P w r q 0 ∧ f_P (f_hlv w r p) r q (1 + k) = (if q = p then f_P w r q (1 + k) / 2 else f_P w r q (1 + k)) ∧ f_P (f_hlv w r p) r q (7 + k) = if q = p ∧ f_P w r q (1 + k) / 2 = 0 then 0 else f_P w r q (7 + k) := by
  have key := f_loop_ix (P := fun j x => f_P x r q 0 = f_P w r q 0 ∧ ∀ k, 0 ≤ k → k < 6 → (f_P x r q (1 + k) = if q = p ∧ k < j then f_P w r q (1 + k) / 2 else f_P w r q (1 + k)) ∧ f_P x r q (7 + k) = if (q = p ∧ k < j) ∧ f_P w r q (1 + k) / 2 = 0 then 0 else f_P w r q (7 + k)) (g := fun k w => f_hab w r p k (f_P w r p (1 + k) / 2) (f_P w r p (7 + k))) (lo := 0) (hi := 6) (a := w) (by decide) ⟨rfl, fun k k1 k2 => ⟨by rw [if_neg (by omega)], by rw [if_neg (by omega)]⟩⟩ (fun j x j1 j2 hx => by
    have hh : 0 ≤ r ∧ r < 8 ∧ 0 ≤ p ∧ p < 24 ∧ 0 ≤ j ∧ j < 6 := ⟨hr.1, hr.2, hp.1, hp.2, j1, j2⟩
    refine ⟨?_, fun k k1 k2 => ?_⟩
    · show f_P (f_hab x r p j _ _) r q 0 = _
      rw [f_P_hab hh ⟨hr.1, hr.2, hq.1, hq.2, by decide, by decide⟩, if_neg (by omega), if_neg (by omega)]
      exact hx.1
    · show f_P (f_hab x r p j _ _) r q (1 + k) = _ ∧ f_P (f_hab x r p j _ _) r q (7 + k) = _
      have e1 := hx.2 k k1 k2
      by_cases h1 : q = p ∧ k = j
      · obtain ⟨h1, h2⟩ := h1
        rw [h1, h2, if_neg (by omega), if_neg (by omega)] at e1
        have e2 := f_P_habe (w := x) (v := f_P x r p (1 + j) / 2) (s := f_P x r p (7 + j)) hh
        rw [h1, h2, e2.1, e2.2, e1.1, e1.2, if_pos ⟨rfl, by omega⟩]
        refine ⟨rfl, ?_⟩
        by_cases h3 : f_P w r p (1 + j) / 2 = 0
        · rw [if_pos h3, if_pos ⟨⟨rfl, by omega⟩, h3⟩]
        · rw [if_neg h3, if_neg (fun h => h3 h.2)]
      · have e2 := f_P_habn (w := x) (v := f_P x r p (1 + j) / 2) (s := f_P x r p (7 + j)) (q := q) (i := k) hh hq ⟨k1, k2⟩ h1
        rw [e2.1, e2.2]
        by_cases h4 : q = p ∧ k < j
        · rw [if_pos h4] at e1
          rw [if_pos ⟨h4.1, by omega⟩]
          refine ⟨e1.1, e1.2.trans ?_⟩
          by_cases h3 : f_P w r q (1 + k) / 2 = 0
          · rw [if_pos ⟨h4, h3⟩, if_pos ⟨⟨h4.1, by omega⟩, h3⟩]
          · rw [if_neg (fun h => h3 h.2), if_neg (fun h => h3 h.2)]
        · rw [if_neg h4, if_neg (fun h => h4 h.1)] at e1
          rw [if_neg (by omega), if_neg (by omega)]
          exact e1)
  have k2 := key.2 k hk.1 hk.2
  refine ⟨key.1, ?_, ?_⟩
  · refine k2.1.trans ?_
    by_cases h1 : q = p
    · rw [if_pos ⟨h1, hk.2⟩, if_pos h1]
    · rw [if_neg (by omega), if_neg h1]
  · refine k2.2.trans ?_
    by_cases h1 : q = p ∧ f_P w r q (1 + k) / 2 = 0
    · rw [if_pos ⟨⟨h1.1, hk.2⟩, h1.2⟩, if_pos h1]
    · rw [if_neg (fun h => h1 ⟨h.1.1, h.2⟩), if_neg h1]
theorem f_P_beg {w : Int → Int} {r n ow bo we q f : Int} (hr : 0 ≤ r ∧ r < 8) (hq : 0 ≤ q ∧ q < 24) (hf : 0 ≤ f ∧ f < 13) : f_P (f_beg w r n ow bo we) r q f = if f = 0 then -1 else 0 := by
  have key := f_loop_ix (P := fun p x => ∀ q f, 0 ≤ q → q < p → 0 ≤ f → f < 13 → f_P x r q f = if f = 0 then -1 else 0) (g := fun p w => f_beg1 r p w) (lo := 0) (hi := 24) (a := f_sR (f_sR (f_sR (f_sR (f_sR w r 0 1) r 1 n) r 2 ow) r 3 bo) r 4 we) (by decide) (fun q f q1 q2 => by omega) (fun p x p1 p2 hx q f q1 q2 f1 f2 => by
    show f_P (f_clr (f_sP x r p 0 (-1)) r p) r q f = _
    rw [f_P_clr hr ⟨p1, p2⟩ ⟨q1, by omega⟩ ⟨f1, f2⟩, f_P_sP ⟨hr.1, hr.2, p1, p2, by decide, by decide⟩ ⟨hr.1, hr.2, q1, by omega, f1, f2⟩]
    by_cases h1 : q = p
    · by_cases h2 : f = 0
      · rw [if_neg (by omega), if_pos ⟨rfl, h1, h2⟩, if_pos h2]
      · rw [if_pos ⟨h1, by omega⟩, if_neg h2]
    · rw [if_neg (by omega), if_neg (by omega)]
      exact hx q f q1 (by omega) f1 f2)
  exact key q f hq.1 hq.2 hf.1 hf.2
theorem f_P_ptl {w : Int → Int} {r p s q f : Int} (hr : 0 ≤ r ∧ r < 8) (hs : 0 ≤ s ∧ s < 8) (hn : r ≠ s) (hp : 0 ≤ p ∧ p ≤ f_R w r 1) (hl : f_R w r 1 ≤ 24) (hq : 0 ≤ q ∧ q < f_R w r 1 - p) (hf : 0 ≤ f ∧ f < 13) : f_P (f_ptl w r p s) s q f = f_P w r (p + q) f := by
  have key := f_loop_ix (P := fun j x => f_onl s w x ∧ ∀ q f, 0 ≤ q → q < j - p → 0 ≤ f → f < 13 → f_P x s q f = f_P w r (p + q) f) (g := fun q x => f_cpy x s (q - p) r q) (lo := p) (hi := f_R w r 1) (a := f_beg w s (f_R w r 1 - p) (f_R w r 2) (f_R w r 3) (f_R w r 4)) hp.2 ⟨f_onl_beg, fun q f q1 q2 => by omega⟩ (fun j x j1 j2 hx => by
    refine ⟨f_onl_tr hx.1 (f_onl_cpy ⟨by omega, by omega⟩), fun q f q1 q2 f1 f2 => ?_⟩
    show f_P (f_cpy x s (j - p) r j) s q f = _
    rw [f_P_cpy hs ⟨by omega, by omega⟩ hr ⟨by omega, by omega⟩ hn ⟨q1, by omega⟩ ⟨f1, f2⟩]
    by_cases h1 : q = j - p
    · rw [if_pos h1, f_onl_P hx.1 hn ⟨by omega, by omega⟩ ⟨f1, f2⟩, show p + q = j by omega]
    · rw [if_neg h1]
      exact hx.2 q f q1 (by omega) f1 f2)
  exact key.2 q f hq.1 hq.2 hf.1 hf.2
theorem f_onl_ptl {w : Int → Int} {r p s : Int} (hp : 0 ≤ p) (hl : f_R w r 1 ≤ 24) : f_onl s w (f_ptl w r p s) := f_onl_tr f_onl_beg (f_onl_lp (fun i x a b => f_onl_cpy ⟨by omega, by omega⟩))

