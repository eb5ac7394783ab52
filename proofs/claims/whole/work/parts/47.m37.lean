/-! worlds -/
def f_wm (M : ax_Mem) (b : Int) (w : Int → Int) : Prop := (M b 0 = w 0 ∧ M b 1 = w 2576 ∧ M b 2 = w 2 ∧ M b 3 = w 1) ∧ (∀ k, 0 ≤ k → k < 6 → M (b + 1) k = w (2564 + k) ∧ M (b + 2) k = w (2570 + k)) ∧ ∀ i, 0 ≤ i → i < 8 → M (b + 4 + 4 * i) 0 = f_R w i 0 ∧ (f_R w i 0 = 1 → f_rm M (b + 4 + 4 * i) w i)
theorem f_wm_2 {M N : ax_Mem} {b : Int} {w v : Int → Int} {r s : Int} (hr : 0 ≤ r ∧ r < 8) (hs : 0 ≤ s ∧ s < 8) (hok : f_ok w) (h : f_wm M b w) (ho : ∀ i, ¬ (4 + 320 * r ≤ i ∧ i < 324 + 320 * r) → ¬ (4 + 320 * s ≤ i ∧ i < 324 + 320 * s) → v i = w i) (hf : ∀ x j, b ≤ x → x < b + 36 → ¬ (b + 4 + 4 * r ≤ x ∧ x < b + 8 + 4 * r) → ¬ (b + 4 + 4 * s ≤ x ∧ x < b + 8 + 4 * s) → N x j = M x j) (h1 : N (b + 4 + 4 * r) 0 = f_R v r 0 ∧ (f_R v r 0 = 1 → f_rm N (b + 4 + 4 * r) v r)) (h2 : N (b + 4 + 4 * s) 0 = f_R v s 0 ∧ (f_R v s 0 = 1 → f_rm N (b + 4 + 4 * s) v s)) : f_wm N b v := by
  obtain ⟨a1, a2, a3⟩ := h
  refine ⟨⟨?_, ?_, ?_, ?_⟩, fun k k1 k2 => ?_, fun i i1 i2 => ?_⟩
  · rw [hf b 0 (by omega) (by omega) (by omega) (by omega), ho 0 (by omega) (by omega)]
    exact a1.1
  · rw [hf b 1 (by omega) (by omega) (by omega) (by omega), ho 2576 (by omega) (by omega)]
    exact a1.2.1
  · rw [hf b 2 (by omega) (by omega) (by omega) (by omega), ho 2 (by omega) (by omega)]
    exact a1.2.2.1
  · rw [hf b 3 (by omega) (by omega) (by omega) (by omega), ho 1 (by omega) (by omega)]
    exact a1.2.2.2
  · rw [hf (b + 1) k (by omega) (by omega) (by omega) (by omega), hf (b + 2) k (by omega) (by omega) (by omega) (by omega), ho _ (by omega) (by omega), ho _ (by omega) (by omega)]
    exact a2 k k1 k2
  · by_cases e1 : i = r
    · rw [e1]
      exact h1
    · by_cases e2 : i = s
      · rw [e2]
        exact h2
      · have h3 := a3 i i1 i2
        have e3 : ∀ f, 0 ≤ f → f < 8 → f_R v i f = f_R w i f := fun f f1 f2 => ho _ (by omega) (by omega)
        rw [hf _ 0 (by omega) (by omega) (by omega) (by omega), e3 0 (by decide) (by decide)]
        refine ⟨h3.1, fun h4 => f_rm_w (w := w) (fun j j1 j2 => ho j (by omega) (by omega)) (hok i i1 i2).2.2 (f_rm_fr (fun x j hx => hf x j (by omega) (by omega) (by omega) (by omega)) (h3.2 h4))⟩
theorem f_wm_1 {M N : ax_Mem} {b : Int} {w v : Int → Int} {r : Int} (hr : 0 ≤ r ∧ r < 8) (hok : f_ok w) (h : f_wm M b w) (ho : f_onl r w v) (hf : ∀ x j, b ≤ x → x < b + 36 → ¬ (b + 4 + 4 * r ≤ x ∧ x < b + 8 + 4 * r) → N x j = M x j) (h1 : N (b + 4 + 4 * r) 0 = f_R v r 0) (h2 : f_R v r 0 = 1 → f_rm N (b + 4 + 4 * r) v r) : f_wm N b v := f_wm_2 hr hr hok h (fun i i1 _ => ho i (by omega)) (fun x j x1 x2 x3 _ => hf x j x1 x2 x3) ⟨h1, h2⟩ ⟨h1, h2⟩
theorem f_wm_fr {M N : ax_Mem} {b : Int} {w : Int → Int} (hf : ∀ x j, b ≤ x → x < b + 36 → N x j = M x j) (h : f_wm M b w) : f_wm N b w := by
  obtain ⟨a1, a2, a3⟩ := h
  refine ⟨?_, fun k k1 k2 => ?_, fun i i1 i2 => ?_⟩
  · rw [hf b 0 (by omega) (by omega), hf b 1 (by omega) (by omega), hf b 2 (by omega) (by omega), hf b 3 (by omega) (by omega)]
    exact a1
  · rw [hf _ k (by omega) (by omega), hf _ k (by omega) (by omega)]
    exact a2 k k1 k2
  · rw [hf _ 0 (by omega) (by omega)]
    exact ⟨(a3 i i1 i2).1, fun h4 => f_rm_fr (fun x j hx => hf x j (by omega) (by omega)) ((a3 i i1 i2).2 h4)⟩
/-- heads of w alone may change -/
theorem f_wm_hd {M N : ax_Mem} {b : Int} {w v : Int → Int} (hok : f_ok w) (h : f_wm M b w) (ho : ∀ i, 4 ≤ i → i < 2576 → v i = w i) (hf : ∀ x j, b < x → x < b + 36 → N x j = M x j) (h1 : N b 0 = v 0 ∧ N b 1 = v 2576 ∧ N b 2 = v 2 ∧ N b 3 = v 1) : f_wm N b v := by
  obtain ⟨a1, a2, a3⟩ := h
  refine ⟨h1, fun k k1 k2 => ?_, fun i i1 i2 => ?_⟩
  · rw [hf (b + 1) k (by omega) (by omega), hf (b + 2) k (by omega) (by omega), ho _ (by omega) (by omega), ho _ (by omega) (by omega)]
    exact a2 k k1 k2
  · have h3 := a3 i i1 i2
    have e3 : ∀ f, 0 ≤ f → f < 8 → f_R v i f = f_R w i f := fun f f1 f2 => ho _ (by omega) (by omega)
    rw [hf _ 0 (by omega) (by omega), e3 0 (by decide) (by decide)]
    exact ⟨h3.1, fun h4 => f_rm_w (w := w) (fun j j1 j2 => ho j (by omega) (by omega)) (hok i i1 i2).2.2 (f_rm_fr (fun x j hx => hf x j (by omega) (by omega)) (h3.2 h4))⟩
set_option maxRecDepth 100000 in
theorem f_rp_now {n : Int} (h : 0 ≤ n ∧ n < 8) : f_rp (5 + 4 * n) := by
  rcases (by omega : n = 0 ∨ n = 1 ∨ n = 2 ∨ n = 3 ∨ n = 4 ∨ n = 5 ∨ n = 6 ∨ n = 7) with rfl | rfl | rfl | rfl | rfl | rfl | rfl | rfl
  · exact ⟨sh_5, sh_6, sh_7, sh_8⟩
  · exact ⟨sh_9, sh_10, sh_11, sh_12⟩
  · exact ⟨sh_13, sh_14, sh_15, sh_16⟩
  · exact ⟨sh_17, sh_18, sh_19, sh_20⟩
  · exact ⟨sh_21, sh_22, sh_23, sh_24⟩
  · exact ⟨sh_25, sh_26, sh_27, sh_28⟩
  · exact ⟨sh_29, sh_30, sh_31, sh_32⟩
  · exact ⟨sh_33, sh_34, sh_35, sh_36⟩
theorem f_av_now {n : Int} (f : Int → Int) (h : 0 ≤ n ∧ n < 8) : ax_val (14, 8, [some 5, some 9, some 13, some 17, some 21, some 25, some 29, some 33]) f n.toNat = 5 + 4 * n := by
  rcases (by omega : n = 0 ∨ n = 1 ∨ n = 2 ∨ n = 3 ∨ n = 4 ∨ n = 5 ∨ n = 6 ∨ n = 7) with rfl | rfl | rfl | rfl | rfl | rfl | rfl | rfl <;> rfl
theorem f_shl0 {r : Int} (h : 0 ≤ r ∧ r < 8) : ax_shl 0 r = 0 := by
  rcases (by omega : r = 0 ∨ r = 1 ∨ r = 2 ∨ r = 3 ∨ r = 4 ∨ r = 5 ∨ r = 6 ∨ r = 7) with rfl | rfl | rfl | rfl | rfl | rfl | rfl | rfl <;> decide +kernel
/-! parting -/
theorem f_free_cs (w : Int → Int) : f_free w = -1 ∨ (0 ≤ f_free w ∧ f_free w < 8 ∧ f_R w (f_free w) 0 = 0) := by
  exact f_free_rg
theorem f_pfr_cs (w : Int → Int) (r p : Int) : f_pfr w r p = -1 ∨ (0 ≤ f_pfr w r p ∧ f_pfr w r p < 8 ∧ f_R w (f_pfr w r p) 0 = 0) := by
  unfold f_pfr
  split
  · exact Or.inl rfl
  · exact f_free_cs w
theorem f_onl_p1 {w : Int → Int} {r p : Int} (hp : 0 ≤ p) (hl : f_R w r 1 ≤ 24) : f_onl (f_pfr w r p) w (f_p1 w r p) := by
  unfold f_p1
  split
  · exact f_onl_refl
  · exact f_onl_tr (f_onl_ptl hp hl) (f_onl_clr (by omega))
theorem f_p2_r {w : Int → Int} {r p : Int} (hr : 0 ≤ r ∧ r < 8) (hp : 0 ≤ p ∧ p < 24) (hl : f_R w r 1 ≤ 24) (h1 : f_R w r 0 = 1) : f_onl r (f_p1 w r p) (f_p2 w r p) ∧ ∀ g, 0 ≤ g → g < 8 → f_R (f_p2 w r p) r g = f_R w r g := by
  have hn : r ≠ f_pfr w r p := by
    intro e
    rcases f_pfr_cs w r p with h | h
    · omega
    · rw [← e] at h
      omega
  have ho := f_onl_p1 (w := w) (r := r) (p := p) hp.1 hl
  unfold f_p2
  split
  · refine ⟨f_onl_hlv (by omega), fun g g1 g2 => ?_⟩
    rw [(f_sm_hlv (w := f_p1 w r p) hr (p := p - 1) (by omega)).2.2.2.2 r g ⟨hr.1, hr.2, g1, g2⟩]
    exact f_onl_R ho hn ⟨g1, g2⟩
  · exact ⟨f_onl_refl, fun g g1 g2 => f_onl_R ho hn ⟨g1, g2⟩⟩
theorem f_part_R {w : Int → Int} {r p r2 g : Int} (hr : 0 ≤ r ∧ r < 8) (h2 : 0 ≤ r2 ∧ r2 < 8) (hg : 0 ≤ g ∧ g < 8) : f_R (f_part w r p) r2 g = if r2 = r ∧ g = 1 then p else if r2 = r ∧ g = 0 ∧ p < 2 then 0 else f_R (f_p2 w r p) r2 g := by
  unfold f_part
  by_cases hp : p < 2
  · rw [if_pos hp, f_R_sR ⟨hr.1, hr.2, by decide, by decide⟩ ⟨h2.1, h2.2, hg.1, hg.2⟩, f_R_sR ⟨hr.1, hr.2, by decide, by decide⟩ ⟨h2.1, h2.2, hg.1, hg.2⟩]
    by_cases h3 : r2 = r ∧ g = 1
    · rw [if_neg (by omega), if_pos h3, if_pos h3]
    · rw [if_neg h3, if_neg h3]
      by_cases h4 : r2 = r ∧ g = 0
      · rw [if_pos h4, if_pos ⟨h4.1, h4.2, hp⟩]
      · rw [if_neg h4, if_neg (by omega)]
  · rw [if_neg hp, f_R_sR ⟨hr.1, hr.2, by decide, by decide⟩ ⟨h2.1, h2.2, hg.1, hg.2⟩, if_neg (c := r2 = r ∧ g = 0 ∧ p < 2) (by omega)]
theorem f_part_P {w : Int → Int} {r p r2 q f : Int} (hr : 0 ≤ r ∧ r < 8) (h2 : 0 ≤ r2 ∧ r2 < 8) (hq : 0 ≤ q ∧ q < 24) (hf : 0 ≤ f ∧ f < 13) : f_P (f_part w r p) r2 q f = f_P (f_p2 w r p) r2 q f := by
  unfold f_part
  split
  · rw [f_P_sR ⟨hr.1, hr.2, by decide, by decide⟩ ⟨h2.1, h2.2, hq.1, hq.2, hf.1, hf.2⟩, f_P_sR ⟨hr.1, hr.2, by decide, by decide⟩ ⟨h2.1, h2.2, hq.1, hq.2, hf.1, hf.2⟩]
  · rw [f_P_sR ⟨hr.1, hr.2, by decide, by decide⟩ ⟨h2.1, h2.2, hq.1, hq.2, hf.1, hf.2⟩]
theorem f_rr_part_r {ln ow bo we : Int} {ti ha si w : Int → Int} {r p : Int} (hr : 0 ≤ r ∧ r < 8) (hl : f_R w r 1 ≤ 24) (h1 : f_R w r 0 = 1) (hp : 0 ≤ p ∧ p < f_R w r 1) (h : f_rr ln ow bo we ti ha si w r) : f_rr p ow bo we ti (f_fgt ha p 6) si (f_part w r p) r := by
  have hn : r ≠ f_pfr w r p := by
    intro e
    rcases f_pfr_cs w r p with h | h
    · omega
    · rw [← e] at h
      omega
  have ho := f_onl_p1 (w := w) (r := r) (p := p) hp.1 hl
  have h2 := f_p2_r hr ⟨hp.1, by omega⟩ hl h1
  obtain ⟨e1, e2, e3, e4, e5⟩ := h
  refine ⟨?_, ?_, ?_, ?_, fun q q1 q2 => ?_⟩
  · rw [f_part_R hr hr (by omega), if_pos ⟨rfl, rfl⟩]
  · rw [f_part_R hr hr (by omega), if_neg (by omega), if_neg (by omega), h2.2 2 (by decide) (by decide)]
    exact e2
  · rw [f_part_R hr hr (by omega), if_neg (by omega), if_neg (by omega), h2.2 3 (by decide) (by decide)]
    exact e3
  · rw [f_part_R hr hr (by omega), if_neg (by omega), if_neg (by omega), h2.2 4 (by decide) (by decide)]
    exact e4
  · have e6 := e5 q q1 (by omega)
    have p1 : ∀ f, 0 ≤ f → f < 13 → f_P (f_p1 w r p) r q f = f_P w r q f := fun f f1 f2 => f_onl_P ho hn ⟨q1, by omega⟩ ⟨f1, f2⟩
    have p2 : ∀ f, 0 ≤ f → f < 13 → f_P (f_part w r p) r q f = f_P (f_hlv (f_p1 w r p) r (p - 1)) r q f := fun f f1 f2 => by
      rw [f_part_P hr hr ⟨q1, by omega⟩ ⟨f1, f2⟩]
      unfold f_p2
      rw [if_pos (by omega)]
    rw [p2 0 (by decide) (by decide), (f_P_hlv (p := p - 1) (k := 0) hr (by omega) ⟨q1, by omega⟩ (by omega)).1, p1 0 (by decide) (by decide)]
    refine ⟨e6.1, fun k k1 k2 => ?_⟩
    have e7 := e6.2 k k1 k2
    have e8 := f_P_hlv (w := f_p1 w r p) (p := p - 1) (k := k) (q := q) hr (by omega) ⟨q1, by omega⟩ ⟨k1, k2⟩
    rw [p1 (1 + k) (by omega) (by omega), p1 (7 + k) (by omega) (by omega)] at e8
    rw [p2 (1 + k) (by omega) (by omega), p2 (7 + k) (by omega) (by omega), e8.2.1, e8.2.2]
    have e9 : f_fgt ha p 6 (q * 6 + k) = if q = p - 1 then ha (q * 6 + k) / 2 else ha (q * 6 + k) := by
      unfold f_fgt
      rw [if_neg (by omega)]
      by_cases hq : q = p - 1
      · rw [if_pos (by omega), if_pos hq]
      · rw [if_neg (by omega), if_neg hq]
    rw [e9, e7.1]
    refine ⟨rfl, fun hv => ?_⟩
    by_cases hq : q = p - 1
    · rw [if_pos hq] at hv
      rw [if_neg (fun hh => hv hh.2)]
      exact e7.2 (fun z => hv (by rw [z]; rfl))
    · rw [if_neg hq] at hv
      rw [if_neg (fun hh => hq hh.1)]
      exact e7.2 hv
theorem f_p2_s {w : Int → Int} {r p : Int} (hr : 0 ≤ r ∧ r < 8) (hl : f_R w r 1 ≤ 24) (h1 : f_R w r 0 = 1) (hp : 0 ≤ p ∧ p < f_R w r 1) (hs : f_pfr w r p ≠ -1) : ∀ g, 0 ≤ g → g < 8 → f_R (f_p2 w r p) (f_pfr w r p) g = if g = 0 then 1 else if g = 1 then f_R w r 1 - p else if g = 2 then f_R w r 2 else if g = 3 then f_R w r 3 else if g = 4 then f_R w r 4 else f_R w (f_pfr w r p) g := by
  intro g g1 g2
  have hc := f_pfr_cs w r p
  obtain ⟨s, es⟩ : ∃ s, s = f_pfr w r p := ⟨_, rfl⟩
  rw [← es] at hs hc ⊢
  have hn : s ≠ r := by
    intro e
    rw [e] at hc
    omega
  have h2 : f_onl r (f_p1 w r p) (f_p2 w r p) := (f_p2_r hr ⟨hp.1, by omega⟩ hl h1).1
  rw [f_onl_R h2 hn ⟨g1, g2⟩]
  have e1 : f_p1 w r p = f_clr (f_ptl w r p s) s 0 := by
    unfold f_p1
    rw [← es, if_neg hs]
  have hs8 : 0 ≤ s ∧ s < 8 := by omega
  rw [e1, (f_sm_clr (w := f_ptl w r p s) hs8 (p := 0) (by omega)).2.2.2.2 s g ⟨by omega, by omega, g1, g2⟩]
  have e2 : f_R (f_ptl w r p s) s g = f_R (f_beg w s (f_R w r 1 - p) (f_R w r 2) (f_R w r 3) (f_R w r 4)) s g := f_loop_ix (P := fun j x => f_R x s g = f_R (f_beg w s (f_R w r 1 - p) (f_R w r 2) (f_R w r 3) (f_R w r 4)) s g) (g := fun q x => f_cpy x s (q - p) r q) (lo := p) (hi := f_R w r 1) (by omega) rfl (fun j x j1 j2 hx => (f_R_cpy hs8 ⟨by omega, by omega⟩ ⟨by omega, by omega, g1, g2⟩).trans hx)
  rw [e2, f_R_beg hs8 ⟨by omega, by omega, g1, g2⟩, if_pos rfl]
theorem f_rr_part_s {ln ow bo we : Int} {ti ha si t0 h0 s0 w : Int → Int} {r p : Int} (hr : 0 ≤ r ∧ r < 8) (hl : f_R w r 1 ≤ 24) (h1 : f_R w r 0 = 1) (hp : 0 ≤ p ∧ p < f_R w r 1) (hs : f_pfr w r p ≠ -1) (h : f_rr ln ow bo we ti ha si w r) : f_rr (ln - p) ow bo we (f_cp ti p t0 0 (ln - p)) (f_cp (f_fgt ha p 6) (p * 6) h0 (0 * 6) ((ln - p) * 6)) (f_cp si (p * 6) s0 (0 * 6) ((ln - p) * 6)) (f_part w r p) (f_pfr w r p) := by
  have hR := f_p2_s hr hl h1 hp hs
  have hc := f_pfr_cs w r p
  obtain ⟨s, es⟩ : ∃ s, s = f_pfr w r p := ⟨_, rfl⟩
  rw [← es] at hs hc hR ⊢
  have hn : s ≠ r := by
    intro e
    rw [e] at hc
    omega
  have hs8 : 0 ≤ s ∧ s < 8 := by omega
  have h2 : f_onl r (f_p1 w r p) (f_p2 w r p) := (f_p2_r hr ⟨hp.1, by omega⟩ hl h1).1
  have e1 : f_p1 w r p = f_clr (f_ptl w r p s) s 0 := by
    unfold f_p1
    rw [← es, if_neg hs]
  obtain ⟨a1, a2, a3, a4, a5⟩ := h
  refine ⟨?_, ?_, ?_, ?_, fun q q1 q2 => ?_⟩
  · rw [f_part_R hr hs8 (by omega), if_neg (by omega), if_neg (by omega), hR 1 (by decide) (by decide), if_neg (by decide), if_pos rfl, a1]
  · rw [f_part_R hr hs8 (by omega), if_neg (by omega), if_neg (by omega), hR 2 (by decide) (by decide), if_neg (by decide), if_neg (by decide), if_pos rfl]
    exact a2
  · rw [f_part_R hr hs8 (by omega), if_neg (by omega), if_neg (by omega), hR 3 (by decide) (by decide), if_neg (by decide), if_neg (by decide), if_neg (by decide), if_pos rfl]
    exact a3
  · rw [f_part_R hr hs8 (by omega), if_neg (by omega), if_neg (by omega), hR 4 (by decide) (by decide), if_neg (by decide), if_neg (by decide), if_neg (by decide), if_neg (by decide), if_pos rfl]
    exact a4
  · have a6 := a5 (p + q) (by omega) (by omega)
    have p2 : ∀ f, 0 ≤ f → f < 13 → f_P (f_part w r p) s q f = if q = 0 ∧ 1 ≤ f then 0 else f_P w r (p + q) f := fun f f1 f2 => by
      rw [f_part_P hr hs8 ⟨q1, by omega⟩ ⟨f1, f2⟩, f_onl_P h2 hn ⟨q1, by omega⟩ ⟨f1, f2⟩, e1, f_P_clr hs8 (by omega) ⟨q1, by omega⟩ ⟨f1, f2⟩, f_P_ptl hr hs8 (by omega) (by omega) hl ⟨q1, by omega⟩ ⟨f1, f2⟩]
    have c1 : ∀ (g g0 : Int → Int) (k : Int), 0 ≤ k → k < 6 → f_cp g (p * 6) g0 (0 * 6) ((ln - p) * 6) (q * 6 + k) = g ((p + q) * 6 + k) := fun g g0 k k1 k2 => by
      unfold f_cp
      rw [if_pos (by omega), show p * 6 + (q * 6 + k - 0 * 6) = (p + q) * 6 + k by omega]
    have c2 : f_cp ti p t0 0 (ln - p) q = ti (p + q) := by
      unfold f_cp
      rw [if_pos (by omega), show p + (q - 0) = p + q by omega]
    rw [c2, p2 0 (by decide) (by decide), if_neg (by omega)]
    refine ⟨a6.1, fun k k1 k2 => ?_⟩
    have a7 := a6.2 k k1 k2
    rw [c1 _ _ k k1 k2, c1 _ _ k k1 k2, p2 (1 + k) (by omega) (by omega), p2 (7 + k) (by omega) (by omega)]
    by_cases hq : q = 0
    · rw [if_pos ⟨hq, by omega⟩, if_pos ⟨hq, by omega⟩]
      refine ⟨?_, fun z => absurd rfl z⟩
      unfold f_fgt
      rw [if_pos (by omega)]
    · rw [if_neg (by omega), if_neg (by omega)]
      refine ⟨?_, a7.2⟩
      unfold f_fgt
      rw [if_neg (by omega), if_neg (by omega)]
      exact a7.1
theorem f_part_out {w : Int → Int} {r p i : Int} (hp : 0 ≤ p ∧ p < 24) (hr : 0 ≤ r ∧ r < 8) (hl : f_R w r 1 ≤ 24) (h1 : f_R w r 0 = 1) (hi1 : ¬ (4 + 320 * r ≤ i ∧ i < 324 + 320 * r)) (hi2 : ¬ (4 + 320 * f_pfr w r p ≤ i ∧ i < 324 + 320 * f_pfr w r p)) : f_part w r p i = w i := by
  have e1 : f_p2 w r p i = w i := ((f_p2_r hr hp hl h1).1 i (by omega)).trans (f_onl_p1 hp.1 hl i (by omega))
  unfold f_part
  split
  · rw [f_onl_sR (by omega) i (by omega), f_onl_sR (by omega) i (by omega)]
    exact e1
  · rw [f_onl_sR (by omega) i (by omega)]
    exact e1
theorem f_p1_none {w : Int → Int} {r p : Int} (h : f_pfr w r p = -1) : f_p1 w r p = w := by
  unfold f_p1
  rw [if_pos h]

