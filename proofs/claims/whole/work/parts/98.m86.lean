/-! what holds between calls: lines grow, pasts stay good -/
theorem ml_note {w : Int → Int} {r p a b c : Int} : w 1 ≤ f_note w r p a b c 1 := by
  unfold f_note
  split
  · exact Int.le_refl _
  · rw [f_up_same]
    omega
theorem ml_onl {w v : Int → Int} {r : Int} (hr : 0 ≤ r) (h : f_onl r w v) : v 1 = w 1 := h 1 (by omega)
theorem ml_out {w v : Int → Int} (h : f_out w v) : v 1 = w 1 := h 1 (by omega)
theorem ml_tie {w : Int → Int} {r p k hand : Int} (hr : 0 ≤ r) (hp : 0 ≤ p ∧ p < 24) (hk : 0 ≤ k ∧ k < 6) : w 1 ≤ f_tie w r p k hand 1 := by
  unfold f_tie
  have e := ml_onl hr (f_onl_tr (f_onl_sP (w := w) (r := r) (p := p) (f := 0) (v := k) hp (by omega)) (f_onl_more (v := f_sP w r p 0 k (2564 + k)) hp hk))
  rw [← e]
  exact ml_note
theorem ml_stW {w : Int → Int} {r p k : Int} (hr : 0 ≤ r) (hp : 0 ≤ p ∧ p < 24) (hk : 0 ≤ k ∧ k < 6) : w 1 ≤ f_stW w r p k 1 := by
  unfold f_stW
  have e := ml_onl hr (f_onl_tr (f_onl_sP (w := w) (r := r) (p := p) (f := 0) (v := k) hp (by omega)) (f_onl_more (v := 1) hp hk))
  rw [← e]
  exact ml_note
theorem ml_fold {Ls : Int → List f_Ln} {w0 : Int → Int} {r f : Int} (hr : 0 ≤ r ∧ r < 8) : ∀ (L : List Int) (s : f_St), (∀ q ∈ L, (0 ≤ q ∧ q < 24) ∧ f_cl w0 r q ≠ -1) → s.1 1 ≤ (L.foldl (f_stS Ls w0 r f) s).1 1
  | [], s, _ => Int.le_refl _
  | q :: tl, s, hl => by
    have hq := hl q List.mem_cons_self
    have hc := f_cl_rg (w := w0) (r := r) (p := q)
    have h1 : s.1 1 ≤ (f_stS Ls w0 r f s q).1 1 := by
      unfold f_stS
      split
      · exact ml_stW hr.1 hq.1 (by omega)
      · exact Int.le_refl _
    exact Int.le_trans h1 (ml_fold hr tl _ (fun x hx => hl x (List.mem_cons_of_mem _ hx)))
theorem ml_stch {Ls : Int → List f_Ln} {w : Int → Int} {r f : Int} (hr : 0 ≤ r ∧ r < 8) (hw : f_iv w) : w 1 ≤ (f_stch Ls w r f).1 1 := by
  have h := hw.1 r hr.1 hr.2
  refine ml_fold (s := (w, 0, -1, -1)) hr _ (fun q hq => ?_)
  have e := f_lrow_ok h.2.1 q (List.mem_reverse.mp hq)
  exact ⟨⟨e.1, by omega⟩, e.2.2⟩
theorem ml_puls {Ls : Int → List f_Ln} {w : Int → Int} {r f : Int} (hr : 0 ≤ r ∧ r < 8) (hl : 1 ≤ f_R w r 1) (hw : f_jv Ls w) : w 1 ≤ f_puls Ls w r f 1 := by
  have h0 := ml_stch (Ls := Ls) (f := f) hr hw.1
  have h1 := f_stch_ok (Ls := Ls) (f := f) hr hw.1
  have h2 := f_jv_stch (f := f) hr hw
  have h3 : f_R (f_stch Ls w r f).1 r 1 = f_R w r 1 := h1.2.2.2.2.2 r 1 (by omega)
  have h4 := (h2.1.1 r hr.1 hr.2).2.2
  unfold f_puls
  split
  · exact h0
  · rcases f_brk_rg (Ls := Ls) (w := (f_stch Ls w r f).1) (r := r) (f := f) (by omega) with e | e
    · contradiction
    · have h5 := (f_part_ok hr e h4).1
      have h6 := ml_out h5
      refine Int.le_trans h0 ?_
      rw [← h6]
      exact ml_note
theorem ml_lp {w0 : Int → Int} {lo hi : Int} {w : Int → Int} {g : Int → (Int → Int) → (Int → Int)} (h0 : w0 1 ≤ w 1) (hg : ∀ (i : Int) (x : Int → Int), lo ≤ i → i < hi → g i x 1 = x 1) : w0 1 ≤ f_loop g lo hi w 1 := f_loop_inv (P := fun (x : Int → Int) => w0 1 ≤ x 1) h0 (fun i x a b c => by rw [hg i x a b]; exact c)
theorem ml_sR {w : Int → Int} {r f v : Int} (hr : 0 ≤ r ∧ r < 8) (hf : 0 ≤ f ∧ f < 8) : f_sR w r f v 1 = w 1 := f_sR_out ⟨hr.1, hr.2, hf.1, hf.2⟩ (by omega)
theorem ml_splice {w : Int → Int} {a b : Int} (ha : 0 ≤ a ∧ a < 8) (hb : 0 ≤ b ∧ b < 8) (hn : 1 ≤ f_R w a 1 ∧ f_R w a 1 + f_R w b 1 ≤ 24) (hb1 : 0 ≤ f_R w b 1) : w 1 ≤ f_splice w a b 1 := by
  have h1 : w 1 ≤ f_sp1 w a (f_R w a 1) b 1 := by
    unfold f_sp1
    refine ml_lp ml_note (fun k x k1 k2 => ?_)
    unfold f_spS
    rw [f_hab_out ⟨hb.1, hb.2, by omega, by omega, k1, k2⟩ (by omega), f_hab_out ⟨ha.1, ha.2, by omega, by omega, k1, k2⟩ (by omega)]
  have h2 : w 1 ≤ f_sp2 w a (f_R w a 1) b 1 := by
    unfold f_sp2
    exact ml_lp h1 (fun q x q1 q2 => ml_out (f_out_cpy ha ⟨by omega, by omega⟩))
  unfold f_splice f_sp4 f_sp3
  rw [ml_sR hb (by omega), ml_sR ha (by omega), ml_sR ha (by omega)]
  exact h2
theorem ml_wets {w : Int → Int} {r v : Int} (hr : 0 ≤ r) (hl : f_R w r 1 ≤ 24) : f_wets w r v 1 = w 1 := ml_onl hr (f_onl_wets hl)
theorem ml_fgA {Ls : Int → List f_Ln} {w : Int → Int} (hw : f_jv Ls w) : w 1 ≤ f_fgA Ls w 1 := by
  unfold f_fgA
  refine (f_loop_inv (P := fun x => (f_jv Ls x ∧ f_k0 w x) ∧ w 1 ≤ x 1) ⟨⟨hw, f_k0_refl⟩, Int.le_refl _⟩ (fun r x a b c => ⟨f_fgR_ok ⟨a, b⟩ c.1, ?_⟩)).2
  unfold f_fgR
  split
  · rw [ml_onl a (f_onl_fg ⟨a, b⟩ (c.1.1.1.1 r a b).2.2)]
    exact c.2
  · exact c.2
theorem ml_drw {w : Int → Int} : f_drw w 1 = w 1 := f_drw_at (by omega)
theorem ml_stmS {Ls : Int → List f_Ln} {w0 : Int → Int} {set r : Int} {s : f_Dy} (hr : 0 ≤ r ∧ r < 8) (h : f_stI Ls w0 set r s) : s.1 1 ≤ (f_stmS Ls set r s).1 1 := by
  obtain ⟨h1, h2, h3, h4⟩ := h
  unfold f_stmS
  split
  · exact Int.le_refl _
  · rename_i hb
    have e := h4 r (by omega) hr.2 hb
    have e2 := (h1.2.1 r hr.1 hr.2).2 e
    have e3 : 1 ≤ f_R (f_drw s.1) r 1 := by
      rw [f_R_drw (by omega)]
      omega
    have e4 := ml_puls (f := f_rnd s.1 100) hr e3 (f_jv_drw h1)
    rw [ml_drw] at e4
    exact e4
theorem ml_stm {Ls : Int → List f_Ln} {w : Int → Int} (hw : f_jv Ls w) : w 1 ≤ (f_stm Ls w).1 1 := by
  unfold f_stm
  split
  · split
    · have q := f_loop_ix (P := fun r s => f_stI Ls w (f_set (f_drw w)) r s ∧ w 1 ≤ s.1 1) (g := f_stmS Ls (f_set (f_drw w))) (lo := 0) (hi := 8) (a := (f_drw w, 0)) (by decide) ⟨f_stI_0 hw, by show w 1 ≤ f_drw w 1; rw [ml_drw]; exact Int.le_refl _⟩ (fun r s a b c => ⟨f_stmS_ok ⟨a, b⟩ c.1, Int.le_trans c.2 (ml_stmS ⟨a, b⟩ c.1)⟩)
      exact q.2
    · show w 1 ≤ f_drw w 1
      rw [ml_drw]
      exact Int.le_refl _
  · exact Int.le_refl _
theorem ml_day {Ls : Int → List f_Ln} {w : Int → Int} (hw : f_jv Ls w) : w 1 ≤ (f_day Ls w).1 1 := by
  show w 1 ≤ f_up (f_stm Ls (f_fgA Ls w)).1 0 ((f_stm Ls (f_fgA Ls w)).1 0 + 1) 1
  rw [f_up_o (by decide)]
  exact Int.le_trans (ml_fgA hw) (ml_stm (f_fgA_ok hw).1)
theorem ml_dnW {Ls : Int → List f_Ln} {w : Int → Int} {r hand kind x y : Int} (hr : f_isR w r) (h : f_dnH w kind x) (hw : f_jv Ls w) : w 1 ≤ f_dnW Ls w r hand kind x y 1 := by
  obtain ⟨h0, h1, h2, h3⟩ := h
  have hr8 : 0 ≤ r ∧ r < 8 := by omega
  have hl := hw.1.1 r hr8.1 hr8.2
  have hh := (hw.2.1 r hr8.1 hr8.2).2 hr.2.2
  unfold f_dnW
  split
  · split
    · exact ml_tie hr8.1 (by omega) (by omega)
    · exact Int.le_refl _
  · split
    · split
      · rw [ml_onl hr8.1 (f_onl_sP (w := w) (r := r) (p := x) (f := 0) (v := -1) (by omega) (by omega))]
        exact Int.le_refl _
      · exact Int.le_refl _
    · split
      · exact ml_puls hr8 (by omega) hw
      · split
        · rw [ml_wets hr8.1 hl.2.2]
          exact Int.le_refl _
        · have q := f_loop_ix (P := fun k z => (f_jv Ls z ∧ z 0 = w 0 + k) ∧ w 1 ≤ z 1) (g := fun _ z => (f_day Ls z).1) (lo := 0) (hi := x) (a := w) (by omega) ⟨⟨hw, by omega⟩, Int.le_refl _⟩ (fun k z a b c => by
            have d := f_day_ok c.1.1 (by omega)
            exact ⟨⟨d.1, by rw [d.2.1, c.1.2]; omega⟩, Int.le_trans c.2 (ml_day c.1.1)⟩)
          exact q.2
theorem f_dl_ok {Ls : Int → List f_Ln} {w : Int → Int} {r hand : Int} (hw : f_jv Ls w) (hd : f_dr w) (hx : w 0 + f_rs w ≤ 9999) : f_jv Ls (f_dl Ls w r hand).1 ∧ f_ag w (f_dl Ls w r hand).1 ∧ w 1 ≤ (f_dl Ls w r hand).1 1 := by
  have q := f_loop_ix (P := fun x s => (f_jv Ls s.1 ∧ f_ag w s.1 ∧ w 1 ≤ s.1 1) ∧ s.1 0 + f_loop (f_rsS w) x (w 2600) 0 ≤ 9999) (g := f_dlS Ls w r hand) (lo := 0) (hi := w 2600) (a := (w, 0)) hd.1.1 ⟨⟨hw, fun _ _ _ => rfl, Int.le_refl _⟩, hx⟩ (fun x s a b c => ?_)
  · exact q.1
  · obtain ⟨⟨c1, c2, c3⟩, c4⟩ := c
    have qd3 := hd.2 x a b
    have qg1 := f_rs_step (w := w) (N := w 2600) (x := x) b
    have qg2 := f_rs_pos hd (w 2600 - (x + 1)).toNat (x + 1) (by omega) (by omega)
    have qg3 : 0 ≤ (if w (3984 + 3 * x) = 14 then w (3984 + 3 * x + 1) else 0) := by
      split
      · exact (qd3.2.2.2 (by assumption)).1
      · omega
    unfold f_dlS
    split
    · rename_i hr
      have qh : f_dnH s.1 (w (3984 + 3 * x)) (w (3984 + 3 * x + 1)) := by
        refine ⟨qd3.1, qd3.2.1, qd3.2.2.1, fun hk => ?_⟩
        have qq := qd3.2.2.2 hk
        rw [if_pos hk] at qg1
        omega
      have qf := f_dnW_ok (hand := hand) (y := w (3984 + 3 * x + 2)) hr qh c1
      have qm := ml_dnW (hand := hand) (y := w (3984 + 3 * x + 2)) hr qh c1
      refine ⟨⟨qf.1, fun i u v => (qf.2.1 i u v).trans (c2 i u v), Int.le_trans c3 qm⟩, ?_⟩
      show (f_dnW Ls s.1 r hand (w (3984 + 3 * x)) (w (3984 + 3 * x + 1)) (w (3984 + 3 * x + 2))) 0 + _ ≤ _
      rw [qf.2.2]
      omega
    · exact ⟨⟨c1, c2, c3⟩, by omega⟩
/-! main part, lore part -/
def f_mp (w : Int → Int) : Prop := f_ok w ∧ f_rg w ∧ ((0 ≤ w 0 ∧ w 0 ≤ 9999) ∧ 0 ≤ w 1 ∧ w 1 ≤ 200) ∧ f_hd w
theorem f_mp_jv {Ls : Int → List f_Ln} {w : Int → Int} (h : f_jv Ls w) : f_mp w := ⟨h.1.1, h.1.2.1, ⟨h.1.2.2.1, h.1.2.2.2.1⟩, h.2.1⟩
theorem f_mp_cg {w v : Int → Int} (h : ∀ i, 0 ≤ i → i < 2564 → v i = w i) (hw : f_mp w) : f_mp v := by
  have hR : ∀ r f, 0 ≤ r → r < 8 → 0 ≤ f → f < 8 → f_R v r f = f_R w r f := fun r f r1 r2 f1 f2 => h _ (by omega) (by omega)
  refine ⟨fun r r1 r2 => ?_, fun r p f r1 r2 p1 p2 f1 f2 => ?_, ?_, fun r r1 r2 => ?_⟩
  · rw [hR r 0 r1 r2 (by decide) (by decide), hR r 1 r1 r2 (by decide) (by decide)]
    exact hw.1 r r1 r2
  · have e : f_P v r p f = f_P w r p f := h _ (by omega) (by omega)
    rw [e]
    exact hw.2.1 r p f r1 r2 p1 p2 f1 f2
  · rw [h 0 (by decide) (by decide), h 1 (by decide) (by decide)]
    exact hw.2.2.1
  · rw [hR r 4 r1 r2 (by decide) (by decide), hR r 0 r1 r2 (by decide) (by decide), hR r 1 r1 r2 (by decide) (by decide)]
    exact hw.2.2.2 r r1 r2
def f_tg (w : Int → Int) : Prop := ∀ k, 0 ≤ k → k < 6 → 1 ≤ w (2564 + k) ∧ w (2564 + k) ≤ 9
theorem f_jv_mk {Ls : Int → List f_Ln} {w : Int → Int} (h : f_mp w) (ht : f_tg w) (hl : f_lw Ls w) : f_jv Ls w := ⟨⟨h.1, h.2.1, h.2.2.1.1, h.2.2.1.2, ht⟩, h.2.2.2, hl⟩
def f_lq (w : Int → Int) : Prop := f_dr w ∧ f_dr2 w ∧ f_shp w ∧ (0 ≤ w 2577 ∧ w 2577 ≤ 6) ∧ (0 ≤ w 2578 ∧ w 2578 ≤ 7) ∧ ∀ i, 0 ≤ i → i < w 2578 → 1 ≤ w (2592 + i) ∧ w (2592 + i) ≤ 24
/-- what is told stays -/
def f_a2 (w v : Int → Int) : Prop := ∀ i, 2577 ≤ i → (i < 2640 ∨ 3840 ≤ i) → v i = w i
theorem f_a2_ag {w v : Int → Int} (h : f_ag w v) : f_a2 w v := fun i a b => h i (by omega) b
theorem f_dr_a {w v : Int → Int} (h : ∀ i, i = 2600 ∨ (3984 ≤ i ∧ i < 4434) → v i = w i) (hw : f_dr w) : f_dr v := by
  unfold f_dr
  rw [h 2600 (Or.inl rfl)]
  refine ⟨hw.1, fun x a b => ?_⟩
  have := hw.1
  rw [h (3984 + 3 * x) (by omega), h (3984 + 3 * x + 1) (by omega)]
  exact hw.2 x a b
theorem f_dr2_a {w v : Int → Int} (h : ∀ i, i = 2600 ∨ (3984 ≤ i ∧ i < 4434) → v i = w i) (h0 : f_dr w) (hw : f_dr2 w) : f_dr2 v := by
  unfold f_dr2
  rw [h 2600 (Or.inl rfl)]
  intro x a b
  have := h0.1
  rw [h (3984 + 3 * x) (by omega), h (3984 + 3 * x + 1) (by omega)]
  exact hw x a b
theorem f_shp_a {w v : Int → Int} (h : ∀ i, 2601 ≤ i → i < 2634 → v i = w i) (hw : f_shp w) : f_shp v := by
  intro k a b
  have e := hw k a b
  rw [h (2601 + k) (by omega) (by omega)]
  refine ⟨e.1, fun x c d => ?_⟩
  rw [h (2606 + 7 * k + x) (by omega) (by omega)]
  exact e.2 x c d
theorem f_lq_a2 {w v : Int → Int} (h : f_a2 w v) (hw : f_lq w) : f_lq v := by
  obtain ⟨h1, h2, h3, h4, h5, h6⟩ := hw
  refine ⟨f_dr_a (fun i hi => h i (by omega) (by omega)) h1, f_dr2_a (fun i hi => h i (by omega) (by omega)) h1 h2, f_shp_a (fun i a b => h i (by omega) (by omega)) h3, ?_, ?_, ?_⟩
  · rw [h 2577 (by decide) (by decide)]
    exact h4
  · rw [h 2578 (by decide) (by decide)]
    exact h5
  · rw [h 2578 (by decide) (by decide)]
    intro i a b
    rw [h (2592 + i) (by omega) (by omega)]
    exact h6 i a b
theorem f_dm_a {M : ax_Mem} {c : Int} {w v : Int → Int} (h : ∀ i, i = 2600 ∨ (3984 ≤ i ∧ i < 4434) → v i = w i) (h0 : f_dr w) (hw : f_dm M c w) : f_dm M c v := by
  have := h0.1
  unfold f_dm
  rw [h 2600 (Or.inl rfl)]
  refine ⟨hw.1, fun i a b => ?_⟩
  rw [h (3984 + 3 * i) (by omega), h (3984 + 3 * i + 1) (by omega), h (3984 + 3 * i + 2) (by omega)]
  exact hw.2 i a b
theorem f_lt_a {M : ax_Mem} {c : Int} {w v : Int → Int} (h : ∀ i, 2601 ≤ i → i < 2634 → v i = w i) (h0 : f_shp w) (hw : f_lt M c w) : f_lt M c v := by
  intro k a b
  have e := hw k a b
  have e2 := h0 k a b
  rw [h (2601 + k) (by omega) (by omega)]
  refine ⟨e.1, fun i c d => ?_⟩
  rw [h (2606 + 7 * k + i) (by omega) (by omega)]
  exact e.2 i c d
theorem f_tl_a {M : ax_Mem} {c : Int} {w v : Int → Int} (h : ∀ i, 2577 ≤ i → i < 2592 → v i = w i) (h0 : 0 ≤ w 2577 ∧ w 2577 ≤ 6) (hw : f_tl M c w) : f_tl M c v := by
  unfold f_tl
  rw [h 2577 (by decide) (by decide)]
  refine ⟨hw.1, fun i a b => ?_⟩
  rw [h (2580 + 2 * i) (by omega) (by omega), h (2580 + 2 * i + 1) (by omega) (by omega)]
  exact hw.2 i a b
theorem f_or_a {M : ax_Mem} {c : Int} {w v : Int → Int} (h : ∀ i, i = 2578 ∨ (2592 ≤ i ∧ i < 2599) → v i = w i) (h0 : 0 ≤ w 2578 ∧ w 2578 ≤ 7) (hw : f_or M c w) : f_or M c v := by
  unfold f_or
  rw [h 2578 (Or.inl rfl)]
  refine ⟨hw.1, fun i a b => ?_⟩
  rw [h (2592 + i) (by omega)]
  exact hw.2 i a b
theorem f_lor_a2 {M : ax_Mem} {c : Int} {w v : Int → Int} {Ls : Int → List f_Ln} (h : f_a2 w v) (h0 : f_lq w) (hw : f_lor M c w Ls) : f_lor M c v Ls := ⟨hw.1, f_dm_a (fun i hi => h i (by omega) (by omega)) h0.1 hw.2.1, f_lt_a (fun i a b => h i (by omega) (by omega)) h0.2.2.1 hw.2.2.1, f_tl_a (fun i a b => h i (by omega) (by omega)) h0.2.2.2.1 hw.2.2.2.1, f_or_a (fun i hi => h i (by omega) (by omega)) h0.2.2.2.2.1 hw.2.2.2.2⟩
/-! the pasts -/
def f_hs (bk : Int → Int) (m : Int) (w : Int → Int) : Prop := (0 ≤ m ∧ m ≤ 5) ∧ f_mno bk m w ∧ ∀ k, 0 ≤ k → k < m → f_mp (f_bw bk k w)
theorem f_bw_1 {bk w : Int → Int} {k : Int} : f_bw bk k w 1 = bk (2564 * k + 1) := if_pos (by decide)
theorem f_hs_keep {bk w w2 : Int → Int} {m : Int} (h : f_hs bk m w) (hw : f_mp w) (h1 : w 1 ≤ w2 1) : f_hs (f_keep bk w m) (f_keepN m) w2 := by
  obtain ⟨hm, ⟨n1, n2⟩, hp⟩ := h
  have key : ∀ k, 0 ≤ k → k < f_keepN m → f_bw (f_keep bk w m) k w = w ∨ ∃ j, 0 ≤ j ∧ j < m ∧ f_bw (f_keep bk w m) k w = f_bw bk j w := by
    intro k k1 k2
    unfold f_keepN at k2
    by_cases h5 : m = 5
    · rw [if_pos h5] at k2
      rw [h5, f_bw_keep5 ⟨k1, by omega⟩]
      by_cases h4 : k = 4
      · exact Or.inl (if_pos h4)
      · exact Or.inr ⟨k + 1, by omega, by omega, if_neg h4⟩
    · rw [if_neg h5] at k2
      rw [f_bw_keep ⟨hm.1, by omega⟩ ⟨k1, by omega⟩]
      by_cases h4 : k = m
      · exact Or.inl (if_pos h4)
      · exact Or.inr ⟨k, k1, by omega, if_neg h4⟩
  have ord : ∀ k l, 0 ≤ k → k ≤ l → l < f_keepN m → f_keep bk w m (2564 * k + 1) ≤ f_keep bk w m (2564 * l + 1) := by
    intro k l k1 k2 k3
    have e1 : f_keep bk w m (2564 * k + 1) = f_bw (f_keep bk w m) k w 1 := f_bw_1.symm
    have e2 : f_keep bk w m (2564 * l + 1) = f_bw (f_keep bk w m) l w 1 := f_bw_1.symm
    rw [e1, e2]
    unfold f_keepN at k3
    by_cases h5 : m = 5
    · rw [if_pos h5] at k3
      rw [h5, f_bw_keep5 ⟨k1, by omega⟩, f_bw_keep5 ⟨by omega, by omega⟩]
      by_cases h4 : l = 4
      · rw [if_pos h4]
        by_cases h6 : k = 4
        · rw [if_pos h6]
          exact Int.le_refl _
        · rw [if_neg h6, f_bw_1]
          exact n1 (k + 1) (by omega) (by omega)
      · rw [if_neg h4, if_neg (by omega), f_bw_1, f_bw_1]
        exact n2 (k + 1) (l + 1) (by omega) (by omega) (by omega)
    · rw [if_neg h5] at k3
      rw [f_bw_keep ⟨hm.1, by omega⟩ ⟨k1, by omega⟩, f_bw_keep ⟨hm.1, by omega⟩ ⟨by omega, by omega⟩]
      by_cases h4 : l = m
      · rw [if_pos h4]
        by_cases h6 : k = m
        · rw [if_pos h6]
          exact Int.le_refl _
        · rw [if_neg h6, f_bw_1]
          exact n1 k k1 (by omega)
      · rw [if_neg h4, if_neg (by omega), f_bw_1, f_bw_1]
        exact n2 k l k1 k2 (by omega)
  refine ⟨f_keepN_rg hm, ⟨fun k k1 k2 => ?_, ord⟩, fun k k1 k2 => ?_⟩
  · rw [← f_bw_1 (bk := f_keep bk w m) (k := k) (w := w)]
    rcases key k k1 k2 with e | ⟨j, j1, j2, e⟩
    · rw [e]
      exact h1
    · rw [e, f_bw_1]
      exact Int.le_trans (n1 j j1 j2) h1
  · refine f_mp_cg (w := f_bw (f_keep bk w m) k w) (fun i i1 i2 => ?_) ?_
    · show (if 0 ≤ i ∧ i < 2564 then _ else _) = (if 0 ≤ i ∧ i < 2564 then _ else _)
      rw [if_pos ⟨i1, i2⟩, if_pos ⟨i1, i2⟩]
    · rcases key k k1 k2 with e | ⟨j, j1, j2, e⟩
      · rw [e]
        exact hw
      · rw [e]
        exact hp j j1 j2
theorem f_hs_0 {bk w : Int → Int} : f_hs bk 0 w := ⟨⟨Int.le_refl 0, by decide⟩, ⟨fun k a b => by omega, fun k l a b c => by omega⟩, fun k a b => by omega⟩
theorem f_hs_w {bk w v : Int → Int} {m : Int} (h : f_hs bk m w) (h1 : v 1 = w 1) : f_hs bk m v := by
  refine ⟨h.1, ⟨fun k a b => by rw [h1]; exact h.2.1.1 k a b, h.2.1.2⟩, fun k a b => f_mp_cg (w := f_bw bk k w) (fun i i1 i2 => ?_) (h.2.2 k a b)⟩
  show (if 0 ≤ i ∧ i < 2564 then _ else _) = (if 0 ≤ i ∧ i < 2564 then _ else _)
  rw [if_pos ⟨i1, i2⟩, if_pos ⟨i1, i2⟩]
theorem f_hs_undo {bk w : Int → Int} {m : Int} (h : f_hs bk m w) (hm : 0 < m) : f_hs bk (m - 1) (f_bw bk (m - 1) w) := by
  obtain ⟨h0, ⟨n1, n2⟩, hp⟩ := h
  refine ⟨by omega, ⟨fun k a b => ?_, fun k l a b c => n2 k l a b (by omega)⟩, fun k a b => ?_⟩
  · rw [f_bw_1]
    exact n2 k (m - 1) a (by omega) (by omega)
  · refine f_mp_cg (w := f_bw bk k w) (fun i i1 i2 => ?_) (hp k a (by omega))
    show (if 0 ≤ i ∧ i < 2564 then _ else _) = (if 0 ≤ i ∧ i < 2564 then _ else _)
    rw [if_pos ⟨i1, i2⟩, if_pos ⟨i1, i2⟩]
theorem f_dys_ok {Ls : Int → List f_Ln} {w b : Int → Int} {m n : Int} (hw : f_jv Ls w) (hn : 1 ≤ n ∧ w 0 + n ≤ 9999) (h : f_hs b m w) : f_jv Ls (f_dys Ls w b m n).1 ∧ f_ag w (f_dys Ls w b m n).1 ∧ f_hs (f_dys Ls w b m n).2.1 (f_dys Ls w b m n).2.2.1 (f_dys Ls w b m n).1 := by
  have q := f_loop_ix (P := fun k s => (f_jv Ls s.1 ∧ f_ag w s.1 ∧ f_hs s.2.1 s.2.2.1 s.1) ∧ s.1 0 = w 0 + k) (g := f_dysS Ls) (lo := 0) (hi := n) (a := (w, b, m, 0)) (by omega) ⟨⟨hw, fun _ _ _ => rfl, h⟩, by show w 0 = w 0 + 0; omega⟩ (fun k s a c d => ?_)
  · exact q.1
  · obtain ⟨⟨d1, d2, d3⟩, d4⟩ := d
    have e := f_day_ok d1 (by omega)
    refine ⟨⟨e.1, fun i u v => (e.2.2.1 i u v).trans (d2 i u v), f_hs_keep d3 (f_mp_jv d1) (ml_day d1)⟩, ?_⟩
    show (f_day Ls s.1).1 0 = _
    rw [e.2.1, d4]
    omega
