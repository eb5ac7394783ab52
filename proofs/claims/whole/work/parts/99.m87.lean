/-! what holds between calls -/
def f_IV (M : ax_Mem) (Ls Lk : Int → List f_Ln) (w kp bk ta : Int → Int) (m im tn fk fp : Int) : Prop :=
  (f_nb M w ∧ f_jv Ls w ∧ f_lq w) ∧ (f_pr M bk m w ∧ f_hs bk m w) ∧ f_lor M 39 w Ls ∧ (M 59 = ta ∧ M 58 1 = tn ∧ (0 ≤ tn ∧ tn ≤ 400) ∧ f_tp ta tn) ∧ (M 58 2 = fk ∧ M 58 3 = fp) ∧ (M 0 13 = im ∧ (im = 0 ∨ im = 1)) ∧ (im = 1 → f_wm M 273 kp ∧ f_bk M 310 kp ∧ f_lor M 311 kp Lk ∧ f_jv Lk kp ∧ f_lq kp) ∧ ∀ i, 6894 ≤ i → kp i = w i
def f_INV (M : ax_Mem) : Prop := (0 ≤ M 330 21 ∧ M 330 21 ≤ 9999) ∧ ∃ Ls Lk, f_IV M Ls Lk (M 331) (M 332) (M 333) (M 339) (M 330 4) (M 330 5) (M 330 17) (M 330 24) (M 330 26)
theorem f_INV_mk {N : ax_Mem} {Ls Lk : Int → List f_Ln} {w kp bk ta : Int → Int} {m im tn fk fp v : Int} (h : f_IV N Ls Lk w kp bk ta m im tn fk fp) (h1 : N 331 = w) (h2 : N 332 = kp) (h3 : N 333 = bk) (h4 : N 339 = ta) (h5 : N 330 4 = m) (h6 : N 330 5 = im) (h7 : N 330 17 = tn) (h8 : N 330 24 = fk) (h9 : N 330 26 = fp) (h10 : N 330 21 = v) (hv : 0 ≤ v ∧ v ≤ 9999) : f_INV N := by
  refine ⟨by rw [h10]; exact hv, Ls, Lk, ?_⟩
  rw [h1, h2, h3, h4, h5, h6, h7, h8, h9]
  exact h
abbrev f_rc (x i : Int) : Prop := (0 ≤ x ∧ x < 58) ∨ (x = 58 ∧ i ≤ 3) ∨ x = 59 ∨ (92 ≤ x ∧ x < 330)
abbrev f_rd (x i : Int) : Prop := (x = 0 ∧ i = 13) ∨ (39 ≤ x ∧ x < 58) ∨ (x = 58 ∧ i ≤ 3) ∨ x = 59 ∨ (273 ≤ x ∧ x < 330)
abbrev f_re (x i : Int) : Prop := (x = 0 ∧ (i = 12 ∨ i = 13)) ∨ (1 ≤ x ∧ x < 39) ∨ x = 59 ∨ (92 ≤ x ∧ x < 330)
theorem f_nb_f2 {M N : ax_Mem} {w : Int → Int} (hf : ∀ x i, 1 ≤ x → x < 39 → N x i = M x i) (h : f_nb M w) : f_nb N w := ⟨f_wm_fr (fun x j a b => hf x j (by omega) (by omega)) h.1, fun x a b => (hf 38 x (by decide) (by decide)).trans (h.2 x a b)⟩
theorem f_im_fr {M N : ax_Mem} {Lk : Int → List f_Ln} {kp : Int → Int} (hf : ∀ x i, 273 ≤ x → x < 330 → N x i = M x i) (h : f_wm M 273 kp ∧ f_bk M 310 kp ∧ f_lor M 311 kp Lk ∧ f_jv Lk kp ∧ f_lq kp) : f_wm N 273 kp ∧ f_bk N 310 kp ∧ f_lor N 311 kp Lk ∧ f_jv Lk kp ∧ f_lq kp := ⟨f_wm_fr (fun x j a b => hf x j (by omega) (by omega)) h.1, fun x a b => (hf 310 x (by decide) (by decide)).trans (h.2.1 x a b), f_lor_fr (fun x i hx => hf x i (by omega) (by omega)) h.2.2.1, h.2.2.2⟩
theorem f_IV_fr {M N : ax_Mem} {Ls Lk : Int → List f_Ln} {w kp bk ta : Int → Int} {m im tn fk fp : Int} (h : f_IV M Ls Lk w kp bk ta m im tn fk fp) (hf : ∀ x i, f_rc x i → N x i = M x i) : f_IV N Ls Lk w kp bk ta m im tn fk fp := by
  obtain ⟨⟨a1, a2, a3⟩, ⟨b1, b2⟩, c, ⟨d1, d2, d3, d4⟩, ⟨e1, e2⟩, ⟨g1, g2⟩, i, j⟩ := h
  refine ⟨⟨f_nb_f2 (fun x i x1 x2 => hf x i (by unfold f_rc; omega)) a1, a2, a3⟩, ⟨f_pr_fr (fun x i x1 x2 => hf x i (by unfold f_rc; omega)) (hf 0 12 (by decide)) b1, b2⟩, f_lor_fr (fun x i hx => hf x i (by unfold f_rc; omega)) c, ⟨?_, ?_, d3, d4⟩, ⟨?_, ?_⟩, ⟨?_, g2⟩, fun q => f_im_fr (fun x i x1 x2 => hf x i (by unfold f_rc; omega)) (i q), j⟩
  · rw [← d1]
    exact funext fun x => hf 59 x (by unfold f_rc; omega)
  · rw [hf 58 1 (by decide)]; exact d2
  · rw [hf 58 2 (by decide)]; exact e1
  · rw [hf 58 3 (by decide)]; exact e2
  · rw [hf 0 13 (by decide)]; exact g1
theorem f_IV_act {M N : ax_Mem} {Ls Lk : Int → List f_Ln} {w kp bk ta w2 bk2 : Int → Int} {m im tn fk fp m2 : Int} (h : f_IV M Ls Lk w kp bk ta m im tn fk fp) (hf : ∀ x i, f_rd x i → N x i = M x i) (hnb : f_nb N w2) (hpr : f_pr N bk2 m2 w2) (hjv : f_jv Ls w2) (ha : f_a2 w w2) (hhs : f_hs bk2 m2 w2) : f_IV N Ls Lk w2 kp bk2 ta m2 im tn fk fp := by
  obtain ⟨⟨a1, a2, a3⟩, ⟨b1, b2⟩, c, ⟨d1, d2, d3, d4⟩, ⟨e1, e2⟩, ⟨g1, g2⟩, i, j⟩ := h
  refine ⟨⟨hnb, hjv, f_lq_a2 ha a3⟩, ⟨hpr, hhs⟩, f_lor_fr (fun x i hx => hf x i (by unfold f_rd; omega)) (f_lor_a2 ha a3 c), ⟨?_, ?_, d3, d4⟩, ⟨?_, ?_⟩, ⟨?_, g2⟩, fun q => f_im_fr (fun x i x1 x2 => hf x i (by unfold f_rd; omega)) (i q), fun x hx => (j x hx).trans (ha x (by omega) (by omega)).symm⟩
  · rw [← d1]
    exact funext fun x => hf 59 x (by unfold f_rd; omega)
  · rw [hf 58 1 (by decide)]; exact d2
  · rw [hf 58 2 (by decide)]; exact e1
  · rw [hf 58 3 (by decide)]; exact e2
  · rw [hf 0 13 (by decide)]; exact g1
theorem f_lw_2 {Ls : Int → List f_Ln} {w v : Int → Int} (h : ∀ i, (2634 ≤ i ∧ i < 2637) ∨ 3840 ≤ i → v i = w i) (hw : f_lw Ls w) : f_lw Ls v := by
  intro k h1 h2
  have e := h (2634 + k) (by omega)
  rw [e]
  exact ⟨(hw k h1 h2).1, f_lns_of (fun i hi => h i (by omega)) h1 e (by omega) (hw k h1 h2).2⟩
theorem f_IV_lo {M N : ax_Mem} {Ls Ls2 Lk : Int → List f_Ln} {w kp bk ta w2 : Int → Int} {m im tn fk fp tn2 fk2 fp2 : Int} (h : f_IV M Ls Lk w kp bk ta m im tn fk fp) (hf : ∀ x i, f_re x i → N x i = M x i) (h1 : ∀ i, i < 2577 ∨ (2640 ≤ i ∧ i < 3840) ∨ 6894 ≤ i → w2 i = w i) (h2 : f_lw Ls2 w2) (h3 : f_lq w2) (h4 : f_lor N 39 w2 Ls2) (h5 : N 58 1 = tn2 ∧ (0 ≤ tn2 ∧ tn2 ≤ 400) ∧ f_tp ta tn2) (h6 : N 58 2 = fk2 ∧ N 58 3 = fp2) : f_IV N Ls2 Lk w2 kp bk ta m im tn2 fk2 fp2 := by
  obtain ⟨⟨a1, a2, a3⟩, ⟨b1, b2⟩, c, ⟨d1, d2, d3, d4⟩, ⟨e1, e2⟩, ⟨g1, g2⟩, i, j⟩ := h
  have hmp : f_mp w2 := f_mp_cg (fun i i1 i2 => h1 i (by omega)) (f_mp_jv a2)
  have htg : f_tg w2 := fun k k1 k2 => by
    rw [h1 (2564 + k) (by omega)]
    exact a2.1.2.2.2.2 k k1 k2
  have hn0 : f_nb M w2 := ⟨f_wm_w (fun i i1 i2 => h1 i (by omega)) a2.1.1 a1.1, f_bk_of rfl (h1 1 (by omega)) (fun i i1 i2 => h1 i (by omega)) a2.1.2.2.2.1.2 a1.2⟩
  refine ⟨⟨f_nb_f2 (fun x i x1 x2 => hf x i (by unfold f_re; omega)) hn0, f_jv_mk hmp htg h2, h3⟩, ⟨f_pr_fr (fun x i x1 x2 => hf x i (by unfold f_re; omega)) (hf 0 12 (by decide)) (f_pr_w (fun i i1 i2 => h1 i (by omega)) b1), f_hs_w b2 (h1 1 (by omega))⟩, h4, ⟨?_, h5⟩, h6, ⟨?_, g2⟩, fun q => f_im_fr (fun x i x1 x2 => hf x i (by unfold f_re; omega)) (i q), fun x hx => (j x hx).trans (h1 x (by omega)).symm⟩
  · rw [← d1]
    exact funext fun x => hf 59 x (by unfold f_re; omega)
  · rw [hf 0 13 (by decide)]; exact g1
theorem f_IV_tp {M N : ax_Mem} {Ls Lk : Int → List f_Ln} {w kp bk ta ta2 : Int → Int} {m im tn fk fp tn2 : Int} (h : f_IV M Ls Lk w kp bk ta m im tn fk fp) (hf : ∀ x i, ¬ (x = 59 ∨ (x = 58 ∧ i = 1)) → N x i = M x i) (h1 : N 59 = ta2) (h2 : N 58 1 = tn2) (h3 : 0 ≤ tn2 ∧ tn2 ≤ 400) (h4 : f_tp ta2 tn2) : f_IV N Ls Lk w kp bk ta2 m im tn2 fk fp := by
  obtain ⟨⟨a1, a2, a3⟩, ⟨b1, b2⟩, c, ⟨d1, d2, d3, d4⟩, ⟨e1, e2⟩, ⟨g1, g2⟩, i, j⟩ := h
  refine ⟨⟨f_nb_f2 (fun x i x1 x2 => hf x i (by omega)) a1, a2, a3⟩, ⟨f_pr_fr (fun x i x1 x2 => hf x i (by omega)) (hf 0 12 (by decide)) b1, b2⟩, f_lor_fr (fun x i hx => hf x i (by omega)) c, ⟨h1, h2, h3, h4⟩, ⟨?_, ?_⟩, ⟨?_, g2⟩, fun q => f_im_fr (fun x i x1 x2 => hf x i (by omega)) (i q), j⟩
  · rw [hf 58 2 (by decide)]; exact e1
  · rw [hf 58 3 (by decide)]; exact e2
  · rw [hf 0 13 (by decide)]; exact g1
/-! the image -/
theorem f_st_cg {Ls : Int → List f_Ln} {w v : Int → Int} (h : ∀ i, 0 ≤ i → v i = w i) (hj : f_jv Ls w) (hq : f_lq w) : f_jv Ls v ∧ f_lq v := by
  refine ⟨f_jv_mk (f_mp_cg (fun i a _ => h i a) (f_mp_jv hj)) (fun k k1 k2 => ?_) (f_lw_2 (fun i hi => h i (by omega)) hj.2.2), f_lq_a2 (fun i a _ => h i (by omega)) hq⟩
  rw [h (2564 + k) (by omega)]
  exact hj.1.2.2.2.2 k k1 k2
theorem f_cp_ag {f g : Int → Int} (hj : ∀ i, 6894 ≤ i → g i = f i) : ∀ i, 0 ≤ i → f_cp f 0 g 0 6894 i = f i := by
  intro i hi
  unfold f_cp
  split
  · rw [show 0 + (i - 0) = i by omega]
  · exact hj i (by omega)
theorem f_IV_tk {M N : ax_Mem} {Ls Lk : Int → List f_Ln} {w kp bk ta : Int → Int} {m im tn fk fp : Int} (h : f_IV M Ls Lk w kp bk ta m im tn fk fp) (hf : ∀ x i, ¬ ((273 ≤ x ∧ x < 330) ∨ (x = 0 ∧ i = 13)) → N x i = M x i) (h1 : f_wm N 273 w) (h2 : f_bk N 310 w) (h3 : f_lor N 311 w Ls) (h4 : N 0 13 = 1) : f_IV N Ls Ls w (f_cp w 0 kp 0 6894) bk ta m 1 tn fk fp := by
  obtain ⟨⟨a1, a2, a3⟩, ⟨b1, b2⟩, c, ⟨d1, d2, d3, d4⟩, ⟨e1, e2⟩, ⟨g1, g2⟩, i, j⟩ := h
  have hag := f_cp_ag (f := w) (g := kp) j
  have hst := f_st_cg hag a2 a3
  refine ⟨⟨f_nb_f2 (fun x i x1 x2 => hf x i (by omega)) a1, a2, a3⟩, ⟨f_pr_fr (fun x i x1 x2 => hf x i (by omega)) (hf 0 12 (by decide)) b1, b2⟩, f_lor_fr (fun x i hx => hf x i (by omega)) c, ⟨?_, ?_, d3, d4⟩, ⟨?_, ?_⟩, ⟨h4, Or.inr rfl⟩, fun _ => ⟨f_wm_w (fun i i1 _ => hag i i1) a2.1.1 h1, f_bk_of rfl (hag 1 (by decide)) (fun i i1 _ => hag i (by omega)) a2.1.2.2.2.1.2 h2, f_lor_a2 (fun i i1 _ => hag i (by omega)) a3 h3, hst.1, hst.2⟩, fun x hx => hag x (by omega)⟩
  · rw [← d1]
    exact funext fun x => hf 59 x (by omega)
  · rw [hf 58 1 (by decide)]; exact d2
  · rw [hf 58 2 (by decide)]; exact e1
  · rw [hf 58 3 (by decide)]; exact e2
theorem f_img {M : ax_Mem} {Ls Lk : Int → List f_Ln} {w kp bk ta : Int → Int} {m im tn fk fp : Int} (h : f_IV M Ls Lk w kp bk ta m im tn fk fp) (hi : im = 1) : f_wm M 273 (f_cp kp 0 w 0 6894) ∧ f_bk M 310 (f_cp kp 0 w 0 6894) ∧ f_lor M 311 (f_cp kp 0 w 0 6894) Lk ∧ f_jv Lk (f_cp kp 0 w 0 6894) ∧ f_lq (f_cp kp 0 w 0 6894) := by
  obtain ⟨⟨a1, a2, a3⟩, ⟨b1, b2⟩, c, ⟨d1, d2, d3, d4⟩, ⟨e1, e2⟩, ⟨g1, g2⟩, i, j⟩ := h
  obtain ⟨i1, i2, i3, i4, i5⟩ := i hi
  have hag := f_cp_ag (f := kp) (g := w) (fun i hi => (j i hi).symm)
  have hst := f_st_cg hag i4 i5
  exact ⟨f_wm_w (fun i x _ => hag i x) i4.1.1 i1, f_bk_of rfl (hag 1 (by decide)) (fun i x _ => hag i (by omega)) i4.1.2.2.2.1.2 i2, f_lor_a2 (fun i x _ => hag i (by omega)) i5 i3, hst.1, hst.2⟩
theorem f_IV_bk {M N : ax_Mem} {Ls Lk : Int → List f_Ln} {w kp bk ta : Int → Int} {m im tn fk fp : Int} (h : f_IV M Ls Lk w kp bk ta m im tn fk fp) (hi : im = 1) (hf : ∀ x i, ¬ ((1 ≤ x ∧ x < 58) ∨ (x = 0 ∧ i = 12)) → N x i = M x i) (h1 : f_nb N (f_cp kp 0 w 0 6894)) (h3 : f_lor N 39 (f_cp kp 0 w 0 6894) Lk) (h4 : N 0 12 = 0) : f_IV N Lk Lk (f_cp kp 0 w 0 6894) kp bk ta 0 1 tn fk fp := by
  have hst := f_img h hi
  obtain ⟨⟨a1, a2, a3⟩, ⟨b1, b2⟩, c, ⟨d1, d2, d3, d4⟩, ⟨e1, e2⟩, ⟨g1, g2⟩, i, j⟩ := h
  have hag := f_cp_ag (f := kp) (g := w) (fun i hi => (j i hi).symm)
  refine ⟨⟨h1, hst.2.2.2.1, hst.2.2.2.2⟩, ⟨f_pr_0 h4 ?_, f_hs_0⟩, h3, ⟨?_, ?_, d3, d4⟩, ⟨?_, ?_⟩, ⟨?_, Or.inr rfl⟩, fun _ => f_im_fr (fun x i x1 x2 => hf x i (by omega)) (i hi), fun x hx => (hag x (by omega)).symm⟩
  · rw [show N 92 = M 92 from funext fun x => hf 92 x (by omega)]
    exact b1.2.1
  · rw [← d1]
    exact funext fun x => hf 59 x (by omega)
  · rw [hf 58 1 (by decide)]; exact d2
  · rw [hf 58 2 (by decide)]; exact e1
  · rw [hf 58 3 (by decide)]; exact e2
  · rw [hf 0 13 (by decide), g1]; exact hi
/-! single acts -/
theorem f_bw_cp {bk w : Int → Int} {m : Int} : f_cp bk (2564 * (m - 1)) w 0 2564 = f_bw bk (m - 1) w := by
  funext i
  unfold f_cp f_bw
  by_cases h : 0 ≤ i ∧ i < 2564
  · rw [if_pos ⟨h.1, by omega⟩, if_pos h, show 2564 * (m - 1) + (i - 0) = 2564 * (m - 1) + i by omega]
  · rw [if_neg (by omega), if_neg h]
theorem f_bw_a {bk w : Int → Int} {k i : Int} (h : 2564 ≤ i) : f_bw bk k w i = w i := if_neg (by omega)
theorem f_jv_undo {Ls : Int → List f_Ln} {bk w : Int → Int} {m : Int} (h : f_hs bk m w) (hm : 0 < m) (hj : f_jv Ls w) : f_jv Ls (f_bw bk (m - 1) w) := f_jv_mk (h.2.2 (m - 1) (by omega) (by omega)) (fun k k1 k2 => by rw [f_bw_a (by omega)]; exact hj.1.2.2.2.2 k k1 k2) (f_lw_2 (fun i hi => f_bw_a (by omega)) hj.2.2)
theorem f_jv_tie {Ls : Int → List f_Ln} {w : Int → Int} {r p k hand : Int} (hr : 0 ≤ r ∧ r < 8) (hp : 0 ≤ p ∧ p < 24) (hk : 0 ≤ k ∧ k < 6) (hw : f_jv Ls w) : f_jv Ls (f_tie w r p k hand) := f_jv_sm (f_iv_tie hr hp hk hw.1) (f_tie_sm hr hp hk hw.1) hw
theorem f_jv_unt {Ls : Int → List f_Ln} {w : Int → Int} {r p : Int} (hr : 0 ≤ r ∧ r < 8) (hp : 0 ≤ p ∧ p < 24) (hw : f_jv Ls w) : f_jv Ls (f_sP w r p 0 (-1)) := f_jv_sm (f_iv_tied hr hp (by omega) hw.1) (f_sm_sP ⟨hr.1, hr.2, hp.1, hp.2, by omega, by omega⟩) hw
theorem f_jv_sell {Ls : Int → List f_Ln} {w : Int → Int} {r v : Int} (hr : 0 ≤ r ∧ r < 8) (hw : f_jv Ls w) : f_jv Ls (f_sR w r 2 v) ∧ f_out w (f_sR w r 2 v) := by
  have ho : f_out w (f_sR w r 2 v) := fun i hi => f_sR_out ⟨hr.1, hr.2, by omega, by omega⟩ hi
  refine ⟨⟨f_iv_sR ⟨hr.1, hr.2, by omega, by omega⟩ (by omega) (by omega) hw.1, ?_, f_lw_of (f_out_ag ho) hw.2.2⟩, ho⟩
  intro s s1 s2
  have e : ∀ f, 0 ≤ f → f < 8 → f ≠ 2 → f_R (f_sR w r 2 v) s f = f_R w s f := fun f f1 f2 f3 => f_up_o (by omega)
  rw [e 4 (by decide) (by decide) (by decide), e 0 (by decide) (by decide) (by decide), e 1 (by decide) (by decide) (by decide)]
  exact hw.2.1 s s1 s2
theorem f_jv_beg {Ls : Int → List f_Ln} {w : Int → Int} {r n ow bo : Int} (hr : 0 ≤ r ∧ r < 8) (hn : 2 ≤ n ∧ n ≤ 24) (hw : f_jv Ls w) : f_jv Ls (f_beg w r n ow bo 0) := by
  refine ⟨f_iv_beg hr (by omega) hw.1, fun s s1 s2 => ?_, f_lw_of (f_out_ag (f_out_beg hr)) hw.2.2⟩
  rw [f_R_beg hr (by omega), f_R_beg hr (by omega), f_R_beg hr (by omega)]
  have e := hw.2.1 s s1 s2
  by_cases h : s = r
  · simp only [if_pos h]
    show (0 ≤ (0 : Int) ∧ (0 : Int) ≤ 9) ∧ ((1 : Int) = 1 → 2 ≤ n)
    exact ⟨by decide, fun _ => hn.1⟩
  · simp only [if_neg h]
    exact e
theorem f_jv_up {Ls : Int → List f_Ln} {w : Int → Int} {i v : Int} (hi : i = 2 ∨ (2564 ≤ i ∧ i < 2577)) (hv : 2564 ≤ i ∧ i < 2570 → 1 ≤ v ∧ v ≤ 9) (hw : f_jv Ls w) : f_jv Ls (f_up w i v) := by
  refine f_jv_mk ?_ (fun k k1 k2 => ?_) (f_lw_2 (fun j hj => f_up_o (by omega)) hw.2.2)
  · have hR : ∀ r f, 0 ≤ r → r < 8 → 0 ≤ f → f < 8 → f_R (f_up w i v) r f = f_R w r f := fun r f r1 r2 f1 f2 => f_up_o (by omega)
    have hm := f_mp_jv hw
    refine ⟨fun r r1 r2 => ?_, fun r p f r1 r2 p1 p2 f1 f2 => ?_, ?_, fun r r1 r2 => ?_⟩
    · rw [hR r 0 r1 r2 (by decide) (by decide), hR r 1 r1 r2 (by decide) (by decide)]
      exact hm.1 r r1 r2
    · have e : f_P (f_up w i v) r p f = f_P w r p f := f_up_o (by omega)
      rw [e]
      exact hm.2.1 r p f r1 r2 p1 p2 f1 f2
    · rw [f_up_o (by omega), f_up_o (by omega)]
      exact hm.2.2.1
    · rw [hR r 4 r1 r2 (by decide) (by decide), hR r 0 r1 r2 (by decide) (by decide), hR r 1 r1 r2 (by decide) (by decide)]
      exact hm.2.2.2 r r1 r2
  · by_cases h : 2564 + k = i
    · rw [h, f_up_same]
      exact hv (by omega)
    · rw [f_up_o h]
      exact hw.1.2.2.2.2 k k1 k2
theorem f_a2_up {w : Int → Int} {i v : Int} (hi : i < 2577) : f_a2 w (f_up w i v) := fun j a _ => f_up_o (by omega)
