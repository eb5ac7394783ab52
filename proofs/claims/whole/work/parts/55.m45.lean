/-! ties first, the book then -/
theorem f_lp_cg {α : Type} {g h : Int → α → α} {lo hi : Int} (e : ∀ i x, lo ≤ i → i < hi → g i x = h i x) : ∀ {a : α}, f_loop g lo hi a = f_loop h lo hi a := by
  have key : ∀ (n : Nat) (k : Int) (a : α), (n : Int) = hi - k → lo ≤ k → f_loop g k hi a = f_loop h k hi a := by
    intro n
    induction n with
    | zero =>
      intro k a en hk
      rw [f_loop_done (by omega), f_loop_done (by omega)]
    | succ n ih =>
      intro k a en hk
      rw [f_loop_step (g := g) (by omega), f_loop_step (g := h) (by omega), e k a hk (by omega)]
      exact ih (k + 1) _ (by omega) (by omega)
  intro a
  by_cases hl : lo ≤ hi
  · exact key (hi - lo).toNat lo a (by omega) (Int.le_refl lo)
  · rw [f_loop_done (by omega), f_loop_done (by omega)]
/-- all that a law is told of rope r -/
def f_sa (r : Int) (w v : Int → Int) : Prop := v 0 = w 0 ∧ (∀ i, 2564 ≤ i → i < 2576 → v i = w i) ∧ ∀ i, 4 + 320 * r ≤ i → i < 324 + 320 * r → v i = w i
theorem f_sa_P {w v : Int → Int} {r p f : Int} (h : f_sa r w v) (hp : 0 ≤ p ∧ p < 24) (hf : 0 ≤ f ∧ f < 13) : f_P v r p f = f_P w r p f := h.2.2 _ (by omega) (by omega)
theorem f_sa_R {w v : Int → Int} {r f : Int} (h : f_sa r w v) (hf : 0 ≤ f ∧ f < 8) : f_R v r f = f_R w r f := h.2.2 _ (by omega) (by omega)
theorem f_tied_sa {w v : Int → Int} {r : Int} (h : f_sa r w v) (hl : f_R w r 1 ≤ 24) : f_tied v r = f_tied w r := by
  unfold f_tied
  rw [f_sa_R h (by decide)]
  exact f_lp_cg (fun i x i1 i2 => by rw [f_sa_P h ⟨i1, by omega⟩ (by decide)])
theorem f_besd_sa {w v : Int → Int} {r p : Int} (h : f_sa r w v) (hp : 0 ≤ p ∧ p < f_R w r 1) (hl : f_R w r 1 ≤ 24) : f_besd v r p = f_besd w r p := by
  unfold f_besd
  rw [f_sa_R h (by decide)]
  have e1 : f_b (0 < p ∧ f_P v r (p - 1) 0 ≠ -1) = f_b (0 < p ∧ f_P w r (p - 1) 0 ≠ -1) := by
    by_cases h0 : 0 < p
    · rw [f_sa_P h ⟨by omega, by omega⟩ (by decide)]
    · unfold f_b
      rw [if_neg (fun z => h0 z.1), if_neg (fun z => h0 z.1)]
  have e2 : f_b (p + 1 < f_R w r 1 ∧ f_P v r (p + 1) 0 ≠ -1) = f_b (p + 1 < f_R w r 1 ∧ f_P w r (p + 1) 0 ≠ -1) := by
    by_cases h0 : p + 1 < f_R w r 1
    · rw [f_sa_P h ⟨by omega, by omega⟩ (by decide)]
    · unfold f_b
      rw [if_neg (fun z => h0 z.1), if_neg (fun z => h0 z.1)]
  rw [e1, e2]
theorem f_Fh_sa {w v : Int → Int} {r p k h a : Int} (hs : f_sa r w v) (hp : 0 ≤ p ∧ p < f_R w r 1) (hl : f_R w r 1 ≤ 24) (hk : 0 ≤ k ∧ k < 6) : f_Fh v r p k h a = f_Fh w r p k h a := by
  funext i
  unfold f_Fh
  rw [hs.2.1 (2564 + k) (by omega) (by omega), f_sa_R hs (by decide), f_besd_sa hs hp hl, f_tied_sa hs hl]
theorem f_need_sa {Ls : Int → List f_Ln} {w v : Int → Int} {r p k : Int} (hs : f_sa r w v) (hp : 0 ≤ p ∧ p < f_R w r 1) (hl : f_R w r 1 ≤ 24) (hk : 0 ≤ k ∧ k < 6) : f_need Ls v r p k = f_need Ls w r p k := by
  unfold f_need f_needW
  rw [f_sa_P hs ⟨hp.1, by omega⟩ ⟨by omega, by omega⟩, f_sa_P hs ⟨hp.1, by omega⟩ ⟨by omega, by omega⟩, hs.1, f_Fh_sa hs hp hl hk]
theorem f_loss_sa {Ls : Int → List f_Ln} {w v : Int → Int} {r p k : Int} (hs : f_sa r w v) (hp : 0 ≤ p ∧ p < f_R w r 1) (hl : f_R w r 1 ≤ 24) (hk : 0 ≤ k ∧ k < 6) : f_loss Ls v r p k = f_loss Ls w r p k := by
  unfold f_loss
  rw [f_sa_P hs ⟨hp.1, by omega⟩ ⟨by omega, by omega⟩, f_sa_P hs ⟨hp.1, by omega⟩ ⟨by omega, by omega⟩, hs.1, f_Fh_sa hs hp hl hk]
theorem f_str_sa {Ls : Int → List f_Ln} {w v : Int → Int} {r p : Int} (hs : f_sa r w v) (hp : 0 ≤ p ∧ p < 24) (ht : -1 ≤ f_P w r p 0 ∧ f_P w r p 0 ≤ 5) : f_str Ls v r p = f_str Ls w r p := by
  have e1 : f_Fs v r p = f_Fs w r p := by
    funext i
    unfold f_Fs
    have eh : f_habs v r p = f_habs w r p := by
      unfold f_habs
      exact f_lp_cg (fun k x k1 k2 => by rw [f_sa_P hs hp ⟨by omega, by omega⟩])
    rw [f_sa_P hs hp (by decide), f_sa_R hs (by decide), f_sa_R hs (by decide), f_sa_R hs (by decide), hs.1, eh]
    by_cases h0 : f_P w r p 0 = -1
    · rw [if_pos h0, if_pos h0, if_pos h0]
      rw [if_pos h0, if_pos h0]
    · rw [hs.2.1 (2564 + f_P w r p 0) (by omega) (by omega), hs.2.1 (2570 + f_P w r p 0) (by omega) (by omega)]
  unfold f_str
  rw [e1]
theorem f_sa_note {w : Int → Int} {r q p what how hand : Int} (h : 0 ≤ w 1) (hr : 0 ≤ r ∧ r < 8) : f_sa r w (f_note w q p what how hand) := ⟨f_note_at (by decide) (by omega), fun i i1 i2 => f_note_at (by omega) (by omega), fun i i1 i2 => f_note_at (by omega) (by omega)⟩
theorem f_sa_refl {r : Int} {w : Int → Int} : f_sa r w w := ⟨rfl, fun _ _ _ => rfl, fun _ _ _ => rfl⟩
theorem f_sa_tr {r : Int} {w v u : Int → Int} (h1 : f_sa r w v) (h2 : f_sa r v u) : f_sa r w u := ⟨h2.1.trans h1.1, fun i a b => (h2.2.1 i a b).trans (h1.2.1 i a b), fun i a b => (h2.2.2 i a b).trans (h1.2.2 i a b)⟩
theorem f_note_up {x : Int → Int} {i v q p what how hand : Int} (hi : 4 ≤ i ∧ i < 2564) (h : 0 ≤ x 1) : f_note (f_up x i v) q p what how hand = f_up (f_note x q p what how hand) i v := by
  have e1 : f_up x i v 1 = x 1 := f_up_o (by omega)
  have e0 : f_up x i v 0 = x 0 := f_up_o (by omega)
  unfold f_note
  rw [e1, e0]
  split
  · rfl
  · have c : ∀ (y : Int → Int) (j b : Int), j ≠ i → f_up (f_up y i v) j b = f_up (f_up y j b) i v := fun y j b hj => f_up_cm (by omega)
    rw [c _ _ _ (by omega), c _ _ _ (by omega), c _ _ _ (by omega), c _ _ _ (by omega), c _ _ _ (by omega), c _ _ _ (by omega), c _ _ _ (by omega)]
theorem f_ti1_note {x : Int → Int} {r p k q u what how hand : Int} (hr : 0 ≤ r ∧ r < 8) (hp : 0 ≤ p ∧ p < 24) (hk : 0 ≤ k ∧ k < 6) (h : 0 ≤ x 1) : f_ti1 (f_note x q u what how hand) r p k = f_note (f_ti1 x r p k) q u what how hand := by
  have hh : 0 ≤ r ∧ r < 8 ∧ 0 ≤ p ∧ p < 24 ∧ (0 : Int) ≤ 0 ∧ (0 : Int) < 13 := ⟨hr.1, hr.2, hp.1, hp.2, by decide, by decide⟩
  have eP : ∀ f, 0 ≤ f → f < 13 → f_P (f_sP (f_note x q u what how hand) r p 0 k) r p f = f_P (f_sP x r p 0 k) r p f := fun f f1 f2 => by
    rw [f_P_sP hh ⟨hr.1, hr.2, hp.1, hp.2, f1, f2⟩, f_P_sP hh ⟨hr.1, hr.2, hp.1, hp.2, f1, f2⟩, f_P_note h ⟨hr.1, hr.2, hp.1, hp.2, f1, f2⟩]
  have e0 : f_sP (f_note x q u what how hand) r p 0 k 0 = f_sP x r p 0 k 0 := by
    rw [f_sP_out hh (by omega), f_sP_out hh (by omega)]
    exact f_note_at (by decide) (by omega)
  unfold f_ti1 f_more
  rw [eP (1 + k) (by omega) (by omega), eP (7 + k) (by omega) (by omega), e0]
  unfold f_hab f_sP
  have b1 : f_up x (4 + 320 * r + 8 + 13 * p + 0) k 1 = x 1 := f_up_o (by omega)
  have b2 : ∀ v, f_up (f_up x (4 + 320 * r + 8 + 13 * p + 0) k) (4 + 320 * r + 8 + 13 * p + (1 + k)) v 1 = x 1 := fun v => (f_up_o (by omega)).trans b1
  rw [f_note_up (by omega) (by rw [b2]; exact h), f_note_up (by omega) (by rw [b1]; exact h), f_note_up (by omega) h]
def f_nts (w0 : Int → Int) (r : Int) (T : List Int) (x : Int → Int) : Int → Int := T.foldl (fun x p => f_note x r p (f_cl w0 r p) 1 (-1)) x
theorem f_nts_iv {w0 : Int → Int} {r : Int} : ∀ (T : List Int) (x : Int → Int), f_iv x → f_iv (f_nts w0 r T x)
  | [], x, h => h
  | p :: tl, x, h => f_nts_iv tl _ (f_iv_note h)
theorem f_nts_sa {w0 : Int → Int} {r : Int} (hr : 0 ≤ r ∧ r < 8) : ∀ (T : List Int) (x : Int → Int), f_iv x → f_sa r x (f_nts w0 r T x)
  | [], x, h => f_sa_refl
  | p :: tl, x, h => f_sa_tr (f_sa_note h.2.2.2.1.1 hr) (f_nts_sa hr tl _ (f_iv_note h))
theorem f_nts_ti1 {w0 : Int → Int} {r p k : Int} (hr : 0 ≤ r ∧ r < 8) (hp : 0 ≤ p ∧ p < 24) (hk : 0 ≤ k ∧ k < 6) : ∀ (T : List Int) (x : Int → Int), f_iv x → f_ti1 (f_nts w0 r T x) r p k = f_nts w0 r T (f_ti1 x r p k)
  | [], x, h => rfl
  | q :: tl, x, h => by
    show f_ti1 (f_nts w0 r tl (f_note x r q (f_cl w0 r q) 1 (-1))) r p k = f_nts w0 r tl (f_note (f_ti1 x r p k) r q (f_cl w0 r q) 1 (-1))
    rw [f_nts_ti1 hr hp hk tl _ (f_iv_note h), f_ti1_note hr hp hk h.2.2.2.1.1]
def f_h2 (w0 : Int → Int) (r : Int) (T : List Int) : Int := if T = [] then -1 else f_cl w0 r (T.headD (-1))
theorem f_stch_go {Ls : Int → List f_Ln} {w0 : Int → Int} {r f : Int} (hr : 0 ≤ r ∧ r < 8) (hl : f_R w0 r 1 ≤ 24) : ∀ (L T : List Int) (x : Int → Int), f_iv x → f_R x r 1 = f_R w0 r 1 → (∀ q ∈ L, 0 ≤ q ∧ q < f_R w0 r 1 ∧ f_cl w0 r q ≠ -1) → L.foldl (f_stS Ls w0 r f) (f_nts w0 r T x, (T.length : Int), T.headD (-1), f_h2 w0 r T) = (f_nts w0 r (L.foldl (f_tAS Ls w0 r f) (x, T)).2 (L.foldl (f_tAS Ls w0 r f) (x, T)).1, ((L.foldl (f_tAS Ls w0 r f) (x, T)).2.length : Int), (L.foldl (f_tAS Ls w0 r f) (x, T)).2.headD (-1), f_h2 w0 r (L.foldl (f_tAS Ls w0 r f) (x, T)).2)
  | [], T, x, _, _, _ => rfl
  | p :: tl, T, x, hx, hR, hm => by
    have hp := hm p (List.mem_cons_self)
    have hn := f_cl_nz hp.2.2
    have en : f_need Ls (f_nts w0 r T x) r p (f_cl w0 r p) = f_need Ls x r p (f_cl w0 r p) := f_need_sa (f_nts_sa hr T x hx) ⟨hp.1, by omega⟩ (by omega) hn.1
    show tl.foldl (f_stS Ls w0 r f) (f_stS Ls w0 r f (f_nts w0 r T x, (T.length : Int), T.headD (-1), f_h2 w0 r T) p) = (f_nts w0 r (tl.foldl (f_tAS Ls w0 r f) (f_tAS Ls w0 r f (x, T) p)).2 (tl.foldl (f_tAS Ls w0 r f) (f_tAS Ls w0 r f (x, T) p)).1, ((tl.foldl (f_tAS Ls w0 r f) (f_tAS Ls w0 r f (x, T) p)).2.length : Int), (tl.foldl (f_tAS Ls w0 r f) (f_tAS Ls w0 r f (x, T) p)).2.headD (-1), f_h2 w0 r (tl.foldl (f_tAS Ls w0 r f) (f_tAS Ls w0 r f (x, T) p)).2)
    by_cases hc : f_need Ls x r p (f_cl w0 r p) ≤ f
    · have e1 : f_tAS Ls w0 r f (x, T) p = (f_ti1 x r p (f_cl w0 r p), T ++ [p]) := if_pos hc
      have e2 : f_stS Ls w0 r f (f_nts w0 r T x, (T.length : Int), T.headD (-1), f_h2 w0 r T) p = (f_nts w0 r (T ++ [p]) (f_ti1 x r p (f_cl w0 r p)), ((T ++ [p]).length : Int), (T ++ [p]).headD (-1), f_h2 w0 r (T ++ [p])) := by
        unfold f_stS
        rw [if_pos (by rw [en]; exact hc)]
        have a1 : f_stW (f_nts w0 r T x) r p (f_cl w0 r p) = f_nts w0 r (T ++ [p]) (f_ti1 x r p (f_cl w0 r p)) := by
          show f_note (f_ti1 (f_nts w0 r T x) r p (f_cl w0 r p)) r p (f_cl w0 r p) 1 (-1) = _
          rw [f_nts_ti1 hr ⟨hp.1, by omega⟩ hn.1 T x hx]
          unfold f_nts
          rw [List.foldl_append]
          rfl
        rw [a1]
        cases T with
        | nil =>
          show (_, (0 : Int) + 1, (if (0 : Int) = 0 then p else _), (if (0 : Int) = 0 then f_cl w0 r p else _)) = _
          rw [if_pos rfl, if_pos rfl]
          rfl
        | cons t T2 =>
          have hz : ((t :: T2).length : Int) ≠ 0 := by
            simp only [List.length_cons]
            omega
          rw [if_neg hz, if_neg hz, List.length_append]
          rfl
      rw [e1, e2]
      exact f_stch_go hr hl tl (T ++ [p]) (f_ti1 x r p (f_cl w0 r p)) (f_iv_ti1 hr ⟨hp.1, by omega⟩ hn.1 hx) (((f_sm_ti1 hr ⟨hp.1, by omega⟩ hn.1).2.2.2.2 r 1 ⟨hr.1, hr.2, by decide, by decide⟩).trans hR) (fun q hq => hm q (List.mem_cons_of_mem _ hq))
    · have e1 : f_tAS Ls w0 r f (x, T) p = (x, T) := if_neg hc
      have e2 : f_stS Ls w0 r f (f_nts w0 r T x, (T.length : Int), T.headD (-1), f_h2 w0 r T) p = (f_nts w0 r T x, (T.length : Int), T.headD (-1), f_h2 w0 r T) := by
        unfold f_stS
        rw [if_neg (by rw [en]; exact hc)]
      rw [e1, e2]
      exact f_stch_go hr hl tl T x hx hR (fun q hq => hm q (List.mem_cons_of_mem _ hq))
theorem f_stch_tAl {Ls : Int → List f_Ln} {w : Int → Int} {r f : Int} (hr : 0 ≤ r ∧ r < 8) (hw : f_iv w) : f_stch Ls w r f = (f_nts w r (f_tAl Ls w r f).2 (f_tAl Ls w r f).1, ((f_tAl Ls w r f).2.length : Int), f_hd1 Ls w r f, f_hd2 Ls w r f) := f_stch_go hr (hw.1 r hr.1 hr.2).2.2 (f_lrow w r).reverse [] w hw rfl (fun q hq => f_lrow_ok (hw.1 r hr.1 hr.2).2.1 q (List.mem_reverse.mp hq))

