/-! days -/
abbrev f_bit (s r : Int) : Int := ax_and (ax_shr s r) 1
def f_st8 (x : Int) : Int := ax_or (ax_or (ax_or (ax_or (ax_or (ax_or (ax_or (ax_or 0 (ax_shl (x % 2) 0)) (ax_shl (x / 2 % 2) 1)) (ax_shl (x / 2 / 2 % 2) 2)) (ax_shl (x / 2 / 2 / 2 % 2) 3)) (ax_shl (x / 2 / 2 / 2 / 2 % 2) 4)) (ax_shl (x / 2 / 2 / 2 / 2 / 2 % 2) 5)) (ax_shl (x / 2 / 2 / 2 / 2 / 2 / 2 % 2) 6)) (ax_shl (x / 2 / 2 / 2 / 2 / 2 / 2 / 2 % 2) 7)
set_option maxRecDepth 100000 in
theorem f_st8_bit : ∀ x : Fin 256, (f_bit (f_st8 (x.val : Int)) 0 = (x.val : Int) % 2 ∧ f_bit (f_st8 (x.val : Int)) 1 = (x.val : Int) / 2 % 2 ∧ f_bit (f_st8 (x.val : Int)) 2 = (x.val : Int) / 2 / 2 % 2 ∧ f_bit (f_st8 (x.val : Int)) 3 = (x.val : Int) / 2 / 2 / 2 % 2) ∧ f_bit (f_st8 (x.val : Int)) 4 = (x.val : Int) / 2 / 2 / 2 / 2 % 2 ∧ f_bit (f_st8 (x.val : Int)) 5 = (x.val : Int) / 2 / 2 / 2 / 2 / 2 % 2 ∧ f_bit (f_st8 (x.val : Int)) 6 = (x.val : Int) / 2 / 2 / 2 / 2 / 2 / 2 % 2 ∧ f_bit (f_st8 (x.val : Int)) 7 = (x.val : Int) / 2 / 2 / 2 / 2 / 2 / 2 / 2 % 2 := by decide +kernel
theorem f_half {b x y : Int} (h : b = 0 ∨ b = 1) (e : x = b + 2 * y) : x % 2 = b ∧ x / 2 = y := by omega
theorem f_set_bit {w : Int → Int} {r : Int} (hw : f_ok w) (hr : 0 ≤ r ∧ r < 8) : f_bit (f_set w) r = f_R w r 0 := by
  have e : f_set w = ax_or (ax_or (ax_or (ax_or (ax_or (ax_or (ax_or (ax_or 0 (ax_shl (f_R w 0 0) 0)) (ax_shl (f_R w 1 0) 1)) (ax_shl (f_R w 2 0) 2)) (ax_shl (f_R w 3 0) 3)) (ax_shl (f_R w 4 0) 4)) (ax_shl (f_R w 5 0) 5)) (ax_shl (f_R w 6 0) 6)) (ax_shl (f_R w 7 0) 7) := by
    unfold f_set
    rw [f_loop_step (by decide), f_loop_step (by decide), f_loop_step (by decide), f_loop_step (by decide), f_loop_step (by decide), f_loop_step (by decide), f_loop_step (by decide), f_loop_step (by decide), f_loop_done (by decide)]
    rfl
  have b0 := (hw 0 (by omega) (by omega)).1
  have b1 := (hw 1 (by omega) (by omega)).1
  have b2 := (hw 2 (by omega) (by omega)).1
  have b3 := (hw 3 (by omega) (by omega)).1
  have b4 := (hw 4 (by omega) (by omega)).1
  have b5 := (hw 5 (by omega) (by omega)).1
  have b6 := (hw 6 (by omega) (by omega)).1
  have b7 := (hw 7 (by omega) (by omega)).1
  obtain ⟨x7, e7⟩ : ∃ x : Int, x = f_R w 7 0 := ⟨_, rfl⟩
  obtain ⟨x6, e6⟩ : ∃ x : Int, x = f_R w 6 0 + 2 * x7 := ⟨_, rfl⟩
  obtain ⟨x5, e5⟩ : ∃ x : Int, x = f_R w 5 0 + 2 * x6 := ⟨_, rfl⟩
  obtain ⟨x4, e4⟩ : ∃ x : Int, x = f_R w 4 0 + 2 * x5 := ⟨_, rfl⟩
  obtain ⟨x3, e3⟩ : ∃ x : Int, x = f_R w 3 0 + 2 * x4 := ⟨_, rfl⟩
  obtain ⟨x2, e2⟩ : ∃ x : Int, x = f_R w 2 0 + 2 * x3 := ⟨_, rfl⟩
  obtain ⟨x1, e1⟩ : ∃ x : Int, x = f_R w 1 0 + 2 * x2 := ⟨_, rfl⟩
  obtain ⟨x0, e0⟩ : ∃ x : Int, x = f_R w 0 0 + 2 * x1 := ⟨_, rfl⟩
  have d0 := f_half b0 e0
  have d1 := f_half b1 e1
  have d2 := f_half b2 e2
  have d3 := f_half b3 e3
  have d4 := f_half b4 e4
  have d5 := f_half b5 e5
  have d6 := f_half b6 e6
  have d7 : x7 % 2 = f_R w 7 0 := by omega
  have hx : 0 ≤ x0 ∧ x0 < 256 := by
    clear d0 d1 d2 d3 d4 d5 d6 d7 e
    omega
  have k := f_st8_bit ⟨x0.toNat, by omega⟩
  have ex : ((x0.toNat : Nat) : Int) = x0 := Int.toNat_of_nonneg hx.1
  simp only [ex, d0.1, d0.2, d1.1, d1.2, d2.1, d2.2, d3.1, d3.2, d4.1, d4.2, d5.1, d5.2, d6.1, d6.2, d7] at k
  have es : f_set w = f_st8 x0 := by
    rw [e]
    unfold f_st8
    simp only [d0.1, d0.2, d1.1, d1.2, d2.1, d2.2, d3.1, d3.2, d4.1, d4.2, d5.1, d5.2, d6.1, d6.2, d7]
  rw [es]
  clear b0 b1 b2 b3 b4 b5 b6 b7 d0 d1 d2 d3 d4 d5 d6 d7 e0 e1 e2 e3 e4 e5 e6 e7 e es
  have hr8 : r = 0 ∨ r = 1 ∨ r = 2 ∨ r = 3 ∨ r = 4 ∨ r = 5 ∨ r = 6 ∨ r = 7 := by omega
  rcases hr8 with rfl | rfl | rfl | rfl | rfl | rfl | rfl | rfl
  · exact k.1.1
  · exact k.1.2.1
  · exact k.1.2.2.1
  · exact k.1.2.2.2
  · exact k.2.1
  · exact k.2.2.1
  · exact k.2.2.2.1
  · exact k.2.2.2.2
def f_rnd (w : Int → Int) (m : Int) : Int := ax_ushr (f_drw w 2) 8 % m
abbrev f_Dy : Type := (Int → Int) × Int
def f_fgR (Ls : Int → List f_Ln) (r : Int) (w : Int → Int) : Int → Int := if f_isR w r then f_fg Ls w r else w
def f_fgA (Ls : Int → List f_Ln) (w : Int → Int) : Int → Int := f_loop (f_fgR Ls) 0 8 w
def f_stmS (Ls : Int → List f_Ln) (set r : Int) (s : f_Dy) : f_Dy := if f_bit set r = 0 then s else (f_puls Ls (f_drw s.1) r (f_rnd s.1 100), s.2 + (if f_brk Ls (f_stch Ls (f_drw s.1) r (f_rnd s.1 100)).1 r (f_rnd s.1 100) = -1 then 0 else 1))
def f_stm (Ls : Int → List f_Ln) (w : Int → Int) : f_Dy := if 0 < w 2576 then (if f_rnd w 1000 < f_drw w 2576 then f_loop (f_stmS Ls (f_set (f_drw w))) 0 8 (f_drw w, 0) else (f_drw w, 0)) else (w, 0)
def f_day (Ls : Int → List f_Ln) (w : Int → Int) : f_Dy := (f_up (f_stm Ls (f_fgA Ls w)).1 0 ((f_stm Ls (f_fgA Ls w)).1 0 + 1), (f_stm Ls (f_fgA Ls w)).2)
def f_k0 (w w' : Int → Int) : Prop := w' 0 = w 0 ∧ f_ag w w'
theorem f_k0_refl {w : Int → Int} : f_k0 w w := ⟨rfl, fun _ _ _ => rfl⟩
theorem f_k0_trans {w w1 w2 : Int → Int} (h1 : f_k0 w w1) (h2 : f_k0 w1 w2) : f_k0 w w2 := ⟨h2.1.trans h1.1, fun i a b => (h2.2 i a b).trans (h1.2 i a b)⟩
theorem f_k0_out {w w' : Int → Int} (h : f_out w w') : f_k0 w w' := ⟨h 0 (by omega), f_out_ag h⟩
theorem f_k0_sm {w w' : Int → Int} (h : f_sm w w') : f_k0 w w' := ⟨h.2.1, h.1⟩
theorem f_k0_fg {Ls : Int → List f_Ln} {w : Int → Int} {r : Int} (hr : 0 ≤ r ∧ r < 8) (hw : f_iv w) : f_k0 w (f_fg Ls w r) := f_k0_trans (f_k0_sm (f_fg1_ok hr hw).2) (f_k0_out (fun _ hi => f_sR_out ⟨hr.1, hr.2, by omega, by omega⟩ hi))
theorem f_fgR_ok {Ls : Int → List f_Ln} {w0 w : Int → Int} {r : Int} (hr : 0 ≤ r ∧ r < 8) (h : f_jv Ls w ∧ f_k0 w0 w) : f_jv Ls (f_fgR Ls r w) ∧ f_k0 w0 (f_fgR Ls r w) := by
  unfold f_fgR
  split
  · exact ⟨f_jv_fg hr h.1, f_k0_trans h.2 (f_k0_fg hr h.1.1)⟩
  · exact h
theorem f_drw_at {w : Int → Int} {i : Int} (h : i ≠ 2) : f_drw w i = w i := by
  unfold f_drw f_up
  rw [if_neg h]
theorem f_jv_drw {Ls : Int → List f_Ln} {w : Int → Int} (hw : f_jv Ls w) : f_jv Ls (f_drw w) := by
  refine ⟨⟨f_ok_of (fun i _ _ => f_drw_at (by omega)) hw.1.1, f_rg_of (fun i _ _ => f_drw_at (by omega)) hw.1.2.1, ?_, ?_, fun k a b => ?_⟩, ?_, f_lw_of (fun i _ _ => f_drw_at (by omega)) hw.2.2⟩
  · rw [f_drw_at (by omega)]
    exact hw.1.2.2.1
  · rw [f_drw_at (by omega)]
    exact hw.1.2.2.2.1
  · rw [f_drw_at (by omega)]
    exact hw.1.2.2.2.2 k a b
  · refine f_hd_sm (fun r f h => ?_) hw.2.1
    unfold f_R
    exact f_drw_at (by omega)
theorem f_R_drw {w : Int → Int} {r f : Int} (h : 0 ≤ r ∧ r < 8 ∧ 0 ≤ f ∧ f < 8) : f_R (f_drw w) r f = f_R w r f := by
  unfold f_R
  exact f_drw_at (by omega)
theorem f_k0_drw {w : Int → Int} : f_k0 w (f_drw w) := ⟨f_drw_at (by omega), fun i _ _ => f_drw_at (by omega)⟩
theorem f_puls_ok {Ls : Int → List f_Ln} {w : Int → Int} {r f : Int} (hr : 0 ≤ r ∧ r < 8) (hl : 1 ≤ f_R w r 1) (hw : f_jv Ls w) : f_k0 w (f_puls Ls w r f) ∧ ∀ s, 0 ≤ s ∧ s < 8 → s ≠ r → f_R w s 0 = 1 → f_R (f_puls Ls w r f) s 0 = 1 := by
  have h1 := f_stch_ok (Ls := Ls) (f := f) hr hw.1
  have h2 := f_jv_stch (f := f) hr hw
  have h3 : f_R (f_stch Ls w r f).1 r 1 = f_R w r 1 := h1.2.2.2.2.2 r 1 (by omega)
  have h4 := (h2.1.1 r hr.1 hr.2).2.2
  unfold f_puls
  split
  · exact ⟨f_k0_sm h1.2, fun s hs _ he => (h1.2.2.2.2.2 s 0 (by omega)).trans he⟩
  · rcases f_brk_rg (Ls := Ls) (w := (f_stch Ls w r f).1) (r := r) (f := f) (by omega) with e | e
    · contradiction
    · generalize f_brk Ls (f_stch Ls w r f).1 r f = q at e ⊢
      have h5 := f_jv_part hr e h2
      obtain ⟨p1, p2⟩ := f_part_ok hr e h4
      obtain ⟨-, p3⟩ := f_p1_ok hr (by omega : 0 ≤ q ∧ q ≤ f_R (f_stch Ls w r f).1 r 1) h4
      have h6 := f_sm_note (r := r) (p := q) (what := max (-1) (f_lost (f_pfr (f_stch Ls w r f).1 r q))) (how := 2) (hand := -1) h5.1.2.2.2.1
      refine ⟨f_k0_trans (f_k0_sm h1.2) (f_k0_trans (f_k0_out p1) (f_k0_sm h6)), fun s hs hn he => ?_⟩
      rw [h6.2.2.2.2 s 0 (by omega), p2 s 0 (by omega), if_neg (by omega), if_neg (by omega), p3 s 0 (by omega)]
      split
      · rfl
      · exact (h1.2.2.2.2.2 s 0 (by omega)).trans he
def f_stI (Ls : Int → List f_Ln) (w0 : Int → Int) (set r : Int) (s : f_Dy) : Prop := f_jv Ls s.1 ∧ f_k0 w0 s.1 ∧ (0 ≤ s.2 ∧ s.2 ≤ r) ∧ ∀ q, r ≤ q → q < 8 → f_bit set q ≠ 0 → f_R s.1 q 0 = 1
theorem f_rnd_rg {w : Int → Int} {m : Int} (h : 0 < m) : 0 ≤ f_rnd w m ∧ f_rnd w m < m := ⟨Int.emod_nonneg _ (by omega), Int.emod_lt_of_pos _ h⟩
theorem f_stmS_ok {Ls : Int → List f_Ln} {w0 : Int → Int} {set r : Int} {s : f_Dy} (hr : 0 ≤ r ∧ r < 8) (h : f_stI Ls w0 set r s) : f_stI Ls w0 set (r + 1) (f_stmS Ls set r s) := by
  obtain ⟨h1, h2, h3, h4⟩ := h
  unfold f_stmS
  split
  · exact ⟨h1, h2, by omega, fun q a b c => h4 q (by omega) b c⟩
  · rename_i hb
    have e := h4 r (by omega) hr.2 hb
    have e2 := (h1.2.1 r hr.1 hr.2).2 e
    have e3 : 1 ≤ f_R (f_drw s.1) r 1 := by
      rw [f_R_drw (by omega)]
      omega
    have e4 := f_puls_ok (f := f_rnd s.1 100) hr e3 (f_jv_drw h1)
    refine ⟨f_jv_puls hr e3 (f_jv_drw h1), f_k0_trans h2 (f_k0_trans f_k0_drw e4.1), ?_, fun q a b c => ?_⟩
    · show 0 ≤ s.2 + _ ∧ s.2 + _ ≤ r + 1
      split <;> omega
    · refine e4.2 q (by omega) (by omega) ?_
      rw [f_R_drw (by omega)]
      exact h4 q (by omega) b c
theorem f_loop_ix {α : Type} {P : Int → α → Prop} {g : Int → α → α} {lo hi : Int} {a : α} (hl : lo ≤ hi) (h0 : P lo a) (hs : ∀ i x, lo ≤ i → i < hi → P i x → P (i + 1) (g i x)) : P hi (f_loop g lo hi a) := by
  unfold f_loop
  generalize hn : (hi - lo).toNat = n
  induction n generalizing lo a with
  | zero =>
    have e : lo = hi := by omega
    rw [← e]
    exact h0
  | succ n ih =>
    exact ih (lo := lo + 1) (by omega) (hs lo a (Int.le_refl lo) (by omega) h0) (fun i x h1 h2 hx => hs i x (by omega) h2 hx) (by omega)
theorem f_stI_0 {Ls : Int → List f_Ln} {w : Int → Int} (hw : f_jv Ls w) : f_stI Ls w (f_set (f_drw w)) 0 (f_drw w, 0) := by
  refine ⟨f_jv_drw hw, f_k0_drw, ⟨Int.le_refl 0, Int.le_refl 0⟩, fun q a b c => ?_⟩
  rw [f_set_bit (f_jv_drw hw).1.1 ⟨a, b⟩] at c
  exact ((f_jv_drw hw).1.1 q a b).1.resolve_left c
theorem f_stm_ok {Ls : Int → List f_Ln} {w : Int → Int} (hw : f_jv Ls w) : f_jv Ls (f_stm Ls w).1 ∧ f_k0 w (f_stm Ls w).1 ∧ 0 ≤ (f_stm Ls w).2 ∧ (f_stm Ls w).2 ≤ 8 := by
  unfold f_stm
  split
  · split
    · have e := f_loop_ix (P := f_stI Ls w (f_set (f_drw w))) (lo := 0) (hi := 8) (by omega) (f_stI_0 hw) (fun i x a b c => f_stmS_ok ⟨a, b⟩ c)
      exact ⟨e.1, e.2.1, e.2.2.1⟩
    · exact ⟨f_jv_drw hw, f_k0_drw, Int.le_refl 0, by show (0 : Int) ≤ 8; omega⟩
  · exact ⟨hw, f_k0_refl, Int.le_refl 0, by show (0 : Int) ≤ 8; omega⟩
theorem f_fgA_ok {Ls : Int → List f_Ln} {w : Int → Int} (hw : f_jv Ls w) : f_jv Ls (f_fgA Ls w) ∧ f_k0 w (f_fgA Ls w) := f_loop_inv (P := fun x => f_jv Ls x ∧ f_k0 w x) ⟨hw, f_k0_refl⟩ (fun _ _ a b c => f_fgR_ok ⟨a, b⟩ c)
theorem f_jv_up0 {Ls : Int → List f_Ln} {w : Int → Int} {v : Int} (hv : 0 ≤ v ∧ v ≤ 9999) (hw : f_jv Ls w) : f_jv Ls (f_up w 0 v) := by
  have e : ∀ i, i ≠ 0 → f_up w 0 v i = w i := fun i h => by unfold f_up; rw [if_neg h]
  refine ⟨⟨f_ok_of (fun i _ _ => e i (by omega)) hw.1.1, f_rg_of (fun i _ _ => e i (by omega)) hw.1.2.1, ?_, ?_, fun k a b => ?_⟩, ?_, f_lw_of (fun i _ _ => e i (by omega)) hw.2.2⟩
  · rw [f_up_same]
    exact hv
  · rw [e 1 (by omega)]
    exact hw.1.2.2.2.1
  · rw [e _ (by omega)]
    exact hw.1.2.2.2.2 k a b
  · refine f_hd_sm (fun r f h => ?_) hw.2.1
    unfold f_R
    exact e _ (by omega)
theorem f_day_ok {Ls : Int → List f_Ln} {w : Int → Int} (hw : f_jv Ls w) (h : w 0 < 9999) : f_jv Ls (f_day Ls w).1 ∧ (f_day Ls w).1 0 = w 0 + 1 ∧ f_ag w (f_day Ls w).1 ∧ 0 ≤ (f_day Ls w).2 ∧ (f_day Ls w).2 ≤ 8 := by
  have a := f_fgA_ok hw
  have b := f_stm_ok a.1
  have c := f_k0_trans a.2 b.2.1
  have d := hw.1.2.2.1
  refine ⟨f_jv_up0 (by rw [c.1]; omega) b.1, ?_, ?_, b.2.2⟩
  · show f_up (f_stm Ls (f_fgA Ls w)).1 0 ((f_stm Ls (f_fgA Ls w)).1 0 + 1) 0 = _
    rw [f_up_same, c.1]
  · intro i h1 h2
    show f_up (f_stm Ls (f_fgA Ls w)).1 0 ((f_stm Ls (f_fgA Ls w)).1 0 + 1) i = _
    unfold f_up
    rw [if_neg (by omega)]
    exact c.2 i h1 h2
set_option maxRecDepth 20000 in
theorem s_X12_aDay (E : ax_Env) (l : Launch) (d : Nat) (hd : 7 ≤ d) (M : ax_Mem) (Ls : Int → List f_Ln) {w : Int → Int} (hw : M 331 = w) {pl : Int → Int} (hpl : M 340 = pl) {F : Int → Int} (hF : M 341 = F) {rw0 : Int → Int} (hrw0 : M 342 = rw0) {cv0 : Int → Int} (hcv0 : M 343 = cv0) (hg0 : f_jv Ls w) (hg1 : w 0 < 9999) : ax_G E l d iX12_aDay [.inr 330] M (fun z0 M2 => z0 = some (.inl ((f_day Ls w).2)) ∧ (∀ x0 i0 : Int, ¬ (x0 = 331 ∨ x0 = 340 ∨ x0 = 341 ∨ x0 = 342 ∨ x0 = 343 ∨ (x0 = 330 ∧ i0 = 30) ∨ (x0 = 330 ∧ i0 = 31) ∨ (x0 = 330 ∧ i0 = 32) ∨ (x0 = 330 ∧ i0 = 33)) → M2 x0 i0 = M x0 i0) ∧ M2 331 = (f_day Ls w).1) := by
  obtain ⟨d, rfl⟩ : ∃ d0, d = d0 + 1 := ⟨d - 1, by omega⟩
  refine ax_start rfl (Nat.le_of_ble_eq_true rfl) (ls := [some (.inr 330), none, none, none]) rfl (fun hav hcm => ?_)
  clear hav
  have qa1 := f_fgA_ok hg0
  have qa2 := f_stm_ok qa1.1
  have qa3 := f_k0_trans qa1.2 qa2.2.1
  have qa4 := hg0.1.2.2.1
  have qa5 := qa3.1
  refine ax_iconst dX12_aDay_0 (by decide) (pc' := 1) rfl ?_
  refine ax_istore_n dX12_aDay_1 rfl (by decide) (ls' := [some (.inr 330), some (.inl 0), none, none]) rfl (pc' := 2) rfl ?_
  have LP1 : ∀ (kq2 : Nat) (r : Int) (wv1 : Int → Int) (M1 : ax_Mem) (hm1 : 8 - r < (kq2 : Nat)) (fr1 : ∀ x0 i0 : Int, ¬ (x0 = 331 ∨ x0 = 340 ∨ x0 = 341 ∨ x0 = 342 ∨ x0 = 343 ∨ (x0 = 330 ∧ i0 = 30) ∨ (x0 = 330 ∧ i0 = 31) ∨ (x0 = 330 ∧ i0 = 32) ∨ (x0 = 330 ∧ i0 = 33)) → M1 x0 i0 = M x0 i0) (mr1_331 : M1 331 = wv1) (iv1_0 : 0 ≤ r ∧ r ≤ 8) (iv1_1 : f_loop (f_fgR Ls) r 8 wv1 = f_fgA Ls w) (iv1_2 : f_jv Ls wv1 ∧ f_k0 w wv1), ax_W E l (d + 1) 0 0 iX12_aDay 2 [some (.inr 330), some (.inl r), none, none] [] SH M1 (ax_P (fun z0 M2 => z0 = some (.inl ((f_day Ls w).2)) ∧ (∀ x0 i0 : Int, ¬ (x0 = 331 ∨ x0 = 340 ∨ x0 = 341 ∨ x0 = 342 ∨ x0 = 343 ∨ (x0 = 330 ∧ i0 = 30) ∨ (x0 = 330 ∧ i0 = 31) ∨ (x0 = 330 ∧ i0 = 32) ∨ (x0 = 330 ∧ i0 = 33)) → M2 x0 i0 = M x0 i0) ∧ M2 331 = (f_day Ls w).1)) := by
    intro kq2
    induction kq2 with
    | zero =>
      intro r wv1 M1 hm1 fr1 mr1_331 iv1_0 iv1_1 iv1_2
      exfalso
      omega
    | succ kq2 ih3 =>
      intro r wv1 M1 hm1 fr1 mr1_331 iv1_0 iv1_1 iv1_2
      have qb1 := iv1_2.1
      refine ax_iload_n dX12_aDay_2 rfl rfl (pc' := 3) rfl ?_
      refine ax_bipush dX12_aDay_3 (by decide) (pc' := 5) rfl ?_
      refine ax_icmp_ge (tgt := 27) dX12_aDay_5 (by decide) (pc' := 8) rfl (fun h5 => ?_) (fun h5 => ?_)
      · have qe : wv1 = f_fgA Ls w := (f_loop_done (by omega)).symm.trans iv1_1
        rw [← qe] at qa5 qa2 qa3
        refine ax_iconst dX12_aDay_27 (by decide) (pc' := 28) rfl ?_
        refine ax_istore_n dX12_aDay_28 rfl (by decide) (ls' := [some (.inr 330), some (.inl 0), none, none]) rfl (pc' := 29) rfl ?_
        refine ax_aload_n dX12_aDay_29 rfl rfl (pc' := 30) rfl ?_
        refine ax_getr (v := 331) dX12_aDay_30 flX12_7 rfl sh_330 rfl (pc' := 33) rfl ?_
        refine ax_sipush dX12_aDay_33 (by decide) (pc' := 36) rfl ?_
        refine ax_iald (v := wv1 2576) dX12_aDay_36 sh_331 rfl (by omega) (by omega) ((congrFun mr1_331 2576).trans rfl) (pc' := 37) rfl ?_
        refine ax_if_le (tgt := 116) dX12_aDay_37 (by decide) (pc' := 40) rfl (fun h37 => ?_) (fun h37 => ?_)
        · have qs2 : f_stm Ls wv1 = (wv1, 0) := if_neg (by omega)
          rw [qs2] at qa5 qa2
          have qa6 : f_day Ls w = (f_up (f_stm Ls wv1).1 0 ((f_stm Ls wv1).1 0 + 1), (f_stm Ls wv1).2) := by
            rw [qe]
            rfl
          rw [qs2] at qa6
          dsimp only at qa5 qa6
          refine ax_aload_n dX12_aDay_116 rfl rfl (pc' := 117) rfl ?_
          refine ax_getr (v := 331) dX12_aDay_117 flX12_7 rfl sh_330 rfl (pc' := 120) rfl ?_
          refine ax_iconst dX12_aDay_120 (by decide) (pc' := 121) rfl ?_
          refine ax_dup2 dX12_aDay_121 (pc' := 122) rfl ?_
          refine ax_iald (v := wv1 0) dX12_aDay_122 sh_331 rfl (by omega) (by omega) ((congrFun mr1_331 0).trans rfl) (pc' := 123) rfl ?_
          refine ax_iconst dX12_aDay_123 (by decide) (pc' := 124) rfl ?_
          refine ax_iadd dX12_aDay_124 (by omega) (pc' := 125) rfl ?_
          refine ax_iast dX12_aDay_125 sh_331 rfl (by omega) (by omega) (pc' := 126) rfl ?_
          refine ax_iload_n dX12_aDay_126 rfl rfl (pc' := 127) rfl ?_
          refine ax_iret dX12_aDay_127 rfl ?_
          refine ⟨rfl, ?_, ?_, ?_⟩
          · refine congrArg (fun z => some (Sum.inl z)) ?_
            rw [qa6]
          · intro x0 i0 hai
            exact (ax_up_miss (by omega) ((fr1 x0 i0 (by omega)).trans rfl))
          · refine Eq.trans (ax_up_rowhit mr1_331) ?_
            rw [qa6]
        · refine ax_aload_n dX12_aDay_40 rfl rfl (pc' := 41) rfl ?_
          refine ax_sipush dX12_aDay_41 (by decide) (pc' := 44) rfl ?_
          refine ax_invG [.inl 1000] [] dX12_aDay_44 mlX12_442 sh_330 rfl rfl rfl (Nat.le_of_ble_eq_true rfl) (s_X12_draw E l _ (by omega) _ 1000 mr1_331 (by first | omega | assumption)) (pc' := 47) rfl (fun vv M_44 hq co44 hcm44 => ?_)
          obtain ⟨rfl, frM_44, mrM_44_0⟩ := hq
          refine ax_reS (st2 := [.inl (ax_ushr (f_drw wv1 2) 8 % 1000)]) rfl ?_
          have cc44 : -2147483648 ≤ ax_ushr (f_drw wv1 2) 8 % 1000 ∧ ax_ushr (f_drw wv1 2) 8 % 1000 < 2147483648 := co44 _ rfl
          refine ax_aload_n dX12_aDay_47 rfl rfl (pc' := 48) rfl ?_
          refine ax_getr (v := 331) dX12_aDay_48 flX12_7 rfl sh_330 rfl (pc' := 51) rfl ?_
          refine ax_sipush dX12_aDay_51 (by decide) (pc' := 54) rfl ?_
          refine ax_iald (v := (f_drw wv1) 2576) dX12_aDay_54 sh_331 rfl (by omega) (by omega) ((congrFun mrM_44_0 2576).trans rfl) (pc' := 55) rfl ?_
          refine ax_icmp_ge (tgt := 116) dX12_aDay_55 (by decide) (pc' := 58) rfl (fun h55 => ?_) (fun h55 => ?_)
          · have qs2 : f_stm Ls wv1 = (f_drw wv1, 0) := by
              unfold f_stm
              rw [if_pos (by omega), if_neg (by unfold f_rnd; omega)]
            rw [qs2] at qa5 qa2
            have qa6 : f_day Ls w = (f_up (f_stm Ls wv1).1 0 ((f_stm Ls wv1).1 0 + 1), (f_stm Ls wv1).2) := by
              rw [qe]
              rfl
            rw [qs2] at qa6
            dsimp only at qa5 qa6
            refine ax_aload_n dX12_aDay_116 rfl rfl (pc' := 117) rfl ?_
            refine ax_getr (v := 331) dX12_aDay_117 flX12_7 rfl sh_330 rfl (pc' := 120) rfl ?_
            refine ax_iconst dX12_aDay_120 (by decide) (pc' := 121) rfl ?_
            refine ax_dup2 dX12_aDay_121 (pc' := 122) rfl ?_
            refine ax_iald (v := (f_drw wv1) 0) dX12_aDay_122 sh_331 rfl (by omega) (by omega) ((congrFun mrM_44_0 0).trans rfl) (pc' := 123) rfl ?_
            refine ax_iconst dX12_aDay_123 (by decide) (pc' := 124) rfl ?_
            refine ax_iadd dX12_aDay_124 (by omega) (pc' := 125) rfl ?_
            refine ax_iast dX12_aDay_125 sh_331 rfl (by omega) (by omega) (pc' := 126) rfl ?_
            refine ax_iload_n dX12_aDay_126 rfl rfl (pc' := 127) rfl ?_
            refine ax_iret dX12_aDay_127 rfl ?_
            refine ⟨rfl, ?_, ?_, ?_⟩
            · refine congrArg (fun z => some (Sum.inl z)) ?_
              rw [qa6]
            · intro x0 i0 hai
              exact (ax_up_miss (by omega) ((frM_44 x0 i0 (by omega)).trans ((fr1 x0 i0 (by omega)).trans rfl)))
            · refine Eq.trans (ax_up_rowhit mrM_44_0) ?_
              rw [qa6]
          · have qs2 : f_stm Ls wv1 = f_loop (f_stmS Ls (f_set (f_drw wv1))) 0 8 (f_drw wv1, 0) := by
              unfold f_stm
              rw [if_pos (by omega), if_pos (by unfold f_rnd; omega)]
            refine ax_aload_n dX12_aDay_58 rfl rfl (pc' := 59) rfl ?_
            refine ax_invG [] [] dX12_aDay_59 mlX12_445 sh_330 rfl rfl rfl (Nat.le_of_ble_eq_true rfl) (s_X12_ropeSet E l _ (by omega) _ mrM_44_0) (pc' := 62) rfl (fun vv M_59 hq co59 hcm59 => ?_)
            obtain ⟨rfl, rfl⟩ := hq
            refine ax_reS (st2 := [.inl (f_set (f_drw wv1))]) rfl ?_
            have cc59 : -2147483648 ≤ f_set (f_drw wv1) ∧ f_set (f_drw wv1) < 2147483648 := co59 _ rfl
            refine ax_istore_n dX12_aDay_62 rfl (by decide) (ls' := [some (.inr 330), some (.inl 0), some (.inl (f_set (f_drw wv1))), none]) rfl (pc' := 63) rfl ?_
            refine ax_iconst dX12_aDay_63 (by decide) (pc' := 64) rfl ?_
            refine ax_istore_n dX12_aDay_64 rfl (by decide) (ls' := [some (.inr 330), some (.inl 0), some (.inl (f_set (f_drw wv1))), some (.inl 0)]) rfl (pc' := 65) rfl ?_
            have LP4 : ∀ (kq5 : Nat) (s0 br : Int) (wv2 : Int → Int) (M4 : ax_Mem) (hm4 : 8 - s0 < (kq5 : Nat)) (fr4 : ∀ x0 i0 : Int, ¬ (x0 = 331 ∨ x0 = 340 ∨ x0 = 341 ∨ x0 = 342 ∨ x0 = 343 ∨ (x0 = 330 ∧ i0 = 30) ∨ (x0 = 330 ∧ i0 = 31) ∨ (x0 = 330 ∧ i0 = 32) ∨ (x0 = 330 ∧ i0 = 33)) → M4 x0 i0 = M_44 x0 i0) (mr4_331 : M4 331 = wv2) (iv4_0 : 0 ≤ s0 ∧ s0 ≤ 8) (iv4_1 : f_loop (f_stmS Ls (f_set (f_drw wv1))) s0 8 (wv2, br) = f_stm Ls wv1) (iv4_2 : f_stI Ls wv1 (f_set (f_drw wv1)) s0 (wv2, br)), ax_W E l (d + 1) 0 0 iX12_aDay 65 [some (.inr 330), some (.inl br), some (.inl (f_set (f_drw wv1))), some (.inl s0)] [] SH M4 (ax_P (fun z0 M2 => z0 = some (.inl ((f_day Ls w).2)) ∧ (∀ x0 i0 : Int, ¬ (x0 = 331 ∨ x0 = 340 ∨ x0 = 341 ∨ x0 = 342 ∨ x0 = 343 ∨ (x0 = 330 ∧ i0 = 30) ∨ (x0 = 330 ∧ i0 = 31) ∨ (x0 = 330 ∧ i0 = 32) ∨ (x0 = 330 ∧ i0 = 33)) → M2 x0 i0 = M x0 i0) ∧ M2 331 = (f_day Ls w).1)) := by
              intro kq5
              induction kq5 with
              | zero =>
                intro s0 br wv2 M4 hm4 fr4 mr4_331 iv4_0 iv4_1 iv4_2
                exfalso
                omega
              | succ kq5 ih6 =>
                intro s0 br wv2 M4 hm4 fr4 mr4_331 iv4_0 iv4_1 iv4_2
                have qc0 := iv4_2.2.2.1
                refine ax_iload_n dX12_aDay_65 rfl rfl (pc' := 66) rfl ?_
                refine ax_bipush dX12_aDay_66 (by decide) (pc' := 68) rfl ?_
                refine ax_icmp_ge (tgt := 116) dX12_aDay_68 (by decide) (pc' := 71) rfl (fun h68 => ?_) (fun h68 => ?_)
                · replace qs2 : f_stm Ls wv1 = (wv2, br) := iv4_1.symm.trans (f_loop_done (by omega))
                  rw [qs2] at qa5 qa2
                  have qa6 : f_day Ls w = (f_up (f_stm Ls wv1).1 0 ((f_stm Ls wv1).1 0 + 1), (f_stm Ls wv1).2) := by
                    rw [qe]
                    rfl
                  rw [qs2] at qa6
                  dsimp only at qa5 qa6
                  refine ax_aload_n dX12_aDay_116 rfl rfl (pc' := 117) rfl ?_
                  refine ax_getr (v := 331) dX12_aDay_117 flX12_7 rfl sh_330 rfl (pc' := 120) rfl ?_
                  refine ax_iconst dX12_aDay_120 (by decide) (pc' := 121) rfl ?_
                  refine ax_dup2 dX12_aDay_121 (pc' := 122) rfl ?_
                  refine ax_iald (v := wv2 0) dX12_aDay_122 sh_331 rfl (by omega) (by omega) ((congrFun mr4_331 0).trans rfl) (pc' := 123) rfl ?_
                  refine ax_iconst dX12_aDay_123 (by decide) (pc' := 124) rfl ?_
                  refine ax_iadd dX12_aDay_124 (by omega) (pc' := 125) rfl ?_
                  refine ax_iast dX12_aDay_125 sh_331 rfl (by omega) (by omega) (pc' := 126) rfl ?_
                  refine ax_iload_n dX12_aDay_126 rfl rfl (pc' := 127) rfl ?_
                  refine ax_iret dX12_aDay_127 rfl ?_
                  refine ⟨rfl, ?_, ?_, ?_⟩
                  · refine congrArg (fun z => some (Sum.inl z)) ?_
                    rw [qa6]
                  · intro x0 i0 hai
                    exact (ax_up_miss (by omega) ((fr4 x0 i0 (by omega)).trans ((frM_44 x0 i0 (by omega)).trans ((fr1 x0 i0 (by omega)).trans rfl))))
                  · refine Eq.trans (ax_up_rowhit mr4_331) ?_
                    rw [qa6]
                · refine ax_iload_n dX12_aDay_71 rfl rfl (pc' := 72) rfl ?_
                  refine ax_iload_n dX12_aDay_72 rfl rfl (pc' := 73) rfl ?_
                  refine ax_ishr dX12_aDay_73 (pc' := 74) rfl ?_
                  refine ax_iconst dX12_aDay_74 (by decide) (pc' := 75) rfl ?_
                  refine ax_iand dX12_aDay_75 (pc' := 76) rfl ?_
                  refine ax_if_ne (tgt := 82) dX12_aDay_76 (by decide) (pc' := 79) rfl (fun h76 => ?_) (fun h76 => ?_)
                  · have qc1 := iv4_2.2.2.2 s0 (by omega) (by omega) h76
                    have qc2 := f_jv_drw iv4_2.1
                    have qc3 := qc2.1
                    have qc4 := qc2.2.2
                    have qc5 : 1 ≤ f_R (f_drw wv2) s0 1 := by
                      have qq := (iv4_2.1.2.1 s0 (by omega) (by omega)).2 qc1
                      rw [f_R_drw (by omega)]
                      show 1 ≤ f_R (wv2, br).1 s0 1
                      omega
                    refine ax_aload_n dX12_aDay_82 rfl rfl (pc' := 83) rfl ?_
                    refine ax_iload_n dX12_aDay_83 rfl rfl (pc' := 84) rfl ?_
                    refine ax_aload_n dX12_aDay_84 rfl rfl (pc' := 85) rfl ?_
                    refine ax_bipush dX12_aDay_85 (by decide) (pc' := 87) rfl ?_
                    refine ax_invG [.inl 100] [.inl s0, .inr 330] dX12_aDay_87 mlX12_442 sh_330 rfl rfl rfl (Nat.le_of_ble_eq_true rfl) (s_X12_draw E l _ (by omega) _ 100 mr4_331 (by first | omega | assumption)) (pc' := 90) rfl (fun vv M_87 hq co87 hcm87 => ?_)
                    obtain ⟨rfl, frM_87, mrM_87_0⟩ := hq
                    refine ax_reS (st2 := [.inl (ax_ushr (f_drw wv2 2) 8 % 100), .inl s0, .inr 330]) rfl ?_
                    have cc87 : -2147483648 ≤ ax_ushr (f_drw wv2 2) 8 % 100 ∧ ax_ushr (f_drw wv2 2) 8 % 100 < 2147483648 := co87 _ rfl
                    refine ax_invG [.inl s0, .inl (ax_ushr (f_drw wv2 2) 8 % 100)] [] dX12_aDay_90 mlX12_432 sh_330 rfl rfl rfl (Nat.le_of_ble_eq_true rfl) (s_X12_pulls E l _ (by omega) _ s0 (ax_ushr (f_drw wv2 2) 8 % 100) Ls mrM_87_0 ((funext fun i0 => frM_87 340 i0 (by omega)).trans rfl) ((funext fun i0 => frM_87 341 i0 (by omega)).trans rfl) ((funext fun i0 => frM_87 342 i0 (by omega)).trans rfl) ((funext fun i0 => frM_87 343 i0 (by omega)).trans rfl) (by first | omega | assumption) (by first | omega | assumption) (by first | omega | assumption) (by first | omega | assumption)) (pc' := 93) rfl (fun vv M_90 hq co90 hcm90 => ?_)
                    obtain ⟨rfl, frM_90, mrM_90_0, msM_90_0, msM_90_1, msM_90_2, msM_90_3⟩ := hq
                    refine ax_reS (st2 := [.inl ((f_stch Ls (f_drw wv2) s0 (ax_ushr (f_drw wv2 2) 8 % 100)).2.1)]) rfl ?_
                    have cc90 : -2147483648 ≤ (f_stch Ls (f_drw wv2) s0 (ax_ushr (f_drw wv2 2) 8 % 100)).2.1 ∧ (f_stch Ls (f_drw wv2) s0 (ax_ushr (f_drw wv2 2) 8 % 100)).2.1 < 2147483648 := co90 _ rfl
                    refine ax_pop dX12_aDay_93 (pc' := 94) rfl ?_
                    refine ax_iload_n dX12_aDay_94 rfl rfl (pc' := 95) rfl ?_
                    refine ax_aload_n dX12_aDay_95 rfl rfl (pc' := 96) rfl ?_
                    refine ax_geti (v := f_brk Ls (f_stch Ls (f_drw wv2) s0 (ax_ushr (f_drw wv2 2) 8 % 100)).1 s0 (ax_ushr (f_drw wv2 2) 8 % 100)) dX12_aDay_96 flX12_426 rfl sh_330 msM_90_3 rfl (pc' := 99) rfl ?_
                    refine ax_iconst dX12_aDay_99 (by decide) (pc' := 100) rfl ?_
                    refine ax_icmp_ne (tgt := 107) dX12_aDay_100 (by decide) (pc' := 103) rfl (fun h100 => ?_) (fun h100 => ?_)
                    · have qs3 : f_stmS Ls (f_set (f_drw wv1)) s0 (wv2, br) = (f_puls Ls (f_drw wv2) s0 (ax_ushr (f_drw wv2 2) 8 % 100), br + 1) := by
                        unfold f_stmS
                        rw [if_neg h76]
                        show (_, br + (if f_brk Ls (f_stch Ls (f_drw wv2) s0 (ax_ushr (f_drw wv2 2) 8 % 100)).1 s0 (ax_ushr (f_drw wv2 2) 8 % 100) = -1 then 0 else 1)) = _
                        rw [if_neg h100]
                        rfl
                      refine ax_iconst dX12_aDay_107 (by decide) (pc' := 108) rfl ?_
                      refine ax_iadd dX12_aDay_108 (by omega) (pc' := 109) rfl ?_
                      refine ax_istore_n dX12_aDay_109 rfl (by decide) (ls' := [some (.inr 330), some (.inl (br + 1)), some (.inl (f_set (f_drw wv1))), some (.inl s0)]) rfl (pc' := 110) rfl ?_
                      refine ax_iinc dX12_aDay_110 rfl (by decide) (by omega) (ls' := [some (.inr 330), some (.inl (br + 1)), some (.inl (f_set (f_drw wv1))), some (.inl (s0 + 1))]) rfl (pc' := 113) rfl ?_
                      refine ax_goto dX12_aDay_113 (pc' := 65) (by decide) ?_
                      refine ih6 (s0 + 1) (br + 1) (f_puls Ls (f_drw wv2) s0 (ax_ushr (f_drw wv2 2) 8 % 100)) M_90 ?_ ?_ ?_ ?_ ?_ ?_
                      · omega
                      · intro x0 i0 hai
                        exact ((frM_90 x0 i0 (by omega)).trans ((frM_87 x0 i0 (by omega)).trans ((fr4 x0 i0 (by omega)).trans rfl)))
                      · exact mrM_90_0
                      · omega
                      · exact f_loop_back (by omega) iv4_1 qs3
                      · have qf := f_stmS_ok (by omega) iv4_2
                        rw [qs3] at qf
                        exact qf
                    · have qs3 : f_stmS Ls (f_set (f_drw wv1)) s0 (wv2, br) = (f_puls Ls (f_drw wv2) s0 (ax_ushr (f_drw wv2 2) 8 % 100), br + 0) := by
                        unfold f_stmS
                        rw [if_neg h76]
                        show (_, br + (if f_brk Ls (f_stch Ls (f_drw wv2) s0 (ax_ushr (f_drw wv2 2) 8 % 100)).1 s0 (ax_ushr (f_drw wv2 2) 8 % 100) = -1 then 0 else 1)) = _
                        rw [if_pos h100]
                        rfl
                      refine ax_iconst dX12_aDay_103 (by decide) (pc' := 104) rfl ?_
                      refine ax_goto dX12_aDay_104 (pc' := 108) (by decide) ?_
                      refine ax_iadd dX12_aDay_108 (by omega) (pc' := 109) rfl ?_
                      refine ax_istore_n dX12_aDay_109 rfl (by decide) (ls' := [some (.inr 330), some (.inl (br + 0)), some (.inl (f_set (f_drw wv1))), some (.inl s0)]) rfl (pc' := 110) rfl ?_
                      refine ax_iinc dX12_aDay_110 rfl (by decide) (by omega) (ls' := [some (.inr 330), some (.inl (br + 0)), some (.inl (f_set (f_drw wv1))), some (.inl (s0 + 1))]) rfl (pc' := 113) rfl ?_
                      refine ax_goto dX12_aDay_113 (pc' := 65) (by decide) ?_
                      refine ih6 (s0 + 1) (br + 0) (f_puls Ls (f_drw wv2) s0 (ax_ushr (f_drw wv2 2) 8 % 100)) M_90 ?_ ?_ ?_ ?_ ?_ ?_
                      · omega
                      · intro x0 i0 hai
                        exact ((frM_90 x0 i0 (by omega)).trans ((frM_87 x0 i0 (by omega)).trans ((fr4 x0 i0 (by omega)).trans rfl)))
                      · exact mrM_90_0
                      · omega
                      · exact f_loop_back (by omega) iv4_1 qs3
                      · have qf := f_stmS_ok (by omega) iv4_2
                        rw [qs3] at qf
                        exact qf
                  · have qs3 : f_stmS Ls (f_set (f_drw wv1)) s0 (wv2, br) = (wv2, br) := if_pos h76
                    refine ax_goto dX12_aDay_79 (pc' := 110) (by decide) ?_
                    refine ax_iinc dX12_aDay_110 rfl (by decide) (by omega) (ls' := [some (.inr 330), some (.inl br), some (.inl (f_set (f_drw wv1))), some (.inl (s0 + 1))]) rfl (pc' := 113) rfl ?_
                    refine ax_goto dX12_aDay_113 (pc' := 65) (by decide) ?_
                    refine ih6 (s0 + 1) br wv2 M4 ?_ ?_ ?_ ?_ ?_ ?_
                    · omega
                    · intro x0 i0 hai
                      exact ((fr4 x0 i0 (by omega)).trans rfl)
                    · exact mr4_331
                    · omega
                    · exact f_loop_back (by omega) iv4_1 qs3
                    · have qf := f_stmS_ok (by omega) iv4_2
                      rw [qs3] at qf
                      exact qf
            refine LP4 (8 - 0 : Int).toNat.succ 0 0 (f_drw wv1) M_44 ?_ ?_ ?_ ?_ ?_ ?_
            · omega
            · exact fun a i _ => rfl
            · exact mrM_44_0
            · omega
            · exact qs2.symm
            · exact f_stI_0 iv1_2.1
      · refine ax_aload_n dX12_aDay_8 rfl rfl (pc' := 9) rfl ?_
        refine ax_iload_n dX12_aDay_9 rfl rfl (pc' := 10) rfl ?_
        refine ax_invG [.inl r] [] dX12_aDay_10 mlX12_82 sh_330 rfl rfl rfl (Nat.le_of_ble_eq_true rfl) (s_X12_isRope E l _ (by omega) _ r mr1_331) (pc' := 13) rfl (fun vv M_10 hq co10 hcm10 => ?_)
        obtain ⟨rfl, rfl⟩ := hq
        refine ax_reS (st2 := [.inl (f_b (f_isR wv1 r))]) rfl ?_
        refine ax_if_eq (tgt := 21) dX12_aDay_13 (by decide) (pc' := 16) rfl (fun h13 => ?_) (fun h13 => ?_)
        · replace h13 := f_b_0 h13
          have qs : f_fgR Ls r wv1 = wv1 := if_neg h13
          refine ax_iinc dX12_aDay_21 rfl (by decide) (by omega) (ls' := [some (.inr 330), some (.inl (r + 1)), none, none]) rfl (pc' := 24) rfl ?_
          refine ax_goto dX12_aDay_24 (pc' := 2) (by decide) ?_
          refine ih3 (r + 1) wv1 M1 ?_ ?_ ?_ ?_ ?_ ?_
          · omega
          · intro x0 i0 hai
            exact ((fr1 x0 i0 (by omega)).trans rfl)
          · exact mr1_331
          · omega
          · exact f_loop_back (by omega) iv1_1 qs
          · rw [← qs]
            exact f_fgR_ok (by omega) iv1_2
        · replace h13 := f_b_1 h13
          have qs : f_fgR Ls r wv1 = f_fg Ls wv1 r := if_pos h13
          refine ax_aload_n dX12_aDay_16 rfl rfl (pc' := 17) rfl ?_
          refine ax_iload_n dX12_aDay_17 rfl rfl (pc' := 18) rfl ?_
          refine ax_invG [.inl r] [] dX12_aDay_18 mlX12_438 sh_330 rfl rfl rfl (Nat.le_of_ble_eq_true rfl) (s_X12_forgetsAll E l _ (by omega) _ r Ls mr1_331 rfl rfl (by first | omega | assumption) (by first | omega | assumption)) (pc' := 21) rfl (fun vv M_18 hq co18 hcm18 => ?_)
          obtain ⟨rfl, frM_18, mrM_18_0⟩ := hq
          refine ax_reS (st2 := []) rfl ?_
          refine ax_iinc dX12_aDay_21 rfl (by decide) (by omega) (ls' := [some (.inr 330), some (.inl (r + 1)), none, none]) rfl (pc' := 24) rfl ?_
          refine ax_goto dX12_aDay_24 (pc' := 2) (by decide) ?_
          refine ih3 (r + 1) (f_fg Ls wv1 r) M_18 ?_ ?_ ?_ ?_ ?_ ?_
          · omega
          · intro x0 i0 hai
            exact ((frM_18 x0 i0 (by omega)).trans ((fr1 x0 i0 (by omega)).trans rfl))
          · exact mrM_18_0
          · omega
          · exact f_loop_back (by omega) iv1_1 qs
          · rw [← qs]
            exact f_fgR_ok (by omega) iv1_2
  refine LP1 (8 - 0 : Int).toNat.succ 0 w M ?_ ?_ ?_ ?_ ?_ ?_
  · omega
  · exact fun a i _ => rfl
  · exact hw
  · omega
  · rfl
  · exact ⟨hg0, f_k0_refl⟩
