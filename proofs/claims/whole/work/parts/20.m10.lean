/-! what holds between acts -/
def f_hd (w : Int → Int) : Prop := ∀ r, 0 ≤ r → r < 8 → (0 ≤ f_R w r 4 ∧ f_R w r 4 ≤ 9) ∧ (f_R w r 0 = 1 → 2 ≤ f_R w r 1)
def f_jv (Ls : Int → List f_Ln) (w : Int → Int) : Prop := f_iv w ∧ f_hd w ∧ f_lw Ls w
def f_out (w w' : Int → Int) : Prop := ∀ i, i < 4 ∨ 2564 ≤ i → w' i = w i
theorem f_out_refl {w : Int → Int} : f_out w w := fun _ _ => rfl
theorem f_out_trans {w w1 w2 : Int → Int} (h1 : f_out w w1) (h2 : f_out w1 w2) : f_out w w2 := fun i h => (h2 i h).trans (h1 i h)
theorem f_out_ag {w w' : Int → Int} (h : f_out w w') : f_ag w w' := fun i a _ => h i (Or.inr a)
theorem f_hd_sm {w w' : Int → Int} (h : ∀ r f, 0 ≤ r ∧ r < 8 ∧ 0 ≤ f ∧ f < 8 → f_R w' r f = f_R w r f) (hw : f_hd w) : f_hd w' := by
  intro r h1 h2
  rw [h r 4 (by omega), h r 0 (by omega), h r 1 (by omega)]
  exact hw r h1 h2
theorem f_jv_sm {Ls : Int → List f_Ln} {w w' : Int → Int} (hi : f_iv w') (h : f_sm w w') (hw : f_jv Ls w) : f_jv Ls w' := ⟨hi, f_hd_sm h.2.2.2.2 hw.2.1, f_lw_of h.1 hw.2.2⟩
theorem f_jv_stch {Ls : Int → List f_Ln} {w : Int → Int} {r f : Int} (hr : 0 ≤ r ∧ r < 8) (hw : f_jv Ls w) : f_jv Ls (f_stch Ls w r f).1 := by
  have h := f_stch_ok (Ls := Ls) (f := f) hr hw.1
  exact f_jv_sm h.1 h.2 hw
theorem f_jv_note {Ls : Int → List f_Ln} {w : Int → Int} {r p what how hand : Int} (hw : f_jv Ls w) : f_jv Ls (f_note w r p what how hand) := f_jv_sm (f_iv_note hw.1) (f_sm_note hw.1.2.2.2.1) hw
theorem f_R_beg {w : Int → Int} {r n ow bo we r' f' : Int} (hr : 0 ≤ r ∧ r < 8) (h' : 0 ≤ r' ∧ r' < 8 ∧ 0 ≤ f' ∧ f' < 8) : f_R (f_beg w r n ow bo we) r' f' = if r' = r then (if f' = 0 then 1 else if f' = 1 then n else if f' = 2 then ow else if f' = 3 then bo else if f' = 4 then we else f_R w r' f') else f_R w r' f' := by
  have e : f_R (f_beg w r n ow bo we) r' f' = f_R (f_sR (f_sR (f_sR (f_sR (f_sR w r 0 1) r 1 n) r 2 ow) r 3 bo) r 4 we) r' f' := by
    unfold f_beg
    refine f_loop_inv (P := fun x => f_R x r' f' = _) rfl (fun p x hp1 hp2 hx => ?_)
    unfold f_beg1
    refine f_loop_inv (P := fun y => f_R y r' f' = _) ?_ (fun k y hk1 hk2 hy => ?_)
    · rw [f_R_sP ⟨hr.1, hr.2, hp1, hp2, by omega, by omega⟩ h']
      exact hx
    · rw [f_R_hab ⟨hr.1, hr.2, hp1, hp2, hk1, hk2⟩ h']
      exact hy
  rw [e, f_R_sR ⟨hr.1, hr.2, by omega, by omega⟩ h', f_R_sR ⟨hr.1, hr.2, by omega, by omega⟩ h', f_R_sR ⟨hr.1, hr.2, by omega, by omega⟩ h', f_R_sR ⟨hr.1, hr.2, by omega, by omega⟩ h', f_R_sR ⟨hr.1, hr.2, by omega, by omega⟩ h']
  repeat' split
  all_goals first | rfl | omega
theorem f_out_beg {w : Int → Int} {r n ow bo we : Int} (hr : 0 ≤ r ∧ r < 8) : f_out w (f_beg w r n ow bo we) := by
  intro i hi
  unfold f_beg
  refine f_loop_inv (P := fun (x : Int → Int) => x i = w i) ?_ (fun p x hp1 hp2 hx => ?_)
  · rw [f_sR_out ⟨hr.1, hr.2, by omega, by omega⟩ hi, f_sR_out ⟨hr.1, hr.2, by omega, by omega⟩ hi, f_sR_out ⟨hr.1, hr.2, by omega, by omega⟩ hi, f_sR_out ⟨hr.1, hr.2, by omega, by omega⟩ hi, f_sR_out ⟨hr.1, hr.2, by omega, by omega⟩ hi]
  · unfold f_beg1
    refine f_loop_inv (P := fun (y : Int → Int) => y i = w i) ?_ (fun k y hk1 hk2 hy => ?_)
    · rw [f_sP_out ⟨hr.1, hr.2, hp1, hp2, by omega, by omega⟩ hi]
      exact hx
    · rw [f_hab_out ⟨hr.1, hr.2, hp1, hp2, hk1, hk2⟩ hi]
      exact hy
theorem f_out_cpy {w : Int → Int} {r p s q : Int} (hr : 0 ≤ r ∧ r < 8) (hp : 0 ≤ p ∧ p < 24) : f_out w (f_cpy w r p s q) := by
  intro i hi
  refine f_loop_inv (P := fun (x : Int → Int) => x i = w i) rfl (fun k x h1 h2 hx => ?_)
  rw [f_sP_out ⟨hr.1, hr.2, hp.1, hp.2, h1, h2⟩ hi]
  exact hx
theorem f_sm_hlv {w : Int → Int} {r p : Int} (hr : 0 ≤ r ∧ r < 8) (hp : 0 ≤ p ∧ p < 24) : f_sm w (f_hlv w r p) := by
  refine f_loop_inv (P := fun x => f_sm w x) f_sm_refl (fun k x h1 h2 hx => ?_)
  exact f_sm_trans hx (f_sm_hab ⟨hr.1, hr.2, hp.1, hp.2, h1, h2⟩)
theorem f_sm_clr {w : Int → Int} {r p : Int} (hr : 0 ≤ r ∧ r < 8) (hp : 0 ≤ p ∧ p < 24) : f_sm w (f_clr w r p) := by
  refine f_loop_inv (P := fun x => f_sm w x) f_sm_refl (fun k x h1 h2 hx => ?_)
  exact f_sm_trans hx (f_sm_hab ⟨hr.1, hr.2, hp.1, hp.2, h1, h2⟩)
theorem f_out_hlv {w : Int → Int} {r p : Int} (hr : 0 ≤ r ∧ r < 8) (hp : 0 ≤ p ∧ p < 24) : f_out w (f_hlv w r p) := by
  intro i hi
  refine f_loop_inv (P := fun (x : Int → Int) => x i = w i) rfl (fun k x h1 h2 hx => ?_)
  rw [f_hab_out ⟨hr.1, hr.2, hp.1, hp.2, h1, h2⟩ hi]
  exact hx
theorem f_out_clr {w : Int → Int} {r p : Int} (hr : 0 ≤ r ∧ r < 8) (hp : 0 ≤ p ∧ p < 24) : f_out w (f_clr w r p) := by
  intro i hi
  refine f_loop_inv (P := fun (x : Int → Int) => x i = w i) rfl (fun k x h1 h2 hx => ?_)
  rw [f_hab_out ⟨hr.1, hr.2, hp.1, hp.2, h1, h2⟩ hi]
  exact hx
/-- heads after a part -/
theorem f_p1_ok {w : Int → Int} {r p : Int} (hr : 0 ≤ r ∧ r < 8) (hp : 0 ≤ p ∧ p ≤ f_R w r 1) (hl : f_R w r 1 ≤ 24) : f_out w (f_p1 w r p) ∧ ∀ r' f', 0 ≤ r' ∧ r' < 8 ∧ 0 ≤ f' ∧ f' < 8 → f_R (f_p1 w r p) r' f' = if r' = f_pfr w r p then (if f' = 0 then 1 else if f' = 1 then f_R w r 1 - p else if f' = 2 then f_R w r 2 else if f' = 3 then f_R w r 3 else if f' = 4 then f_R w r 4 else f_R w r' f') else f_R w r' f' := by
  unfold f_p1
  rcases f_pfr_rg (w := w) (r := r) (p := p) with h | h
  · rw [if_pos h]
    exact ⟨f_out_refl, fun r' f' h' => by rw [if_neg (by omega)]⟩
  · rw [if_neg (by omega)]
    generalize f_pfr w r p = s at h
    have ho : f_out w (f_ptl w r p s) := f_loop_inv (P := fun x => f_out w x) (f_out_beg h) (fun q x h1 h2 hx => f_out_trans hx (f_out_cpy h (by omega)))
    have hR : ∀ r' f', 0 ≤ r' ∧ r' < 8 ∧ 0 ≤ f' ∧ f' < 8 → f_R (f_ptl w r p s) r' f' = f_R (f_beg w s (f_R w r 1 - p) (f_R w r 2) (f_R w r 3) (f_R w r 4)) r' f' := by
      intro r' f' h'
      refine f_loop_inv (P := fun x => f_R x r' f' = _) rfl (fun q x h1 h2 hx => ?_)
      exact (f_R_cpy h (by omega) h').trans hx
    refine ⟨f_out_trans ho (f_out_clr h (by omega)), fun r' f' h' => ?_⟩
    rw [(f_sm_clr h (by omega)).2.2.2.2 r' f' h', hR r' f' h', f_R_beg h h']
theorem f_part_ok {w : Int → Int} {r p : Int} (hr : 0 ≤ r ∧ r < 8) (hp : 0 ≤ p ∧ p < f_R w r 1) (hl : f_R w r 1 ≤ 24) : f_out w (f_part w r p) ∧ ∀ r' f', 0 ≤ r' ∧ r' < 8 ∧ 0 ≤ f' ∧ f' < 8 → f_R (f_part w r p) r' f' = if r' = r ∧ f' = 1 then p else if r' = r ∧ f' = 0 ∧ p < 2 then 0 else f_R (f_p1 w r p) r' f' := by
  obtain ⟨h1, h2⟩ := f_p1_ok hr (by omega : 0 ≤ p ∧ p ≤ f_R w r 1) hl
  have e : f_out w (f_p2 w r p) ∧ ∀ r' f', 0 ≤ r' ∧ r' < 8 ∧ 0 ≤ f' ∧ f' < 8 → f_R (f_p2 w r p) r' f' = f_R (f_p1 w r p) r' f' := by
    unfold f_p2
    split
    · exact ⟨f_out_trans h1 (f_out_hlv hr (by omega)), fun r' f' h' => (f_sm_hlv hr (by omega)).2.2.2.2 r' f' h'⟩
    · exact ⟨h1, fun _ _ _ => rfl⟩
  unfold f_part
  split
  · refine ⟨fun i hi => ?_, fun r' f' h' => ?_⟩
    · rw [f_sR_out ⟨hr.1, hr.2, by omega, by omega⟩ hi, f_sR_out ⟨hr.1, hr.2, by omega, by omega⟩ hi]
      exact e.1 i hi
    · rw [f_R_sR ⟨hr.1, hr.2, by omega, by omega⟩ h', f_R_sR ⟨hr.1, hr.2, by omega, by omega⟩ h', e.2 r' f' h']
      repeat' split
      all_goals first | rfl | omega
  · refine ⟨fun i hi => ?_, fun r' f' h' => ?_⟩
    · rw [f_sR_out ⟨hr.1, hr.2, by omega, by omega⟩ hi]
      exact e.1 i hi
    · rw [f_R_sR ⟨hr.1, hr.2, by omega, by omega⟩ h', e.2 r' f' h']
      repeat' split
      all_goals first | rfl | omega
theorem f_pfr_no {w : Int → Int} {r p : Int} (h : f_pfr w r p ≠ -1) : 2 ≤ f_R w r 1 - p ∧ f_R w (f_pfr w r p) 0 = 0 := by
  unfold f_pfr at h ⊢
  split at h
  · omega
  · rename_i hh
    rw [if_neg hh]
    rcases f_free_rg (w := w) with e | e
    · omega
    · exact ⟨by omega, e.2.2⟩
theorem f_jv_part {Ls : Int → List f_Ln} {w : Int → Int} {r p : Int} (hr : 0 ≤ r ∧ r < 8) (hp : 0 ≤ p ∧ p < f_R w r 1) (hw : f_jv Ls w) : f_jv Ls (f_part w r p) := by
  have hl := hw.1.1 r hr.1 hr.2
  obtain ⟨h1, h2⟩ := f_part_ok hr hp hl.2.2
  obtain ⟨-, h3⟩ := f_p1_ok hr (by omega : 0 ≤ p ∧ p ≤ f_R w r 1) hl.2.2
  refine ⟨f_iv_part hr hp hw.1, ?_, f_lw_of (f_out_ag h1) hw.2.2⟩
  intro s a b
  have c := hw.2.1 s a b
  have c2 := hw.2.1 r hr.1 hr.2
  have c3 := f_pfr_rg (w := w) (r := r) (p := p)
  have c4 := f_pfr_no (w := w) (r := r) (p := p)
  rw [h2 s 4 (by omega), h2 s 0 (by omega), h2 s 1 (by omega), h3 s 4 (by omega), h3 s 0 (by omega), h3 s 1 (by omega)]
  have c5 : s = f_pfr w r p → 2 ≤ f_R w r 1 - p := fun e => (c4 (by omega)).1
  clear c4 h2 h3 h1 hw
  refine ⟨?_, ?_⟩
  · repeat' split
    all_goals first | omega | exact c.1 | exact c2.1
  · repeat' split
    all_goals first | omega | exact c.2
theorem f_brk_rg {Ls : Int → List f_Ln} {w : Int → Int} {r f : Int} (h : 1 ≤ f_R w r 1) : f_brk Ls w r f = -1 ∨ 0 ≤ f_brk Ls w r f ∧ f_brk Ls w r f < f_R w r 1 := by
  have e := f_wk_rg (Ls := Ls) (w := w) (r := r)
  unfold f_brk
  split <;> omega
theorem f_jv_puls {Ls : Int → List f_Ln} {w : Int → Int} {r f : Int} (hr : 0 ≤ r ∧ r < 8) (hl : 1 ≤ f_R w r 1) (hw : f_jv Ls w) : f_jv Ls (f_puls Ls w r f) := by
  have h1 := f_stch_ok (Ls := Ls) (f := f) hr hw.1
  have h2 := f_jv_stch (f := f) hr hw
  have h3 : f_R (f_stch Ls w r f).1 r 1 = f_R w r 1 := h1.2.2.2.2.2 r 1 (by omega)
  unfold f_puls
  split
  · exact h2
  · rcases f_brk_rg (Ls := Ls) (w := (f_stch Ls w r f).1) (r := r) (f := f) (by omega) with e | e
    · contradiction
    · exact f_jv_note (f_jv_part hr e h2)
/-- a day -/
def f_fgS (Ls : Int → List f_Ln) (r p k : Int) (w : Int → Int) : Int → Int := if f_P w r p 0 = -1 ∧ 0 < f_P w r p (1 + k) then f_hab w r p k (max 0 (f_P w r p (1 + k) - f_loss Ls w r p k)) (f_P w r p (7 + k)) else w
def f_fg1 (Ls : Int → List f_Ln) (w : Int → Int) (r : Int) : Int → Int := f_loop (fun p x => f_loop (f_fgS Ls r p) 0 6 x) 0 (f_R w r 1) w
def f_fg (Ls : Int → List f_Ln) (w : Int → Int) (r : Int) : Int → Int := f_sR (f_fg1 Ls w r) r 4 (max 0 (f_R (f_fg1 Ls w r) r 4 - 1))
theorem f_loss_rg {Ls : Int → List f_Ln} {w : Int → Int} {r p k : Int} : 0 ≤ f_loss Ls w r p k ∧ f_loss Ls w r p k ≤ 99 := by
  unfold f_loss
  omega
theorem f_fgS_ok {Ls : Int → List f_Ln} {w : Int → Int} {r p k : Int} (hr : 0 ≤ r ∧ r < 8) (hp : 0 ≤ p ∧ p < 24) (hk : 0 ≤ k ∧ k < 6) (hw : f_iv w) : f_iv (f_fgS Ls r p k w) ∧ f_sm w (f_fgS Ls r p k w) := by
  have h1 := f_rgH hw.2.1 hr hp hk
  have h2 := f_rgS hw.2.1 hr hp hk
  have h3 := f_loss_rg (Ls := Ls) (w := w) (r := r) (p := p) (k := k)
  unfold f_fgS
  split
  · exact ⟨f_iv_hab ⟨hr.1, hr.2, hp.1, hp.2, hk.1, hk.2⟩ (by omega) (Or.inr h2) hw, f_sm_hab ⟨hr.1, hr.2, hp.1, hp.2, hk.1, hk.2⟩⟩
  · exact ⟨hw, f_sm_refl⟩
theorem f_fg1_ok {Ls : Int → List f_Ln} {w : Int → Int} {r : Int} (hr : 0 ≤ r ∧ r < 8) (hw : f_iv w) : f_iv (f_fg1 Ls w r) ∧ f_sm w (f_fg1 Ls w r) := by
  have h := hw.1 r hr.1 hr.2
  refine f_loop_inv (P := fun x => f_iv x ∧ f_sm w x) ⟨hw, f_sm_refl⟩ (fun p x h1 h2 hx => ?_)
  refine f_loop_inv (P := fun y => f_iv y ∧ f_sm w y) hx (fun k y h3 h4 hy => ?_)
  have e := f_fgS_ok (Ls := Ls) (p := p) (k := k) hr (by omega) (by omega) hy.1
  exact ⟨e.1, f_sm_trans hy.2 e.2⟩
theorem f_jv_wet {Ls : Int → List f_Ln} {w : Int → Int} {r v : Int} (hr : 0 ≤ r ∧ r < 8) (hv : 0 ≤ v ∧ v ≤ 9) (hw : f_jv Ls w) : f_jv Ls (f_sR w r 4 v) := by
  refine ⟨f_iv_sR ⟨hr.1, hr.2, by omega, by omega⟩ (by omega) (by omega) hw.1, ?_, f_lw_of (fun i a _ => f_sR_out ⟨hr.1, hr.2, by omega, by omega⟩ (Or.inr a)) hw.2.2⟩
  intro s a b
  have c := hw.2.1 s a b
  rw [f_R_sR ⟨hr.1, hr.2, by omega, by omega⟩ ⟨a, b, by omega, by omega⟩, f_R_sR ⟨hr.1, hr.2, by omega, by omega⟩ ⟨a, b, by omega, by omega⟩, f_R_sR ⟨hr.1, hr.2, by omega, by omega⟩ ⟨a, b, by omega, by omega⟩]
  refine ⟨?_, ?_⟩
  · repeat' split
    all_goals first | omega | exact c.1
  · repeat' split
    all_goals first | omega | exact c.2
theorem f_jv_fg {Ls : Int → List f_Ln} {w : Int → Int} {r : Int} (hr : 0 ≤ r ∧ r < 8) (hw : f_jv Ls w) : f_jv Ls (f_fg Ls w r) := by
  have h := f_fg1_ok (Ls := Ls) hr hw.1
  have h2 := f_jv_sm h.1 h.2 hw
  have h3 := h2.2.1 r hr.1 hr.2
  exact f_jv_wet hr (by omega) h2
set_option maxRecDepth 20000 in
theorem s_X12_pull_no (E : ax_Env) (l : Launch) (d : Nat) (hd : 7 ≤ d) (M : ax_Mem) (r f : Int) {w : Int → Int} (hw : M 331 = w) (hg0 : ¬ (f_isR w r ∧ 0 ≤ f ∧ f ≤ 99)) : ax_G E l d iX12_pull [.inr 330, .inl r, .inl f] M (fun z0 M2 => z0 = some (.inl (-1)) ∧ M = M2) := by
  obtain ⟨d, rfl⟩ : ∃ d0, d = d0 + 1 := ⟨d - 1, by omega⟩
  refine ax_start rfl (Nat.le_of_ble_eq_true rfl) (ls := [some (.inr 330), some (.inl r), some (.inl f)]) rfl (fun hav hcm => ?_)
  have hc1 : -2147483648 ≤ r ∧ r < 2147483648 := hav (.inl r) (by simp)
  have hc2 : -2147483648 ≤ f ∧ f < 2147483648 := hav (.inl f) (by simp)
  clear hav
  refine ax_aload_n dX12_pull_0 rfl rfl (pc' := 1) rfl ?_
  refine ax_iload_n dX12_pull_1 rfl rfl (pc' := 2) rfl ?_
  refine ax_invG [.inl r] [] dX12_pull_2 mlX12_82 sh_330 rfl rfl rfl (Nat.le_of_ble_eq_true rfl) (s_X12_isRope E l _ (by omega) _ r hw) (pc' := 5) rfl (fun vv M_2 hq co2 hcm2 => ?_)
  obtain ⟨rfl, rfl⟩ := hq
  refine ax_reS (st2 := [.inl (f_b (f_isR w r))]) rfl ?_
  refine ax_if_eq (tgt := 18) dX12_pull_5 (by decide) (pc' := 8) rfl (fun h5 => ?_) (fun h5 => ?_)
  · replace h5 := f_b_0 h5
    refine ax_iconst dX12_pull_18 (by decide) (pc' := 19) rfl ?_
    refine ax_iret dX12_pull_19 rfl ?_
    refine ⟨rfl, ?_, ?_⟩
    · rfl
    · rfl
  · replace h5 := f_b_1 h5
    refine ax_iload_n dX12_pull_8 rfl rfl (pc' := 9) rfl ?_
    refine ax_iconst dX12_pull_9 (by decide) (pc' := 10) rfl ?_
    refine ax_bipush dX12_pull_10 (by decide) (pc' := 12) rfl ?_
    refine ax_insG [.inl f, .inl 0, .inl 99] [] dX12_pull_12 mlX12_74 rfl rfl (Nat.le_of_ble_eq_true rfl) (s_X12_isIn E l _ (by omega) _ f 0 99) (pc' := 15) rfl (fun vv M_12 hq co12 hcm12 => ?_)
    obtain ⟨rfl, rfl⟩ := hq
    refine ax_reS (st2 := [.inl (f_b (0 ≤ f ∧ f ≤ 99))]) rfl ?_
    refine ax_if_ne (tgt := 20) dX12_pull_15 (by decide) (pc' := 18) rfl (fun h15 => ?_) (fun h15 => ?_)
    · replace h15 := f_b_1 h15
      exfalso
      omega
    · replace h15 := f_b_0 h15
      refine ax_iconst dX12_pull_18 (by decide) (pc' := 19) rfl ?_
      refine ax_iret dX12_pull_19 rfl ?_
      refine ⟨rfl, ?_, ?_⟩
      · rfl
      · rfl
set_option maxRecDepth 20000 in
theorem s_X12_pull_ok (E : ax_Env) (l : Launch) (d : Nat) (hd : 7 ≤ d) (M : ax_Mem) (r f : Int) (Ls : Int → List f_Ln) {w : Int → Int} (hw : M 331 = w) {pl : Int → Int} (hpl : M 340 = pl) {F : Int → Int} (hF : M 341 = F) {rw0 : Int → Int} (hrw0 : M 342 = rw0) {cv0 : Int → Int} (hcv0 : M 343 = cv0) {b : Int → Int} (hb : M 333 = b) {m : Int} (hm : M 330 4 = m) (hg0 : f_jv Ls w) (hg1 : 0 ≤ m ∧ m ≤ 5) (hg2 : f_isR w r ∧ 0 ≤ f ∧ f ≤ 99) : ax_G E l d iX12_pull [.inr 330, .inl r, .inl f] M (fun z0 M2 => z0 = some (.inl ((f_stch Ls w r f).2.1)) ∧ (∀ x0 i0 : Int, ¬ (x0 = 331 ∨ x0 = 333 ∨ (x0 = 330 ∧ i0 = 4) ∨ x0 = 340 ∨ x0 = 341 ∨ x0 = 342 ∨ x0 = 343 ∨ (x0 = 330 ∧ i0 = 30) ∨ (x0 = 330 ∧ i0 = 31) ∨ (x0 = 330 ∧ i0 = 32) ∨ (x0 = 330 ∧ i0 = 33)) → M2 x0 i0 = M x0 i0) ∧ M2 331 = f_puls Ls w r f ∧ M2 333 = f_keep b w m ∧ M2 330 4 = f_keepN m) := by
  obtain ⟨d, rfl⟩ : ∃ d0, d = d0 + 1 := ⟨d - 1, by omega⟩
  refine ax_start rfl (Nat.le_of_ble_eq_true rfl) (ls := [some (.inr 330), some (.inl r), some (.inl f)]) rfl (fun hav hcm => ?_)
  have hc1 : -2147483648 ≤ r ∧ r < 2147483648 := hav (.inl r) (by simp)
  have hc2 : -2147483648 ≤ f ∧ f < 2147483648 := hav (.inl f) (by simp)
  clear hav
  have qa1 := hg0.1
  have qa2 := hg0.2.2
  have qa3 := (hg0.2.1 r (by omega) (by omega)).2 (by omega)
  refine ax_aload_n dX12_pull_0 rfl rfl (pc' := 1) rfl ?_
  refine ax_iload_n dX12_pull_1 rfl rfl (pc' := 2) rfl ?_
  refine ax_invG [.inl r] [] dX12_pull_2 mlX12_82 sh_330 rfl rfl rfl (Nat.le_of_ble_eq_true rfl) (s_X12_isRope E l _ (by omega) _ r hw) (pc' := 5) rfl (fun vv M_2 hq co2 hcm2 => ?_)
  obtain ⟨rfl, rfl⟩ := hq
  refine ax_reS (st2 := [.inl (f_b (f_isR w r))]) rfl ?_
  refine ax_if_eq (tgt := 18) dX12_pull_5 (by decide) (pc' := 8) rfl (fun h5 => ?_) (fun h5 => ?_)
  · replace h5 := f_b_0 h5
    exfalso
    omega
  · replace h5 := f_b_1 h5
    refine ax_iload_n dX12_pull_8 rfl rfl (pc' := 9) rfl ?_
    refine ax_iconst dX12_pull_9 (by decide) (pc' := 10) rfl ?_
    refine ax_bipush dX12_pull_10 (by decide) (pc' := 12) rfl ?_
    refine ax_insG [.inl f, .inl 0, .inl 99] [] dX12_pull_12 mlX12_74 rfl rfl (Nat.le_of_ble_eq_true rfl) (s_X12_isIn E l _ (by omega) _ f 0 99) (pc' := 15) rfl (fun vv M_12 hq co12 hcm12 => ?_)
    obtain ⟨rfl, rfl⟩ := hq
    refine ax_reS (st2 := [.inl (f_b (0 ≤ f ∧ f ≤ 99))]) rfl ?_
    refine ax_if_ne (tgt := 20) dX12_pull_15 (by decide) (pc' := 18) rfl (fun h15 => ?_) (fun h15 => ?_)
    · replace h15 := f_b_1 h15
      refine ax_aload_n dX12_pull_20 rfl rfl (pc' := 21) rfl ?_
      refine ax_invG [] [] dX12_pull_21 mlX12_379 sh_330 rfl rfl rfl (Nat.le_of_ble_eq_true rfl) (s_X12_keeps E l _ (by omega) _ hw hb hm (by first | omega | assumption)) (pc' := 24) rfl (fun vv M_21 hq co21 hcm21 => ?_)
      obtain ⟨rfl, frM_21, mrM_21_0, msM_21_0⟩ := hq
      refine ax_reS (st2 := []) rfl ?_
      refine ax_aload_n dX12_pull_24 rfl rfl (pc' := 25) rfl ?_
      refine ax_iload_n dX12_pull_25 rfl rfl (pc' := 26) rfl ?_
      refine ax_iload_n dX12_pull_26 rfl rfl (pc' := 27) rfl ?_
      refine ax_invG [.inl r, .inl f] [] dX12_pull_27 mlX12_432 sh_330 rfl rfl rfl (Nat.le_of_ble_eq_true rfl) (s_X12_pulls E l _ (by omega) _ r f Ls ((funext fun i0 => frM_21 331 i0 (by omega)).trans hw) ((funext fun i0 => frM_21 340 i0 (by omega)).trans hpl) ((funext fun i0 => frM_21 341 i0 (by omega)).trans hF) ((funext fun i0 => frM_21 342 i0 (by omega)).trans hrw0) ((funext fun i0 => frM_21 343 i0 (by omega)).trans hcv0) (by first | omega | assumption) (by first | omega | assumption) (by first | omega | assumption) (by first | omega | assumption)) (pc' := 30) rfl (fun vv M_27 hq co27 hcm27 => ?_)
      obtain ⟨rfl, frM_27, mrM_27_0, msM_27_0, msM_27_1, msM_27_2, msM_27_3⟩ := hq
      refine ax_reS (st2 := [.inl ((f_stch Ls w r f).2.1)]) rfl ?_
      have cc27 : -2147483648 ≤ (f_stch Ls w r f).2.1 ∧ (f_stch Ls w r f).2.1 < 2147483648 := co27 _ rfl
      refine ax_iret dX12_pull_30 rfl ?_
      refine ⟨rfl, ?_, ?_, ?_, ?_, ?_⟩
      · rfl
      · intro x0 i0 hai
        exact ((frM_27 x0 i0 (by omega)).trans ((frM_21 x0 i0 (by omega)).trans rfl))
      · exact mrM_27_0
      · exact ((funext fun i0 => frM_27 333 i0 (by omega)).trans mrM_21_0)
      · exact ((frM_27 330 4 (by omega)).trans msM_21_0)
    · replace h15 := f_b_0 h15
      exfalso
      omega
set_option maxRecDepth 20000 in
theorem s_X12_forgetsAll (E : ax_Env) (l : Launch) (d : Nat) (hd : 4 ≤ d) (M : ax_Mem) (r : Int) (Ls : Int → List f_Ln) {w : Int → Int} (hw : M 331 = w) {pl : Int → Int} (hpl : M 340 = pl) {F : Int → Int} (hF : M 341 = F) (hg0 : 0 ≤ r ∧ r < 8) (hg1 : f_jv Ls w) : ax_G E l d iX12_forgetsAll [.inr 330, .inl r] M (fun z0 M2 => z0 = none ∧ (∀ x0 i0 : Int, ¬ (x0 = 331 ∨ x0 = 340 ∨ x0 = 341) → M2 x0 i0 = M x0 i0) ∧ M2 331 = f_fg Ls w r) := by
  obtain ⟨d, rfl⟩ : ∃ d0, d = d0 + 1 := ⟨d - 1, by omega⟩
  refine ax_start rfl (Nat.le_of_ble_eq_true rfl) (ls := [some (.inr 330), some (.inl r), none, none]) rfl (fun hav hcm => ?_)
  have hc1 : -2147483648 ≤ r ∧ r < 2147483648 := hav (.inl r) (by simp)
  clear hav
  have qa1 := hg1.1.1 r (by omega) (by omega)
  have qz := f_fg1_ok (Ls := Ls) hg0 hg1.1
  have qz2 := (f_jv_sm qz.1 qz.2 hg1).2.1 r (by omega) (by omega)
  refine ax_iconst dX12_forgetsAll_0 (by decide) (pc' := 1) rfl ?_
  refine ax_istore_n dX12_forgetsAll_1 rfl (by decide) (ls' := [some (.inr 330), some (.inl r), some (.inl 0), none]) rfl (pc' := 2) rfl ?_
  have LP1 : ∀ (kq2 : Nat) (p : Int) (wv1 : Int → Int) (M1 : ax_Mem) (hm1 : f_R w r 1 - p < (kq2 : Nat)) (fr1 : ∀ x0 i0 : Int, ¬ (x0 = 331 ∨ x0 = 340 ∨ x0 = 341) → M1 x0 i0 = M x0 i0) (mr1_331 : M1 331 = wv1) (iv1_0 : 0 ≤ p ∧ p ≤ f_R w r 1) (iv1_1 : f_loop (fun p x => f_loop (f_fgS Ls r p) 0 6 x) p (f_R w r 1) wv1 = f_fg1 Ls w r) (iv1_2 : f_iv wv1 ∧ f_sm w wv1), ax_W E l (d + 1) 0 0 iX12_forgetsAll 2 [some (.inr 330), some (.inl r), some (.inl p), none] [] SH M1 (ax_P (fun z0 M2 => z0 = none ∧ (∀ x0 i0 : Int, ¬ (x0 = 331 ∨ x0 = 340 ∨ x0 = 341) → M2 x0 i0 = M x0 i0) ∧ M2 331 = f_fg Ls w r)) := by
    intro kq2
    induction kq2 with
    | zero =>
      intro p wv1 M1 hm1 fr1 mr1_331 iv1_0 iv1_1 iv1_2
      exfalso
      omega
    | succ kq2 ih3 =>
      intro p wv1 M1 hm1 fr1 mr1_331 iv1_0 iv1_1 iv1_2
      have qb2 : f_R wv1 r 1 = f_R w r 1 := iv1_2.2.2.2.2.2 r 1 (by omega)
      refine ax_iload_n dX12_forgetsAll_2 rfl rfl (pc' := 3) rfl ?_
      refine ax_aload_n dX12_forgetsAll_3 rfl rfl (pc' := 4) rfl ?_
      refine ax_iload_n dX12_forgetsAll_4 rfl rfl (pc' := 5) rfl ?_
      refine ax_iconst dX12_forgetsAll_5 (by decide) (pc' := 6) rfl ?_
      refine ax_invG [.inl r, .inl 1] [.inl p] dX12_forgetsAll_6 mlX12_78 sh_330 rfl rfl rfl (Nat.le_of_ble_eq_true rfl) (s_X12_ofRope E l _ (by omega) _ r 1 mr1_331 (by first | omega | assumption) (by first | omega | assumption)) (pc' := 9) rfl (fun vv M_6 hq co6 hcm6 => ?_)
      obtain ⟨rfl, rfl⟩ := hq
      refine ax_reS (st2 := [.inl (f_R wv1 r 1), .inl p]) rfl ?_
      have cc6 : -2147483648 ≤ f_R wv1 r 1 ∧ f_R wv1 r 1 < 2147483648 := co6 _ rfl
      refine ax_icmp_ge (tgt := 87) dX12_forgetsAll_9 (by decide) (pc' := 12) rfl (fun h9 => ?_) (fun h9 => ?_)
      · have qe : wv1 = f_fg1 Ls w r := (f_loop_done (by omega)).symm.trans iv1_1
        rw [← qe] at qz2
        refine ax_aload_n dX12_forgetsAll_87 rfl rfl (pc' := 88) rfl ?_
        refine ax_iload_n dX12_forgetsAll_88 rfl rfl (pc' := 89) rfl ?_
        refine ax_iconst dX12_forgetsAll_89 (by decide) (pc' := 90) rfl ?_
        refine ax_iconst dX12_forgetsAll_90 (by decide) (pc' := 91) rfl ?_
        refine ax_aload_n dX12_forgetsAll_91 rfl rfl (pc' := 92) rfl ?_
        refine ax_iload_n dX12_forgetsAll_92 rfl rfl (pc' := 93) rfl ?_
        refine ax_iconst dX12_forgetsAll_93 (by decide) (pc' := 94) rfl ?_
        refine ax_invG [.inl r, .inl 4] [.inl 0, .inl 4, .inl r, .inr 330] dX12_forgetsAll_94 mlX12_78 sh_330 rfl rfl rfl (Nat.le_of_ble_eq_true rfl) (s_X12_ofRope E l _ (by omega) _ r 4 mr1_331 (by first | omega | assumption) (by first | omega | assumption)) (pc' := 97) rfl (fun vv M_94 hq co94 hcm94 => ?_)
        obtain ⟨rfl, rfl⟩ := hq
        refine ax_reS (st2 := [.inl (f_R wv1 r 4), .inl 0, .inl 4, .inl r, .inr 330]) rfl ?_
        have cc94 : -2147483648 ≤ f_R wv1 r 4 ∧ f_R wv1 r 4 < 2147483648 := co94 _ rfl
        refine ax_iconst dX12_forgetsAll_97 (by decide) (pc' := 98) rfl ?_
        refine ax_isub dX12_forgetsAll_98 (by omega) (pc' := 99) rfl ?_
        refine ax_insG [.inl 0, .inl (f_R wv1 r 4 - 1)] [.inl 4, .inl r, .inr 330] dX12_forgetsAll_99 mlX12_337 rfl rfl (Nat.le_of_ble_eq_true rfl) (s_X12_greater E l _ (by omega) _ 0 (f_R wv1 r 4 - 1)) (pc' := 102) rfl (fun vv M_99 hq co99 hcm99 => ?_)
        obtain ⟨rfl, rfl⟩ := hq
        refine ax_reS (st2 := [.inl (max 0 (f_R wv1 r 4 - 1)), .inl 4, .inl r, .inr 330]) rfl ?_
        have cc99 : -2147483648 ≤ max 0 (f_R wv1 r 4 - 1) ∧ max 0 (f_R wv1 r 4 - 1) < 2147483648 := co99 _ rfl
        refine ax_invG [.inl r, .inl 4, .inl (max 0 (f_R wv1 r 4 - 1))] [] dX12_forgetsAll_102 mlX12_98 sh_330 rfl rfl rfl (Nat.le_of_ble_eq_true rfl) (s_X12_ropes E l _ (by omega) _ r 4 (max 0 (f_R wv1 r 4 - 1)) mr1_331 (by first | omega | assumption) (by first | omega | assumption)) (pc' := 105) rfl (fun vv M_102 hq co102 hcm102 => ?_)
        obtain ⟨rfl, frM_102, mrM_102_0⟩ := hq
        refine ax_reS (st2 := []) rfl ?_
        refine ax_vret dX12_forgetsAll_105 rfl ?_
        refine ⟨rfl, rfl, ?_, ?_⟩
        · intro x0 i0 hai
          exact ((frM_102 x0 i0 (by omega)).trans ((fr1 x0 i0 (by omega)).trans rfl))
        · refine Eq.trans mrM_102_0 ?_
          rw [qe]
          rfl
      · refine ax_iconst dX12_forgetsAll_12 (by decide) (pc' := 13) rfl ?_
        refine ax_istore_n dX12_forgetsAll_13 rfl (by decide) (ls' := [some (.inr 330), some (.inl r), some (.inl p), some (.inl 0)]) rfl (pc' := 14) rfl ?_
        have LP4 : ∀ (kq5 : Nat) (k : Int) (wv2 : Int → Int) (M4 : ax_Mem) (hm4 : 6 - k < (kq5 : Nat)) (fr4 : ∀ x0 i0 : Int, ¬ (x0 = 331 ∨ x0 = 340 ∨ x0 = 341) → M4 x0 i0 = M1 x0 i0) (mr4_331 : M4 331 = wv2) (iv4_0 : 0 ≤ k ∧ k ≤ 6) (iv4_1 : f_loop (f_fgS Ls r p) k 6 wv2 = f_loop (f_fgS Ls r p) 0 6 wv1) (iv4_2 : f_iv wv2 ∧ f_sm w wv2), ax_W E l (d + 1) 0 0 iX12_forgetsAll 14 [some (.inr 330), some (.inl r), some (.inl p), some (.inl k)] [] SH M4 (ax_P (fun z0 M2 => z0 = none ∧ (∀ x0 i0 : Int, ¬ (x0 = 331 ∨ x0 = 340 ∨ x0 = 341) → M2 x0 i0 = M x0 i0) ∧ M2 331 = f_fg Ls w r)) := by
          intro kq5
          induction kq5 with
          | zero =>
            intro k wv2 M4 hm4 fr4 mr4_331 iv4_0 iv4_1 iv4_2
            exfalso
            omega
          | succ kq5 ih6 =>
            intro k wv2 M4 hm4 fr4 mr4_331 iv4_0 iv4_1 iv4_2
            have qc1 := iv4_2.1
            have qc2 := f_lw_of iv4_2.2.1 hg1.2.2
            have qc3 := f_loss_rg (Ls := Ls) (w := wv2) (r := r) (p := p) (k := k)
            refine ax_iload_n dX12_forgetsAll_14 rfl rfl (pc' := 15) rfl ?_
            refine ax_bipush dX12_forgetsAll_15 (by decide) (pc' := 17) rfl ?_
            refine ax_icmp_ge (tgt := 81) dX12_forgetsAll_17 (by decide) (pc' := 20) rfl (fun h17 => ?_) (fun h17 => ?_)
            · refine ax_iinc dX12_forgetsAll_81 rfl (by decide) (by omega) (ls' := [some (.inr 330), some (.inl r), some (.inl (p + 1)), some (.inl k)]) rfl (pc' := 84) rfl ?_
              refine ax_goto dX12_forgetsAll_84 (pc' := 2) (by decide) ?_
              refine ax_less (ls2 := [some (.inr 330), some (.inl r), some (.inl (p + 1)), none]) [true, true, true, false] rfl ?_
              refine ih3 (p + 1) wv2 M4 ?_ ?_ ?_ ?_ ?_ ?_
              · omega
              · intro x0 i0 hai
                exact ((fr4 x0 i0 (by omega)).trans ((fr1 x0 i0 (by omega)).trans rfl))
              · exact mr4_331
              · omega
              · rw [f_loop_done (by omega)] at iv4_1
                rw [iv4_1]
                exact f_loop_back (by omega) iv1_1 rfl
              · exact iv4_2
            · have qc4 := f_rgH (k := k) qc1.2.1 hg0 (by omega : 0 ≤ p ∧ p < 24) (by omega)
              refine ax_aload_n dX12_forgetsAll_20 rfl rfl (pc' := 21) rfl ?_
              refine ax_iload_n dX12_forgetsAll_21 rfl rfl (pc' := 22) rfl ?_
              refine ax_iload_n dX12_forgetsAll_22 rfl rfl (pc' := 23) rfl ?_
              refine ax_invG [.inl r, .inl p] [] dX12_forgetsAll_23 mlX12_340 sh_330 rfl rfl rfl (Nat.le_of_ble_eq_true rfl) (s_X12_isTied E l _ (by omega) _ r p mr4_331 (by first | omega | assumption) (by first | omega | assumption)) (pc' := 26) rfl (fun vv M_23 hq co23 hcm23 => ?_)
              obtain ⟨rfl, rfl⟩ := hq
              refine ax_reS (st2 := [.inl (f_b (f_P wv2 r p 0 ≠ -1))]) rfl ?_
              refine ax_if_ne (tgt := 75) dX12_forgetsAll_26 (by decide) (pc' := 29) rfl (fun h26 => ?_) (fun h26 => ?_)
              · replace h26 := f_b_1 h26
                have qs : f_fgS Ls r p k wv2 = wv2 := if_neg (by omega)
                refine ax_iinc dX12_forgetsAll_75 rfl (by decide) (by omega) (ls' := [some (.inr 330), some (.inl r), some (.inl p), some (.inl (k + 1))]) rfl (pc' := 78) rfl ?_
                refine ax_goto dX12_forgetsAll_78 (pc' := 14) (by decide) ?_
                refine ih6 (k + 1) wv2 M4 ?_ ?_ ?_ ?_ ?_ ?_
                · omega
                · intro x0 i0 hai
                  exact ((fr4 x0 i0 (by omega)).trans rfl)
                · exact mr4_331
                · omega
                · exact f_loop_back (by omega) iv4_1 qs
                · have qf := f_fgS_ok (Ls := Ls) (p := p) (k := k) hg0 (by omega) (by omega) iv4_2.1
                  rw [qs] at qf
                  exact ⟨qf.1, f_sm_trans iv4_2.2 qf.2⟩
              · replace h26 := f_b_0 h26
                refine ax_aload_n dX12_forgetsAll_29 rfl rfl (pc' := 30) rfl ?_
                refine ax_iload_n dX12_forgetsAll_30 rfl rfl (pc' := 31) rfl ?_
                refine ax_iload_n dX12_forgetsAll_31 rfl rfl (pc' := 32) rfl ?_
                refine ax_iload_n dX12_forgetsAll_32 rfl rfl (pc' := 33) rfl ?_
                refine ax_invG [.inl r, .inl p, .inl k] [] dX12_forgetsAll_33 mlX12_354 sh_330 rfl rfl rfl (Nat.le_of_ble_eq_true rfl) (s_X12_habitOf E l _ (by omega) _ r p k mr4_331 (by first | omega | assumption) (by first | omega | assumption) (by first | omega | assumption)) (pc' := 36) rfl (fun vv M_33 hq co33 hcm33 => ?_)
                obtain ⟨rfl, rfl⟩ := hq
                refine ax_reS (st2 := [.inl (f_P wv2 r p (1 + k))]) rfl ?_
                have cc33 : -2147483648 ≤ f_P wv2 r p (1 + k) ∧ f_P wv2 r p (1 + k) < 2147483648 := co33 _ rfl
                refine ax_if_le (tgt := 75) dX12_forgetsAll_36 (by decide) (pc' := 39) rfl (fun h36 => ?_) (fun h36 => ?_)
                · have qs : f_fgS Ls r p k wv2 = wv2 := if_neg (by omega)
                  refine ax_iinc dX12_forgetsAll_75 rfl (by decide) (by omega) (ls' := [some (.inr 330), some (.inl r), some (.inl p), some (.inl (k + 1))]) rfl (pc' := 78) rfl ?_
                  refine ax_goto dX12_forgetsAll_78 (pc' := 14) (by decide) ?_
                  refine ih6 (k + 1) wv2 M4 ?_ ?_ ?_ ?_ ?_ ?_
                  · omega
                  · intro x0 i0 hai
                    exact ((fr4 x0 i0 (by omega)).trans rfl)
                  · exact mr4_331
                  · omega
                  · exact f_loop_back (by omega) iv4_1 qs
                  · have qf := f_fgS_ok (Ls := Ls) (p := p) (k := k) hg0 (by omega) (by omega) iv4_2.1
                    rw [qs] at qf
                    exact ⟨qf.1, f_sm_trans iv4_2.2 qf.2⟩
                · have qs : f_fgS Ls r p k wv2 = f_hab wv2 r p k (max 0 (f_P wv2 r p (1 + k) - f_loss Ls wv2 r p k)) (f_P wv2 r p (7 + k)) := if_pos (by omega)
                  refine ax_aload_n dX12_forgetsAll_39 rfl rfl (pc' := 40) rfl ?_
                  refine ax_iload_n dX12_forgetsAll_40 rfl rfl (pc' := 41) rfl ?_
                  refine ax_iload_n dX12_forgetsAll_41 rfl rfl (pc' := 42) rfl ?_
                  refine ax_iload_n dX12_forgetsAll_42 rfl rfl (pc' := 43) rfl ?_
                  refine ax_iconst dX12_forgetsAll_43 (by decide) (pc' := 44) rfl ?_
                  refine ax_aload_n dX12_forgetsAll_44 rfl rfl (pc' := 45) rfl ?_
                  refine ax_iload_n dX12_forgetsAll_45 rfl rfl (pc' := 46) rfl ?_
                  refine ax_iload_n dX12_forgetsAll_46 rfl rfl (pc' := 47) rfl ?_
                  refine ax_iload_n dX12_forgetsAll_47 rfl rfl (pc' := 48) rfl ?_
                  refine ax_invG [.inl r, .inl p, .inl k] [.inl 0, .inl k, .inl p, .inl r, .inr 330] dX12_forgetsAll_48 mlX12_354 sh_330 rfl rfl rfl (Nat.le_of_ble_eq_true rfl) (s_X12_habitOf E l _ (by omega) _ r p k mr4_331 (by first | omega | assumption) (by first | omega | assumption) (by first | omega | assumption)) (pc' := 51) rfl (fun vv M_48 hq co48 hcm48 => ?_)
                  obtain ⟨rfl, rfl⟩ := hq
                  refine ax_reS (st2 := [.inl (f_P wv2 r p (1 + k)), .inl 0, .inl k, .inl p, .inl r, .inr 330]) rfl ?_
                  have cc48 : -2147483648 ≤ f_P wv2 r p (1 + k) ∧ f_P wv2 r p (1 + k) < 2147483648 := co48 _ rfl
                  refine ax_aload_n dX12_forgetsAll_51 rfl rfl (pc' := 52) rfl ?_
                  refine ax_iload_n dX12_forgetsAll_52 rfl rfl (pc' := 53) rfl ?_
                  refine ax_iload_n dX12_forgetsAll_53 rfl rfl (pc' := 54) rfl ?_
                  refine ax_iload_n dX12_forgetsAll_54 rfl rfl (pc' := 55) rfl ?_
                  refine ax_invG [.inl r, .inl p, .inl k] [.inl (f_P wv2 r p (1 + k)), .inl 0, .inl k, .inl p, .inl r, .inr 330] dX12_forgetsAll_55 mlX12_435 sh_330 rfl rfl rfl (Nat.le_of_ble_eq_true rfl) (s_X12_lossOf E l _ (by omega) _ r p k Ls mr4_331 rfl rfl (by first | omega | assumption) (by first | omega | assumption) (by first | omega | assumption) (by first | omega | assumption) (by first | omega | assumption)) (pc' := 58) rfl (fun vv M_55 hq co55 hcm55 => ?_)
                  obtain ⟨rfl, frM_55⟩ := hq
                  refine ax_reS (st2 := [.inl (f_loss Ls wv2 r p k), .inl (f_P wv2 r p (1 + k)), .inl 0, .inl k, .inl p, .inl r, .inr 330]) rfl ?_
                  have cc55 : -2147483648 ≤ f_loss Ls wv2 r p k ∧ f_loss Ls wv2 r p k < 2147483648 := co55 _ rfl
                  refine ax_isub dX12_forgetsAll_58 (by omega) (pc' := 59) rfl ?_
                  refine ax_insG [.inl 0, .inl (f_P wv2 r p (1 + k) - (f_loss Ls wv2 r p k))] [.inl k, .inl p, .inl r, .inr 330] dX12_forgetsAll_59 mlX12_337 rfl rfl (Nat.le_of_ble_eq_true rfl) (s_X12_greater E l _ (by omega) _ 0 (f_P wv2 r p (1 + k) - (f_loss Ls wv2 r p k))) (pc' := 62) rfl (fun vv M_59 hq co59 hcm59 => ?_)
                  obtain ⟨rfl, rfl⟩ := hq
                  refine ax_reS (st2 := [.inl (max 0 (f_P wv2 r p (1 + k) - (f_loss Ls wv2 r p k))), .inl k, .inl p, .inl r, .inr 330]) rfl ?_
                  have cc59 : -2147483648 ≤ max 0 (f_P wv2 r p (1 + k) - (f_loss Ls wv2 r p k)) ∧ max 0 (f_P wv2 r p (1 + k) - (f_loss Ls wv2 r p k)) < 2147483648 := co59 _ rfl
                  refine ax_aload_n dX12_forgetsAll_62 rfl rfl (pc' := 63) rfl ?_
                  refine ax_iload_n dX12_forgetsAll_63 rfl rfl (pc' := 64) rfl ?_
                  refine ax_iload_n dX12_forgetsAll_64 rfl rfl (pc' := 65) rfl ?_
                  refine ax_bipush dX12_forgetsAll_65 (by decide) (pc' := 67) rfl ?_
                  refine ax_iload_n dX12_forgetsAll_67 rfl rfl (pc' := 68) rfl ?_
                  refine ax_iadd dX12_forgetsAll_68 (by omega) (pc' := 69) rfl ?_
                  refine ax_invG [.inl r, .inl p, .inl (7 + k)] [.inl (max 0 (f_P wv2 r p (1 + k) - (f_loss Ls wv2 r p k))), .inl k, .inl p, .inl r, .inr 330] dX12_forgetsAll_69 mlX12_86 sh_330 rfl rfl rfl (Nat.le_of_ble_eq_true rfl) (s_X12_ofPlace E l _ (by omega) _ r p (7 + k) ((funext fun i0 => frM_55 331 i0 (by omega)).trans mr4_331) (by first | omega | assumption) (by first | omega | assumption) (by first | omega | assumption)) (pc' := 72) rfl (fun vv M_69 hq co69 hcm69 => ?_)
                  obtain ⟨rfl, rfl⟩ := hq
                  refine ax_reS (st2 := [.inl (f_P wv2 r p (7 + k)), .inl (max 0 (f_P wv2 r p (1 + k) - (f_loss Ls wv2 r p k))), .inl k, .inl p, .inl r, .inr 330]) rfl ?_
                  have cc69 : -2147483648 ≤ f_P wv2 r p (7 + k) ∧ f_P wv2 r p (7 + k) < 2147483648 := co69 _ rfl
                  refine ax_invG [.inl r, .inl p, .inl k, .inl (max 0 (f_P wv2 r p (1 + k) - (f_loss Ls wv2 r p k))), .inl (f_P wv2 r p (7 + k))] [] dX12_forgetsAll_72 mlX12_106 sh_330 rfl rfl rfl (Nat.le_of_ble_eq_true rfl) (s_X12_habits E l _ (by omega) _ r p k (max 0 (f_P wv2 r p (1 + k) - (f_loss Ls wv2 r p k))) (f_P wv2 r p (7 + k)) ((funext fun i0 => frM_55 331 i0 (by omega)).trans mr4_331) (by first | omega | assumption) (by first | omega | assumption) (by first | omega | assumption)) (pc' := 75) rfl (fun vv M_72 hq co72 hcm72 => ?_)
                  obtain ⟨rfl, frM_72, mrM_72_0⟩ := hq
                  refine ax_reS (st2 := []) rfl ?_
                  refine ax_iinc dX12_forgetsAll_75 rfl (by decide) (by omega) (ls' := [some (.inr 330), some (.inl r), some (.inl p), some (.inl (k + 1))]) rfl (pc' := 78) rfl ?_
                  refine ax_goto dX12_forgetsAll_78 (pc' := 14) (by decide) ?_
                  refine ih6 (k + 1) (f_hab wv2 r p k (max 0 (f_P wv2 r p (1 + k) - (f_loss Ls wv2 r p k))) (f_P wv2 r p (7 + k))) M_72 ?_ ?_ ?_ ?_ ?_ ?_
                  · omega
                  · intro x0 i0 hai
                    exact ((frM_72 x0 i0 (by omega)).trans ((frM_55 x0 i0 (by omega)).trans ((fr4 x0 i0 (by omega)).trans rfl)))
                  · exact mrM_72_0
                  · omega
                  · exact f_loop_back (by omega) iv4_1 qs
                  · have qf := f_fgS_ok (Ls := Ls) (p := p) (k := k) hg0 (by omega) (by omega) iv4_2.1
                    rw [qs] at qf
                    exact ⟨qf.1, f_sm_trans iv4_2.2 qf.2⟩
        refine LP4 (6 - 0 : Int).toNat.succ 0 wv1 M1 ?_ ?_ ?_ ?_ ?_ ?_
        · omega
        · exact fun a i _ => rfl
        · exact mr1_331
        · omega
        · rfl
        · exact iv1_2
  refine LP1 (f_R w r 1 - 0 : Int).toNat.succ 0 w M ?_ ?_ ?_ ?_ ?_ ?_
  · omega
  · exact fun a i _ => rfl
  · exact hw
  · omega
  · rfl
  · exact ⟨hg1.1, f_sm_refl⟩
