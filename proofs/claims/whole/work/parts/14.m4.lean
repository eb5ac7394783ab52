/-! what holds of the reference's row w between calls, as far as ropes go -/
def f_lo (w : Int → Int) : Prop := (0 ≤ w 0 ∧ w 0 ≤ 9999) ∧ (0 ≤ w 1 ∧ w 1 ≤ 200) ∧ ∀ k, 0 ≤ k → k < 6 → 1 ≤ w (2564 + k) ∧ w (2564 + k) ≤ 9
def f_iv (w : Int → Int) : Prop := f_ok w ∧ f_rg w ∧ f_lo w
theorem f_lo_of {w w' : Int → Int} (h : ∀ i, i < 4 ∨ 2564 ≤ i → w' i = w i) (hw : f_lo w) : f_lo w' := by
  obtain ⟨h1, h2, h3⟩ := hw
  refine ⟨by rw [h 0 (by omega)]; exact h1, by rw [h 1 (by omega)]; exact h2, fun k a b => by rw [h _ (by omega)]; exact h3 k a b⟩
theorem f_iv_hab {w : Int → Int} {r p k v s : Int} (h : 0 ≤ r ∧ r < 8 ∧ 0 ≤ p ∧ p < 24 ∧ 0 ≤ k ∧ k < 6) (hv : 0 ≤ v ∧ v ≤ 99) (hs : v = 0 ∨ 0 ≤ s ∧ s ≤ 9999) (hw : f_iv w) : f_iv (f_hab w r p k v s) :=
  ⟨f_ok_hab h hw.1, f_rg_hab h hv hs hw.2.1, f_lo_of (fun _ hi => f_hab_out h hi) hw.2.2⟩
theorem f_iv_sP {w : Int → Int} {r p f v : Int} (h : 0 ≤ r ∧ r < 8 ∧ 0 ≤ p ∧ p < 24 ∧ 0 ≤ f ∧ f < 13) (hv : f_frg f v) (hw : f_iv w) : f_iv (f_sP w r p f v) :=
  ⟨f_ok_sP h hw.1, f_rg_sP h hv hw.2.1, f_lo_of (fun _ hi => f_sP_out h hi) hw.2.2⟩
theorem f_iv_tied {w : Int → Int} {r p v : Int} (hr : 0 ≤ r ∧ r < 8) (hp : 0 ≤ p ∧ p < 24) (hv : -1 ≤ v ∧ v ≤ 5) (hw : f_iv w) : f_iv (f_sP w r p 0 v) := f_iv_sP ⟨hr.1, hr.2, hp.1, hp.2, by omega, by omega⟩ ⟨fun _ => hv, by omega, by omega⟩ hw
theorem f_ok_sR {w : Int → Int} {r f v : Int} (h : 0 ≤ r ∧ r < 8 ∧ 0 ≤ f ∧ f < 8) (h0 : f = 0 → v = 0 ∨ v = 1) (h1 : f = 1 → 0 ≤ v ∧ v ≤ 24) (hw : f_ok w) : f_ok (f_sR w r f v) := by
  intro r' a b
  have c := hw r' a b
  rw [f_R_sR h ⟨a, b, by omega, by omega⟩, f_R_sR h ⟨a, b, by omega, by omega⟩]
  refine ⟨?_, ?_, ?_⟩
  · split
    · rename_i e; exact h0 e.2.symm
    · exact c.1
  · split
    · rename_i e; exact (h1 e.2.symm).1
    · exact c.2.1
  · split
    · rename_i e; exact (h1 e.2.symm).2
    · exact c.2.2
theorem f_iv_sR {w : Int → Int} {r f v : Int} (h : 0 ≤ r ∧ r < 8 ∧ 0 ≤ f ∧ f < 8) (h0 : f = 0 → v = 0 ∨ v = 1) (h1 : f = 1 → 0 ≤ v ∧ v ≤ 24) (hw : f_iv w) : f_iv (f_sR w r f v) :=
  ⟨f_ok_sR h h0 h1 hw.1, f_rg_sR h hw.2.1, f_lo_of (fun _ hi => f_sR_out h hi) hw.2.2⟩
theorem f_iv_more {w : Int → Int} {r p k v : Int} (hr : 0 ≤ r ∧ r < 8) (hp : 0 ≤ p ∧ p < 24) (hk : 0 ≤ k ∧ k < 6) (hv : 0 ≤ v ∧ v ≤ 99) (hw : f_iv w) : f_iv (f_more w r p k v) := by
  have h1 := f_rgH hw.2.1 hr hp hk
  have h2 := f_rgS hw.2.1 hr hp hk
  have h3 := hw.2.2.1
  refine f_iv_hab ⟨hr.1, hr.2, hp.1, hp.2, hk.1, hk.2⟩ (by omega) (Or.inr ?_) hw
  split <;> omega
theorem f_note_at {w : Int → Int} {r p what how hand i : Int} (h1 : i ≠ 1) (h2 : ¬ (2640 + 6 * w 1 ≤ i ∧ i ≤ 2640 + 6 * w 1 + 5)) : f_note w r p what how hand i = w i := by
  unfold f_note
  split
  · rfl
  · unfold f_up
    rw [if_neg (by omega), if_neg (by omega), if_neg (by omega), if_neg (by omega), if_neg (by omega), if_neg (by omega), if_neg (by omega)]
theorem f_note_1 {w : Int → Int} {r p what how hand : Int} : f_note w r p what how hand 1 = if w 1 = 200 then 200 else w 1 + 1 := by
  unfold f_note
  split
  · assumption
  · unfold f_up
    rw [if_pos rfl]
theorem f_iv_note {w : Int → Int} {r p what how hand : Int} (hw : f_iv w) : f_iv (f_note w r p what how hand) := by
  have h := hw.2.2.2.1
  refine ⟨f_ok_of (fun i _ _ => f_note_at (by omega) (by omega)) hw.1, f_rg_of (fun i _ _ => f_note_at (by omega) (by omega)) hw.2.1, ?_, ?_, fun k a b => ?_⟩
  · rw [f_note_at (by omega) (by omega)]; exact hw.2.2.1
  · rw [f_note_1]; split <;> omega
  · rw [f_note_at (by omega) (by omega)]; exact hw.2.2.2.2 k a b
theorem f_iv_beg {w : Int → Int} {r n ow bo we : Int} (hr : 0 ≤ r ∧ r < 8) (hn : 0 ≤ n ∧ n ≤ 24) (hw : f_iv w) : f_iv (f_beg w r n ow bo we) := by
  unfold f_beg
  refine f_loop_inv (P := f_iv) ?_ (fun p x hp1 hp2 hx => ?_)
  · exact f_iv_sR ⟨hr.1, hr.2, by omega, by omega⟩ (by omega) (by omega) (f_iv_sR ⟨hr.1, hr.2, by omega, by omega⟩ (by omega) (by omega) (f_iv_sR ⟨hr.1, hr.2, by omega, by omega⟩ (by omega) (by omega) (f_iv_sR ⟨hr.1, hr.2, by omega, by omega⟩ (by omega) (fun _ => hn) (f_iv_sR ⟨hr.1, hr.2, by omega, by omega⟩ (by omega) (by omega) hw))))
  · unfold f_beg1
    refine f_loop_inv (P := f_iv) (f_iv_tied hr ⟨hp1, hp2⟩ (by omega) hx) (fun k y hk1 hk2 hy => ?_)
    exact f_iv_hab ⟨hr.1, hr.2, hp1, hp2, hk1, hk2⟩ (by omega) (Or.inl rfl) hy
/-- the reference, on: acts -/
def f_tie (w : Int → Int) (r p k hand : Int) : Int → Int := f_note (f_more (f_sP w r p 0 k) r p k (f_sP w r p 0 k (2564 + k))) r p k 0 hand
def f_wetS (r : Int) (p : Int) (w : Int → Int) : Int → Int := if f_call w r p = -1 then w else f_more w r p (f_call w r p) 5
def f_wets (w : Int → Int) (r v : Int) : Int → Int := if f_R w r 4 = 0 ∧ 0 < v then f_loop (f_wetS r) 0 (f_R w r 1) (f_sR w r 4 v) else f_sR w r 4 v
def f_cpy (w : Int → Int) (r p s q : Int) : Int → Int := f_loop (fun k w => f_sP w r p k (f_P w s q k)) 0 13 w
def f_hlv (w : Int → Int) (r p : Int) : Int → Int := f_loop (fun k w => f_hab w r p k (f_P w r p (1 + k) / 2) (f_P w r p (7 + k))) 0 6 w
def f_clr (w : Int → Int) (r p : Int) : Int → Int := f_loop (fun k w => f_hab w r p k 0 0) 0 6 w
theorem f_iv_tie {w : Int → Int} {r p k hand : Int} (hr : 0 ≤ r ∧ r < 8) (hp : 0 ≤ p ∧ p < 24) (hk : 0 ≤ k ∧ k < 6) (hw : f_iv w) : f_iv (f_tie w r p k hand) := by
  have h1 : f_iv (f_sP w r p 0 k) := f_iv_tied hr hp (by omega) hw
  have h2 := h1.2.2.2.2 k hk.1 hk.2
  exact f_iv_note (f_iv_more hr hp hk (by omega) h1)
theorem f_call_rg {w : Int → Int} {r p : Int} : -1 ≤ f_call w r p ∧ f_call w r p < 6 := by
  unfold f_call f_callG
  refine f_loop_inv (P := fun b => -1 ≤ b ∧ b < 6) (by omega) (fun i x h1 h2 hx => ?_)
  unfold f_callS
  split
  · exact hx
  · split
    · omega
    · exact hx
theorem f_iv_wetS {w : Int → Int} {r p : Int} (hr : 0 ≤ r ∧ r < 8) (hp : 0 ≤ p ∧ p < 24) (hw : f_iv w) : f_iv (f_wetS r p w) := by
  have h := f_call_rg (w := w) (r := r) (p := p)
  unfold f_wetS
  split
  · exact hw
  · exact f_iv_more hr hp (by omega) (by omega) hw
theorem f_R_more {w : Int → Int} {r p k v r' f' : Int} (h : 0 ≤ r ∧ r < 8 ∧ 0 ≤ p ∧ p < 24 ∧ 0 ≤ k ∧ k < 6) (h' : 0 ≤ r' ∧ r' < 8 ∧ 0 ≤ f' ∧ f' < 8) : f_R (f_more w r p k v) r' f' = f_R w r' f' := f_R_hab h h'
theorem f_R_wetS {w : Int → Int} {r p r' f' : Int} (h : 0 ≤ r ∧ r < 8 ∧ 0 ≤ p ∧ p < 24) (h' : 0 ≤ r' ∧ r' < 8 ∧ 0 ≤ f' ∧ f' < 8) : f_R (f_wetS r p w) r' f' = f_R w r' f' := by
  have hc := f_call_rg (w := w) (r := r) (p := p)
  unfold f_wetS
  split
  · rfl
  · exact f_R_more ⟨h.1, h.2.1, h.2.2.1, h.2.2.2, by omega, by omega⟩ h'
theorem f_iv_cpy {w : Int → Int} {r p s q : Int} (hr : 0 ≤ r ∧ r < 8) (hp : 0 ≤ p ∧ p < 24) (hs : 0 ≤ s ∧ s < 8) (hq : 0 ≤ q ∧ q < 24) (hw : f_iv w) : f_iv (f_cpy w r p s q) := by
  refine f_loop_inv (P := f_iv) hw (fun k x h1 h2 hx => ?_)
  exact f_iv_sP ⟨hr.1, hr.2, hp.1, hp.2, h1, h2⟩ (hx.2.1 s q k hs.1 hs.2 hq.1 hq.2 h1 h2) hx
theorem f_R_cpy {w : Int → Int} {r p s q r' f' : Int} (hr : 0 ≤ r ∧ r < 8) (hp : 0 ≤ p ∧ p < 24) (h' : 0 ≤ r' ∧ r' < 8 ∧ 0 ≤ f' ∧ f' < 8) : f_R (f_cpy w r p s q) r' f' = f_R w r' f' := by
  refine f_loop_inv (P := fun x => f_R x r' f' = f_R w r' f') rfl (fun k x h1 h2 hx => ?_)
  rw [f_R_sP ⟨hr.1, hr.2, hp.1, hp.2, h1, h2⟩ h']
  exact hx
theorem f_iv_hlv {w : Int → Int} {r p : Int} (hr : 0 ≤ r ∧ r < 8) (hp : 0 ≤ p ∧ p < 24) (hw : f_iv w) : f_iv (f_hlv w r p) := by
  refine f_loop_inv (P := f_iv) hw (fun k x h1 h2 hx => ?_)
  have a := f_rgH hx.2.1 hr hp ⟨h1, h2⟩
  have b := f_rgS hx.2.1 hr hp ⟨h1, h2⟩
  exact f_iv_hab ⟨hr.1, hr.2, hp.1, hp.2, h1, h2⟩ (by omega) (Or.inr b) hx
theorem f_iv_clr {w : Int → Int} {r p : Int} (hr : 0 ≤ r ∧ r < 8) (hp : 0 ≤ p ∧ p < 24) (hw : f_iv w) : f_iv (f_clr w r p) := by
  refine f_loop_inv (P := f_iv) hw (fun k x h1 h2 hx => ?_)
  exact f_iv_hab ⟨hr.1, hr.2, hp.1, hp.2, h1, h2⟩ (by omega) (Or.inl rfl) hx
set_option maxRecDepth 20000 in
theorem s_X12_ties (E : ax_Env) (l : Launch) (d : Nat) (hd : 3 ≤ d) (M : ax_Mem) (r p k hand : Int) {w : Int → Int} (hw : M 331 = w) (hg0 : 0 ≤ r ∧ r < 8) (hg1 : 0 ≤ p ∧ p < 24) (hg2 : 0 ≤ k ∧ k < 6) (hg3 : f_iv w) : ax_G E l d iX12_ties [.inr 330, .inl r, .inl p, .inl k, .inl hand] M (fun z0 M2 => z0 = none ∧ (∀ x0 i0 : Int, ¬ (x0 = 331) → M2 x0 i0 = M x0 i0) ∧ M2 331 = f_tie w r p k hand) := by
  obtain ⟨d, rfl⟩ : ∃ d0, d = d0 + 1 := ⟨d - 1, by omega⟩
  refine ax_start rfl (Nat.le_of_ble_eq_true rfl) (ls := [some (.inr 330), some (.inl r), some (.inl p), some (.inl k), some (.inl hand)]) rfl (fun hav hcm => ?_)
  have hc1 : -2147483648 ≤ r ∧ r < 2147483648 := hav (.inl r) (by simp)
  have hc2 : -2147483648 ≤ p ∧ p < 2147483648 := hav (.inl p) (by simp)
  have hc3 : -2147483648 ≤ k ∧ k < 2147483648 := hav (.inl k) (by simp)
  have hc4 : -2147483648 ≤ hand ∧ hand < 2147483648 := hav (.inl hand) (by simp)
  clear hav
  refine ax_aload_n dX12_ties_0 rfl rfl (pc' := 1) rfl ?_
  refine ax_iload_n dX12_ties_1 rfl rfl (pc' := 2) rfl ?_
  refine ax_iload_n dX12_ties_2 rfl rfl (pc' := 3) rfl ?_
  refine ax_iconst dX12_ties_3 (by decide) (pc' := 4) rfl ?_
  refine ax_iload_n dX12_ties_4 rfl rfl (pc' := 5) rfl ?_
  refine ax_invG [.inl r, .inl p, .inl 0, .inl k] [] dX12_ties_5 mlX12_102 sh_330 rfl rfl rfl (Nat.le_of_ble_eq_true rfl) (s_X12_places E l _ (by omega) _ r p 0 k hw (by first | omega | assumption) (by first | omega | assumption) (by first | omega | assumption)) (pc' := 8) rfl (fun vv M_5 hq co5 hcm5 => ?_)
  obtain ⟨rfl, frM_5, mrM_5_0⟩ := hq
  refine ax_reS (st2 := []) rfl ?_
  have qa1 : f_iv (f_sP w r p 0 k) := f_iv_tied hg0 hg1 (by omega) hg3
  have qa2 := qa1.2.2.2.2 k (by omega) (by omega)
  have qa3 := qa1.2.1
  refine ax_aload_n dX12_ties_8 rfl rfl (pc' := 9) rfl ?_
  refine ax_iload_n dX12_ties_9 rfl rfl (pc' := 10) rfl ?_
  refine ax_iload_n dX12_ties_10 rfl rfl (pc' := 11) rfl ?_
  refine ax_iload_n dX12_ties_11 rfl rfl (pc' := 12) rfl ?_
  refine ax_aload_n dX12_ties_12 rfl rfl (pc' := 13) rfl ?_
  refine ax_getr (v := 331) dX12_ties_13 flX12_7 rfl sh_330 rfl (pc' := 16) rfl ?_
  refine ax_sipush dX12_ties_16 (by decide) (pc' := 19) rfl ?_
  refine ax_iload_n dX12_ties_19 rfl rfl (pc' := 20) rfl ?_
  refine ax_iadd dX12_ties_20 (by omega) (pc' := 21) rfl ?_
  refine ax_iald (v := (f_sP w r p 0 k) (2564 + k)) dX12_ties_21 sh_331 rfl (by omega) (by omega) ((congrFun mrM_5_0 (2564 + k)).trans rfl) (pc' := 22) rfl ?_
  refine ax_invG [.inl r, .inl p, .inl k, .inl ((f_sP w r p 0 k) (2564 + k))] [] dX12_ties_22 mlX12_370 sh_330 rfl rfl rfl (Nat.le_of_ble_eq_true rfl) (s_X12_more E l _ (by omega) _ r p k ((f_sP w r p 0 k) (2564 + k)) mrM_5_0 (by first | omega | assumption) (by first | omega | assumption) (by first | omega | assumption) (by first | omega | assumption) (by first | omega | assumption)) (pc' := 25) rfl (fun vv M_22 hq co22 hcm22 => ?_)
  obtain ⟨rfl, frM_22, mrM_22_0⟩ := hq
  refine ax_reS (st2 := []) rfl ?_
  have qa4 := (f_iv_more (v := f_sP w r p 0 k (2564 + k)) hg0 hg1 hg2 (by omega) qa1).2.2.2.1
  refine ax_aload_n dX12_ties_25 rfl rfl (pc' := 26) rfl ?_
  refine ax_iload_n dX12_ties_26 rfl rfl (pc' := 27) rfl ?_
  refine ax_iload_n dX12_ties_27 rfl rfl (pc' := 28) rfl ?_
  refine ax_iload_n dX12_ties_28 rfl rfl (pc' := 29) rfl ?_
  refine ax_iconst dX12_ties_29 (by decide) (pc' := 30) rfl ?_
  refine ax_iload dX12_ties_30 rfl (pc' := 32) rfl ?_
  refine ax_invG [.inl r, .inl p, .inl k, .inl 0, .inl hand] [] dX12_ties_32 mlX12_373 sh_330 rfl rfl rfl (Nat.le_of_ble_eq_true rfl) (s_X12_notes E l _ (by omega) _ r p k 0 hand mrM_22_0 (by first | omega | assumption)) (pc' := 35) rfl (fun vv M_32 hq co32 hcm32 => ?_)
  obtain ⟨rfl, frM_32, mrM_32_0⟩ := hq
  refine ax_reS (st2 := []) rfl ?_
  refine ax_vret dX12_ties_35 rfl ?_
  refine ⟨rfl, rfl, ?_, ?_⟩
  · intro x0 i0 hai
    exact ((frM_32 x0 i0 (by omega)).trans ((frM_22 x0 i0 (by omega)).trans ((frM_5 x0 i0 (by omega)).trans rfl)))
  · exact mrM_32_0
set_option maxRecDepth 20000 in
theorem s_X12_tie_no (E : ax_Env) (l : Launch) (d : Nat) (hd : 4 ≤ d) (M : ax_Mem) (r p k hand : Int) {w : Int → Int} (hw : M 331 = w) (hg0 : f_iv w) (hg1 : ¬ (f_isP w r p ∧ f_P w r p 0 = -1 ∧ 0 ≤ k ∧ k ≤ 5 ∧ 0 ≤ hand ∧ hand ≤ 9)) : ax_G E l d iX12_tie [.inr 330, .inl r, .inl p, .inl k, .inl hand] M (fun z0 M2 => z0 = some (.inl 0) ∧ M = M2) := by
  obtain ⟨d, rfl⟩ : ∃ d0, d = d0 + 1 := ⟨d - 1, by omega⟩
  refine ax_start rfl (Nat.le_of_ble_eq_true rfl) (ls := [some (.inr 330), some (.inl r), some (.inl p), some (.inl k), some (.inl hand)]) rfl (fun hav hcm => ?_)
  have hc1 : -2147483648 ≤ r ∧ r < 2147483648 := hav (.inl r) (by simp)
  have hc2 : -2147483648 ≤ p ∧ p < 2147483648 := hav (.inl p) (by simp)
  have hc3 : -2147483648 ≤ k ∧ k < 2147483648 := hav (.inl k) (by simp)
  have hc4 : -2147483648 ≤ hand ∧ hand < 2147483648 := hav (.inl hand) (by simp)
  clear hav
  have qa1 := hg0.1
  refine ax_aload_n dX12_tie_0 rfl rfl (pc' := 1) rfl ?_
  refine ax_iload_n dX12_tie_1 rfl rfl (pc' := 2) rfl ?_
  refine ax_iload_n dX12_tie_2 rfl rfl (pc' := 3) rfl ?_
  refine ax_iload_n dX12_tie_3 rfl rfl (pc' := 4) rfl ?_
  refine ax_invG [.inl r, .inl p, .inl k] [] dX12_tie_4 mlX12_376 sh_330 rfl rfl rfl (Nat.le_of_ble_eq_true rfl) (s_X12_canTie E l _ (by omega) _ r p k hw (by first | omega | assumption)) (pc' := 7) rfl (fun vv M_4 hq co4 hcm4 => ?_)
  obtain ⟨rfl, rfl⟩ := hq
  refine ax_reS (st2 := [.inl (f_b (f_isP w r p ∧ f_P w r p 0 = -1 ∧ 0 ≤ k ∧ k ≤ 5))]) rfl ?_
  refine ax_if_eq (tgt := 21) dX12_tie_7 (by decide) (pc' := 10) rfl (fun h7 => ?_) (fun h7 => ?_)
  · replace h7 := f_b_0 h7
    refine ax_iconst dX12_tie_21 (by decide) (pc' := 22) rfl ?_
    refine ax_zret dX12_tie_22 rfl (by decide) ?_
    refine ⟨rfl, ?_, ?_⟩
    · rfl
    · rfl
  · replace h7 := f_b_1 h7
    refine ax_iload dX12_tie_10 rfl (pc' := 12) rfl ?_
    refine ax_iconst dX12_tie_12 (by decide) (pc' := 13) rfl ?_
    refine ax_bipush dX12_tie_13 (by decide) (pc' := 15) rfl ?_
    refine ax_insG [.inl hand, .inl 0, .inl 9] [] dX12_tie_15 mlX12_74 rfl rfl (Nat.le_of_ble_eq_true rfl) (s_X12_isIn E l _ (by omega) _ hand 0 9) (pc' := 18) rfl (fun vv M_15 hq co15 hcm15 => ?_)
    obtain ⟨rfl, rfl⟩ := hq
    refine ax_reS (st2 := [.inl (f_b (0 ≤ hand ∧ hand ≤ 9))]) rfl ?_
    refine ax_if_ne (tgt := 23) dX12_tie_18 (by decide) (pc' := 21) rfl (fun h18 => ?_) (fun h18 => ?_)
    · replace h18 := f_b_1 h18
      exfalso
      omega
    · replace h18 := f_b_0 h18
      refine ax_iconst dX12_tie_21 (by decide) (pc' := 22) rfl ?_
      refine ax_zret dX12_tie_22 rfl (by decide) ?_
      refine ⟨rfl, ?_, ?_⟩
      · rfl
      · rfl
set_option maxRecDepth 20000 in
theorem s_X12_tie_ok (E : ax_Env) (l : Launch) (d : Nat) (hd : 4 ≤ d) (M : ax_Mem) (r p k hand : Int) {w : Int → Int} (hw : M 331 = w) {b : Int → Int} (hb : M 333 = b) {m : Int} (hm : M 330 4 = m) (hg0 : f_iv w) (hg1 : 0 ≤ m ∧ m ≤ 5) (hg2 : f_isP w r p ∧ f_P w r p 0 = -1 ∧ 0 ≤ k ∧ k ≤ 5 ∧ 0 ≤ hand ∧ hand ≤ 9) : ax_G E l d iX12_tie [.inr 330, .inl r, .inl p, .inl k, .inl hand] M (fun z0 M2 => z0 = some (.inl 1) ∧ (∀ x0 i0 : Int, ¬ (x0 = 331 ∨ x0 = 333 ∨ (x0 = 330 ∧ i0 = 4)) → M2 x0 i0 = M x0 i0) ∧ M2 331 = f_tie w r p k hand ∧ M2 333 = f_keep b w m ∧ M2 330 4 = f_keepN m) := by
  obtain ⟨d, rfl⟩ : ∃ d0, d = d0 + 1 := ⟨d - 1, by omega⟩
  refine ax_start rfl (Nat.le_of_ble_eq_true rfl) (ls := [some (.inr 330), some (.inl r), some (.inl p), some (.inl k), some (.inl hand)]) rfl (fun hav hcm => ?_)
  have hc1 : -2147483648 ≤ r ∧ r < 2147483648 := hav (.inl r) (by simp)
  have hc2 : -2147483648 ≤ p ∧ p < 2147483648 := hav (.inl p) (by simp)
  have hc3 : -2147483648 ≤ k ∧ k < 2147483648 := hav (.inl k) (by simp)
  have hc4 : -2147483648 ≤ hand ∧ hand < 2147483648 := hav (.inl hand) (by simp)
  clear hav
  have qa1 := hg0.1
  have qa2 := hg0.1 r (by omega) (by omega)
  refine ax_aload_n dX12_tie_0 rfl rfl (pc' := 1) rfl ?_
  refine ax_iload_n dX12_tie_1 rfl rfl (pc' := 2) rfl ?_
  refine ax_iload_n dX12_tie_2 rfl rfl (pc' := 3) rfl ?_
  refine ax_iload_n dX12_tie_3 rfl rfl (pc' := 4) rfl ?_
  refine ax_invG [.inl r, .inl p, .inl k] [] dX12_tie_4 mlX12_376 sh_330 rfl rfl rfl (Nat.le_of_ble_eq_true rfl) (s_X12_canTie E l _ (by omega) _ r p k hw (by first | omega | assumption)) (pc' := 7) rfl (fun vv M_4 hq co4 hcm4 => ?_)
  obtain ⟨rfl, rfl⟩ := hq
  refine ax_reS (st2 := [.inl (f_b (f_isP w r p ∧ f_P w r p 0 = -1 ∧ 0 ≤ k ∧ k ≤ 5))]) rfl ?_
  refine ax_if_eq (tgt := 21) dX12_tie_7 (by decide) (pc' := 10) rfl (fun h7 => ?_) (fun h7 => ?_)
  · replace h7 := f_b_0 h7
    exfalso
    omega
  · replace h7 := f_b_1 h7
    refine ax_iload dX12_tie_10 rfl (pc' := 12) rfl ?_
    refine ax_iconst dX12_tie_12 (by decide) (pc' := 13) rfl ?_
    refine ax_bipush dX12_tie_13 (by decide) (pc' := 15) rfl ?_
    refine ax_insG [.inl hand, .inl 0, .inl 9] [] dX12_tie_15 mlX12_74 rfl rfl (Nat.le_of_ble_eq_true rfl) (s_X12_isIn E l _ (by omega) _ hand 0 9) (pc' := 18) rfl (fun vv M_15 hq co15 hcm15 => ?_)
    obtain ⟨rfl, rfl⟩ := hq
    refine ax_reS (st2 := [.inl (f_b (0 ≤ hand ∧ hand ≤ 9))]) rfl ?_
    refine ax_if_ne (tgt := 23) dX12_tie_18 (by decide) (pc' := 21) rfl (fun h18 => ?_) (fun h18 => ?_)
    · replace h18 := f_b_1 h18
      refine ax_aload_n dX12_tie_23 rfl rfl (pc' := 24) rfl ?_
      refine ax_invG [] [] dX12_tie_24 mlX12_379 sh_330 rfl rfl rfl (Nat.le_of_ble_eq_true rfl) (s_X12_keeps E l _ (by omega) _ hw hb hm (by first | omega | assumption)) (pc' := 27) rfl (fun vv M_24 hq co24 hcm24 => ?_)
      obtain ⟨rfl, frM_24, mrM_24_0, msM_24_0⟩ := hq
      refine ax_reS (st2 := []) rfl ?_
      refine ax_aload_n dX12_tie_27 rfl rfl (pc' := 28) rfl ?_
      refine ax_iload_n dX12_tie_28 rfl rfl (pc' := 29) rfl ?_
      refine ax_iload_n dX12_tie_29 rfl rfl (pc' := 30) rfl ?_
      refine ax_iload_n dX12_tie_30 rfl rfl (pc' := 31) rfl ?_
      refine ax_iload dX12_tie_31 rfl (pc' := 33) rfl ?_
      refine ax_invG [.inl r, .inl p, .inl k, .inl hand] [] dX12_tie_33 mlX12_382 sh_330 rfl rfl rfl (Nat.le_of_ble_eq_true rfl) (s_X12_ties E l _ (by omega) _ r p k hand ((funext fun i0 => frM_24 331 i0 (by omega)).trans hw) (by first | omega | assumption) (by first | omega | assumption) (by first | omega | assumption) (by first | omega | assumption)) (pc' := 36) rfl (fun vv M_33 hq co33 hcm33 => ?_)
      obtain ⟨rfl, frM_33, mrM_33_0⟩ := hq
      refine ax_reS (st2 := []) rfl ?_
      refine ax_iconst dX12_tie_36 (by decide) (pc' := 37) rfl ?_
      refine ax_zret dX12_tie_37 rfl (by decide) ?_
      refine ⟨rfl, ?_, ?_, ?_, ?_, ?_⟩
      · rfl
      · intro x0 i0 hai
        exact ((frM_33 x0 i0 (by omega)).trans ((frM_24 x0 i0 (by omega)).trans rfl))
      · exact mrM_33_0
      · exact ((funext fun i0 => frM_33 333 i0 (by omega)).trans mrM_24_0)
      · exact ((frM_33 330 4 (by omega)).trans msM_24_0)
    · replace h18 := f_b_0 h18
      exfalso
      omega
set_option maxRecDepth 20000 in
theorem s_X12_untie_no (E : ax_Env) (l : Launch) (d : Nat) (hd : 3 ≤ d) (M : ax_Mem) (r p : Int) {w : Int → Int} (hw : M 331 = w) (hg0 : f_iv w) (hg1 : ¬ (f_isP w r p ∧ f_P w r p 0 ≠ -1)) : ax_G E l d iX12_untie [.inr 330, .inl r, .inl p] M (fun z0 M2 => z0 = some (.inl (-1)) ∧ M = M2) := by
  obtain ⟨d, rfl⟩ : ∃ d0, d = d0 + 1 := ⟨d - 1, by omega⟩
  refine ax_start rfl (Nat.le_of_ble_eq_true rfl) (ls := [some (.inr 330), some (.inl r), some (.inl p), none]) rfl (fun hav hcm => ?_)
  have hc1 : -2147483648 ≤ r ∧ r < 2147483648 := hav (.inl r) (by simp)
  have hc2 : -2147483648 ≤ p ∧ p < 2147483648 := hav (.inl p) (by simp)
  clear hav
  have qa1 := hg0.1
  refine ax_aload_n dX12_untie_0 rfl rfl (pc' := 1) rfl ?_
  refine ax_iload_n dX12_untie_1 rfl rfl (pc' := 2) rfl ?_
  refine ax_iload_n dX12_untie_2 rfl rfl (pc' := 3) rfl ?_
  refine ax_invG [.inl r, .inl p] [] dX12_untie_3 mlX12_367 sh_330 rfl rfl rfl (Nat.le_of_ble_eq_true rfl) (s_X12_isPlace E l _ (by omega) _ r p hw (by first | omega | assumption)) (pc' := 6) rfl (fun vv M_3 hq co3 hcm3 => ?_)
  obtain ⟨rfl, rfl⟩ := hq
  refine ax_reS (st2 := [.inl (f_b (f_isP w r p))]) rfl ?_
  refine ax_if_eq (tgt := 18) dX12_untie_6 (by decide) (pc' := 9) rfl (fun h6 => ?_) (fun h6 => ?_)
  · replace h6 := f_b_0 h6
    refine ax_iconst dX12_untie_18 (by decide) (pc' := 19) rfl ?_
    refine ax_iret dX12_untie_19 rfl ?_
    refine ⟨rfl, ?_, ?_⟩
    · rfl
    · rfl
  · replace h6 := f_b_1 h6
    have qa2 := hg0.1 r (by omega) (by omega)
    refine ax_aload_n dX12_untie_9 rfl rfl (pc' := 10) rfl ?_
    refine ax_iload_n dX12_untie_10 rfl rfl (pc' := 11) rfl ?_
    refine ax_iload_n dX12_untie_11 rfl rfl (pc' := 12) rfl ?_
    refine ax_invG [.inl r, .inl p] [] dX12_untie_12 mlX12_340 sh_330 rfl rfl rfl (Nat.le_of_ble_eq_true rfl) (s_X12_isTied E l _ (by omega) _ r p hw (by first | omega | assumption) (by first | omega | assumption)) (pc' := 15) rfl (fun vv M_12 hq co12 hcm12 => ?_)
    obtain ⟨rfl, rfl⟩ := hq
    refine ax_reS (st2 := [.inl (f_b (f_P w r p 0 ≠ -1))]) rfl ?_
    refine ax_if_ne (tgt := 20) dX12_untie_15 (by decide) (pc' := 18) rfl (fun h15 => ?_) (fun h15 => ?_)
    · replace h15 := f_b_1 h15
      exfalso
      omega
    · replace h15 := f_b_0 h15
      refine ax_iconst dX12_untie_18 (by decide) (pc' := 19) rfl ?_
      refine ax_iret dX12_untie_19 rfl ?_
      refine ⟨rfl, ?_, ?_⟩
      · rfl
      · rfl
set_option maxRecDepth 20000 in
theorem s_X12_untie_ok (E : ax_Env) (l : Launch) (d : Nat) (hd : 3 ≤ d) (M : ax_Mem) (r p : Int) {w : Int → Int} (hw : M 331 = w) {b : Int → Int} (hb : M 333 = b) {m : Int} (hm : M 330 4 = m) (hg0 : f_iv w) (hg1 : 0 ≤ m ∧ m ≤ 5) (hg2 : f_isP w r p ∧ f_P w r p 0 ≠ -1) : ax_G E l d iX12_untie [.inr 330, .inl r, .inl p] M (fun z0 M2 => z0 = some (.inl (f_P w r p 0)) ∧ (∀ x0 i0 : Int, ¬ (x0 = 331 ∨ x0 = 333 ∨ (x0 = 330 ∧ i0 = 4)) → M2 x0 i0 = M x0 i0) ∧ M2 331 = f_sP w r p 0 (-1) ∧ M2 333 = f_keep b w m ∧ M2 330 4 = f_keepN m) := by
  obtain ⟨d, rfl⟩ : ∃ d0, d = d0 + 1 := ⟨d - 1, by omega⟩
  refine ax_start rfl (Nat.le_of_ble_eq_true rfl) (ls := [some (.inr 330), some (.inl r), some (.inl p), none]) rfl (fun hav hcm => ?_)
  have hc1 : -2147483648 ≤ r ∧ r < 2147483648 := hav (.inl r) (by simp)
  have hc2 : -2147483648 ≤ p ∧ p < 2147483648 := hav (.inl p) (by simp)
  clear hav
  have qa1 := hg0.1
  have qa2 := hg0.1 r (by omega) (by omega)
  refine ax_aload_n dX12_untie_0 rfl rfl (pc' := 1) rfl ?_
  refine ax_iload_n dX12_untie_1 rfl rfl (pc' := 2) rfl ?_
  refine ax_iload_n dX12_untie_2 rfl rfl (pc' := 3) rfl ?_
  refine ax_invG [.inl r, .inl p] [] dX12_untie_3 mlX12_367 sh_330 rfl rfl rfl (Nat.le_of_ble_eq_true rfl) (s_X12_isPlace E l _ (by omega) _ r p hw (by first | omega | assumption)) (pc' := 6) rfl (fun vv M_3 hq co3 hcm3 => ?_)
  obtain ⟨rfl, rfl⟩ := hq
  refine ax_reS (st2 := [.inl (f_b (f_isP w r p))]) rfl ?_
  refine ax_if_eq (tgt := 18) dX12_untie_6 (by decide) (pc' := 9) rfl (fun h6 => ?_) (fun h6 => ?_)
  · replace h6 := f_b_0 h6
    exfalso
    omega
  · replace h6 := f_b_1 h6
    refine ax_aload_n dX12_untie_9 rfl rfl (pc' := 10) rfl ?_
    refine ax_iload_n dX12_untie_10 rfl rfl (pc' := 11) rfl ?_
    refine ax_iload_n dX12_untie_11 rfl rfl (pc' := 12) rfl ?_
    refine ax_invG [.inl r, .inl p] [] dX12_untie_12 mlX12_340 sh_330 rfl rfl rfl (Nat.le_of_ble_eq_true rfl) (s_X12_isTied E l _ (by omega) _ r p hw (by first | omega | assumption) (by first | omega | assumption)) (pc' := 15) rfl (fun vv M_12 hq co12 hcm12 => ?_)
    obtain ⟨rfl, rfl⟩ := hq
    refine ax_reS (st2 := [.inl (f_b (f_P w r p 0 ≠ -1))]) rfl ?_
    refine ax_if_ne (tgt := 20) dX12_untie_15 (by decide) (pc' := 18) rfl (fun h15 => ?_) (fun h15 => ?_)
    · replace h15 := f_b_1 h15
      refine ax_aload_n dX12_untie_20 rfl rfl (pc' := 21) rfl ?_
      refine ax_invG [] [] dX12_untie_21 mlX12_379 sh_330 rfl rfl rfl (Nat.le_of_ble_eq_true rfl) (s_X12_keeps E l _ (by omega) _ hw hb hm (by first | omega | assumption)) (pc' := 24) rfl (fun vv M_21 hq co21 hcm21 => ?_)
      obtain ⟨rfl, frM_21, mrM_21_0, msM_21_0⟩ := hq
      refine ax_reS (st2 := []) rfl ?_
      refine ax_aload_n dX12_untie_24 rfl rfl (pc' := 25) rfl ?_
      refine ax_iload_n dX12_untie_25 rfl rfl (pc' := 26) rfl ?_
      refine ax_iload_n dX12_untie_26 rfl rfl (pc' := 27) rfl ?_
      refine ax_iconst dX12_untie_27 (by decide) (pc' := 28) rfl ?_
      refine ax_invG [.inl r, .inl p, .inl 0] [] dX12_untie_28 mlX12_86 sh_330 rfl rfl rfl (Nat.le_of_ble_eq_true rfl) (s_X12_ofPlace E l _ (by omega) _ r p 0 ((funext fun i0 => frM_21 331 i0 (by omega)).trans hw) (by first | omega | assumption) (by first | omega | assumption) (by first | omega | assumption)) (pc' := 31) rfl (fun vv M_28 hq co28 hcm28 => ?_)
      obtain ⟨rfl, rfl⟩ := hq
      refine ax_reS (st2 := [.inl (f_P w r p 0)]) rfl ?_
      have cc28 : -2147483648 ≤ f_P w r p 0 ∧ f_P w r p 0 < 2147483648 := co28 _ rfl
      refine ax_istore_n dX12_untie_31 rfl (by decide) (ls' := [some (.inr 330), some (.inl r), some (.inl p), some (.inl (f_P w r p 0))]) rfl (pc' := 32) rfl ?_
      refine ax_aload_n dX12_untie_32 rfl rfl (pc' := 33) rfl ?_
      refine ax_iload_n dX12_untie_33 rfl rfl (pc' := 34) rfl ?_
      refine ax_iload_n dX12_untie_34 rfl rfl (pc' := 35) rfl ?_
      refine ax_iconst dX12_untie_35 (by decide) (pc' := 36) rfl ?_
      refine ax_iconst dX12_untie_36 (by decide) (pc' := 37) rfl ?_
      refine ax_invG [.inl r, .inl p, .inl 0, .inl (-1)] [] dX12_untie_37 mlX12_102 sh_330 rfl rfl rfl (Nat.le_of_ble_eq_true rfl) (s_X12_places E l _ (by omega) _ r p 0 (-1) ((funext fun i0 => frM_21 331 i0 (by omega)).trans hw) (by first | omega | assumption) (by first | omega | assumption) (by first | omega | assumption)) (pc' := 40) rfl (fun vv M_37 hq co37 hcm37 => ?_)
      obtain ⟨rfl, frM_37, mrM_37_0⟩ := hq
      refine ax_reS (st2 := []) rfl ?_
      refine ax_iload_n dX12_untie_40 rfl rfl (pc' := 41) rfl ?_
      refine ax_iret dX12_untie_41 rfl ?_
      refine ⟨rfl, ?_, ?_, ?_, ?_, ?_⟩
      · rfl
      · intro x0 i0 hai
        exact ((frM_37 x0 i0 (by omega)).trans ((frM_21 x0 i0 (by omega)).trans rfl))
      · exact mrM_37_0
      · exact ((funext fun i0 => frM_37 333 i0 (by omega)).trans mrM_21_0)
      · exact ((frM_37 330 4 (by omega)).trans msM_21_0)
    · replace h15 := f_b_0 h15
      exfalso
      omega
set_option maxRecDepth 20000 in
theorem s_X12_wets (E : ax_Env) (l : Launch) (d : Nat) (hd : 3 ≤ d) (M : ax_Mem) (r v : Int) {w : Int → Int} (hw : M 331 = w) (hg0 : 0 ≤ r ∧ r < 8) (hg1 : f_iv w) : ax_G E l d iX12_wets [.inr 330, .inl r, .inl v] M (fun z0 M2 => z0 = none ∧ (∀ x0 i0 : Int, ¬ (x0 = 331) → M2 x0 i0 = M x0 i0) ∧ M2 331 = f_wets w r v) := by
  obtain ⟨d, rfl⟩ : ∃ d0, d = d0 + 1 := ⟨d - 1, by omega⟩
  refine ax_start rfl (Nat.le_of_ble_eq_true rfl) (ls := [some (.inr 330), some (.inl r), some (.inl v), none, none]) rfl (fun hav hcm => ?_)
  have hc1 : -2147483648 ≤ r ∧ r < 2147483648 := hav (.inl r) (by simp)
  have hc2 : -2147483648 ≤ v ∧ v < 2147483648 := hav (.inl v) (by simp)
  clear hav
  have qa1 := hg1.1 r (by omega) (by omega)
  refine ax_aload_n dX12_wets_0 rfl rfl (pc' := 1) rfl ?_
  refine ax_iload_n dX12_wets_1 rfl rfl (pc' := 2) rfl ?_
  refine ax_iconst dX12_wets_2 (by decide) (pc' := 3) rfl ?_
  refine ax_invG [.inl r, .inl 4] [] dX12_wets_3 mlX12_78 sh_330 rfl rfl rfl (Nat.le_of_ble_eq_true rfl) (s_X12_ofRope E l _ (by omega) _ r 4 hw (by first | omega | assumption) (by first | omega | assumption)) (pc' := 6) rfl (fun vv M_3 hq co3 hcm3 => ?_)
  obtain ⟨rfl, rfl⟩ := hq
  refine ax_reS (st2 := [.inl (f_R w r 4)]) rfl ?_
  have cc3 : -2147483648 ≤ f_R w r 4 ∧ f_R w r 4 < 2147483648 := co3 _ rfl
  refine ax_if_ne (tgt := 13) dX12_wets_6 (by decide) (pc' := 9) rfl (fun h6 => ?_) (fun h6 => ?_)
  · refine ax_iconst dX12_wets_13 (by decide) (pc' := 14) rfl ?_
    refine ax_istore_n dX12_wets_14 rfl (by decide) (ls' := [some (.inr 330), some (.inl r), some (.inl v), some (.inl 0), none]) rfl (pc' := 15) rfl ?_
    refine ax_aload_n dX12_wets_15 rfl rfl (pc' := 16) rfl ?_
    refine ax_iload_n dX12_wets_16 rfl rfl (pc' := 17) rfl ?_
    refine ax_iconst dX12_wets_17 (by decide) (pc' := 18) rfl ?_
    refine ax_iload_n dX12_wets_18 rfl rfl (pc' := 19) rfl ?_
    refine ax_invG [.inl r, .inl 4, .inl v] [] dX12_wets_19 mlX12_98 sh_330 rfl rfl rfl (Nat.le_of_ble_eq_true rfl) (s_X12_ropes E l _ (by omega) _ r 4 v hw (by first | omega | assumption) (by first | omega | assumption)) (pc' := 22) rfl (fun vv M_19 hq co19 hcm19 => ?_)
    obtain ⟨rfl, frM_19, mrM_19_0⟩ := hq
    refine ax_reS (st2 := []) rfl ?_
    refine ax_iconst dX12_wets_22 (by decide) (pc' := 23) rfl ?_
    refine ax_istore dX12_wets_23 (by decide) (ls' := [some (.inr 330), some (.inl r), some (.inl v), some (.inl 0), some (.inl 0)]) rfl (pc' := 25) rfl ?_
    have LP1 : ∀ (kq2 : Nat) (p : Int) (wv1 : Int → Int) (M1 : ax_Mem) (hm1 : f_R w r 1 - p < (kq2 : Nat)) (fr1 : ∀ x0 i0 : Int, ¬ (x0 = 331) → M1 x0 i0 = M_19 x0 i0) (mr1_331 : M1 331 = wv1) (iv1_0 : 0 ≤ p ∧ p ≤ f_R w r 1) (iv1_1 : f_iv wv1 ∧ f_R wv1 r 1 = f_R w r 1) (iv1_2 : wv1 = f_sR w r 4 v), ax_W E l (d + 1) 0 0 iX12_wets 25 [some (.inr 330), some (.inl r), some (.inl v), some (.inl 0), some (.inl p)] [] SH M1 (ax_P (fun z0 M2 => z0 = none ∧ (∀ x0 i0 : Int, ¬ (x0 = 331) → M2 x0 i0 = M x0 i0) ∧ M2 331 = f_wets w r v)) := by
      intro kq2
      induction kq2 with
      | zero =>
        intro p wv1 M1 hm1 fr1 mr1_331 iv1_0 iv1_1 iv1_2
        exfalso
        omega
      | succ kq2 ih3 =>
        intro p wv1 M1 hm1 fr1 mr1_331 iv1_0 iv1_1 iv1_2
        have qa4 := iv1_1.1.1 r (by omega) (by omega)
        have qa5 := iv1_1.1.2.1
        have qa6 := f_call_rg (w := wv1) (r := r) (p := p)
        refine ax_iload dX12_wets_25 rfl (pc' := 27) rfl ?_
        refine ax_aload_n dX12_wets_27 rfl rfl (pc' := 28) rfl ?_
        refine ax_iload_n dX12_wets_28 rfl rfl (pc' := 29) rfl ?_
        refine ax_iconst dX12_wets_29 (by decide) (pc' := 30) rfl ?_
        refine ax_invG [.inl r, .inl 1] [.inl p] dX12_wets_30 mlX12_78 sh_330 rfl rfl rfl (Nat.le_of_ble_eq_true rfl) (s_X12_ofRope E l _ (by omega) _ r 1 mr1_331 (by first | omega | assumption) (by first | omega | assumption)) (pc' := 33) rfl (fun vv M_30 hq co30 hcm30 => ?_)
        obtain ⟨rfl, rfl⟩ := hq
        refine ax_reS (st2 := [.inl (f_R wv1 r 1), .inl p]) rfl ?_
        have cc30 : -2147483648 ≤ f_R wv1 r 1 ∧ f_R wv1 r 1 < 2147483648 := co30 _ rfl
        refine ax_icmp_ge (tgt := 76) dX12_wets_33 (by decide) (pc' := 36) rfl (fun h33 => ?_) (fun h33 => ?_)
        · refine ax_vret dX12_wets_76 rfl ?_
          refine ⟨rfl, rfl, ?_, ?_⟩
          · intro x0 i0 hai
            exact ((fr1 x0 i0 (by omega)).trans ((frM_19 x0 i0 (by omega)).trans rfl))
          · refine Eq.trans mr1_331 ?_
            unfold f_wets
            first
              | (rw [if_neg (by omega)]; exact iv1_2)
              | (by_cases hv : 0 < v
                 · rw [if_pos (by omega)]
                   exact (f_loop_done (by omega)).symm.trans (iv1_2.1 hv)
                 · rw [if_neg (by omega)]
                   exact iv1_2.2 hv)
        · refine ax_iload_n dX12_wets_36 rfl rfl (pc' := 37) rfl ?_
          refine ax_if_eq (tgt := 76) dX12_wets_37 (by decide) (pc' := 40) rfl (fun h37 => ?_) (fun h37 => ?_)
          · refine ax_vret dX12_wets_76 rfl ?_
            refine ⟨rfl, rfl, ?_, ?_⟩
            · intro x0 i0 hai
              exact ((fr1 x0 i0 (by omega)).trans ((frM_19 x0 i0 (by omega)).trans rfl))
            · refine Eq.trans mr1_331 ?_
              unfold f_wets
              first
                | (rw [if_neg (by omega)]; exact iv1_2)
                | (by_cases hv : 0 < v
                   · rw [if_pos (by omega)]
                     exact (f_loop_done (by omega)).symm.trans (iv1_2.1 hv)
                   · rw [if_neg (by omega)]
                     exact iv1_2.2 hv)
          · exfalso
            omega
    refine LP1 (f_R w r 1 - 0 : Int).toNat.succ 0 (f_sR w r 4 v) M_19 ?_ ?_ ?_ ?_ ?_ ?_
    · omega
    · exact fun a i _ => rfl
    · exact mrM_19_0
    · omega
    · exact ⟨f_iv_sR ⟨hg0.1, hg0.2, by omega, by omega⟩ (by omega) (by omega) hg1, by rw [f_R_sR ⟨hg0.1, hg0.2, by omega, by omega⟩ ⟨hg0.1, hg0.2, by omega, by omega⟩, if_neg (by omega)]⟩
    · first | rfl | exact ⟨fun _ => rfl, fun _ => rfl⟩
  · refine ax_iconst dX12_wets_9 (by decide) (pc' := 10) rfl ?_
    refine ax_goto dX12_wets_10 (pc' := 14) (by decide) ?_
    refine ax_istore_n dX12_wets_14 rfl (by decide) (ls' := [some (.inr 330), some (.inl r), some (.inl v), some (.inl 1), none]) rfl (pc' := 15) rfl ?_
    refine ax_aload_n dX12_wets_15 rfl rfl (pc' := 16) rfl ?_
    refine ax_iload_n dX12_wets_16 rfl rfl (pc' := 17) rfl ?_
    refine ax_iconst dX12_wets_17 (by decide) (pc' := 18) rfl ?_
    refine ax_iload_n dX12_wets_18 rfl rfl (pc' := 19) rfl ?_
    refine ax_invG [.inl r, .inl 4, .inl v] [] dX12_wets_19 mlX12_98 sh_330 rfl rfl rfl (Nat.le_of_ble_eq_true rfl) (s_X12_ropes E l _ (by omega) _ r 4 v hw (by first | omega | assumption) (by first | omega | assumption)) (pc' := 22) rfl (fun vv M_19 hq co19 hcm19 => ?_)
    obtain ⟨rfl, frM_19, mrM_19_0⟩ := hq
    refine ax_reS (st2 := []) rfl ?_
    refine ax_iconst dX12_wets_22 (by decide) (pc' := 23) rfl ?_
    refine ax_istore dX12_wets_23 (by decide) (ls' := [some (.inr 330), some (.inl r), some (.inl v), some (.inl 1), some (.inl 0)]) rfl (pc' := 25) rfl ?_
    have LP4 : ∀ (kq5 : Nat) (p : Int) (wv1 : Int → Int) (M4 : ax_Mem) (hm4 : f_R w r 1 - p < (kq5 : Nat)) (fr4 : ∀ x0 i0 : Int, ¬ (x0 = 331) → M4 x0 i0 = M_19 x0 i0) (mr4_331 : M4 331 = wv1) (iv4_0 : 0 ≤ p ∧ p ≤ f_R w r 1) (iv4_1 : f_iv wv1 ∧ f_R wv1 r 1 = f_R w r 1) (iv4_2 : (0 < v → f_loop (f_wetS r) p (f_R w r 1) wv1 = f_loop (f_wetS r) 0 (f_R w r 1) (f_sR w r 4 v)) ∧ (¬ 0 < v → wv1 = f_sR w r 4 v)), ax_W E l (d + 1) 0 0 iX12_wets 25 [some (.inr 330), some (.inl r), some (.inl v), some (.inl 1), some (.inl p)] [] SH M4 (ax_P (fun z0 M2 => z0 = none ∧ (∀ x0 i0 : Int, ¬ (x0 = 331) → M2 x0 i0 = M x0 i0) ∧ M2 331 = f_wets w r v)) := by
      intro kq5
      induction kq5 with
      | zero =>
        intro p wv1 M4 hm4 fr4 mr4_331 iv4_0 iv4_1 iv4_2
        exfalso
        omega
      | succ kq5 ih6 =>
        intro p wv1 M4 hm4 fr4 mr4_331 iv4_0 iv4_1 iv4_2
        have qa4 := iv4_1.1.1 r (by omega) (by omega)
        have qa5 := iv4_1.1.2.1
        have qa6 := f_call_rg (w := wv1) (r := r) (p := p)
        refine ax_iload dX12_wets_25 rfl (pc' := 27) rfl ?_
        refine ax_aload_n dX12_wets_27 rfl rfl (pc' := 28) rfl ?_
        refine ax_iload_n dX12_wets_28 rfl rfl (pc' := 29) rfl ?_
        refine ax_iconst dX12_wets_29 (by decide) (pc' := 30) rfl ?_
        refine ax_invG [.inl r, .inl 1] [.inl p] dX12_wets_30 mlX12_78 sh_330 rfl rfl rfl (Nat.le_of_ble_eq_true rfl) (s_X12_ofRope E l _ (by omega) _ r 1 mr4_331 (by first | omega | assumption) (by first | omega | assumption)) (pc' := 33) rfl (fun vv M_30 hq co30 hcm30 => ?_)
        obtain ⟨rfl, rfl⟩ := hq
        refine ax_reS (st2 := [.inl (f_R wv1 r 1), .inl p]) rfl ?_
        have cc30 : -2147483648 ≤ f_R wv1 r 1 ∧ f_R wv1 r 1 < 2147483648 := co30 _ rfl
        refine ax_icmp_ge (tgt := 76) dX12_wets_33 (by decide) (pc' := 36) rfl (fun h33 => ?_) (fun h33 => ?_)
        · refine ax_vret dX12_wets_76 rfl ?_
          refine ⟨rfl, rfl, ?_, ?_⟩
          · intro x0 i0 hai
            exact ((fr4 x0 i0 (by omega)).trans ((frM_19 x0 i0 (by omega)).trans rfl))
          · refine Eq.trans mr4_331 ?_
            unfold f_wets
            first
              | (rw [if_neg (by omega)]; exact iv4_2)
              | (by_cases hv : 0 < v
                 · rw [if_pos (by omega)]
                   exact (f_loop_done (by omega)).symm.trans (iv4_2.1 hv)
                 · rw [if_neg (by omega)]
                   exact iv4_2.2 hv)
        · refine ax_iload_n dX12_wets_36 rfl rfl (pc' := 37) rfl ?_
          refine ax_if_eq (tgt := 76) dX12_wets_37 (by decide) (pc' := 40) rfl (fun h37 => ?_) (fun h37 => ?_)
          · exfalso
            omega
          · refine ax_iload_n dX12_wets_40 rfl rfl (pc' := 41) rfl ?_
            refine ax_if_le (tgt := 76) dX12_wets_41 (by decide) (pc' := 44) rfl (fun h41 => ?_) (fun h41 => ?_)
            · refine ax_vret dX12_wets_76 rfl ?_
              refine ⟨rfl, rfl, ?_, ?_⟩
              · intro x0 i0 hai
                exact ((fr4 x0 i0 (by omega)).trans ((frM_19 x0 i0 (by omega)).trans rfl))
              · refine Eq.trans mr4_331 ?_
                unfold f_wets
                first
                  | (rw [if_neg (by omega)]; exact iv4_2)
                  | (by_cases hv : 0 < v
                     · rw [if_pos (by omega)]
                       exact (f_loop_done (by omega)).symm.trans (iv4_2.1 hv)
                     · rw [if_neg (by omega)]
                       exact iv4_2.2 hv)
            · refine ax_aload_n dX12_wets_44 rfl rfl (pc' := 45) rfl ?_
              refine ax_iload_n dX12_wets_45 rfl rfl (pc' := 46) rfl ?_
              refine ax_iload dX12_wets_46 rfl (pc' := 48) rfl ?_
              refine ax_invG [.inl r, .inl p] [] dX12_wets_48 mlX12_384 sh_330 rfl rfl rfl (Nat.le_of_ble_eq_true rfl) (s_X12_callOf E l _ (by omega) _ r p mr4_331 (by first | omega | assumption) (by first | omega | assumption)) (pc' := 51) rfl (fun vv M_48 hq co48 hcm48 => ?_)
              obtain ⟨rfl, rfl, fa48_0⟩ := hq
              refine ax_reS (st2 := [.inl (f_call wv1 r p)]) rfl ?_
              have cc48 : -2147483648 ≤ f_call wv1 r p ∧ f_call wv1 r p < 2147483648 := co48 _ rfl
              refine ax_iconst dX12_wets_51 (by decide) (pc' := 52) rfl ?_
              refine ax_icmp_eq (tgt := 70) dX12_wets_52 (by decide) (pc' := 55) rfl (fun h52 => ?_) (fun h52 => ?_)
              · refine ax_iinc dX12_wets_70 rfl (by decide) (by omega) (ls' := [some (.inr 330), some (.inl r), some (.inl v), some (.inl 1), some (.inl (p + 1))]) rfl (pc' := 73) rfl ?_
                refine ax_goto dX12_wets_73 (pc' := 25) (by decide) ?_
                refine ih6 (p + 1) wv1 M4 ?_ ?_ ?_ ?_ ?_ ?_
                · omega
                · intro x0 i0 hai
                  exact ((fr4 x0 i0 (by omega)).trans rfl)
                · exact mr4_331
                · omega
                · first
                    | (refine ⟨f_iv_more hg0 (by omega) (by omega) (by omega) iv4_1.1, ?_⟩; rw [f_R_more ⟨hg0.1, hg0.2, by omega, by omega, by omega, by omega⟩ ⟨hg0.1, hg0.2, by omega, by omega⟩]; exact iv4_1.2)
                    | exact iv4_1
                · first
                    | (refine ⟨fun hv => f_loop_back (by omega) (iv4_2.1 hv) ?_, fun hv => absurd h41 (by omega)⟩; unfold f_wetS; rw [if_neg h52])
                    | (refine ⟨fun hv => f_loop_back (by omega) (iv4_2.1 hv) ?_, fun hv => absurd h41 (by omega)⟩; unfold f_wetS; rw [if_pos h52])
                    | exact iv4_2
              · refine ax_aload_n dX12_wets_55 rfl rfl (pc' := 56) rfl ?_
                refine ax_iload_n dX12_wets_56 rfl rfl (pc' := 57) rfl ?_
                refine ax_iload dX12_wets_57 rfl (pc' := 59) rfl ?_
                refine ax_aload_n dX12_wets_59 rfl rfl (pc' := 60) rfl ?_
                refine ax_iload_n dX12_wets_60 rfl rfl (pc' := 61) rfl ?_
                refine ax_iload dX12_wets_61 rfl (pc' := 63) rfl ?_
                refine ax_invG [.inl r, .inl p] [.inl p, .inl r, .inr 330] dX12_wets_63 mlX12_384 sh_330 rfl rfl rfl (Nat.le_of_ble_eq_true rfl) (s_X12_callOf E l _ (by omega) _ r p mr4_331 (by first | omega | assumption) (by first | omega | assumption)) (pc' := 66) rfl (fun vv M_63 hq co63 hcm63 => ?_)
                obtain ⟨rfl, rfl, fa63_0⟩ := hq
                refine ax_reS (st2 := [.inl (f_call wv1 r p), .inl p, .inl r, .inr 330]) rfl ?_
                have cc63 : -2147483648 ≤ f_call wv1 r p ∧ f_call wv1 r p < 2147483648 := co63 _ rfl
                refine ax_iconst dX12_wets_66 (by decide) (pc' := 67) rfl ?_
                refine ax_invG [.inl r, .inl p, .inl (f_call wv1 r p), .inl 5] [] dX12_wets_67 mlX12_370 sh_330 rfl rfl rfl (Nat.le_of_ble_eq_true rfl) (s_X12_more E l _ (by omega) _ r p (f_call wv1 r p) 5 mr4_331 (by first | omega | assumption) (by first | omega | assumption) (by first | omega | assumption) (by first | omega | assumption) (by first | omega | assumption)) (pc' := 70) rfl (fun vv M_67 hq co67 hcm67 => ?_)
                obtain ⟨rfl, frM_67, mrM_67_0⟩ := hq
                refine ax_reS (st2 := []) rfl ?_
                refine ax_iinc dX12_wets_70 rfl (by decide) (by omega) (ls' := [some (.inr 330), some (.inl r), some (.inl v), some (.inl 1), some (.inl (p + 1))]) rfl (pc' := 73) rfl ?_
                refine ax_goto dX12_wets_73 (pc' := 25) (by decide) ?_
                refine ih6 (p + 1) (f_more wv1 r p (f_call wv1 r p) 5) M_67 ?_ ?_ ?_ ?_ ?_ ?_
                · omega
                · intro x0 i0 hai
                  exact ((frM_67 x0 i0 (by omega)).trans ((fr4 x0 i0 (by omega)).trans rfl))
                · exact mrM_67_0
                · omega
                · first
                    | (refine ⟨f_iv_more hg0 (by omega) (by omega) (by omega) iv4_1.1, ?_⟩; rw [f_R_more ⟨hg0.1, hg0.2, by omega, by omega, by omega, by omega⟩ ⟨hg0.1, hg0.2, by omega, by omega⟩]; exact iv4_1.2)
                    | exact iv4_1
                · first
                    | (refine ⟨fun hv => f_loop_back (by omega) (iv4_2.1 hv) ?_, fun hv => absurd h41 (by omega)⟩; unfold f_wetS; rw [if_neg h52])
                    | (refine ⟨fun hv => f_loop_back (by omega) (iv4_2.1 hv) ?_, fun hv => absurd h41 (by omega)⟩; unfold f_wetS; rw [if_pos h52])
                    | exact iv4_2
    refine LP4 (f_R w r 1 - 0 : Int).toNat.succ 0 (f_sR w r 4 v) M_19 ?_ ?_ ?_ ?_ ?_ ?_
    · omega
    · exact fun a i _ => rfl
    · exact mrM_19_0
    · omega
    · exact ⟨f_iv_sR ⟨hg0.1, hg0.2, by omega, by omega⟩ (by omega) (by omega) hg1, by rw [f_R_sR ⟨hg0.1, hg0.2, by omega, by omega⟩ ⟨hg0.1, hg0.2, by omega, by omega⟩, if_neg (by omega)]⟩
    · first | rfl | exact ⟨fun _ => rfl, fun _ => rfl⟩
set_option maxRecDepth 20000 in
theorem s_X12_copies (E : ax_Env) (l : Launch) (d : Nat) (hd : 1 ≤ d) (M : ax_Mem) (r p s q : Int) {w : Int → Int} (hw : M 331 = w) (hg0 : 0 ≤ r ∧ r < 8) (hg1 : 0 ≤ p ∧ p < 24) (hg2 : 0 ≤ s ∧ s < 8) (hg3 : 0 ≤ q ∧ q < 24) : ax_G E l d iX12_copies [.inr 330, .inl r, .inl p, .inl s, .inl q] M (fun z0 M2 => z0 = none ∧ (∀ x0 i0 : Int, ¬ (x0 = 331) → M2 x0 i0 = M x0 i0) ∧ M2 331 = f_cpy w r p s q) := by
  obtain ⟨d, rfl⟩ : ∃ d0, d = d0 + 1 := ⟨d - 1, by omega⟩
  refine ax_start rfl (Nat.le_of_ble_eq_true rfl) (ls := [some (.inr 330), some (.inl r), some (.inl p), some (.inl s), some (.inl q), none]) rfl (fun hav hcm => ?_)
  have hc1 : -2147483648 ≤ r ∧ r < 2147483648 := hav (.inl r) (by simp)
  have hc2 : -2147483648 ≤ p ∧ p < 2147483648 := hav (.inl p) (by simp)
  have hc3 : -2147483648 ≤ s ∧ s < 2147483648 := hav (.inl s) (by simp)
  have hc4 : -2147483648 ≤ q ∧ q < 2147483648 := hav (.inl q) (by simp)
  clear hav
  refine ax_iconst dX12_copies_0 (by decide) (pc' := 1) rfl ?_
  refine ax_istore dX12_copies_1 (by decide) (ls' := [some (.inr 330), some (.inl r), some (.inl p), some (.inl s), some (.inl q), some (.inl 0)]) rfl (pc' := 3) rfl ?_
  have LP1 : ∀ (kq2 : Nat) (k : Int) (wv1 : Int → Int) (M1 : ax_Mem) (hm1 : 13 - k < (kq2 : Nat)) (fr1 : ∀ x0 i0 : Int, ¬ (x0 = 331) → M1 x0 i0 = M x0 i0) (mr1_331 : M1 331 = wv1) (iv1_0 : 0 ≤ k ∧ k ≤ 13) (iv1_1 : f_loop (fun k w => f_sP w r p k (f_P w s q k)) k 13 wv1 = f_cpy w r p s q), ax_W E l (d + 1) 0 0 iX12_copies 3 [some (.inr 330), some (.inl r), some (.inl p), some (.inl s), some (.inl q), some (.inl k)] [] SH M1 (ax_P (fun z0 M2 => z0 = none ∧ (∀ x0 i0 : Int, ¬ (x0 = 331) → M2 x0 i0 = M x0 i0) ∧ M2 331 = f_cpy w r p s q)) := by
    intro kq2
    induction kq2 with
    | zero =>
      intro k wv1 M1 hm1 fr1 mr1_331 iv1_0 iv1_1
      exfalso
      omega
    | succ kq2 ih3 =>
      intro k wv1 M1 hm1 fr1 mr1_331 iv1_0 iv1_1
      refine ax_iload dX12_copies_3 rfl (pc' := 5) rfl ?_
      refine ax_bipush dX12_copies_5 (by decide) (pc' := 7) rfl ?_
      refine ax_icmp_ge (tgt := 33) dX12_copies_7 (by decide) (pc' := 10) rfl (fun h7 => ?_) (fun h7 => ?_)
      · refine ax_vret dX12_copies_33 rfl ?_
        refine ⟨rfl, rfl, ?_, ?_⟩
        · intro x0 i0 hai
          exact ((fr1 x0 i0 (by omega)).trans rfl)
        · refine Eq.trans mr1_331 ?_
          exact (f_loop_done (by omega)).symm.trans iv1_1
      · refine ax_aload_n dX12_copies_10 rfl rfl (pc' := 11) rfl ?_
        refine ax_iload_n dX12_copies_11 rfl rfl (pc' := 12) rfl ?_
        refine ax_iload_n dX12_copies_12 rfl rfl (pc' := 13) rfl ?_
        refine ax_iload dX12_copies_13 rfl (pc' := 15) rfl ?_
        refine ax_aload_n dX12_copies_15 rfl rfl (pc' := 16) rfl ?_
        refine ax_iload_n dX12_copies_16 rfl rfl (pc' := 17) rfl ?_
        refine ax_iload dX12_copies_17 rfl (pc' := 19) rfl ?_
        refine ax_iload dX12_copies_19 rfl (pc' := 21) rfl ?_
        refine ax_invG [.inl s, .inl q, .inl k] [.inl k, .inl p, .inl r, .inr 330] dX12_copies_21 mlX12_86 sh_330 rfl rfl rfl (Nat.le_of_ble_eq_true rfl) (s_X12_ofPlace E l _ (by omega) _ s q k mr1_331 (by first | omega | assumption) (by first | omega | assumption) (by first | omega | assumption)) (pc' := 24) rfl (fun vv M_21 hq co21 hcm21 => ?_)
        obtain ⟨rfl, rfl⟩ := hq
        refine ax_reS (st2 := [.inl (f_P wv1 s q k), .inl k, .inl p, .inl r, .inr 330]) rfl ?_
        have cc21 : -2147483648 ≤ f_P wv1 s q k ∧ f_P wv1 s q k < 2147483648 := co21 _ rfl
        refine ax_invG [.inl r, .inl p, .inl k, .inl (f_P wv1 s q k)] [] dX12_copies_24 mlX12_102 sh_330 rfl rfl rfl (Nat.le_of_ble_eq_true rfl) (s_X12_places E l _ (by omega) _ r p k (f_P wv1 s q k) mr1_331 (by first | omega | assumption) (by first | omega | assumption) (by first | omega | assumption)) (pc' := 27) rfl (fun vv M_24 hq co24 hcm24 => ?_)
        obtain ⟨rfl, frM_24, mrM_24_0⟩ := hq
        refine ax_reS (st2 := []) rfl ?_
        refine ax_iinc dX12_copies_27 rfl (by decide) (by omega) (ls' := [some (.inr 330), some (.inl r), some (.inl p), some (.inl s), some (.inl q), some (.inl (k + 1))]) rfl (pc' := 30) rfl ?_
        refine ax_goto dX12_copies_30 (pc' := 3) (by decide) ?_
        refine ih3 (k + 1) (f_sP wv1 r p k (f_P wv1 s q k)) M_24 ?_ ?_ ?_ ?_ ?_
        · omega
        · intro x0 i0 hai
          exact ((frM_24 x0 i0 (by omega)).trans ((fr1 x0 i0 (by omega)).trans rfl))
        · exact mrM_24_0
        · omega
        · exact (f_loop_step (by omega)).symm.trans iv1_1
  refine LP1 (13 - 0 : Int).toNat.succ 0 w M ?_ ?_ ?_ ?_ ?_
  · omega
  · exact fun a i _ => rfl
  · exact hw
  · omega
  · rfl
set_option maxRecDepth 20000 in
theorem s_X12_halves (E : ax_Env) (l : Launch) (d : Nat) (hd : 2 ≤ d) (M : ax_Mem) (r p : Int) {w : Int → Int} (hw : M 331 = w) (hg0 : 0 ≤ r ∧ r < 8) (hg1 : 0 ≤ p ∧ p < 24) (hg2 : f_iv w) : ax_G E l d iX12_halves [.inr 330, .inl r, .inl p] M (fun z0 M2 => z0 = none ∧ (∀ x0 i0 : Int, ¬ (x0 = 331) → M2 x0 i0 = M x0 i0) ∧ M2 331 = f_hlv w r p) := by
  obtain ⟨d, rfl⟩ : ∃ d0, d = d0 + 1 := ⟨d - 1, by omega⟩
  refine ax_start rfl (Nat.le_of_ble_eq_true rfl) (ls := [some (.inr 330), some (.inl r), some (.inl p), none]) rfl (fun hav hcm => ?_)
  have hc1 : -2147483648 ≤ r ∧ r < 2147483648 := hav (.inl r) (by simp)
  have hc2 : -2147483648 ≤ p ∧ p < 2147483648 := hav (.inl p) (by simp)
  clear hav
  refine ax_iconst dX12_halves_0 (by decide) (pc' := 1) rfl ?_
  refine ax_istore_n dX12_halves_1 rfl (by decide) (ls' := [some (.inr 330), some (.inl r), some (.inl p), some (.inl 0)]) rfl (pc' := 2) rfl ?_
  have LP1 : ∀ (kq2 : Nat) (k : Int) (wv1 : Int → Int) (M1 : ax_Mem) (hm1 : 6 - k < (kq2 : Nat)) (fr1 : ∀ x0 i0 : Int, ¬ (x0 = 331) → M1 x0 i0 = M x0 i0) (mr1_331 : M1 331 = wv1) (iv1_0 : 0 ≤ k ∧ k ≤ 6) (iv1_1 : f_loop (fun k w => f_hab w r p k (f_P w r p (1 + k) / 2) (f_P w r p (7 + k))) k 6 wv1 = f_hlv w r p) (iv1_2 : f_iv wv1), ax_W E l (d + 1) 0 0 iX12_halves 2 [some (.inr 330), some (.inl r), some (.inl p), some (.inl k)] [] SH M1 (ax_P (fun z0 M2 => z0 = none ∧ (∀ x0 i0 : Int, ¬ (x0 = 331) → M2 x0 i0 = M x0 i0) ∧ M2 331 = f_hlv w r p)) := by
    intro kq2
    induction kq2 with
    | zero =>
      intro k wv1 M1 hm1 fr1 mr1_331 iv1_0 iv1_1 iv1_2
      exfalso
      omega
    | succ kq2 ih3 =>
      intro k wv1 M1 hm1 fr1 mr1_331 iv1_0 iv1_1 iv1_2
      refine ax_iload_n dX12_halves_2 rfl rfl (pc' := 3) rfl ?_
      refine ax_bipush dX12_halves_3 (by decide) (pc' := 5) rfl ?_
      refine ax_icmp_ge (tgt := 40) dX12_halves_5 (by decide) (pc' := 8) rfl (fun h5 => ?_) (fun h5 => ?_)
      · refine ax_vret dX12_halves_40 rfl ?_
        refine ⟨rfl, rfl, ?_, ?_⟩
        · intro x0 i0 hai
          exact ((fr1 x0 i0 (by omega)).trans rfl)
        · refine Eq.trans mr1_331 ?_
          exact (f_loop_done (by omega)).symm.trans iv1_1
      · have qa1 := f_rgH (k := k) iv1_2.2.1 hg0 hg1 (by omega)
        refine ax_aload_n dX12_halves_8 rfl rfl (pc' := 9) rfl ?_
        refine ax_iload_n dX12_halves_9 rfl rfl (pc' := 10) rfl ?_
        refine ax_iload_n dX12_halves_10 rfl rfl (pc' := 11) rfl ?_
        refine ax_iload_n dX12_halves_11 rfl rfl (pc' := 12) rfl ?_
        refine ax_aload_n dX12_halves_12 rfl rfl (pc' := 13) rfl ?_
        refine ax_iload_n dX12_halves_13 rfl rfl (pc' := 14) rfl ?_
        refine ax_iload_n dX12_halves_14 rfl rfl (pc' := 15) rfl ?_
        refine ax_iload_n dX12_halves_15 rfl rfl (pc' := 16) rfl ?_
        refine ax_invG [.inl r, .inl p, .inl k] [.inl k, .inl p, .inl r, .inr 330] dX12_halves_16 mlX12_354 sh_330 rfl rfl rfl (Nat.le_of_ble_eq_true rfl) (s_X12_habitOf E l _ (by omega) _ r p k mr1_331 (by first | omega | assumption) (by first | omega | assumption) (by first | omega | assumption)) (pc' := 19) rfl (fun vv M_16 hq co16 hcm16 => ?_)
        obtain ⟨rfl, rfl⟩ := hq
        refine ax_reS (st2 := [.inl (f_P wv1 r p (1 + k)), .inl k, .inl p, .inl r, .inr 330]) rfl ?_
        have cc16 : -2147483648 ≤ f_P wv1 r p (1 + k) ∧ f_P wv1 r p (1 + k) < 2147483648 := co16 _ rfl
        refine ax_iconst dX12_halves_19 (by decide) (pc' := 20) rfl ?_
        refine ax_idiv dX12_halves_20 (by omega) (by omega) (pc' := 21) rfl ?_
        refine ax_aload_n dX12_halves_21 rfl rfl (pc' := 22) rfl ?_
        refine ax_iload_n dX12_halves_22 rfl rfl (pc' := 23) rfl ?_
        refine ax_iload_n dX12_halves_23 rfl rfl (pc' := 24) rfl ?_
        refine ax_bipush dX12_halves_24 (by decide) (pc' := 26) rfl ?_
        refine ax_iload_n dX12_halves_26 rfl rfl (pc' := 27) rfl ?_
        refine ax_iadd dX12_halves_27 (by omega) (pc' := 28) rfl ?_
        refine ax_invG [.inl r, .inl p, .inl (7 + k)] [.inl ((f_P wv1 r p (1 + k)) / 2), .inl k, .inl p, .inl r, .inr 330] dX12_halves_28 mlX12_86 sh_330 rfl rfl rfl (Nat.le_of_ble_eq_true rfl) (s_X12_ofPlace E l _ (by omega) _ r p (7 + k) mr1_331 (by first | omega | assumption) (by first | omega | assumption) (by first | omega | assumption)) (pc' := 31) rfl (fun vv M_28 hq co28 hcm28 => ?_)
        obtain ⟨rfl, rfl⟩ := hq
        refine ax_reS (st2 := [.inl (f_P wv1 r p (7 + k)), .inl ((f_P wv1 r p (1 + k)) / 2), .inl k, .inl p, .inl r, .inr 330]) rfl ?_
        have cc28 : -2147483648 ≤ f_P wv1 r p (7 + k) ∧ f_P wv1 r p (7 + k) < 2147483648 := co28 _ rfl
        refine ax_invG [.inl r, .inl p, .inl k, .inl ((f_P wv1 r p (1 + k)) / 2), .inl (f_P wv1 r p (7 + k))] [] dX12_halves_31 mlX12_106 sh_330 rfl rfl rfl (Nat.le_of_ble_eq_true rfl) (s_X12_habits E l _ (by omega) _ r p k ((f_P wv1 r p (1 + k)) / 2) (f_P wv1 r p (7 + k)) mr1_331 (by first | omega | assumption) (by first | omega | assumption) (by first | omega | assumption)) (pc' := 34) rfl (fun vv M_31 hq co31 hcm31 => ?_)
        obtain ⟨rfl, frM_31, mrM_31_0⟩ := hq
        refine ax_reS (st2 := []) rfl ?_
        refine ax_iinc dX12_halves_34 rfl (by decide) (by omega) (ls' := [some (.inr 330), some (.inl r), some (.inl p), some (.inl (k + 1))]) rfl (pc' := 37) rfl ?_
        refine ax_goto dX12_halves_37 (pc' := 2) (by decide) ?_
        refine ih3 (k + 1) (f_hab wv1 r p k ((f_P wv1 r p (1 + k)) / 2) (f_P wv1 r p (7 + k))) M_31 ?_ ?_ ?_ ?_ ?_ ?_
        · omega
        · intro x0 i0 hai
          exact ((frM_31 x0 i0 (by omega)).trans ((fr1 x0 i0 (by omega)).trans rfl))
        · exact mrM_31_0
        · omega
        · exact (f_loop_step (by omega)).symm.trans iv1_1
        · have a := f_rgS (k := k) iv1_2.2.1 hg0 hg1 (by omega)
          exact f_iv_hab ⟨hg0.1, hg0.2, hg1.1, hg1.2, by omega, by omega⟩ (by omega) (Or.inr a) iv1_2
  refine LP1 (6 - 0 : Int).toNat.succ 0 w M ?_ ?_ ?_ ?_ ?_ ?_
  · omega
  · exact fun a i _ => rfl
  · exact hw
  · omega
  · rfl
  · exact hg2
set_option maxRecDepth 20000 in
theorem s_X12_clears (E : ax_Env) (l : Launch) (d : Nat) (hd : 2 ≤ d) (M : ax_Mem) (r p : Int) {w : Int → Int} (hw : M 331 = w) (hg0 : 0 ≤ r ∧ r < 8) (hg1 : 0 ≤ p ∧ p < 24) : ax_G E l d iX12_clears [.inr 330, .inl r, .inl p] M (fun z0 M2 => z0 = none ∧ (∀ x0 i0 : Int, ¬ (x0 = 331) → M2 x0 i0 = M x0 i0) ∧ M2 331 = f_clr w r p) := by
  obtain ⟨d, rfl⟩ : ∃ d0, d = d0 + 1 := ⟨d - 1, by omega⟩
  refine ax_start rfl (Nat.le_of_ble_eq_true rfl) (ls := [some (.inr 330), some (.inl r), some (.inl p), none]) rfl (fun hav hcm => ?_)
  have hc1 : -2147483648 ≤ r ∧ r < 2147483648 := hav (.inl r) (by simp)
  have hc2 : -2147483648 ≤ p ∧ p < 2147483648 := hav (.inl p) (by simp)
  clear hav
  refine ax_iconst dX12_clears_0 (by decide) (pc' := 1) rfl ?_
  refine ax_istore_n dX12_clears_1 rfl (by decide) (ls' := [some (.inr 330), some (.inl r), some (.inl p), some (.inl 0)]) rfl (pc' := 2) rfl ?_
  have LP1 : ∀ (kq2 : Nat) (k : Int) (wv1 : Int → Int) (M1 : ax_Mem) (hm1 : 6 - k < (kq2 : Nat)) (fr1 : ∀ x0 i0 : Int, ¬ (x0 = 331) → M1 x0 i0 = M x0 i0) (mr1_331 : M1 331 = wv1) (iv1_0 : 0 ≤ k ∧ k ≤ 6) (iv1_1 : f_loop (fun k w => f_hab w r p k 0 0) k 6 wv1 = f_clr w r p), ax_W E l (d + 1) 0 0 iX12_clears 2 [some (.inr 330), some (.inl r), some (.inl p), some (.inl k)] [] SH M1 (ax_P (fun z0 M2 => z0 = none ∧ (∀ x0 i0 : Int, ¬ (x0 = 331) → M2 x0 i0 = M x0 i0) ∧ M2 331 = f_clr w r p)) := by
    intro kq2
    induction kq2 with
    | zero =>
      intro k wv1 M1 hm1 fr1 mr1_331 iv1_0 iv1_1
      exfalso
      omega
    | succ kq2 ih3 =>
      intro k wv1 M1 hm1 fr1 mr1_331 iv1_0 iv1_1
      refine ax_iload_n dX12_clears_2 rfl rfl (pc' := 3) rfl ?_
      refine ax_bipush dX12_clears_3 (by decide) (pc' := 5) rfl ?_
      refine ax_icmp_ge (tgt := 23) dX12_clears_5 (by decide) (pc' := 8) rfl (fun h5 => ?_) (fun h5 => ?_)
      · refine ax_vret dX12_clears_23 rfl ?_
        refine ⟨rfl, rfl, ?_, ?_⟩
        · intro x0 i0 hai
          exact ((fr1 x0 i0 (by omega)).trans rfl)
        · refine Eq.trans mr1_331 ?_
          exact (f_loop_done (by omega)).symm.trans iv1_1
      · refine ax_aload_n dX12_clears_8 rfl rfl (pc' := 9) rfl ?_
        refine ax_iload_n dX12_clears_9 rfl rfl (pc' := 10) rfl ?_
        refine ax_iload_n dX12_clears_10 rfl rfl (pc' := 11) rfl ?_
        refine ax_iload_n dX12_clears_11 rfl rfl (pc' := 12) rfl ?_
        refine ax_iconst dX12_clears_12 (by decide) (pc' := 13) rfl ?_
        refine ax_iconst dX12_clears_13 (by decide) (pc' := 14) rfl ?_
        refine ax_invG [.inl r, .inl p, .inl k, .inl 0, .inl 0] [] dX12_clears_14 mlX12_106 sh_330 rfl rfl rfl (Nat.le_of_ble_eq_true rfl) (s_X12_habits E l _ (by omega) _ r p k 0 0 mr1_331 (by first | omega | assumption) (by first | omega | assumption) (by first | omega | assumption)) (pc' := 17) rfl (fun vv M_14 hq co14 hcm14 => ?_)
        obtain ⟨rfl, frM_14, mrM_14_0⟩ := hq
        refine ax_reS (st2 := []) rfl ?_
        refine ax_iinc dX12_clears_17 rfl (by decide) (by omega) (ls' := [some (.inr 330), some (.inl r), some (.inl p), some (.inl (k + 1))]) rfl (pc' := 20) rfl ?_
        refine ax_goto dX12_clears_20 (pc' := 2) (by decide) ?_
        refine ih3 (k + 1) (f_hab wv1 r p k 0 0) M_14 ?_ ?_ ?_ ?_ ?_
        · omega
        · intro x0 i0 hai
          exact ((frM_14 x0 i0 (by omega)).trans ((fr1 x0 i0 (by omega)).trans rfl))
        · exact mrM_14_0
        · omega
        · exact (f_loop_step (by omega)).symm.trans iv1_1
  refine LP1 (6 - 0 : Int).toNat.succ 0 w M ?_ ?_ ?_ ?_ ?_
  · omega
  · exact fun a i _ => rfl
  · exact hw
  · omega
  · rfl
