/-! the reference, on: parts, splices -/
theorem f_first_rg {c : Int → Prop} [DecidablePred c] {lo hi : Int} (h : 0 ≤ lo ∧ lo ≤ hi) : f_first c lo hi = -1 ∨ (lo ≤ f_first c lo hi ∧ f_first c lo hi < hi ∧ c (f_first c lo hi)) := by
  unfold f_first
  generalize hn : (hi - lo).toNat = n
  induction n generalizing lo with
  | zero => exact Or.inl rfl
  | succ n ih =>
    have e : f_find c (n + 1) lo = if c lo then lo else f_find c n (lo + 1) := rfl
    rw [e]
    by_cases hc : c lo
    · rw [if_pos hc]
      exact Or.inr ⟨Int.le_refl lo, by omega, hc⟩
    · rw [if_neg hc]
      rcases ih (lo := lo + 1) (by omega) (by omega) with e | ⟨ha, hb, e⟩
      · exact Or.inl e
      · exact Or.inr ⟨by omega, hb, e⟩
theorem f_free_rg {w : Int → Int} : f_free w = -1 ∨ (0 ≤ f_free w ∧ f_free w < 8 ∧ f_R w (f_free w) 0 = 0) := f_first_rg (c := fun r => f_R w r 0 = 0) (lo := 0) (hi := 8) (by omega)
def f_pfr (w : Int → Int) (r p : Int) : Int := if f_R w r 1 - p < 2 then -1 else f_free w
def f_ptl (w : Int → Int) (r p s : Int) : Int → Int := f_loop (fun q x => f_cpy x s (q - p) r q) p (f_R w r 1) (f_beg w s (f_R w r 1 - p) (f_R w r 2) (f_R w r 3) (f_R w r 4))
def f_p1 (w : Int → Int) (r p : Int) : Int → Int := if f_pfr w r p = -1 then w else f_clr (f_ptl w r p (f_pfr w r p)) (f_pfr w r p) 0
def f_p2 (w : Int → Int) (r p : Int) : Int → Int := if 0 < p then f_hlv (f_p1 w r p) r (p - 1) else f_p1 w r p
def f_part (w : Int → Int) (r p : Int) : Int → Int := if p < 2 then f_sR (f_sR (f_p2 w r p) r 1 p) r 0 0 else f_sR (f_p2 w r p) r 1 p
def f_lost (x : Int) : Int := if x = -1 then -2 else x
theorem f_pfr_rg {w : Int → Int} {r p : Int} : f_pfr w r p = -1 ∨ (0 ≤ f_pfr w r p ∧ f_pfr w r p < 8) := by
  unfold f_pfr
  split
  · exact Or.inl rfl
  · rcases f_free_rg (w := w) with h | h
    · exact Or.inl h
    · exact Or.inr ⟨h.1, h.2.1⟩
theorem f_iv_ptl {w : Int → Int} {r p s : Int} (hr : 0 ≤ r ∧ r < 8) (hs : 0 ≤ s ∧ s < 8) (hp : 0 ≤ p ∧ p ≤ f_R w r 1) (hw : f_iv w) : f_iv (f_ptl w r p s) := by
  have h := hw.1 r hr.1 hr.2
  refine f_loop_inv (P := f_iv) (f_iv_beg hs (by omega) hw) (fun q x h1 h2 hx => ?_)
  exact f_iv_cpy hs (by omega) hr (by omega) hx
theorem f_iv_p1 {w : Int → Int} {r p : Int} (hr : 0 ≤ r ∧ r < 8) (hp : 0 ≤ p ∧ p ≤ f_R w r 1) (hw : f_iv w) : f_iv (f_p1 w r p) := by
  unfold f_p1
  split
  · exact hw
  · rcases f_pfr_rg (w := w) (r := r) (p := p) with h | h
    · contradiction
    · exact f_iv_clr h (by omega) (f_iv_ptl hr h hp hw)
theorem f_iv_p2 {w : Int → Int} {r p : Int} (hr : 0 ≤ r ∧ r < 8) (hp : 0 ≤ p ∧ p < f_R w r 1) (hw : f_iv w) : f_iv (f_p2 w r p) := by
  have h := hw.1 r hr.1 hr.2
  unfold f_p2
  split
  · exact f_iv_hlv hr (by omega) (f_iv_p1 hr (by omega) hw)
  · exact f_iv_p1 hr (by omega) hw
theorem f_iv_part {w : Int → Int} {r p : Int} (hr : 0 ≤ r ∧ r < 8) (hp : 0 ≤ p ∧ p < f_R w r 1) (hw : f_iv w) : f_iv (f_part w r p) := by
  have h := hw.1 r hr.1 hr.2
  have h1 : f_iv (f_sR (f_p2 w r p) r 1 p) := f_iv_sR ⟨hr.1, hr.2, by omega, by omega⟩ (by omega) (by omega) (f_iv_p2 hr hp hw)
  unfold f_part
  split
  · exact f_iv_sR ⟨hr.1, hr.2, by omega, by omega⟩ (by omega) (by omega) h1
  · exact h1
def f_snb (w : Int → Int) (a p b q k : Int) : Int := if f_P w a p (1 + k) = 0 then f_P w b q (7 + k) else if f_P w b q (1 + k) = 0 then f_P w a p (7 + k) else min (f_P w a p (7 + k)) (f_P w b q (7 + k))
def f_spS (a n b k : Int) (w : Int → Int) : Int → Int := f_hab (f_hab w a (n - 1) k (max (f_P w a (n - 1) (1 + k)) (f_P w b 0 (1 + k))) (f_snb w a (n - 1) b 0 k)) b 0 k (max (f_P w a (n - 1) (1 + k)) (f_P w b 0 (1 + k))) (f_snb w a (n - 1) b 0 k)
def f_sp1 (w : Int → Int) (a n b : Int) : Int → Int := f_loop (f_spS a n b) 0 6 (f_note w a n b 4 (-1))
def f_sp2 (w : Int → Int) (a n b : Int) : Int → Int := f_loop (fun q x => f_cpy x a (n + q) b q) 0 (f_R w b 1) (f_sp1 w a n b)
def f_sp3 (w : Int → Int) (a n b : Int) : Int → Int := f_sR (f_sp2 w a n b) a 1 (n + f_R (f_sp2 w a n b) b 1)
def f_sp4 (w : Int → Int) (a n b : Int) : Int → Int := f_sR (f_sp3 w a n b) a 4 (max (f_R (f_sp3 w a n b) a 4) (f_R (f_sp3 w a n b) b 4))
def f_splice (w : Int → Int) (a b : Int) : Int → Int := f_sR (f_sp4 w a (f_R w a 1) b) b 0 0
theorem f_iv_spS {w : Int → Int} {a n b k : Int} (ha : 0 ≤ a ∧ a < 8) (hb : 0 ≤ b ∧ b < 8) (hn : 1 ≤ n ∧ n ≤ 24) (hk : 0 ≤ k ∧ k < 6) (hw : f_iv w) : f_iv (f_spS a n b k w) := by
  have h1 := f_rgH (p := n - 1) hw.2.1 ha (by omega) hk
  have h2 := f_rgH (p := 0) hw.2.1 hb (by omega) hk
  have h3 := f_rgS (p := n - 1) hw.2.1 ha (by omega) hk
  have h4 := f_rgS (p := 0) hw.2.1 hb (by omega) hk
  have h5 : 0 ≤ f_snb w a (n - 1) b 0 k ∧ f_snb w a (n - 1) b 0 k ≤ 9999 := by
    unfold f_snb
    repeat' split
    all_goals omega
  exact f_iv_hab ⟨hb.1, hb.2, by omega, by omega, hk.1, hk.2⟩ (by omega) (Or.inr h5) (f_iv_hab ⟨ha.1, ha.2, by omega, by omega, hk.1, hk.2⟩ (by omega) (Or.inr h5) hw)
theorem f_R_note {w : Int → Int} {r p what how hand r' f' : Int} (h : 0 ≤ w 1) (h' : 0 ≤ r' ∧ r' < 8 ∧ 0 ≤ f' ∧ f' < 8) : f_R (f_note w r p what how hand) r' f' = f_R w r' f' := by
  unfold f_R
  exact f_note_at (by omega) (by omega)
theorem f_P_note {w : Int → Int} {r p what how hand r' p' f' : Int} (h : 0 ≤ w 1) (h' : 0 ≤ r' ∧ r' < 8 ∧ 0 ≤ p' ∧ p' < 24 ∧ 0 ≤ f' ∧ f' < 13) : f_P (f_note w r p what how hand) r' p' f' = f_P w r' p' f' := by
  unfold f_P
  exact f_note_at (by omega) (by omega)
theorem f_R_spS {w : Int → Int} {a n b k r' f' : Int} (ha : 0 ≤ a ∧ a < 8) (hb : 0 ≤ b ∧ b < 8) (hn : 1 ≤ n ∧ n ≤ 24) (hk : 0 ≤ k ∧ k < 6) (h' : 0 ≤ r' ∧ r' < 8 ∧ 0 ≤ f' ∧ f' < 8) : f_R (f_spS a n b k w) r' f' = f_R w r' f' := by
  unfold f_spS
  rw [f_R_hab ⟨hb.1, hb.2, by omega, by omega, hk.1, hk.2⟩ h', f_R_hab ⟨ha.1, ha.2, by omega, by omega, hk.1, hk.2⟩ h']
theorem f_iv_sp1 {w : Int → Int} {a n b : Int} (ha : 0 ≤ a ∧ a < 8) (hb : 0 ≤ b ∧ b < 8) (hn : 1 ≤ n ∧ n ≤ 24) (hw : f_iv w) : f_iv (f_sp1 w a n b) ∧ ∀ r' f', 0 ≤ r' ∧ r' < 8 ∧ 0 ≤ f' ∧ f' < 8 → f_R (f_sp1 w a n b) r' f' = f_R w r' f' := by
  refine f_loop_inv (P := fun x => f_iv x ∧ ∀ r' f', 0 ≤ r' ∧ r' < 8 ∧ 0 ≤ f' ∧ f' < 8 → f_R x r' f' = f_R w r' f') ⟨f_iv_note hw, fun r' f' h' => f_R_note hw.2.2.2.1.1 h'⟩ (fun k x h1 h2 hx => ?_)
  exact ⟨f_iv_spS ha hb hn ⟨h1, h2⟩ hx.1, fun r' f' h' => (f_R_spS ha hb hn ⟨h1, h2⟩ h').trans (hx.2 r' f' h')⟩
theorem f_iv_sp2 {w : Int → Int} {a n b : Int} (ha : 0 ≤ a ∧ a < 8) (hb : 0 ≤ b ∧ b < 8) (hn : 1 ≤ n ∧ n + f_R w b 1 ≤ 24) (hw : f_iv w) : f_iv (f_sp2 w a n b) ∧ ∀ r' f', 0 ≤ r' ∧ r' < 8 ∧ 0 ≤ f' ∧ f' < 8 → f_R (f_sp2 w a n b) r' f' = f_R w r' f' := by
  have hb1 := hw.1 b hb.1 hb.2
  refine f_loop_inv (P := fun x => f_iv x ∧ ∀ r' f', 0 ≤ r' ∧ r' < 8 ∧ 0 ≤ f' ∧ f' < 8 → f_R x r' f' = f_R w r' f') (f_iv_sp1 ha hb (by omega) hw) (fun q x h1 h2 hx => ?_)
  exact ⟨f_iv_cpy ha (by omega) hb (by omega) hx.1, fun r' f' h' => (f_R_cpy ha (by omega) h').trans (hx.2 r' f' h')⟩
theorem f_iv_splice {w : Int → Int} {a b : Int} (ha : 0 ≤ a ∧ a < 8) (hb : 0 ≤ b ∧ b < 8) (hn : 1 ≤ f_R w a 1 ∧ f_R w a 1 + f_R w b 1 ≤ 24) (hw : f_iv w) : f_iv (f_splice w a b) := by
  have hb1 := hw.1 b hb.1 hb.2
  obtain ⟨h1, h2⟩ := f_iv_sp2 ha hb hn hw
  have h3 := h2 b 1 (by omega)
  have h4 : f_iv (f_sp3 w a (f_R w a 1) b) := f_iv_sR ⟨ha.1, ha.2, by omega, by omega⟩ (by omega) (by omega) h1
  have h5 : f_iv (f_sp4 w a (f_R w a 1) b) := f_iv_sR ⟨ha.1, ha.2, by omega, by omega⟩ (by omega) (by omega) h4
  exact f_iv_sR ⟨hb.1, hb.2, by omega, by omega⟩ (by omega) (by omega) h5
set_option maxRecDepth 20000 in
theorem s_X12_wet_no (E : ax_Env) (l : Launch) (d : Nat) (hd : 4 ≤ d) (M : ax_Mem) (r v : Int) {w : Int → Int} (hw : M 331 = w) (hg0 : f_iv w) (hg1 : ¬ (f_isR w r ∧ 0 ≤ v ∧ v ≤ 9)) : ax_G E l d iX12_wet [.inr 330, .inl r, .inl v] M (fun z0 M2 => z0 = some (.inl 0) ∧ M = M2) := by
  obtain ⟨d, rfl⟩ : ∃ d0, d = d0 + 1 := ⟨d - 1, by omega⟩
  refine ax_start rfl (Nat.le_of_ble_eq_true rfl) (ls := [some (.inr 330), some (.inl r), some (.inl v)]) rfl (fun hav hcm => ?_)
  have hc1 : -2147483648 ≤ r ∧ r < 2147483648 := hav (.inl r) (by simp)
  have hc2 : -2147483648 ≤ v ∧ v < 2147483648 := hav (.inl v) (by simp)
  clear hav
  refine ax_aload_n dX12_wet_0 rfl rfl (pc' := 1) rfl ?_
  refine ax_iload_n dX12_wet_1 rfl rfl (pc' := 2) rfl ?_
  refine ax_invG [.inl r] [] dX12_wet_2 mlX12_82 sh_330 rfl rfl rfl (Nat.le_of_ble_eq_true rfl) (s_X12_isRope E l _ (by omega) _ r hw) (pc' := 5) rfl (fun vv M_2 hq co2 hcm2 => ?_)
  obtain ⟨rfl, rfl⟩ := hq
  refine ax_reS (st2 := [.inl (f_b (f_isR w r))]) rfl ?_
  refine ax_if_eq (tgt := 18) dX12_wet_5 (by decide) (pc' := 8) rfl (fun h5 => ?_) (fun h5 => ?_)
  · replace h5 := f_b_0 h5
    refine ax_iconst dX12_wet_18 (by decide) (pc' := 19) rfl ?_
    refine ax_zret dX12_wet_19 rfl (by decide) ?_
    refine ⟨rfl, ?_, ?_⟩
    · rfl
    · rfl
  · replace h5 := f_b_1 h5
    refine ax_iload_n dX12_wet_8 rfl rfl (pc' := 9) rfl ?_
    refine ax_iconst dX12_wet_9 (by decide) (pc' := 10) rfl ?_
    refine ax_bipush dX12_wet_10 (by decide) (pc' := 12) rfl ?_
    refine ax_insG [.inl v, .inl 0, .inl 9] [] dX12_wet_12 mlX12_74 rfl rfl (Nat.le_of_ble_eq_true rfl) (s_X12_isIn E l _ (by omega) _ v 0 9) (pc' := 15) rfl (fun vv M_12 hq co12 hcm12 => ?_)
    obtain ⟨rfl, rfl⟩ := hq
    refine ax_reS (st2 := [.inl (f_b (0 ≤ v ∧ v ≤ 9))]) rfl ?_
    refine ax_if_ne (tgt := 20) dX12_wet_15 (by decide) (pc' := 18) rfl (fun h15 => ?_) (fun h15 => ?_)
    · replace h15 := f_b_1 h15
      exfalso
      omega
    · replace h15 := f_b_0 h15
      refine ax_iconst dX12_wet_18 (by decide) (pc' := 19) rfl ?_
      refine ax_zret dX12_wet_19 rfl (by decide) ?_
      refine ⟨rfl, ?_, ?_⟩
      · rfl
      · rfl
set_option maxRecDepth 20000 in
theorem s_X12_wet_ok (E : ax_Env) (l : Launch) (d : Nat) (hd : 4 ≤ d) (M : ax_Mem) (r v : Int) {w : Int → Int} (hw : M 331 = w) {b : Int → Int} (hb : M 333 = b) {m : Int} (hm : M 330 4 = m) (hg0 : f_iv w) (hg1 : 0 ≤ m ∧ m ≤ 5) (hg2 : f_isR w r ∧ 0 ≤ v ∧ v ≤ 9) : ax_G E l d iX12_wet [.inr 330, .inl r, .inl v] M (fun z0 M2 => z0 = some (.inl 1) ∧ (∀ x0 i0 : Int, ¬ (x0 = 331 ∨ x0 = 333 ∨ (x0 = 330 ∧ i0 = 4)) → M2 x0 i0 = M x0 i0) ∧ M2 331 = f_wets w r v ∧ M2 333 = f_keep b w m ∧ M2 330 4 = f_keepN m) := by
  obtain ⟨d, rfl⟩ : ∃ d0, d = d0 + 1 := ⟨d - 1, by omega⟩
  refine ax_start rfl (Nat.le_of_ble_eq_true rfl) (ls := [some (.inr 330), some (.inl r), some (.inl v)]) rfl (fun hav hcm => ?_)
  have hc1 : -2147483648 ≤ r ∧ r < 2147483648 := hav (.inl r) (by simp)
  have hc2 : -2147483648 ≤ v ∧ v < 2147483648 := hav (.inl v) (by simp)
  clear hav
  refine ax_aload_n dX12_wet_0 rfl rfl (pc' := 1) rfl ?_
  refine ax_iload_n dX12_wet_1 rfl rfl (pc' := 2) rfl ?_
  refine ax_invG [.inl r] [] dX12_wet_2 mlX12_82 sh_330 rfl rfl rfl (Nat.le_of_ble_eq_true rfl) (s_X12_isRope E l _ (by omega) _ r hw) (pc' := 5) rfl (fun vv M_2 hq co2 hcm2 => ?_)
  obtain ⟨rfl, rfl⟩ := hq
  refine ax_reS (st2 := [.inl (f_b (f_isR w r))]) rfl ?_
  refine ax_if_eq (tgt := 18) dX12_wet_5 (by decide) (pc' := 8) rfl (fun h5 => ?_) (fun h5 => ?_)
  · replace h5 := f_b_0 h5
    exfalso
    omega
  · replace h5 := f_b_1 h5
    refine ax_iload_n dX12_wet_8 rfl rfl (pc' := 9) rfl ?_
    refine ax_iconst dX12_wet_9 (by decide) (pc' := 10) rfl ?_
    refine ax_bipush dX12_wet_10 (by decide) (pc' := 12) rfl ?_
    refine ax_insG [.inl v, .inl 0, .inl 9] [] dX12_wet_12 mlX12_74 rfl rfl (Nat.le_of_ble_eq_true rfl) (s_X12_isIn E l _ (by omega) _ v 0 9) (pc' := 15) rfl (fun vv M_12 hq co12 hcm12 => ?_)
    obtain ⟨rfl, rfl⟩ := hq
    refine ax_reS (st2 := [.inl (f_b (0 ≤ v ∧ v ≤ 9))]) rfl ?_
    refine ax_if_ne (tgt := 20) dX12_wet_15 (by decide) (pc' := 18) rfl (fun h15 => ?_) (fun h15 => ?_)
    · replace h15 := f_b_1 h15
      refine ax_aload_n dX12_wet_20 rfl rfl (pc' := 21) rfl ?_
      refine ax_invG [] [] dX12_wet_21 mlX12_379 sh_330 rfl rfl rfl (Nat.le_of_ble_eq_true rfl) (s_X12_keeps E l _ (by omega) _ hw hb hm (by first | omega | assumption)) (pc' := 24) rfl (fun vv M_21 hq co21 hcm21 => ?_)
      obtain ⟨rfl, frM_21, mrM_21_0, msM_21_0⟩ := hq
      refine ax_reS (st2 := []) rfl ?_
      refine ax_aload_n dX12_wet_24 rfl rfl (pc' := 25) rfl ?_
      refine ax_iload_n dX12_wet_25 rfl rfl (pc' := 26) rfl ?_
      refine ax_iload_n dX12_wet_26 rfl rfl (pc' := 27) rfl ?_
      refine ax_invG [.inl r, .inl v] [] dX12_wet_27 mlX12_387 sh_330 rfl rfl rfl (Nat.le_of_ble_eq_true rfl) (s_X12_wets E l _ (by omega) _ r v ((funext fun i0 => frM_21 331 i0 (by omega)).trans hw) (by first | omega | assumption) (by first | omega | assumption)) (pc' := 30) rfl (fun vv M_27 hq co27 hcm27 => ?_)
      obtain ⟨rfl, frM_27, mrM_27_0⟩ := hq
      refine ax_reS (st2 := []) rfl ?_
      refine ax_iconst dX12_wet_30 (by decide) (pc' := 31) rfl ?_
      refine ax_zret dX12_wet_31 rfl (by decide) ?_
      refine ⟨rfl, ?_, ?_, ?_, ?_, ?_⟩
      · rfl
      · intro x0 i0 hai
        exact ((frM_27 x0 i0 (by omega)).trans ((frM_21 x0 i0 (by omega)).trans rfl))
      · exact mrM_27_0
      · exact ((funext fun i0 => frM_27 333 i0 (by omega)).trans mrM_21_0)
      · exact ((frM_27 330 4 (by omega)).trans msM_21_0)
    · replace h15 := f_b_0 h15
      exfalso
      omega
set_option maxRecDepth 20000 in
theorem s_X12_parts (E : ax_Env) (l : Launch) (d : Nat) (hd : 3 ≤ d) (M : ax_Mem) (r p : Int) {w : Int → Int} (hw : M 331 = w) (hg0 : 0 ≤ r ∧ r < 8) (hg1 : f_iv w) (hg2 : 0 ≤ p ∧ p < f_R w r 1) : ax_G E l d iX12_parts [.inr 330, .inl r, .inl p] M (fun z0 M2 => z0 = some (.inl (f_lost (f_pfr w r p))) ∧ (∀ x0 i0 : Int, ¬ (x0 = 331) → M2 x0 i0 = M x0 i0) ∧ M2 331 = f_part w r p) := by
  obtain ⟨d, rfl⟩ : ∃ d0, d = d0 + 1 := ⟨d - 1, by omega⟩
  refine ax_start rfl (Nat.le_of_ble_eq_true rfl) (ls := [some (.inr 330), some (.inl r), some (.inl p), none, none, none]) rfl (fun hav hcm => ?_)
  have hc1 : -2147483648 ≤ r ∧ r < 2147483648 := hav (.inl r) (by simp)
  have hc2 : -2147483648 ≤ p ∧ p < 2147483648 := hav (.inl p) (by simp)
  clear hav
  have qa1 := hg1.1 r (by omega) (by omega)
  have qa2 := f_free_rg (w := w)
  have qa3 := f_iv_p1 hg0 (by omega : 0 ≤ p ∧ p ≤ f_R w r 1) hg1
  refine ax_aload_n dX12_parts_0 rfl rfl (pc' := 1) rfl ?_
  refine ax_iload_n dX12_parts_1 rfl rfl (pc' := 2) rfl ?_
  refine ax_iconst dX12_parts_2 (by decide) (pc' := 3) rfl ?_
  refine ax_invG [.inl r, .inl 1] [] dX12_parts_3 mlX12_78 sh_330 rfl rfl rfl (Nat.le_of_ble_eq_true rfl) (s_X12_ofRope E l _ (by omega) _ r 1 hw (by first | omega | assumption) (by first | omega | assumption)) (pc' := 6) rfl (fun vv M_3 hq co3 hcm3 => ?_)
  obtain ⟨rfl, rfl⟩ := hq
  refine ax_reS (st2 := [.inl (f_R w r 1)]) rfl ?_
  have cc3 : -2147483648 ≤ f_R w r 1 ∧ f_R w r 1 < 2147483648 := co3 _ rfl
  refine ax_istore_n dX12_parts_6 rfl (by decide) (ls' := [some (.inr 330), some (.inl r), some (.inl p), some (.inl (f_R w r 1)), none, none]) rfl (pc' := 7) rfl ?_
  refine ax_iload_n dX12_parts_7 rfl rfl (pc' := 8) rfl ?_
  refine ax_iload_n dX12_parts_8 rfl rfl (pc' := 9) rfl ?_
  refine ax_isub dX12_parts_9 (by omega) (pc' := 10) rfl ?_
  refine ax_iconst dX12_parts_10 (by decide) (pc' := 11) rfl ?_
  refine ax_icmp_ge (tgt := 18) dX12_parts_11 (by decide) (pc' := 14) rfl (fun h11 => ?_) (fun h11 => ?_)
  · have qb1 : f_pfr w r p = f_free w := if_neg (by omega)
    refine ax_aload_n dX12_parts_18 rfl rfl (pc' := 19) rfl ?_
    refine ax_invG [] [] dX12_parts_19 mlX12_110 sh_330 rfl rfl rfl (Nat.le_of_ble_eq_true rfl) (s_X12_freeRope E l _ (by omega) _ hw) (pc' := 22) rfl (fun vv M_19 hq co19 hcm19 => ?_)
    obtain ⟨rfl, rfl⟩ := hq
    refine ax_reS (st2 := [.inl (f_free w)]) rfl ?_
    have cc19 : -2147483648 ≤ f_free w ∧ f_free w < 2147483648 := co19 _ rfl
    refine ax_istore dX12_parts_22 (by decide) (ls' := [some (.inr 330), some (.inl r), some (.inl p), some (.inl (f_R w r 1)), some (.inl (f_free w)), none]) rfl (pc' := 24) rfl ?_
    refine ax_iload dX12_parts_24 rfl (pc' := 26) rfl ?_
    refine ax_iconst dX12_parts_26 (by decide) (pc' := 27) rfl ?_
    refine ax_icmp_eq (tgt := 92) dX12_parts_27 (by decide) (pc' := 30) rfl (fun h27 => ?_) (fun h27 => ?_)
    · have qb2 : f_p1 w r p = w := if_pos (by omega)
      refine ax_iload_n dX12_parts_92 rfl rfl (pc' := 93) rfl ?_
      refine ax_if_le (tgt := 104) dX12_parts_93 (by decide) (pc' := 96) rfl (fun h93 => ?_) (fun h93 => ?_)
      · refine ax_aload_n dX12_parts_104 rfl rfl (pc' := 105) rfl ?_
        refine ax_iload_n dX12_parts_105 rfl rfl (pc' := 106) rfl ?_
        refine ax_iconst dX12_parts_106 (by decide) (pc' := 107) rfl ?_
        refine ax_iload_n dX12_parts_107 rfl rfl (pc' := 108) rfl ?_
        refine ax_invG [.inl r, .inl 1, .inl p] [] dX12_parts_108 mlX12_98 sh_330 rfl rfl rfl (Nat.le_of_ble_eq_true rfl) (s_X12_ropes E l _ (by omega) _ r 1 p hw (by first | omega | assumption) (by first | omega | assumption)) (pc' := 111) rfl (fun vv M_108 hq co108 hcm108 => ?_)
        obtain ⟨rfl, frM_108, mrM_108_0⟩ := hq
        refine ax_reS (st2 := []) rfl ?_
        refine ax_iload_n dX12_parts_111 rfl rfl (pc' := 112) rfl ?_
        refine ax_iconst dX12_parts_112 (by decide) (pc' := 113) rfl ?_
        refine ax_icmp_ge (tgt := 123) dX12_parts_113 (by decide) (pc' := 116) rfl (fun h113 => ?_) (fun h113 => ?_)
        · refine ax_iload dX12_parts_123 rfl (pc' := 125) rfl ?_
          refine ax_iconst dX12_parts_125 (by decide) (pc' := 126) rfl ?_
          refine ax_icmp_ne (tgt := 134) dX12_parts_126 (by decide) (pc' := 129) rfl (fun h126 => ?_) (fun h126 => ?_)
          · refine ax_iload dX12_parts_134 rfl (pc' := 136) rfl ?_
            refine ax_iret dX12_parts_136 rfl ?_
            refine ⟨rfl, ?_, ?_, ?_⟩
            · refine congrArg (fun z => some (Sum.inl z)) ?_
              rw [qb1]
              unfold f_lost
              first | (exfalso; omega) | rw [if_pos (by omega)] | rw [if_neg (by omega)]
            · intro x0 i0 hai
              exact ((frM_108 x0 i0 (by omega)).trans rfl)
            · refine Eq.trans mrM_108_0 ?_
              unfold f_part f_p2
              first
                | (exfalso; omega)
                | (rw [if_pos (by omega), if_pos (by omega)]; first | rw [qb2] | rw [qb3])
                | (rw [if_pos (by omega), if_neg (by omega)]; first | rw [qb2] | rw [qb3])
                | (rw [if_neg (by omega), if_pos (by omega)]; first | rw [qb2] | rw [qb3])
                | (rw [if_neg (by omega), if_neg (by omega)]; first | rw [qb2] | rw [qb3])
          · refine ax_bipush dX12_parts_129 (by decide) (pc' := 131) rfl ?_
            refine ax_goto dX12_parts_131 (pc' := 136) (by decide) ?_
            refine ax_iret dX12_parts_136 rfl ?_
            refine ⟨rfl, ?_, ?_, ?_⟩
            · refine congrArg (fun z => some (Sum.inl z)) ?_
              rw [qb1]
              unfold f_lost
              first | (exfalso; omega) | rw [if_pos (by omega)] | rw [if_neg (by omega)]
            · intro x0 i0 hai
              exact ((frM_108 x0 i0 (by omega)).trans rfl)
            · refine Eq.trans mrM_108_0 ?_
              unfold f_part f_p2
              first
                | (exfalso; omega)
                | (rw [if_pos (by omega), if_pos (by omega)]; first | rw [qb2] | rw [qb3])
                | (rw [if_pos (by omega), if_neg (by omega)]; first | rw [qb2] | rw [qb3])
                | (rw [if_neg (by omega), if_pos (by omega)]; first | rw [qb2] | rw [qb3])
                | (rw [if_neg (by omega), if_neg (by omega)]; first | rw [qb2] | rw [qb3])
        · refine ax_aload_n dX12_parts_116 rfl rfl (pc' := 117) rfl ?_
          refine ax_iload_n dX12_parts_117 rfl rfl (pc' := 118) rfl ?_
          refine ax_iconst dX12_parts_118 (by decide) (pc' := 119) rfl ?_
          refine ax_iconst dX12_parts_119 (by decide) (pc' := 120) rfl ?_
          refine ax_invG [.inl r, .inl 0, .inl 0] [] dX12_parts_120 mlX12_98 sh_330 rfl rfl rfl (Nat.le_of_ble_eq_true rfl) (s_X12_ropes E l _ (by omega) _ r 0 0 mrM_108_0 (by first | omega | assumption) (by first | omega | assumption)) (pc' := 123) rfl (fun vv M_120 hq co120 hcm120 => ?_)
          obtain ⟨rfl, frM_120, mrM_120_0⟩ := hq
          refine ax_reS (st2 := []) rfl ?_
          refine ax_iload dX12_parts_123 rfl (pc' := 125) rfl ?_
          refine ax_iconst dX12_parts_125 (by decide) (pc' := 126) rfl ?_
          refine ax_icmp_ne (tgt := 134) dX12_parts_126 (by decide) (pc' := 129) rfl (fun h126 => ?_) (fun h126 => ?_)
          · refine ax_iload dX12_parts_134 rfl (pc' := 136) rfl ?_
            refine ax_iret dX12_parts_136 rfl ?_
            refine ⟨rfl, ?_, ?_, ?_⟩
            · refine congrArg (fun z => some (Sum.inl z)) ?_
              rw [qb1]
              unfold f_lost
              first | (exfalso; omega) | rw [if_pos (by omega)] | rw [if_neg (by omega)]
            · intro x0 i0 hai
              exact ((frM_120 x0 i0 (by omega)).trans ((frM_108 x0 i0 (by omega)).trans rfl))
            · refine Eq.trans mrM_120_0 ?_
              unfold f_part f_p2
              first
                | (exfalso; omega)
                | (rw [if_pos (by omega), if_pos (by omega)]; first | rw [qb2] | rw [qb3])
                | (rw [if_pos (by omega), if_neg (by omega)]; first | rw [qb2] | rw [qb3])
                | (rw [if_neg (by omega), if_pos (by omega)]; first | rw [qb2] | rw [qb3])
                | (rw [if_neg (by omega), if_neg (by omega)]; first | rw [qb2] | rw [qb3])
          · refine ax_bipush dX12_parts_129 (by decide) (pc' := 131) rfl ?_
            refine ax_goto dX12_parts_131 (pc' := 136) (by decide) ?_
            refine ax_iret dX12_parts_136 rfl ?_
            refine ⟨rfl, ?_, ?_, ?_⟩
            · refine congrArg (fun z => some (Sum.inl z)) ?_
              rw [qb1]
              unfold f_lost
              first | (exfalso; omega) | rw [if_pos (by omega)] | rw [if_neg (by omega)]
            · intro x0 i0 hai
              exact ((frM_120 x0 i0 (by omega)).trans ((frM_108 x0 i0 (by omega)).trans rfl))
            · refine Eq.trans mrM_120_0 ?_
              unfold f_part f_p2
              first
                | (exfalso; omega)
                | (rw [if_pos (by omega), if_pos (by omega)]; first | rw [qb2] | rw [qb3])
                | (rw [if_pos (by omega), if_neg (by omega)]; first | rw [qb2] | rw [qb3])
                | (rw [if_neg (by omega), if_pos (by omega)]; first | rw [qb2] | rw [qb3])
                | (rw [if_neg (by omega), if_neg (by omega)]; first | rw [qb2] | rw [qb3])
      · refine ax_aload_n dX12_parts_96 rfl rfl (pc' := 97) rfl ?_
        refine ax_iload_n dX12_parts_97 rfl rfl (pc' := 98) rfl ?_
        refine ax_iload_n dX12_parts_98 rfl rfl (pc' := 99) rfl ?_
        refine ax_iconst dX12_parts_99 (by decide) (pc' := 100) rfl ?_
        refine ax_isub dX12_parts_100 (by omega) (pc' := 101) rfl ?_
        refine ax_invG [.inl r, .inl (p - 1)] [] dX12_parts_101 mlX12_396 sh_330 rfl rfl rfl (Nat.le_of_ble_eq_true rfl) (s_X12_halves E l _ (by omega) _ r (p - 1) hw (by first | omega | assumption | (rw [← qb2]; exact qa3)) (by first | omega | assumption | (rw [← qb2]; exact qa3)) (by first | omega | assumption | (rw [← qb2]; exact qa3))) (pc' := 104) rfl (fun vv M_101 hq co101 hcm101 => ?_)
        obtain ⟨rfl, frM_101, mrM_101_0⟩ := hq
        refine ax_reS (st2 := []) rfl ?_
        refine ax_aload_n dX12_parts_104 rfl rfl (pc' := 105) rfl ?_
        refine ax_iload_n dX12_parts_105 rfl rfl (pc' := 106) rfl ?_
        refine ax_iconst dX12_parts_106 (by decide) (pc' := 107) rfl ?_
        refine ax_iload_n dX12_parts_107 rfl rfl (pc' := 108) rfl ?_
        refine ax_invG [.inl r, .inl 1, .inl p] [] dX12_parts_108 mlX12_98 sh_330 rfl rfl rfl (Nat.le_of_ble_eq_true rfl) (s_X12_ropes E l _ (by omega) _ r 1 p mrM_101_0 (by first | omega | assumption) (by first | omega | assumption)) (pc' := 111) rfl (fun vv M_108 hq co108 hcm108 => ?_)
        obtain ⟨rfl, frM_108, mrM_108_0⟩ := hq
        refine ax_reS (st2 := []) rfl ?_
        refine ax_iload_n dX12_parts_111 rfl rfl (pc' := 112) rfl ?_
        refine ax_iconst dX12_parts_112 (by decide) (pc' := 113) rfl ?_
        refine ax_icmp_ge (tgt := 123) dX12_parts_113 (by decide) (pc' := 116) rfl (fun h113 => ?_) (fun h113 => ?_)
        · refine ax_iload dX12_parts_123 rfl (pc' := 125) rfl ?_
          refine ax_iconst dX12_parts_125 (by decide) (pc' := 126) rfl ?_
          refine ax_icmp_ne (tgt := 134) dX12_parts_126 (by decide) (pc' := 129) rfl (fun h126 => ?_) (fun h126 => ?_)
          · refine ax_iload dX12_parts_134 rfl (pc' := 136) rfl ?_
            refine ax_iret dX12_parts_136 rfl ?_
            refine ⟨rfl, ?_, ?_, ?_⟩
            · refine congrArg (fun z => some (Sum.inl z)) ?_
              rw [qb1]
              unfold f_lost
              first | (exfalso; omega) | rw [if_pos (by omega)] | rw [if_neg (by omega)]
            · intro x0 i0 hai
              exact ((frM_108 x0 i0 (by omega)).trans ((frM_101 x0 i0 (by omega)).trans rfl))
            · refine Eq.trans mrM_108_0 ?_
              unfold f_part f_p2
              first
                | (exfalso; omega)
                | (rw [if_pos (by omega), if_pos (by omega)]; first | rw [qb2] | rw [qb3])
                | (rw [if_pos (by omega), if_neg (by omega)]; first | rw [qb2] | rw [qb3])
                | (rw [if_neg (by omega), if_pos (by omega)]; first | rw [qb2] | rw [qb3])
                | (rw [if_neg (by omega), if_neg (by omega)]; first | rw [qb2] | rw [qb3])
          · refine ax_bipush dX12_parts_129 (by decide) (pc' := 131) rfl ?_
            refine ax_goto dX12_parts_131 (pc' := 136) (by decide) ?_
            refine ax_iret dX12_parts_136 rfl ?_
            refine ⟨rfl, ?_, ?_, ?_⟩
            · refine congrArg (fun z => some (Sum.inl z)) ?_
              rw [qb1]
              unfold f_lost
              first | (exfalso; omega) | rw [if_pos (by omega)] | rw [if_neg (by omega)]
            · intro x0 i0 hai
              exact ((frM_108 x0 i0 (by omega)).trans ((frM_101 x0 i0 (by omega)).trans rfl))
            · refine Eq.trans mrM_108_0 ?_
              unfold f_part f_p2
              first
                | (exfalso; omega)
                | (rw [if_pos (by omega), if_pos (by omega)]; first | rw [qb2] | rw [qb3])
                | (rw [if_pos (by omega), if_neg (by omega)]; first | rw [qb2] | rw [qb3])
                | (rw [if_neg (by omega), if_pos (by omega)]; first | rw [qb2] | rw [qb3])
                | (rw [if_neg (by omega), if_neg (by omega)]; first | rw [qb2] | rw [qb3])
        · refine ax_aload_n dX12_parts_116 rfl rfl (pc' := 117) rfl ?_
          refine ax_iload_n dX12_parts_117 rfl rfl (pc' := 118) rfl ?_
          refine ax_iconst dX12_parts_118 (by decide) (pc' := 119) rfl ?_
          refine ax_iconst dX12_parts_119 (by decide) (pc' := 120) rfl ?_
          refine ax_invG [.inl r, .inl 0, .inl 0] [] dX12_parts_120 mlX12_98 sh_330 rfl rfl rfl (Nat.le_of_ble_eq_true rfl) (s_X12_ropes E l _ (by omega) _ r 0 0 mrM_108_0 (by first | omega | assumption) (by first | omega | assumption)) (pc' := 123) rfl (fun vv M_120 hq co120 hcm120 => ?_)
          obtain ⟨rfl, frM_120, mrM_120_0⟩ := hq
          refine ax_reS (st2 := []) rfl ?_
          refine ax_iload dX12_parts_123 rfl (pc' := 125) rfl ?_
          refine ax_iconst dX12_parts_125 (by decide) (pc' := 126) rfl ?_
          refine ax_icmp_ne (tgt := 134) dX12_parts_126 (by decide) (pc' := 129) rfl (fun h126 => ?_) (fun h126 => ?_)
          · refine ax_iload dX12_parts_134 rfl (pc' := 136) rfl ?_
            refine ax_iret dX12_parts_136 rfl ?_
            refine ⟨rfl, ?_, ?_, ?_⟩
            · refine congrArg (fun z => some (Sum.inl z)) ?_
              rw [qb1]
              unfold f_lost
              first | (exfalso; omega) | rw [if_pos (by omega)] | rw [if_neg (by omega)]
            · intro x0 i0 hai
              exact ((frM_120 x0 i0 (by omega)).trans ((frM_108 x0 i0 (by omega)).trans ((frM_101 x0 i0 (by omega)).trans rfl)))
            · refine Eq.trans mrM_120_0 ?_
              unfold f_part f_p2
              first
                | (exfalso; omega)
                | (rw [if_pos (by omega), if_pos (by omega)]; first | rw [qb2] | rw [qb3])
                | (rw [if_pos (by omega), if_neg (by omega)]; first | rw [qb2] | rw [qb3])
                | (rw [if_neg (by omega), if_pos (by omega)]; first | rw [qb2] | rw [qb3])
                | (rw [if_neg (by omega), if_neg (by omega)]; first | rw [qb2] | rw [qb3])
          · refine ax_bipush dX12_parts_129 (by decide) (pc' := 131) rfl ?_
            refine ax_goto dX12_parts_131 (pc' := 136) (by decide) ?_
            refine ax_iret dX12_parts_136 rfl ?_
            refine ⟨rfl, ?_, ?_, ?_⟩
            · refine congrArg (fun z => some (Sum.inl z)) ?_
              rw [qb1]
              unfold f_lost
              first | (exfalso; omega) | rw [if_pos (by omega)] | rw [if_neg (by omega)]
            · intro x0 i0 hai
              exact ((frM_120 x0 i0 (by omega)).trans ((frM_108 x0 i0 (by omega)).trans ((frM_101 x0 i0 (by omega)).trans rfl)))
            · refine Eq.trans mrM_120_0 ?_
              unfold f_part f_p2
              first
                | (exfalso; omega)
                | (rw [if_pos (by omega), if_pos (by omega)]; first | rw [qb2] | rw [qb3])
                | (rw [if_pos (by omega), if_neg (by omega)]; first | rw [qb2] | rw [qb3])
                | (rw [if_neg (by omega), if_pos (by omega)]; first | rw [qb2] | rw [qb3])
                | (rw [if_neg (by omega), if_neg (by omega)]; first | rw [qb2] | rw [qb3])
    · have qb3 : f_p1 w r p = f_clr (f_ptl w r p (f_pfr w r p)) (f_pfr w r p) 0 := if_neg (by omega)
      rw [qb1] at qb3
      have qb4 : f_iv (f_beg w (f_free w) (f_R w r 1 - p) (f_R w r 2) (f_R w r 3) (f_R w r 4)) := f_iv_beg (by omega) (by omega) hg1
      refine ax_aload_n dX12_parts_30 rfl rfl (pc' := 31) rfl ?_
      refine ax_iload dX12_parts_31 rfl (pc' := 33) rfl ?_
      refine ax_iload_n dX12_parts_33 rfl rfl (pc' := 34) rfl ?_
      refine ax_iload_n dX12_parts_34 rfl rfl (pc' := 35) rfl ?_
      refine ax_isub dX12_parts_35 (by omega) (pc' := 36) rfl ?_
      refine ax_aload_n dX12_parts_36 rfl rfl (pc' := 37) rfl ?_
      refine ax_iload_n dX12_parts_37 rfl rfl (pc' := 38) rfl ?_
      refine ax_iconst dX12_parts_38 (by decide) (pc' := 39) rfl ?_
      refine ax_invG [.inl r, .inl 2] [.inl (f_R w r 1 - p), .inl (f_free w), .inr 330] dX12_parts_39 mlX12_78 sh_330 rfl rfl rfl (Nat.le_of_ble_eq_true rfl) (s_X12_ofRope E l _ (by omega) _ r 2 hw (by first | omega | assumption) (by first | omega | assumption)) (pc' := 42) rfl (fun vv M_39 hq co39 hcm39 => ?_)
      obtain ⟨rfl, rfl⟩ := hq
      refine ax_reS (st2 := [.inl (f_R w r 2), .inl (f_R w r 1 - p), .inl (f_free w), .inr 330]) rfl ?_
      have cc39 : -2147483648 ≤ f_R w r 2 ∧ f_R w r 2 < 2147483648 := co39 _ rfl
      refine ax_aload_n dX12_parts_42 rfl rfl (pc' := 43) rfl ?_
      refine ax_iload_n dX12_parts_43 rfl rfl (pc' := 44) rfl ?_
      refine ax_iconst dX12_parts_44 (by decide) (pc' := 45) rfl ?_
      refine ax_invG [.inl r, .inl 3] [.inl (f_R w r 2), .inl (f_R w r 1 - p), .inl (f_free w), .inr 330] dX12_parts_45 mlX12_78 sh_330 rfl rfl rfl (Nat.le_of_ble_eq_true rfl) (s_X12_ofRope E l _ (by omega) _ r 3 hw (by first | omega | assumption) (by first | omega | assumption)) (pc' := 48) rfl (fun vv M_45 hq co45 hcm45 => ?_)
      obtain ⟨rfl, rfl⟩ := hq
      refine ax_reS (st2 := [.inl (f_R w r 3), .inl (f_R w r 2), .inl (f_R w r 1 - p), .inl (f_free w), .inr 330]) rfl ?_
      have cc45 : -2147483648 ≤ f_R w r 3 ∧ f_R w r 3 < 2147483648 := co45 _ rfl
      refine ax_aload_n dX12_parts_48 rfl rfl (pc' := 49) rfl ?_
      refine ax_iload_n dX12_parts_49 rfl rfl (pc' := 50) rfl ?_
      refine ax_iconst dX12_parts_50 (by decide) (pc' := 51) rfl ?_
      refine ax_invG [.inl r, .inl 4] [.inl (f_R w r 3), .inl (f_R w r 2), .inl (f_R w r 1 - p), .inl (f_free w), .inr 330] dX12_parts_51 mlX12_78 sh_330 rfl rfl rfl (Nat.le_of_ble_eq_true rfl) (s_X12_ofRope E l _ (by omega) _ r 4 hw (by first | omega | assumption) (by first | omega | assumption)) (pc' := 54) rfl (fun vv M_51 hq co51 hcm51 => ?_)
      obtain ⟨rfl, rfl⟩ := hq
      refine ax_reS (st2 := [.inl (f_R w r 4), .inl (f_R w r 3), .inl (f_R w r 2), .inl (f_R w r 1 - p), .inl (f_free w), .inr 330]) rfl ?_
      have cc51 : -2147483648 ≤ f_R w r 4 ∧ f_R w r 4 < 2147483648 := co51 _ rfl
      refine ax_invG [.inl (f_free w), .inl (f_R w r 1 - p), .inl (f_R w r 2), .inl (f_R w r 3), .inl (f_R w r 4)] [] dX12_parts_54 mlX12_114 sh_330 rfl rfl rfl (Nat.le_of_ble_eq_true rfl) (s_X12_begins E l _ (by omega) _ (f_free w) (f_R w r 1 - p) (f_R w r 2) (f_R w r 3) (f_R w r 4) hw (by first | omega | assumption)) (pc' := 57) rfl (fun vv M_54 hq co54 hcm54 => ?_)
      obtain ⟨rfl, frM_54, mrM_54_0⟩ := hq
      refine ax_reS (st2 := []) rfl ?_
      refine ax_iload_n dX12_parts_57 rfl rfl (pc' := 58) rfl ?_
      refine ax_istore dX12_parts_58 (by decide) (ls' := [some (.inr 330), some (.inl r), some (.inl p), some (.inl (f_R w r 1)), some (.inl (f_free w)), some (.inl p)]) rfl (pc' := 60) rfl ?_
      have LP1 : ∀ (kq2 : Nat) (q : Int) (wv1 : Int → Int) (M1 : ax_Mem) (hm1 : f_R w r 1 - q < (kq2 : Nat)) (fr1 : ∀ x0 i0 : Int, ¬ (x0 = 331) → M1 x0 i0 = M_54 x0 i0) (mr1_331 : M1 331 = wv1) (iv1_0 : p ≤ q ∧ q ≤ f_R w r 1) (iv1_1 : f_loop (fun q x => f_cpy x (f_free w) (q - p) r q) q (f_R w r 1) wv1 = f_ptl w r p (f_free w)) (iv1_2 : f_iv wv1), ax_W E l (d + 1) 0 0 iX12_parts 60 [some (.inr 330), some (.inl r), some (.inl p), some (.inl (f_R w r 1)), some (.inl (f_free w)), some (.inl q)] [] SH M1 (ax_P (fun z0 M2 => z0 = some (.inl (f_lost (f_pfr w r p))) ∧ (∀ x0 i0 : Int, ¬ (x0 = 331) → M2 x0 i0 = M x0 i0) ∧ M2 331 = f_part w r p)) := by
        intro kq2
        induction kq2 with
        | zero =>
          intro q wv1 M1 hm1 fr1 mr1_331 iv1_0 iv1_1 iv1_2
          exfalso
          omega
        | succ kq2 ih3 =>
          intro q wv1 M1 hm1 fr1 mr1_331 iv1_0 iv1_1 iv1_2
          refine ax_iload dX12_parts_60 rfl (pc' := 62) rfl ?_
          refine ax_iload_n dX12_parts_62 rfl rfl (pc' := 63) rfl ?_
          refine ax_icmp_ge (tgt := 85) dX12_parts_63 (by decide) (pc' := 66) rfl (fun h63 => ?_) (fun h63 => ?_)
          · have qe : wv1 = f_ptl w r p (f_free w) := (f_loop_done (by omega)).symm.trans iv1_1
            rw [qb3, ← qe] at qa3
            rw [← qe] at qb3
            refine ax_aload_n dX12_parts_85 rfl rfl (pc' := 86) rfl ?_
            refine ax_iload dX12_parts_86 rfl (pc' := 88) rfl ?_
            refine ax_iconst dX12_parts_88 (by decide) (pc' := 89) rfl ?_
            refine ax_invG [.inl (f_free w), .inl 0] [] dX12_parts_89 mlX12_393 sh_330 rfl rfl rfl (Nat.le_of_ble_eq_true rfl) (s_X12_clears E l _ (by omega) _ (f_free w) 0 mr1_331 (by first | omega | assumption) (by first | omega | assumption)) (pc' := 92) rfl (fun vv M_89 hq co89 hcm89 => ?_)
            obtain ⟨rfl, frM_89, mrM_89_0⟩ := hq
            refine ax_reS (st2 := []) rfl ?_
            refine ax_iload_n dX12_parts_92 rfl rfl (pc' := 93) rfl ?_
            refine ax_if_le (tgt := 104) dX12_parts_93 (by decide) (pc' := 96) rfl (fun h93 => ?_) (fun h93 => ?_)
            · refine ax_aload_n dX12_parts_104 rfl rfl (pc' := 105) rfl ?_
              refine ax_iload_n dX12_parts_105 rfl rfl (pc' := 106) rfl ?_
              refine ax_iconst dX12_parts_106 (by decide) (pc' := 107) rfl ?_
              refine ax_iload_n dX12_parts_107 rfl rfl (pc' := 108) rfl ?_
              refine ax_invG [.inl r, .inl 1, .inl p] [] dX12_parts_108 mlX12_98 sh_330 rfl rfl rfl (Nat.le_of_ble_eq_true rfl) (s_X12_ropes E l _ (by omega) _ r 1 p mrM_89_0 (by first | omega | assumption) (by first | omega | assumption)) (pc' := 111) rfl (fun vv M_108 hq co108 hcm108 => ?_)
              obtain ⟨rfl, frM_108, mrM_108_0⟩ := hq
              refine ax_reS (st2 := []) rfl ?_
              refine ax_iload_n dX12_parts_111 rfl rfl (pc' := 112) rfl ?_
              refine ax_iconst dX12_parts_112 (by decide) (pc' := 113) rfl ?_
              refine ax_icmp_ge (tgt := 123) dX12_parts_113 (by decide) (pc' := 116) rfl (fun h113 => ?_) (fun h113 => ?_)
              · refine ax_iload dX12_parts_123 rfl (pc' := 125) rfl ?_
                refine ax_iconst dX12_parts_125 (by decide) (pc' := 126) rfl ?_
                refine ax_icmp_ne (tgt := 134) dX12_parts_126 (by decide) (pc' := 129) rfl (fun h126 => ?_) (fun h126 => ?_)
                · refine ax_iload dX12_parts_134 rfl (pc' := 136) rfl ?_
                  refine ax_iret dX12_parts_136 rfl ?_
                  refine ⟨rfl, ?_, ?_, ?_⟩
                  · refine congrArg (fun z => some (Sum.inl z)) ?_
                    rw [qb1]
                    unfold f_lost
                    first | (exfalso; omega) | rw [if_pos (by omega)] | rw [if_neg (by omega)]
                  · intro x0 i0 hai
                    exact ((frM_108 x0 i0 (by omega)).trans ((frM_89 x0 i0 (by omega)).trans ((fr1 x0 i0 (by omega)).trans ((frM_54 x0 i0 (by omega)).trans rfl))))
                  · refine Eq.trans mrM_108_0 ?_
                    unfold f_part f_p2
                    first
                      | (exfalso; omega)
                      | (rw [if_pos (by omega), if_pos (by omega)]; first | rw [qb2] | rw [qb3])
                      | (rw [if_pos (by omega), if_neg (by omega)]; first | rw [qb2] | rw [qb3])
                      | (rw [if_neg (by omega), if_pos (by omega)]; first | rw [qb2] | rw [qb3])
                      | (rw [if_neg (by omega), if_neg (by omega)]; first | rw [qb2] | rw [qb3])
                · refine ax_bipush dX12_parts_129 (by decide) (pc' := 131) rfl ?_
                  refine ax_goto dX12_parts_131 (pc' := 136) (by decide) ?_
                  refine ax_iret dX12_parts_136 rfl ?_
                  refine ⟨rfl, ?_, ?_, ?_⟩
                  · refine congrArg (fun z => some (Sum.inl z)) ?_
                    rw [qb1]
                    unfold f_lost
                    first | (exfalso; omega) | rw [if_pos (by omega)] | rw [if_neg (by omega)]
                  · intro x0 i0 hai
                    exact ((frM_108 x0 i0 (by omega)).trans ((frM_89 x0 i0 (by omega)).trans ((fr1 x0 i0 (by omega)).trans ((frM_54 x0 i0 (by omega)).trans rfl))))
                  · refine Eq.trans mrM_108_0 ?_
                    unfold f_part f_p2
                    first
                      | (exfalso; omega)
                      | (rw [if_pos (by omega), if_pos (by omega)]; first | rw [qb2] | rw [qb3])
                      | (rw [if_pos (by omega), if_neg (by omega)]; first | rw [qb2] | rw [qb3])
                      | (rw [if_neg (by omega), if_pos (by omega)]; first | rw [qb2] | rw [qb3])
                      | (rw [if_neg (by omega), if_neg (by omega)]; first | rw [qb2] | rw [qb3])
              · refine ax_aload_n dX12_parts_116 rfl rfl (pc' := 117) rfl ?_
                refine ax_iload_n dX12_parts_117 rfl rfl (pc' := 118) rfl ?_
                refine ax_iconst dX12_parts_118 (by decide) (pc' := 119) rfl ?_
                refine ax_iconst dX12_parts_119 (by decide) (pc' := 120) rfl ?_
                refine ax_invG [.inl r, .inl 0, .inl 0] [] dX12_parts_120 mlX12_98 sh_330 rfl rfl rfl (Nat.le_of_ble_eq_true rfl) (s_X12_ropes E l _ (by omega) _ r 0 0 mrM_108_0 (by first | omega | assumption) (by first | omega | assumption)) (pc' := 123) rfl (fun vv M_120 hq co120 hcm120 => ?_)
                obtain ⟨rfl, frM_120, mrM_120_0⟩ := hq
                refine ax_reS (st2 := []) rfl ?_
                refine ax_iload dX12_parts_123 rfl (pc' := 125) rfl ?_
                refine ax_iconst dX12_parts_125 (by decide) (pc' := 126) rfl ?_
                refine ax_icmp_ne (tgt := 134) dX12_parts_126 (by decide) (pc' := 129) rfl (fun h126 => ?_) (fun h126 => ?_)
                · refine ax_iload dX12_parts_134 rfl (pc' := 136) rfl ?_
                  refine ax_iret dX12_parts_136 rfl ?_
                  refine ⟨rfl, ?_, ?_, ?_⟩
                  · refine congrArg (fun z => some (Sum.inl z)) ?_
                    rw [qb1]
                    unfold f_lost
                    first | (exfalso; omega) | rw [if_pos (by omega)] | rw [if_neg (by omega)]
                  · intro x0 i0 hai
                    exact ((frM_120 x0 i0 (by omega)).trans ((frM_108 x0 i0 (by omega)).trans ((frM_89 x0 i0 (by omega)).trans ((fr1 x0 i0 (by omega)).trans ((frM_54 x0 i0 (by omega)).trans rfl)))))
                  · refine Eq.trans mrM_120_0 ?_
                    unfold f_part f_p2
                    first
                      | (exfalso; omega)
                      | (rw [if_pos (by omega), if_pos (by omega)]; first | rw [qb2] | rw [qb3])
                      | (rw [if_pos (by omega), if_neg (by omega)]; first | rw [qb2] | rw [qb3])
                      | (rw [if_neg (by omega), if_pos (by omega)]; first | rw [qb2] | rw [qb3])
                      | (rw [if_neg (by omega), if_neg (by omega)]; first | rw [qb2] | rw [qb3])
                · refine ax_bipush dX12_parts_129 (by decide) (pc' := 131) rfl ?_
                  refine ax_goto dX12_parts_131 (pc' := 136) (by decide) ?_
                  refine ax_iret dX12_parts_136 rfl ?_
                  refine ⟨rfl, ?_, ?_, ?_⟩
                  · refine congrArg (fun z => some (Sum.inl z)) ?_
                    rw [qb1]
                    unfold f_lost
                    first | (exfalso; omega) | rw [if_pos (by omega)] | rw [if_neg (by omega)]
                  · intro x0 i0 hai
                    exact ((frM_120 x0 i0 (by omega)).trans ((frM_108 x0 i0 (by omega)).trans ((frM_89 x0 i0 (by omega)).trans ((fr1 x0 i0 (by omega)).trans ((frM_54 x0 i0 (by omega)).trans rfl)))))
                  · refine Eq.trans mrM_120_0 ?_
                    unfold f_part f_p2
                    first
                      | (exfalso; omega)
                      | (rw [if_pos (by omega), if_pos (by omega)]; first | rw [qb2] | rw [qb3])
                      | (rw [if_pos (by omega), if_neg (by omega)]; first | rw [qb2] | rw [qb3])
                      | (rw [if_neg (by omega), if_pos (by omega)]; first | rw [qb2] | rw [qb3])
                      | (rw [if_neg (by omega), if_neg (by omega)]; first | rw [qb2] | rw [qb3])
            · refine ax_aload_n dX12_parts_96 rfl rfl (pc' := 97) rfl ?_
              refine ax_iload_n dX12_parts_97 rfl rfl (pc' := 98) rfl ?_
              refine ax_iload_n dX12_parts_98 rfl rfl (pc' := 99) rfl ?_
              refine ax_iconst dX12_parts_99 (by decide) (pc' := 100) rfl ?_
              refine ax_isub dX12_parts_100 (by omega) (pc' := 101) rfl ?_
              refine ax_invG [.inl r, .inl (p - 1)] [] dX12_parts_101 mlX12_396 sh_330 rfl rfl rfl (Nat.le_of_ble_eq_true rfl) (s_X12_halves E l _ (by omega) _ r (p - 1) mrM_89_0 (by first | omega | assumption | (rw [← qb2]; exact qa3)) (by first | omega | assumption | (rw [← qb2]; exact qa3)) (by first | omega | assumption | (rw [← qb2]; exact qa3))) (pc' := 104) rfl (fun vv M_101 hq co101 hcm101 => ?_)
              obtain ⟨rfl, frM_101, mrM_101_0⟩ := hq
              refine ax_reS (st2 := []) rfl ?_
              refine ax_aload_n dX12_parts_104 rfl rfl (pc' := 105) rfl ?_
              refine ax_iload_n dX12_parts_105 rfl rfl (pc' := 106) rfl ?_
              refine ax_iconst dX12_parts_106 (by decide) (pc' := 107) rfl ?_
              refine ax_iload_n dX12_parts_107 rfl rfl (pc' := 108) rfl ?_
              refine ax_invG [.inl r, .inl 1, .inl p] [] dX12_parts_108 mlX12_98 sh_330 rfl rfl rfl (Nat.le_of_ble_eq_true rfl) (s_X12_ropes E l _ (by omega) _ r 1 p mrM_101_0 (by first | omega | assumption) (by first | omega | assumption)) (pc' := 111) rfl (fun vv M_108 hq co108 hcm108 => ?_)
              obtain ⟨rfl, frM_108, mrM_108_0⟩ := hq
              refine ax_reS (st2 := []) rfl ?_
              refine ax_iload_n dX12_parts_111 rfl rfl (pc' := 112) rfl ?_
              refine ax_iconst dX12_parts_112 (by decide) (pc' := 113) rfl ?_
              refine ax_icmp_ge (tgt := 123) dX12_parts_113 (by decide) (pc' := 116) rfl (fun h113 => ?_) (fun h113 => ?_)
              · refine ax_iload dX12_parts_123 rfl (pc' := 125) rfl ?_
                refine ax_iconst dX12_parts_125 (by decide) (pc' := 126) rfl ?_
                refine ax_icmp_ne (tgt := 134) dX12_parts_126 (by decide) (pc' := 129) rfl (fun h126 => ?_) (fun h126 => ?_)
                · refine ax_iload dX12_parts_134 rfl (pc' := 136) rfl ?_
                  refine ax_iret dX12_parts_136 rfl ?_
                  refine ⟨rfl, ?_, ?_, ?_⟩
                  · refine congrArg (fun z => some (Sum.inl z)) ?_
                    rw [qb1]
                    unfold f_lost
                    first | (exfalso; omega) | rw [if_pos (by omega)] | rw [if_neg (by omega)]
                  · intro x0 i0 hai
                    exact ((frM_108 x0 i0 (by omega)).trans ((frM_101 x0 i0 (by omega)).trans ((frM_89 x0 i0 (by omega)).trans ((fr1 x0 i0 (by omega)).trans ((frM_54 x0 i0 (by omega)).trans rfl)))))
                  · refine Eq.trans mrM_108_0 ?_
                    unfold f_part f_p2
                    first
                      | (exfalso; omega)
                      | (rw [if_pos (by omega), if_pos (by omega)]; first | rw [qb2] | rw [qb3])
                      | (rw [if_pos (by omega), if_neg (by omega)]; first | rw [qb2] | rw [qb3])
                      | (rw [if_neg (by omega), if_pos (by omega)]; first | rw [qb2] | rw [qb3])
                      | (rw [if_neg (by omega), if_neg (by omega)]; first | rw [qb2] | rw [qb3])
                · refine ax_bipush dX12_parts_129 (by decide) (pc' := 131) rfl ?_
                  refine ax_goto dX12_parts_131 (pc' := 136) (by decide) ?_
                  refine ax_iret dX12_parts_136 rfl ?_
                  refine ⟨rfl, ?_, ?_, ?_⟩
                  · refine congrArg (fun z => some (Sum.inl z)) ?_
                    rw [qb1]
                    unfold f_lost
                    first | (exfalso; omega) | rw [if_pos (by omega)] | rw [if_neg (by omega)]
                  · intro x0 i0 hai
                    exact ((frM_108 x0 i0 (by omega)).trans ((frM_101 x0 i0 (by omega)).trans ((frM_89 x0 i0 (by omega)).trans ((fr1 x0 i0 (by omega)).trans ((frM_54 x0 i0 (by omega)).trans rfl)))))
                  · refine Eq.trans mrM_108_0 ?_
                    unfold f_part f_p2
                    first
                      | (exfalso; omega)
                      | (rw [if_pos (by omega), if_pos (by omega)]; first | rw [qb2] | rw [qb3])
                      | (rw [if_pos (by omega), if_neg (by omega)]; first | rw [qb2] | rw [qb3])
                      | (rw [if_neg (by omega), if_pos (by omega)]; first | rw [qb2] | rw [qb3])
                      | (rw [if_neg (by omega), if_neg (by omega)]; first | rw [qb2] | rw [qb3])
              · refine ax_aload_n dX12_parts_116 rfl rfl (pc' := 117) rfl ?_
                refine ax_iload_n dX12_parts_117 rfl rfl (pc' := 118) rfl ?_
                refine ax_iconst dX12_parts_118 (by decide) (pc' := 119) rfl ?_
                refine ax_iconst dX12_parts_119 (by decide) (pc' := 120) rfl ?_
                refine ax_invG [.inl r, .inl 0, .inl 0] [] dX12_parts_120 mlX12_98 sh_330 rfl rfl rfl (Nat.le_of_ble_eq_true rfl) (s_X12_ropes E l _ (by omega) _ r 0 0 mrM_108_0 (by first | omega | assumption) (by first | omega | assumption)) (pc' := 123) rfl (fun vv M_120 hq co120 hcm120 => ?_)
                obtain ⟨rfl, frM_120, mrM_120_0⟩ := hq
                refine ax_reS (st2 := []) rfl ?_
                refine ax_iload dX12_parts_123 rfl (pc' := 125) rfl ?_
                refine ax_iconst dX12_parts_125 (by decide) (pc' := 126) rfl ?_
                refine ax_icmp_ne (tgt := 134) dX12_parts_126 (by decide) (pc' := 129) rfl (fun h126 => ?_) (fun h126 => ?_)
                · refine ax_iload dX12_parts_134 rfl (pc' := 136) rfl ?_
                  refine ax_iret dX12_parts_136 rfl ?_
                  refine ⟨rfl, ?_, ?_, ?_⟩
                  · refine congrArg (fun z => some (Sum.inl z)) ?_
                    rw [qb1]
                    unfold f_lost
                    first | (exfalso; omega) | rw [if_pos (by omega)] | rw [if_neg (by omega)]
                  · intro x0 i0 hai
                    exact ((frM_120 x0 i0 (by omega)).trans ((frM_108 x0 i0 (by omega)).trans ((frM_101 x0 i0 (by omega)).trans ((frM_89 x0 i0 (by omega)).trans ((fr1 x0 i0 (by omega)).trans ((frM_54 x0 i0 (by omega)).trans rfl))))))
                  · refine Eq.trans mrM_120_0 ?_
                    unfold f_part f_p2
                    first
                      | (exfalso; omega)
                      | (rw [if_pos (by omega), if_pos (by omega)]; first | rw [qb2] | rw [qb3])
                      | (rw [if_pos (by omega), if_neg (by omega)]; first | rw [qb2] | rw [qb3])
                      | (rw [if_neg (by omega), if_pos (by omega)]; first | rw [qb2] | rw [qb3])
                      | (rw [if_neg (by omega), if_neg (by omega)]; first | rw [qb2] | rw [qb3])
                · refine ax_bipush dX12_parts_129 (by decide) (pc' := 131) rfl ?_
                  refine ax_goto dX12_parts_131 (pc' := 136) (by decide) ?_
                  refine ax_iret dX12_parts_136 rfl ?_
                  refine ⟨rfl, ?_, ?_, ?_⟩
                  · refine congrArg (fun z => some (Sum.inl z)) ?_
                    rw [qb1]
                    unfold f_lost
                    first | (exfalso; omega) | rw [if_pos (by omega)] | rw [if_neg (by omega)]
                  · intro x0 i0 hai
                    exact ((frM_120 x0 i0 (by omega)).trans ((frM_108 x0 i0 (by omega)).trans ((frM_101 x0 i0 (by omega)).trans ((frM_89 x0 i0 (by omega)).trans ((fr1 x0 i0 (by omega)).trans ((frM_54 x0 i0 (by omega)).trans rfl))))))
                  · refine Eq.trans mrM_120_0 ?_
                    unfold f_part f_p2
                    first
                      | (exfalso; omega)
                      | (rw [if_pos (by omega), if_pos (by omega)]; first | rw [qb2] | rw [qb3])
                      | (rw [if_pos (by omega), if_neg (by omega)]; first | rw [qb2] | rw [qb3])
                      | (rw [if_neg (by omega), if_pos (by omega)]; first | rw [qb2] | rw [qb3])
                      | (rw [if_neg (by omega), if_neg (by omega)]; first | rw [qb2] | rw [qb3])
          · refine ax_aload_n dX12_parts_66 rfl rfl (pc' := 67) rfl ?_
            refine ax_iload dX12_parts_67 rfl (pc' := 69) rfl ?_
            refine ax_iload dX12_parts_69 rfl (pc' := 71) rfl ?_
            refine ax_iload_n dX12_parts_71 rfl rfl (pc' := 72) rfl ?_
            refine ax_isub dX12_parts_72 (by omega) (pc' := 73) rfl ?_
            refine ax_iload_n dX12_parts_73 rfl rfl (pc' := 74) rfl ?_
            refine ax_iload dX12_parts_74 rfl (pc' := 76) rfl ?_
            refine ax_invG [.inl (f_free w), .inl (q - p), .inl r, .inl q] [] dX12_parts_76 mlX12_390 sh_330 rfl rfl rfl (Nat.le_of_ble_eq_true rfl) (s_X12_copies E l _ (by omega) _ (f_free w) (q - p) r q mr1_331 (by first | omega | assumption) (by first | omega | assumption) (by first | omega | assumption) (by first | omega | assumption)) (pc' := 79) rfl (fun vv M_76 hq co76 hcm76 => ?_)
            obtain ⟨rfl, frM_76, mrM_76_0⟩ := hq
            refine ax_reS (st2 := []) rfl ?_
            refine ax_iinc dX12_parts_79 rfl (by decide) (by omega) (ls' := [some (.inr 330), some (.inl r), some (.inl p), some (.inl (f_R w r 1)), some (.inl (f_free w)), some (.inl (q + 1))]) rfl (pc' := 82) rfl ?_
            refine ax_goto dX12_parts_82 (pc' := 60) (by decide) ?_
            refine ih3 (q + 1) (f_cpy wv1 (f_free w) (q - p) r q) M_76 ?_ ?_ ?_ ?_ ?_ ?_
            · omega
            · intro x0 i0 hai
              exact ((frM_76 x0 i0 (by omega)).trans ((fr1 x0 i0 (by omega)).trans rfl))
            · exact mrM_76_0
            · omega
            · exact f_loop_back (by omega) iv1_1 rfl
            · exact f_iv_cpy (by omega) (by omega) hg0 (by omega) iv1_2
      refine LP1 (f_R w r 1 - p : Int).toNat.succ p (f_beg w (f_free w) (f_R w r 1 - p) (f_R w r 2) (f_R w r 3) (f_R w r 4)) M_54 ?_ ?_ ?_ ?_ ?_ ?_
      · omega
      · exact fun a i _ => rfl
      · exact mrM_54_0
      · omega
      · rfl
      · exact qb4
  · have qb1 : f_pfr w r p = -1 := if_pos h11
    have qb2 : f_p1 w r p = w := if_pos qb1
    refine ax_iconst dX12_parts_14 (by decide) (pc' := 15) rfl ?_
    refine ax_goto dX12_parts_15 (pc' := 22) (by decide) ?_
    refine ax_istore dX12_parts_22 (by decide) (ls' := [some (.inr 330), some (.inl r), some (.inl p), some (.inl (f_R w r 1)), some (.inl (-1)), none]) rfl (pc' := 24) rfl ?_
    refine ax_iload dX12_parts_24 rfl (pc' := 26) rfl ?_
    refine ax_iconst dX12_parts_26 (by decide) (pc' := 27) rfl ?_
    refine ax_icmp_eq (tgt := 92) dX12_parts_27 (by decide) (pc' := 30) rfl (fun h27 => ?_) (fun h27 => ?_)
    · have qb2 : f_p1 w r p = w := if_pos (by omega)
      refine ax_iload_n dX12_parts_92 rfl rfl (pc' := 93) rfl ?_
      refine ax_if_le (tgt := 104) dX12_parts_93 (by decide) (pc' := 96) rfl (fun h93 => ?_) (fun h93 => ?_)
      · refine ax_aload_n dX12_parts_104 rfl rfl (pc' := 105) rfl ?_
        refine ax_iload_n dX12_parts_105 rfl rfl (pc' := 106) rfl ?_
        refine ax_iconst dX12_parts_106 (by decide) (pc' := 107) rfl ?_
        refine ax_iload_n dX12_parts_107 rfl rfl (pc' := 108) rfl ?_
        refine ax_invG [.inl r, .inl 1, .inl p] [] dX12_parts_108 mlX12_98 sh_330 rfl rfl rfl (Nat.le_of_ble_eq_true rfl) (s_X12_ropes E l _ (by omega) _ r 1 p hw (by first | omega | assumption) (by first | omega | assumption)) (pc' := 111) rfl (fun vv M_108 hq co108 hcm108 => ?_)
        obtain ⟨rfl, frM_108, mrM_108_0⟩ := hq
        refine ax_reS (st2 := []) rfl ?_
        refine ax_iload_n dX12_parts_111 rfl rfl (pc' := 112) rfl ?_
        refine ax_iconst dX12_parts_112 (by decide) (pc' := 113) rfl ?_
        refine ax_icmp_ge (tgt := 123) dX12_parts_113 (by decide) (pc' := 116) rfl (fun h113 => ?_) (fun h113 => ?_)
        · refine ax_iload dX12_parts_123 rfl (pc' := 125) rfl ?_
          refine ax_iconst dX12_parts_125 (by decide) (pc' := 126) rfl ?_
          refine ax_icmp_ne (tgt := 134) dX12_parts_126 (by decide) (pc' := 129) rfl (fun h126 => ?_) (fun h126 => ?_)
          · exfalso
            omega
          · refine ax_bipush dX12_parts_129 (by decide) (pc' := 131) rfl ?_
            refine ax_goto dX12_parts_131 (pc' := 136) (by decide) ?_
            refine ax_iret dX12_parts_136 rfl ?_
            refine ⟨rfl, ?_, ?_, ?_⟩
            · refine congrArg (fun z => some (Sum.inl z)) ?_
              rw [qb1]
              unfold f_lost
              first | (exfalso; omega) | rw [if_pos (by omega)] | rw [if_neg (by omega)]
            · intro x0 i0 hai
              exact ((frM_108 x0 i0 (by omega)).trans rfl)
            · refine Eq.trans mrM_108_0 ?_
              unfold f_part f_p2
              first
                | (exfalso; omega)
                | (rw [if_pos (by omega), if_pos (by omega)]; first | rw [qb2] | rw [qb3])
                | (rw [if_pos (by omega), if_neg (by omega)]; first | rw [qb2] | rw [qb3])
                | (rw [if_neg (by omega), if_pos (by omega)]; first | rw [qb2] | rw [qb3])
                | (rw [if_neg (by omega), if_neg (by omega)]; first | rw [qb2] | rw [qb3])
        · refine ax_aload_n dX12_parts_116 rfl rfl (pc' := 117) rfl ?_
          refine ax_iload_n dX12_parts_117 rfl rfl (pc' := 118) rfl ?_
          refine ax_iconst dX12_parts_118 (by decide) (pc' := 119) rfl ?_
          refine ax_iconst dX12_parts_119 (by decide) (pc' := 120) rfl ?_
          refine ax_invG [.inl r, .inl 0, .inl 0] [] dX12_parts_120 mlX12_98 sh_330 rfl rfl rfl (Nat.le_of_ble_eq_true rfl) (s_X12_ropes E l _ (by omega) _ r 0 0 mrM_108_0 (by first | omega | assumption) (by first | omega | assumption)) (pc' := 123) rfl (fun vv M_120 hq co120 hcm120 => ?_)
          obtain ⟨rfl, frM_120, mrM_120_0⟩ := hq
          refine ax_reS (st2 := []) rfl ?_
          refine ax_iload dX12_parts_123 rfl (pc' := 125) rfl ?_
          refine ax_iconst dX12_parts_125 (by decide) (pc' := 126) rfl ?_
          refine ax_icmp_ne (tgt := 134) dX12_parts_126 (by decide) (pc' := 129) rfl (fun h126 => ?_) (fun h126 => ?_)
          · exfalso
            omega
          · refine ax_bipush dX12_parts_129 (by decide) (pc' := 131) rfl ?_
            refine ax_goto dX12_parts_131 (pc' := 136) (by decide) ?_
            refine ax_iret dX12_parts_136 rfl ?_
            refine ⟨rfl, ?_, ?_, ?_⟩
            · refine congrArg (fun z => some (Sum.inl z)) ?_
              rw [qb1]
              unfold f_lost
              first | (exfalso; omega) | rw [if_pos (by omega)] | rw [if_neg (by omega)]
            · intro x0 i0 hai
              exact ((frM_120 x0 i0 (by omega)).trans ((frM_108 x0 i0 (by omega)).trans rfl))
            · refine Eq.trans mrM_120_0 ?_
              unfold f_part f_p2
              first
                | (exfalso; omega)
                | (rw [if_pos (by omega), if_pos (by omega)]; first | rw [qb2] | rw [qb3])
                | (rw [if_pos (by omega), if_neg (by omega)]; first | rw [qb2] | rw [qb3])
                | (rw [if_neg (by omega), if_pos (by omega)]; first | rw [qb2] | rw [qb3])
                | (rw [if_neg (by omega), if_neg (by omega)]; first | rw [qb2] | rw [qb3])
      · refine ax_aload_n dX12_parts_96 rfl rfl (pc' := 97) rfl ?_
        refine ax_iload_n dX12_parts_97 rfl rfl (pc' := 98) rfl ?_
        refine ax_iload_n dX12_parts_98 rfl rfl (pc' := 99) rfl ?_
        refine ax_iconst dX12_parts_99 (by decide) (pc' := 100) rfl ?_
        refine ax_isub dX12_parts_100 (by omega) (pc' := 101) rfl ?_
        refine ax_invG [.inl r, .inl (p - 1)] [] dX12_parts_101 mlX12_396 sh_330 rfl rfl rfl (Nat.le_of_ble_eq_true rfl) (s_X12_halves E l _ (by omega) _ r (p - 1) hw (by first | omega | assumption | (rw [← qb2]; exact qa3)) (by first | omega | assumption | (rw [← qb2]; exact qa3)) (by first | omega | assumption | (rw [← qb2]; exact qa3))) (pc' := 104) rfl (fun vv M_101 hq co101 hcm101 => ?_)
        obtain ⟨rfl, frM_101, mrM_101_0⟩ := hq
        refine ax_reS (st2 := []) rfl ?_
        refine ax_aload_n dX12_parts_104 rfl rfl (pc' := 105) rfl ?_
        refine ax_iload_n dX12_parts_105 rfl rfl (pc' := 106) rfl ?_
        refine ax_iconst dX12_parts_106 (by decide) (pc' := 107) rfl ?_
        refine ax_iload_n dX12_parts_107 rfl rfl (pc' := 108) rfl ?_
        refine ax_invG [.inl r, .inl 1, .inl p] [] dX12_parts_108 mlX12_98 sh_330 rfl rfl rfl (Nat.le_of_ble_eq_true rfl) (s_X12_ropes E l _ (by omega) _ r 1 p mrM_101_0 (by first | omega | assumption) (by first | omega | assumption)) (pc' := 111) rfl (fun vv M_108 hq co108 hcm108 => ?_)
        obtain ⟨rfl, frM_108, mrM_108_0⟩ := hq
        refine ax_reS (st2 := []) rfl ?_
        refine ax_iload_n dX12_parts_111 rfl rfl (pc' := 112) rfl ?_
        refine ax_iconst dX12_parts_112 (by decide) (pc' := 113) rfl ?_
        refine ax_icmp_ge (tgt := 123) dX12_parts_113 (by decide) (pc' := 116) rfl (fun h113 => ?_) (fun h113 => ?_)
        · refine ax_iload dX12_parts_123 rfl (pc' := 125) rfl ?_
          refine ax_iconst dX12_parts_125 (by decide) (pc' := 126) rfl ?_
          refine ax_icmp_ne (tgt := 134) dX12_parts_126 (by decide) (pc' := 129) rfl (fun h126 => ?_) (fun h126 => ?_)
          · exfalso
            omega
          · refine ax_bipush dX12_parts_129 (by decide) (pc' := 131) rfl ?_
            refine ax_goto dX12_parts_131 (pc' := 136) (by decide) ?_
            refine ax_iret dX12_parts_136 rfl ?_
            refine ⟨rfl, ?_, ?_, ?_⟩
            · refine congrArg (fun z => some (Sum.inl z)) ?_
              rw [qb1]
              unfold f_lost
              first | (exfalso; omega) | rw [if_pos (by omega)] | rw [if_neg (by omega)]
            · intro x0 i0 hai
              exact ((frM_108 x0 i0 (by omega)).trans ((frM_101 x0 i0 (by omega)).trans rfl))
            · refine Eq.trans mrM_108_0 ?_
              unfold f_part f_p2
              first
                | (exfalso; omega)
                | (rw [if_pos (by omega), if_pos (by omega)]; first | rw [qb2] | rw [qb3])
                | (rw [if_pos (by omega), if_neg (by omega)]; first | rw [qb2] | rw [qb3])
                | (rw [if_neg (by omega), if_pos (by omega)]; first | rw [qb2] | rw [qb3])
                | (rw [if_neg (by omega), if_neg (by omega)]; first | rw [qb2] | rw [qb3])
        · refine ax_aload_n dX12_parts_116 rfl rfl (pc' := 117) rfl ?_
          refine ax_iload_n dX12_parts_117 rfl rfl (pc' := 118) rfl ?_
          refine ax_iconst dX12_parts_118 (by decide) (pc' := 119) rfl ?_
          refine ax_iconst dX12_parts_119 (by decide) (pc' := 120) rfl ?_
          refine ax_invG [.inl r, .inl 0, .inl 0] [] dX12_parts_120 mlX12_98 sh_330 rfl rfl rfl (Nat.le_of_ble_eq_true rfl) (s_X12_ropes E l _ (by omega) _ r 0 0 mrM_108_0 (by first | omega | assumption) (by first | omega | assumption)) (pc' := 123) rfl (fun vv M_120 hq co120 hcm120 => ?_)
          obtain ⟨rfl, frM_120, mrM_120_0⟩ := hq
          refine ax_reS (st2 := []) rfl ?_
          refine ax_iload dX12_parts_123 rfl (pc' := 125) rfl ?_
          refine ax_iconst dX12_parts_125 (by decide) (pc' := 126) rfl ?_
          refine ax_icmp_ne (tgt := 134) dX12_parts_126 (by decide) (pc' := 129) rfl (fun h126 => ?_) (fun h126 => ?_)
          · exfalso
            omega
          · refine ax_bipush dX12_parts_129 (by decide) (pc' := 131) rfl ?_
            refine ax_goto dX12_parts_131 (pc' := 136) (by decide) ?_
            refine ax_iret dX12_parts_136 rfl ?_
            refine ⟨rfl, ?_, ?_, ?_⟩
            · refine congrArg (fun z => some (Sum.inl z)) ?_
              rw [qb1]
              unfold f_lost
              first | (exfalso; omega) | rw [if_pos (by omega)] | rw [if_neg (by omega)]
            · intro x0 i0 hai
              exact ((frM_120 x0 i0 (by omega)).trans ((frM_108 x0 i0 (by omega)).trans ((frM_101 x0 i0 (by omega)).trans rfl)))
            · refine Eq.trans mrM_120_0 ?_
              unfold f_part f_p2
              first
                | (exfalso; omega)
                | (rw [if_pos (by omega), if_pos (by omega)]; first | rw [qb2] | rw [qb3])
                | (rw [if_pos (by omega), if_neg (by omega)]; first | rw [qb2] | rw [qb3])
                | (rw [if_neg (by omega), if_pos (by omega)]; first | rw [qb2] | rw [qb3])
                | (rw [if_neg (by omega), if_neg (by omega)]; first | rw [qb2] | rw [qb3])
    · exfalso
      omega
set_option maxRecDepth 20000 in
theorem s_X12_cut_no (E : ax_Env) (l : Launch) (d : Nat) (hd : 4 ≤ d) (M : ax_Mem) (r p : Int) {w : Int → Int} (hw : M 331 = w) (hg0 : f_iv w) (hg1 : ¬ (f_isR w r ∧ 2 ≤ p ∧ p ≤ f_R w r 1 - 2)) : ax_G E l d iX12_cut [.inr 330, .inl r, .inl p] M (fun z0 M2 => z0 = some (.inl (-1)) ∧ M = M2) := by
  obtain ⟨d, rfl⟩ : ∃ d0, d = d0 + 1 := ⟨d - 1, by omega⟩
  refine ax_start rfl (Nat.le_of_ble_eq_true rfl) (ls := [some (.inr 330), some (.inl r), some (.inl p), none]) rfl (fun hav hcm => ?_)
  have hc1 : -2147483648 ≤ r ∧ r < 2147483648 := hav (.inl r) (by simp)
  have hc2 : -2147483648 ≤ p ∧ p < 2147483648 := hav (.inl p) (by simp)
  clear hav
  refine ax_aload_n dX12_cut_0 rfl rfl (pc' := 1) rfl ?_
  refine ax_iload_n dX12_cut_1 rfl rfl (pc' := 2) rfl ?_
  refine ax_invG [.inl r] [] dX12_cut_2 mlX12_82 sh_330 rfl rfl rfl (Nat.le_of_ble_eq_true rfl) (s_X12_isRope E l _ (by omega) _ r hw) (pc' := 5) rfl (fun vv M_2 hq co2 hcm2 => ?_)
  obtain ⟨rfl, rfl⟩ := hq
  refine ax_reS (st2 := [.inl (f_b (f_isR w r))]) rfl ?_
  refine ax_if_eq (tgt := 24) dX12_cut_5 (by decide) (pc' := 8) rfl (fun h5 => ?_) (fun h5 => ?_)
  · replace h5 := f_b_0 h5
    refine ax_iconst dX12_cut_24 (by decide) (pc' := 25) rfl ?_
    refine ax_iret dX12_cut_25 rfl ?_
    refine ⟨rfl, ?_, ?_⟩
    · rfl
    · rfl
  · replace h5 := f_b_1 h5
    have qa1 := hg0.1 r (by omega) (by omega)
    refine ax_iload_n dX12_cut_8 rfl rfl (pc' := 9) rfl ?_
    refine ax_iconst dX12_cut_9 (by decide) (pc' := 10) rfl ?_
    refine ax_aload_n dX12_cut_10 rfl rfl (pc' := 11) rfl ?_
    refine ax_iload_n dX12_cut_11 rfl rfl (pc' := 12) rfl ?_
    refine ax_iconst dX12_cut_12 (by decide) (pc' := 13) rfl ?_
    refine ax_invG [.inl r, .inl 1] [.inl 2, .inl p] dX12_cut_13 mlX12_78 sh_330 rfl rfl rfl (Nat.le_of_ble_eq_true rfl) (s_X12_ofRope E l _ (by omega) _ r 1 hw (by first | omega | assumption) (by first | omega | assumption)) (pc' := 16) rfl (fun vv M_13 hq co13 hcm13 => ?_)
    obtain ⟨rfl, rfl⟩ := hq
    refine ax_reS (st2 := [.inl (f_R w r 1), .inl 2, .inl p]) rfl ?_
    have cc13 : -2147483648 ≤ f_R w r 1 ∧ f_R w r 1 < 2147483648 := co13 _ rfl
    refine ax_iconst dX12_cut_16 (by decide) (pc' := 17) rfl ?_
    refine ax_isub dX12_cut_17 (by omega) (pc' := 18) rfl ?_
    refine ax_insG [.inl p, .inl 2, .inl (f_R w r 1 - 2)] [] dX12_cut_18 mlX12_74 rfl rfl (Nat.le_of_ble_eq_true rfl) (s_X12_isIn E l _ (by omega) _ p 2 (f_R w r 1 - 2)) (pc' := 21) rfl (fun vv M_18 hq co18 hcm18 => ?_)
    obtain ⟨rfl, rfl⟩ := hq
    refine ax_reS (st2 := [.inl (f_b (2 ≤ p ∧ p ≤ (f_R w r 1 - 2)))]) rfl ?_
    refine ax_if_ne (tgt := 26) dX12_cut_21 (by decide) (pc' := 24) rfl (fun h21 => ?_) (fun h21 => ?_)
    · replace h21 := f_b_1 h21
      exfalso
      omega
    · replace h21 := f_b_0 h21
      refine ax_iconst dX12_cut_24 (by decide) (pc' := 25) rfl ?_
      refine ax_iret dX12_cut_25 rfl ?_
      refine ⟨rfl, ?_, ?_⟩
      · rfl
      · rfl
set_option maxRecDepth 20000 in
theorem s_X12_cut_ok (E : ax_Env) (l : Launch) (d : Nat) (hd : 4 ≤ d) (M : ax_Mem) (r p : Int) {w : Int → Int} (hw : M 331 = w) {b : Int → Int} (hb : M 333 = b) {m : Int} (hm : M 330 4 = m) (hg0 : f_iv w) (hg1 : 0 ≤ m ∧ m ≤ 5) (hg2 : f_isR w r ∧ 2 ≤ p ∧ p ≤ f_R w r 1 - 2) : ax_G E l d iX12_cut [.inr 330, .inl r, .inl p] M (fun z0 M2 => z0 = some (.inl (f_lost (f_pfr w r p))) ∧ (∀ x0 i0 : Int, ¬ (x0 = 331 ∨ x0 = 333 ∨ (x0 = 330 ∧ i0 = 4)) → M2 x0 i0 = M x0 i0) ∧ M2 331 = f_note (f_part w r p) r p (max (-1) (f_lost (f_pfr w r p))) 3 (-1) ∧ M2 333 = f_keep b w m ∧ M2 330 4 = f_keepN m) := by
  obtain ⟨d, rfl⟩ : ∃ d0, d = d0 + 1 := ⟨d - 1, by omega⟩
  refine ax_start rfl (Nat.le_of_ble_eq_true rfl) (ls := [some (.inr 330), some (.inl r), some (.inl p), none]) rfl (fun hav hcm => ?_)
  have hc1 : -2147483648 ≤ r ∧ r < 2147483648 := hav (.inl r) (by simp)
  have hc2 : -2147483648 ≤ p ∧ p < 2147483648 := hav (.inl p) (by simp)
  clear hav
  have qa1 := hg0.1 r (by omega) (by omega)
  refine ax_aload_n dX12_cut_0 rfl rfl (pc' := 1) rfl ?_
  refine ax_iload_n dX12_cut_1 rfl rfl (pc' := 2) rfl ?_
  refine ax_invG [.inl r] [] dX12_cut_2 mlX12_82 sh_330 rfl rfl rfl (Nat.le_of_ble_eq_true rfl) (s_X12_isRope E l _ (by omega) _ r hw) (pc' := 5) rfl (fun vv M_2 hq co2 hcm2 => ?_)
  obtain ⟨rfl, rfl⟩ := hq
  refine ax_reS (st2 := [.inl (f_b (f_isR w r))]) rfl ?_
  refine ax_if_eq (tgt := 24) dX12_cut_5 (by decide) (pc' := 8) rfl (fun h5 => ?_) (fun h5 => ?_)
  · replace h5 := f_b_0 h5
    exfalso
    omega
  · replace h5 := f_b_1 h5
    refine ax_iload_n dX12_cut_8 rfl rfl (pc' := 9) rfl ?_
    refine ax_iconst dX12_cut_9 (by decide) (pc' := 10) rfl ?_
    refine ax_aload_n dX12_cut_10 rfl rfl (pc' := 11) rfl ?_
    refine ax_iload_n dX12_cut_11 rfl rfl (pc' := 12) rfl ?_
    refine ax_iconst dX12_cut_12 (by decide) (pc' := 13) rfl ?_
    refine ax_invG [.inl r, .inl 1] [.inl 2, .inl p] dX12_cut_13 mlX12_78 sh_330 rfl rfl rfl (Nat.le_of_ble_eq_true rfl) (s_X12_ofRope E l _ (by omega) _ r 1 hw (by first | omega | assumption) (by first | omega | assumption)) (pc' := 16) rfl (fun vv M_13 hq co13 hcm13 => ?_)
    obtain ⟨rfl, rfl⟩ := hq
    refine ax_reS (st2 := [.inl (f_R w r 1), .inl 2, .inl p]) rfl ?_
    have cc13 : -2147483648 ≤ f_R w r 1 ∧ f_R w r 1 < 2147483648 := co13 _ rfl
    refine ax_iconst dX12_cut_16 (by decide) (pc' := 17) rfl ?_
    refine ax_isub dX12_cut_17 (by omega) (pc' := 18) rfl ?_
    refine ax_insG [.inl p, .inl 2, .inl (f_R w r 1 - 2)] [] dX12_cut_18 mlX12_74 rfl rfl (Nat.le_of_ble_eq_true rfl) (s_X12_isIn E l _ (by omega) _ p 2 (f_R w r 1 - 2)) (pc' := 21) rfl (fun vv M_18 hq co18 hcm18 => ?_)
    obtain ⟨rfl, rfl⟩ := hq
    refine ax_reS (st2 := [.inl (f_b (2 ≤ p ∧ p ≤ (f_R w r 1 - 2)))]) rfl ?_
    refine ax_if_ne (tgt := 26) dX12_cut_21 (by decide) (pc' := 24) rfl (fun h21 => ?_) (fun h21 => ?_)
    · replace h21 := f_b_1 h21
      refine ax_aload_n dX12_cut_26 rfl rfl (pc' := 27) rfl ?_
      refine ax_invG [] [] dX12_cut_27 mlX12_379 sh_330 rfl rfl rfl (Nat.le_of_ble_eq_true rfl) (s_X12_keeps E l _ (by omega) _ hw hb hm (by first | omega | assumption)) (pc' := 30) rfl (fun vv M_27 hq co27 hcm27 => ?_)
      obtain ⟨rfl, frM_27, mrM_27_0, msM_27_0⟩ := hq
      refine ax_reS (st2 := []) rfl ?_
      refine ax_aload_n dX12_cut_30 rfl rfl (pc' := 31) rfl ?_
      refine ax_iload_n dX12_cut_31 rfl rfl (pc' := 32) rfl ?_
      refine ax_iload_n dX12_cut_32 rfl rfl (pc' := 33) rfl ?_
      refine ax_invG [.inl r, .inl p] [] dX12_cut_33 mlX12_399 sh_330 rfl rfl rfl (Nat.le_of_ble_eq_true rfl) (s_X12_parts E l _ (by omega) _ r p ((funext fun i0 => frM_27 331 i0 (by omega)).trans hw) (by first | omega | assumption) (by first | omega | assumption) (by first | omega | assumption)) (pc' := 36) rfl (fun vv M_33 hq co33 hcm33 => ?_)
      obtain ⟨rfl, frM_33, mrM_33_0⟩ := hq
      refine ax_reS (st2 := [.inl (f_lost (f_pfr w r p))]) rfl ?_
      have cc33 : -2147483648 ≤ f_lost (f_pfr w r p) ∧ f_lost (f_pfr w r p) < 2147483648 := co33 _ rfl
      refine ax_istore_n dX12_cut_36 rfl (by decide) (ls' := [some (.inr 330), some (.inl r), some (.inl p), some (.inl (f_lost (f_pfr w r p)))]) rfl (pc' := 37) rfl ?_
      have qa2 := (f_iv_part (by omega) (by omega : 0 ≤ p ∧ p < f_R w r 1) hg0).2.2.2.1
      refine ax_aload_n dX12_cut_37 rfl rfl (pc' := 38) rfl ?_
      refine ax_iload_n dX12_cut_38 rfl rfl (pc' := 39) rfl ?_
      refine ax_iload_n dX12_cut_39 rfl rfl (pc' := 40) rfl ?_
      refine ax_iconst dX12_cut_40 (by decide) (pc' := 41) rfl ?_
      refine ax_iload_n dX12_cut_41 rfl rfl (pc' := 42) rfl ?_
      refine ax_insG [.inl (-1), .inl (f_lost (f_pfr w r p))] [.inl p, .inl r, .inr 330] dX12_cut_42 mlX12_337 rfl rfl (Nat.le_of_ble_eq_true rfl) (s_X12_greater E l _ (by omega) _ (-1) (f_lost (f_pfr w r p))) (pc' := 45) rfl (fun vv M_42 hq co42 hcm42 => ?_)
      obtain ⟨rfl, rfl⟩ := hq
      refine ax_reS (st2 := [.inl (max (-1) (f_lost (f_pfr w r p))), .inl p, .inl r, .inr 330]) rfl ?_
      have cc42 : -2147483648 ≤ max (-1) (f_lost (f_pfr w r p)) ∧ max (-1) (f_lost (f_pfr w r p)) < 2147483648 := co42 _ rfl
      refine ax_iconst dX12_cut_45 (by decide) (pc' := 46) rfl ?_
      refine ax_iconst dX12_cut_46 (by decide) (pc' := 47) rfl ?_
      refine ax_invG [.inl r, .inl p, .inl (max (-1) (f_lost (f_pfr w r p))), .inl 3, .inl (-1)] [] dX12_cut_47 mlX12_373 sh_330 rfl rfl rfl (Nat.le_of_ble_eq_true rfl) (s_X12_notes E l _ (by omega) _ r p (max (-1) (f_lost (f_pfr w r p))) 3 (-1) mrM_33_0 (by first | omega | assumption)) (pc' := 50) rfl (fun vv M_47 hq co47 hcm47 => ?_)
      obtain ⟨rfl, frM_47, mrM_47_0⟩ := hq
      refine ax_reS (st2 := []) rfl ?_
      refine ax_iload_n dX12_cut_50 rfl rfl (pc' := 51) rfl ?_
      refine ax_iret dX12_cut_51 rfl ?_
      refine ⟨rfl, ?_, ?_, ?_, ?_, ?_⟩
      · rfl
      · intro x0 i0 hai
        exact ((frM_47 x0 i0 (by omega)).trans ((frM_33 x0 i0 (by omega)).trans ((frM_27 x0 i0 (by omega)).trans rfl)))
      · exact mrM_47_0
      · exact ((funext fun i0 => frM_47 333 i0 (by omega)).trans ((funext fun i0 => frM_33 333 i0 (by omega)).trans mrM_27_0))
      · exact ((frM_47 330 4 (by omega)).trans ((frM_33 330 4 (by omega)).trans msM_27_0))
    · replace h21 := f_b_0 h21
      exfalso
      omega
set_option maxRecDepth 20000 in
theorem s_X12_sinceBoth (E : ax_Env) (l : Launch) (d : Nat) (hd : 2 ≤ d) (M : ax_Mem) (a p b q k : Int) {w : Int → Int} (hw : M 331 = w) (hg0 : 0 ≤ a ∧ a < 8) (hg1 : 0 ≤ p ∧ p < 24) (hg2 : 0 ≤ b ∧ b < 8) (hg3 : 0 ≤ q ∧ q < 24) (hg4 : 0 ≤ k ∧ k < 6) : ax_G E l d iX12_sinceBoth [.inr 330, .inl a, .inl p, .inl b, .inl q, .inl k] M (fun z0 M2 => z0 = some (.inl (f_snb w a p b q k)) ∧ M = M2) := by
  obtain ⟨d, rfl⟩ : ∃ d0, d = d0 + 1 := ⟨d - 1, by omega⟩
  refine ax_start rfl (Nat.le_of_ble_eq_true rfl) (ls := [some (.inr 330), some (.inl a), some (.inl p), some (.inl b), some (.inl q), some (.inl k)]) rfl (fun hav hcm => ?_)
  have hc1 : -2147483648 ≤ a ∧ a < 2147483648 := hav (.inl a) (by simp)
  have hc2 : -2147483648 ≤ p ∧ p < 2147483648 := hav (.inl p) (by simp)
  have hc3 : -2147483648 ≤ b ∧ b < 2147483648 := hav (.inl b) (by simp)
  have hc4 : -2147483648 ≤ q ∧ q < 2147483648 := hav (.inl q) (by simp)
  have hc5 : -2147483648 ≤ k ∧ k < 2147483648 := hav (.inl k) (by simp)
  clear hav
  refine ax_aload_n dX12_sinceBoth_0 rfl rfl (pc' := 1) rfl ?_
  refine ax_iload_n dX12_sinceBoth_1 rfl rfl (pc' := 2) rfl ?_
  refine ax_iload_n dX12_sinceBoth_2 rfl rfl (pc' := 3) rfl ?_
  refine ax_iload dX12_sinceBoth_3 rfl (pc' := 5) rfl ?_
  refine ax_invG [.inl a, .inl p, .inl k] [] dX12_sinceBoth_5 mlX12_354 sh_330 rfl rfl rfl (Nat.le_of_ble_eq_true rfl) (s_X12_habitOf E l _ (by omega) _ a p k hw (by first | omega | assumption) (by first | omega | assumption) (by first | omega | assumption)) (pc' := 8) rfl (fun vv M_5 hq co5 hcm5 => ?_)
  obtain ⟨rfl, rfl⟩ := hq
  refine ax_reS (st2 := [.inl (f_P w a p (1 + k))]) rfl ?_
  have cc5 : -2147483648 ≤ f_P w a p (1 + k) ∧ f_P w a p (1 + k) < 2147483648 := co5 _ rfl
  refine ax_if_ne (tgt := 24) dX12_sinceBoth_8 (by decide) (pc' := 11) rfl (fun h8 => ?_) (fun h8 => ?_)
  · refine ax_aload_n dX12_sinceBoth_24 rfl rfl (pc' := 25) rfl ?_
    refine ax_iload_n dX12_sinceBoth_25 rfl rfl (pc' := 26) rfl ?_
    refine ax_iload dX12_sinceBoth_26 rfl (pc' := 28) rfl ?_
    refine ax_iload dX12_sinceBoth_28 rfl (pc' := 30) rfl ?_
    refine ax_invG [.inl b, .inl q, .inl k] [] dX12_sinceBoth_30 mlX12_354 sh_330 rfl rfl rfl (Nat.le_of_ble_eq_true rfl) (s_X12_habitOf E l _ (by omega) _ b q k hw (by first | omega | assumption) (by first | omega | assumption) (by first | omega | assumption)) (pc' := 33) rfl (fun vv M_30 hq co30 hcm30 => ?_)
    obtain ⟨rfl, rfl⟩ := hq
    refine ax_reS (st2 := [.inl (f_P w b q (1 + k))]) rfl ?_
    have cc30 : -2147483648 ≤ f_P w b q (1 + k) ∧ f_P w b q (1 + k) < 2147483648 := co30 _ rfl
    refine ax_if_ne (tgt := 48) dX12_sinceBoth_33 (by decide) (pc' := 36) rfl (fun h33 => ?_) (fun h33 => ?_)
    · refine ax_aload_n dX12_sinceBoth_48 rfl rfl (pc' := 49) rfl ?_
      refine ax_iload_n dX12_sinceBoth_49 rfl rfl (pc' := 50) rfl ?_
      refine ax_iload_n dX12_sinceBoth_50 rfl rfl (pc' := 51) rfl ?_
      refine ax_bipush dX12_sinceBoth_51 (by decide) (pc' := 53) rfl ?_
      refine ax_iload dX12_sinceBoth_53 rfl (pc' := 55) rfl ?_
      refine ax_iadd dX12_sinceBoth_55 (by omega) (pc' := 56) rfl ?_
      refine ax_invG [.inl a, .inl p, .inl (7 + k)] [] dX12_sinceBoth_56 mlX12_86 sh_330 rfl rfl rfl (Nat.le_of_ble_eq_true rfl) (s_X12_ofPlace E l _ (by omega) _ a p (7 + k) hw (by first | omega | assumption) (by first | omega | assumption) (by first | omega | assumption)) (pc' := 59) rfl (fun vv M_56 hq co56 hcm56 => ?_)
      obtain ⟨rfl, rfl⟩ := hq
      refine ax_reS (st2 := [.inl (f_P w a p (7 + k))]) rfl ?_
      have cc56 : -2147483648 ≤ f_P w a p (7 + k) ∧ f_P w a p (7 + k) < 2147483648 := co56 _ rfl
      refine ax_aload_n dX12_sinceBoth_59 rfl rfl (pc' := 60) rfl ?_
      refine ax_iload_n dX12_sinceBoth_60 rfl rfl (pc' := 61) rfl ?_
      refine ax_iload dX12_sinceBoth_61 rfl (pc' := 63) rfl ?_
      refine ax_bipush dX12_sinceBoth_63 (by decide) (pc' := 65) rfl ?_
      refine ax_iload dX12_sinceBoth_65 rfl (pc' := 67) rfl ?_
      refine ax_iadd dX12_sinceBoth_67 (by omega) (pc' := 68) rfl ?_
      refine ax_invG [.inl b, .inl q, .inl (7 + k)] [.inl (f_P w a p (7 + k))] dX12_sinceBoth_68 mlX12_86 sh_330 rfl rfl rfl (Nat.le_of_ble_eq_true rfl) (s_X12_ofPlace E l _ (by omega) _ b q (7 + k) hw (by first | omega | assumption) (by first | omega | assumption) (by first | omega | assumption)) (pc' := 71) rfl (fun vv M_68 hq co68 hcm68 => ?_)
      obtain ⟨rfl, rfl⟩ := hq
      refine ax_reS (st2 := [.inl (f_P w b q (7 + k)), .inl (f_P w a p (7 + k))]) rfl ?_
      have cc68 : -2147483648 ≤ f_P w b q (7 + k) ∧ f_P w b q (7 + k) < 2147483648 := co68 _ rfl
      refine ax_insG [.inl (f_P w a p (7 + k)), .inl (f_P w b q (7 + k))] [] dX12_sinceBoth_71 mlX12_334 rfl rfl (Nat.le_of_ble_eq_true rfl) (s_X12_lesser E l _ (by omega) _ (f_P w a p (7 + k)) (f_P w b q (7 + k))) (pc' := 74) rfl (fun vv M_71 hq co71 hcm71 => ?_)
      obtain ⟨rfl, rfl⟩ := hq
      refine ax_reS (st2 := [.inl (min (f_P w a p (7 + k)) (f_P w b q (7 + k)))]) rfl ?_
      have cc71 : -2147483648 ≤ min (f_P w a p (7 + k)) (f_P w b q (7 + k)) ∧ min (f_P w a p (7 + k)) (f_P w b q (7 + k)) < 2147483648 := co71 _ rfl
      refine ax_iret dX12_sinceBoth_74 rfl ?_
      refine ⟨rfl, ?_, ?_⟩
      · refine congrArg (fun z => some (Sum.inl z)) ?_
        unfold f_snb
        first | rw [if_pos h8] | rw [if_neg h8, if_pos h33] | rw [if_neg h8, if_neg h33]
      · rfl
    · refine ax_aload_n dX12_sinceBoth_36 rfl rfl (pc' := 37) rfl ?_
      refine ax_iload_n dX12_sinceBoth_37 rfl rfl (pc' := 38) rfl ?_
      refine ax_iload_n dX12_sinceBoth_38 rfl rfl (pc' := 39) rfl ?_
      refine ax_bipush dX12_sinceBoth_39 (by decide) (pc' := 41) rfl ?_
      refine ax_iload dX12_sinceBoth_41 rfl (pc' := 43) rfl ?_
      refine ax_iadd dX12_sinceBoth_43 (by omega) (pc' := 44) rfl ?_
      refine ax_invG [.inl a, .inl p, .inl (7 + k)] [] dX12_sinceBoth_44 mlX12_86 sh_330 rfl rfl rfl (Nat.le_of_ble_eq_true rfl) (s_X12_ofPlace E l _ (by omega) _ a p (7 + k) hw (by first | omega | assumption) (by first | omega | assumption) (by first | omega | assumption)) (pc' := 47) rfl (fun vv M_44 hq co44 hcm44 => ?_)
      obtain ⟨rfl, rfl⟩ := hq
      refine ax_reS (st2 := [.inl (f_P w a p (7 + k))]) rfl ?_
      have cc44 : -2147483648 ≤ f_P w a p (7 + k) ∧ f_P w a p (7 + k) < 2147483648 := co44 _ rfl
      refine ax_iret dX12_sinceBoth_47 rfl ?_
      refine ⟨rfl, ?_, ?_⟩
      · refine congrArg (fun z => some (Sum.inl z)) ?_
        unfold f_snb
        first | rw [if_pos h8] | rw [if_neg h8, if_pos h33] | rw [if_neg h8, if_neg h33]
      · rfl
  · refine ax_aload_n dX12_sinceBoth_11 rfl rfl (pc' := 12) rfl ?_
    refine ax_iload_n dX12_sinceBoth_12 rfl rfl (pc' := 13) rfl ?_
    refine ax_iload dX12_sinceBoth_13 rfl (pc' := 15) rfl ?_
    refine ax_bipush dX12_sinceBoth_15 (by decide) (pc' := 17) rfl ?_
    refine ax_iload dX12_sinceBoth_17 rfl (pc' := 19) rfl ?_
    refine ax_iadd dX12_sinceBoth_19 (by omega) (pc' := 20) rfl ?_
    refine ax_invG [.inl b, .inl q, .inl (7 + k)] [] dX12_sinceBoth_20 mlX12_86 sh_330 rfl rfl rfl (Nat.le_of_ble_eq_true rfl) (s_X12_ofPlace E l _ (by omega) _ b q (7 + k) hw (by first | omega | assumption) (by first | omega | assumption) (by first | omega | assumption)) (pc' := 23) rfl (fun vv M_20 hq co20 hcm20 => ?_)
    obtain ⟨rfl, rfl⟩ := hq
    refine ax_reS (st2 := [.inl (f_P w b q (7 + k))]) rfl ?_
    have cc20 : -2147483648 ≤ f_P w b q (7 + k) ∧ f_P w b q (7 + k) < 2147483648 := co20 _ rfl
    refine ax_iret dX12_sinceBoth_23 rfl ?_
    refine ⟨rfl, ?_, ?_⟩
    · refine congrArg (fun z => some (Sum.inl z)) ?_
      unfold f_snb
      first | rw [if_pos h8] | rw [if_neg h8, if_pos h33] | rw [if_neg h8, if_neg h33]
    · rfl
set_option maxRecDepth 20000 in
theorem s_X12_splice_no (E : ax_Env) (l : Launch) (d : Nat) (hd : 3 ≤ d) (M : ax_Mem) (a b : Int) {w : Int → Int} (hw : M 331 = w) (hg0 : f_iv w) (hg1 : ¬ (f_isR w a ∧ f_isR w b ∧ a ≠ b ∧ f_R w a 1 + f_R w b 1 ≤ 24)) : ax_G E l d iX12_splice [.inr 330, .inl a, .inl b] M (fun z0 M2 => z0 = some (.inl (-1)) ∧ M = M2) := by
  obtain ⟨d, rfl⟩ : ∃ d0, d = d0 + 1 := ⟨d - 1, by omega⟩
  refine ax_start rfl (Nat.le_of_ble_eq_true rfl) (ls := [some (.inr 330), some (.inl a), some (.inl b), none, none, none, none]) rfl (fun hav hcm => ?_)
  have hc1 : -2147483648 ≤ a ∧ a < 2147483648 := hav (.inl a) (by simp)
  have hc2 : -2147483648 ≤ b ∧ b < 2147483648 := hav (.inl b) (by simp)
  clear hav
  refine ax_aload_n dX12_splice_0 rfl rfl (pc' := 1) rfl ?_
  refine ax_iload_n dX12_splice_1 rfl rfl (pc' := 2) rfl ?_
  refine ax_invG [.inl a] [] dX12_splice_2 mlX12_82 sh_330 rfl rfl rfl (Nat.le_of_ble_eq_true rfl) (s_X12_isRope E l _ (by omega) _ a hw) (pc' := 5) rfl (fun vv M_2 hq co2 hcm2 => ?_)
  obtain ⟨rfl, rfl⟩ := hq
  refine ax_reS (st2 := [.inl (f_b (f_isR w a))]) rfl ?_
  refine ax_if_eq (tgt := 39) dX12_splice_5 (by decide) (pc' := 8) rfl (fun h5 => ?_) (fun h5 => ?_)
  · replace h5 := f_b_0 h5
    refine ax_iconst dX12_splice_39 (by decide) (pc' := 40) rfl ?_
    refine ax_iret dX12_splice_40 rfl ?_
    refine ⟨rfl, ?_, ?_⟩
    · rfl
    · rfl
  · replace h5 := f_b_1 h5
    refine ax_aload_n dX12_splice_8 rfl rfl (pc' := 9) rfl ?_
    refine ax_iload_n dX12_splice_9 rfl rfl (pc' := 10) rfl ?_
    refine ax_invG [.inl b] [] dX12_splice_10 mlX12_82 sh_330 rfl rfl rfl (Nat.le_of_ble_eq_true rfl) (s_X12_isRope E l _ (by omega) _ b hw) (pc' := 13) rfl (fun vv M_10 hq co10 hcm10 => ?_)
    obtain ⟨rfl, rfl⟩ := hq
    refine ax_reS (st2 := [.inl (f_b (f_isR w b))]) rfl ?_
    refine ax_if_eq (tgt := 39) dX12_splice_13 (by decide) (pc' := 16) rfl (fun h13 => ?_) (fun h13 => ?_)
    · replace h13 := f_b_0 h13
      refine ax_iconst dX12_splice_39 (by decide) (pc' := 40) rfl ?_
      refine ax_iret dX12_splice_40 rfl ?_
      refine ⟨rfl, ?_, ?_⟩
      · rfl
      · rfl
    · replace h13 := f_b_1 h13
      have qa1 := hg0.1 a (by omega) (by omega)
      have qa2 := hg0.1 b (by omega) (by omega)
      refine ax_iload_n dX12_splice_16 rfl rfl (pc' := 17) rfl ?_
      refine ax_iload_n dX12_splice_17 rfl rfl (pc' := 18) rfl ?_
      refine ax_icmp_eq (tgt := 39) dX12_splice_18 (by decide) (pc' := 21) rfl (fun h18 => ?_) (fun h18 => ?_)
      · refine ax_iconst dX12_splice_39 (by decide) (pc' := 40) rfl ?_
        refine ax_iret dX12_splice_40 rfl ?_
        refine ⟨rfl, ?_, ?_⟩
        · rfl
        · rfl
      · refine ax_aload_n dX12_splice_21 rfl rfl (pc' := 22) rfl ?_
        refine ax_iload_n dX12_splice_22 rfl rfl (pc' := 23) rfl ?_
        refine ax_iconst dX12_splice_23 (by decide) (pc' := 24) rfl ?_
        refine ax_invG [.inl a, .inl 1] [] dX12_splice_24 mlX12_78 sh_330 rfl rfl rfl (Nat.le_of_ble_eq_true rfl) (s_X12_ofRope E l _ (by omega) _ a 1 hw (by first | omega | assumption) (by first | omega | assumption)) (pc' := 27) rfl (fun vv M_24 hq co24 hcm24 => ?_)
        obtain ⟨rfl, rfl⟩ := hq
        refine ax_reS (st2 := [.inl (f_R w a 1)]) rfl ?_
        have cc24 : -2147483648 ≤ f_R w a 1 ∧ f_R w a 1 < 2147483648 := co24 _ rfl
        refine ax_aload_n dX12_splice_27 rfl rfl (pc' := 28) rfl ?_
        refine ax_iload_n dX12_splice_28 rfl rfl (pc' := 29) rfl ?_
        refine ax_iconst dX12_splice_29 (by decide) (pc' := 30) rfl ?_
        refine ax_invG [.inl b, .inl 1] [.inl (f_R w a 1)] dX12_splice_30 mlX12_78 sh_330 rfl rfl rfl (Nat.le_of_ble_eq_true rfl) (s_X12_ofRope E l _ (by omega) _ b 1 hw (by first | omega | assumption) (by first | omega | assumption)) (pc' := 33) rfl (fun vv M_30 hq co30 hcm30 => ?_)
        obtain ⟨rfl, rfl⟩ := hq
        refine ax_reS (st2 := [.inl (f_R w b 1), .inl (f_R w a 1)]) rfl ?_
        have cc30 : -2147483648 ≤ f_R w b 1 ∧ f_R w b 1 < 2147483648 := co30 _ rfl
        refine ax_iadd dX12_splice_33 (by omega) (pc' := 34) rfl ?_
        refine ax_bipush dX12_splice_34 (by decide) (pc' := 36) rfl ?_
        refine ax_icmp_le (tgt := 41) dX12_splice_36 (by decide) (pc' := 39) rfl (fun h36 => ?_) (fun h36 => ?_)
        · exfalso
          omega
        · refine ax_iconst dX12_splice_39 (by decide) (pc' := 40) rfl ?_
          refine ax_iret dX12_splice_40 rfl ?_
          refine ⟨rfl, ?_, ?_⟩
          · rfl
          · rfl
set_option maxRecDepth 20000 in
theorem s_X12_splice_ok (E : ax_Env) (l : Launch) (d : Nat) (hd : 3 ≤ d) (M : ax_Mem) (a b : Int) {w : Int → Int} (hw : M 331 = w) {bk : Int → Int} (hbk : M 333 = bk) {m : Int} (hm : M 330 4 = m) (hg0 : f_iv w) (hg1 : 0 ≤ m ∧ m ≤ 5) (hg2 : f_isR w a ∧ f_isR w b ∧ a ≠ b ∧ f_R w a 1 + f_R w b 1 ≤ 24) (hg3 : 1 ≤ f_R w a 1) : ax_G E l d iX12_splice [.inr 330, .inl a, .inl b] M (fun z0 M2 => z0 = some (.inl (f_R (f_splice w a b) a 1)) ∧ (∀ x0 i0 : Int, ¬ (x0 = 331 ∨ x0 = 333 ∨ (x0 = 330 ∧ i0 = 4)) → M2 x0 i0 = M x0 i0) ∧ M2 331 = f_splice w a b ∧ M2 333 = f_keep bk w m ∧ M2 330 4 = f_keepN m) := by
  obtain ⟨d, rfl⟩ : ∃ d0, d = d0 + 1 := ⟨d - 1, by omega⟩
  refine ax_start rfl (Nat.le_of_ble_eq_true rfl) (ls := [some (.inr 330), some (.inl a), some (.inl b), none, none, none, none]) rfl (fun hav hcm => ?_)
  have hc1 : -2147483648 ≤ a ∧ a < 2147483648 := hav (.inl a) (by simp)
  have hc2 : -2147483648 ≤ b ∧ b < 2147483648 := hav (.inl b) (by simp)
  clear hav
  have qa1 := hg0.1 a (by omega) (by omega)
  have qa2 := hg0.1 b (by omega) (by omega)
  have i0 := hg0.2.2.2.1
  have ha : 0 ≤ a ∧ a < 8 := by omega
  have hb : 0 ≤ b ∧ b < 8 := by omega
  obtain ⟨qs1, qs2⟩ := f_iv_sp1 (n := f_R w a 1) ha hb (by omega) hg0
  obtain ⟨qs3, qs4⟩ := f_iv_sp2 (n := f_R w a 1) ha hb (by omega) hg0
  refine ax_aload_n dX12_splice_0 rfl rfl (pc' := 1) rfl ?_
  refine ax_iload_n dX12_splice_1 rfl rfl (pc' := 2) rfl ?_
  refine ax_invG [.inl a] [] dX12_splice_2 mlX12_82 sh_330 rfl rfl rfl (Nat.le_of_ble_eq_true rfl) (s_X12_isRope E l _ (by omega) _ a hw) (pc' := 5) rfl (fun vv M_2 hq co2 hcm2 => ?_)
  obtain ⟨rfl, rfl⟩ := hq
  refine ax_reS (st2 := [.inl (f_b (f_isR w a))]) rfl ?_
  refine ax_if_eq (tgt := 39) dX12_splice_5 (by decide) (pc' := 8) rfl (fun h5 => ?_) (fun h5 => ?_)
  · replace h5 := f_b_0 h5
    exfalso
    omega
  · replace h5 := f_b_1 h5
    refine ax_aload_n dX12_splice_8 rfl rfl (pc' := 9) rfl ?_
    refine ax_iload_n dX12_splice_9 rfl rfl (pc' := 10) rfl ?_
    refine ax_invG [.inl b] [] dX12_splice_10 mlX12_82 sh_330 rfl rfl rfl (Nat.le_of_ble_eq_true rfl) (s_X12_isRope E l _ (by omega) _ b hw) (pc' := 13) rfl (fun vv M_10 hq co10 hcm10 => ?_)
    obtain ⟨rfl, rfl⟩ := hq
    refine ax_reS (st2 := [.inl (f_b (f_isR w b))]) rfl ?_
    refine ax_if_eq (tgt := 39) dX12_splice_13 (by decide) (pc' := 16) rfl (fun h13 => ?_) (fun h13 => ?_)
    · replace h13 := f_b_0 h13
      exfalso
      omega
    · replace h13 := f_b_1 h13
      refine ax_iload_n dX12_splice_16 rfl rfl (pc' := 17) rfl ?_
      refine ax_iload_n dX12_splice_17 rfl rfl (pc' := 18) rfl ?_
      refine ax_icmp_eq (tgt := 39) dX12_splice_18 (by decide) (pc' := 21) rfl (fun h18 => ?_) (fun h18 => ?_)
      · exfalso
        omega
      · refine ax_aload_n dX12_splice_21 rfl rfl (pc' := 22) rfl ?_
        refine ax_iload_n dX12_splice_22 rfl rfl (pc' := 23) rfl ?_
        refine ax_iconst dX12_splice_23 (by decide) (pc' := 24) rfl ?_
        refine ax_invG [.inl a, .inl 1] [] dX12_splice_24 mlX12_78 sh_330 rfl rfl rfl (Nat.le_of_ble_eq_true rfl) (s_X12_ofRope E l _ (by omega) _ a 1 hw (by first | omega | assumption) (by first | omega | assumption)) (pc' := 27) rfl (fun vv M_24 hq co24 hcm24 => ?_)
        obtain ⟨rfl, rfl⟩ := hq
        refine ax_reS (st2 := [.inl (f_R w a 1)]) rfl ?_
        have cc24 : -2147483648 ≤ f_R w a 1 ∧ f_R w a 1 < 2147483648 := co24 _ rfl
        refine ax_aload_n dX12_splice_27 rfl rfl (pc' := 28) rfl ?_
        refine ax_iload_n dX12_splice_28 rfl rfl (pc' := 29) rfl ?_
        refine ax_iconst dX12_splice_29 (by decide) (pc' := 30) rfl ?_
        refine ax_invG [.inl b, .inl 1] [.inl (f_R w a 1)] dX12_splice_30 mlX12_78 sh_330 rfl rfl rfl (Nat.le_of_ble_eq_true rfl) (s_X12_ofRope E l _ (by omega) _ b 1 hw (by first | omega | assumption) (by first | omega | assumption)) (pc' := 33) rfl (fun vv M_30 hq co30 hcm30 => ?_)
        obtain ⟨rfl, rfl⟩ := hq
        refine ax_reS (st2 := [.inl (f_R w b 1), .inl (f_R w a 1)]) rfl ?_
        have cc30 : -2147483648 ≤ f_R w b 1 ∧ f_R w b 1 < 2147483648 := co30 _ rfl
        refine ax_iadd dX12_splice_33 (by omega) (pc' := 34) rfl ?_
        refine ax_bipush dX12_splice_34 (by decide) (pc' := 36) rfl ?_
        refine ax_icmp_le (tgt := 41) dX12_splice_36 (by decide) (pc' := 39) rfl (fun h36 => ?_) (fun h36 => ?_)
        · refine ax_aload_n dX12_splice_41 rfl rfl (pc' := 42) rfl ?_
          refine ax_invG [] [] dX12_splice_42 mlX12_379 sh_330 rfl rfl rfl (Nat.le_of_ble_eq_true rfl) (s_X12_keeps E l _ (by omega) _ hw hbk hm (by first | omega | assumption)) (pc' := 45) rfl (fun vv M_42 hq co42 hcm42 => ?_)
          obtain ⟨rfl, frM_42, mrM_42_0, msM_42_0⟩ := hq
          refine ax_reS (st2 := []) rfl ?_
          refine ax_aload_n dX12_splice_45 rfl rfl (pc' := 46) rfl ?_
          refine ax_iload_n dX12_splice_46 rfl rfl (pc' := 47) rfl ?_
          refine ax_iconst dX12_splice_47 (by decide) (pc' := 48) rfl ?_
          refine ax_invG [.inl a, .inl 1] [] dX12_splice_48 mlX12_78 sh_330 rfl rfl rfl (Nat.le_of_ble_eq_true rfl) (s_X12_ofRope E l _ (by omega) _ a 1 ((funext fun i0 => frM_42 331 i0 (by omega)).trans hw) (by first | omega | assumption) (by first | omega | assumption)) (pc' := 51) rfl (fun vv M_48 hq co48 hcm48 => ?_)
          obtain ⟨rfl, rfl⟩ := hq
          refine ax_reS (st2 := [.inl (f_R w a 1)]) rfl ?_
          have cc48 : -2147483648 ≤ f_R w a 1 ∧ f_R w a 1 < 2147483648 := co48 _ rfl
          refine ax_istore_n dX12_splice_51 rfl (by decide) (ls' := [some (.inr 330), some (.inl a), some (.inl b), some (.inl (f_R w a 1)), none, none, none]) rfl (pc' := 52) rfl ?_
          refine ax_aload_n dX12_splice_52 rfl rfl (pc' := 53) rfl ?_
          refine ax_iload_n dX12_splice_53 rfl rfl (pc' := 54) rfl ?_
          refine ax_iload_n dX12_splice_54 rfl rfl (pc' := 55) rfl ?_
          refine ax_iload_n dX12_splice_55 rfl rfl (pc' := 56) rfl ?_
          refine ax_iconst dX12_splice_56 (by decide) (pc' := 57) rfl ?_
          refine ax_iconst dX12_splice_57 (by decide) (pc' := 58) rfl ?_
          refine ax_invG [.inl a, .inl (f_R w a 1), .inl b, .inl 4, .inl (-1)] [] dX12_splice_58 mlX12_373 sh_330 rfl rfl rfl (Nat.le_of_ble_eq_true rfl) (s_X12_notes E l _ (by omega) _ a (f_R w a 1) b 4 (-1) ((funext fun i0 => frM_42 331 i0 (by omega)).trans hw) (by first | omega | assumption)) (pc' := 61) rfl (fun vv M_58 hq co58 hcm58 => ?_)
          obtain ⟨rfl, frM_58, mrM_58_0⟩ := hq
          refine ax_reS (st2 := []) rfl ?_
          refine ax_iconst dX12_splice_61 (by decide) (pc' := 62) rfl ?_
          refine ax_istore dX12_splice_62 (by decide) (ls' := [some (.inr 330), some (.inl a), some (.inl b), some (.inl (f_R w a 1)), some (.inl 0), none, none]) rfl (pc' := 64) rfl ?_
          have LP1 : ∀ (kq2 : Nat) (k : Int) (wv1 : Int → Int) (M1 : ax_Mem) (hm1 : 6 - k < (kq2 : Nat)) (fr1 : ∀ x0 i0 : Int, ¬ (x0 = 331) → M1 x0 i0 = M_58 x0 i0) (mr1_331 : M1 331 = wv1) (iv1_0 : 0 ≤ k ∧ k ≤ 6) (iv1_1 : f_loop (f_spS a (f_R w a 1) b) k 6 wv1 = f_sp1 w a (f_R w a 1) b) (iv1_2 : f_iv wv1), ax_W E l (d + 1) 0 0 iX12_splice 64 [some (.inr 330), some (.inl a), some (.inl b), some (.inl (f_R w a 1)), some (.inl k), none, none] [] SH M1 (ax_P (fun z0 M2 => z0 = some (.inl (f_R (f_splice w a b) a 1)) ∧ (∀ x0 i0 : Int, ¬ (x0 = 331 ∨ x0 = 333 ∨ (x0 = 330 ∧ i0 = 4)) → M2 x0 i0 = M x0 i0) ∧ M2 331 = f_splice w a b ∧ M2 333 = f_keep bk w m ∧ M2 330 4 = f_keepN m)) := by
            intro kq2
            induction kq2 with
            | zero =>
              intro k wv1 M1 hm1 fr1 mr1_331 iv1_0 iv1_1 iv1_2
              exfalso
              omega
            | succ kq2 ih3 =>
              intro k wv1 M1 hm1 fr1 mr1_331 iv1_0 iv1_1 iv1_2
              refine ax_iload dX12_splice_64 rfl (pc' := 66) rfl ?_
              refine ax_bipush dX12_splice_66 (by decide) (pc' := 68) rfl ?_
              refine ax_icmp_ge (tgt := 140) dX12_splice_68 (by decide) (pc' := 71) rfl (fun h68 => ?_) (fun h68 => ?_)
              · have qe1 : wv1 = f_sp1 w a (f_R w a 1) b := (f_loop_done (by omega)).symm.trans iv1_1
                refine ax_iconst dX12_splice_140 (by decide) (pc' := 141) rfl ?_
                refine ax_istore dX12_splice_141 (by decide) (ls' := [some (.inr 330), some (.inl a), some (.inl b), some (.inl (f_R w a 1)), some (.inl 0), none, none]) rfl (pc' := 143) rfl ?_
                have LP4 : ∀ (kq5 : Nat) (q : Int) (wv2 : Int → Int) (M4 : ax_Mem) (hm4 : f_R w b 1 - q < (kq5 : Nat)) (fr4 : ∀ x0 i0 : Int, ¬ (x0 = 331) → M4 x0 i0 = M1 x0 i0) (mr4_331 : M4 331 = wv2) (iv4_0 : 0 ≤ q ∧ q ≤ f_R w b 1) (iv4_1 : f_loop (fun q x => f_cpy x a (f_R w a 1 + q) b q) q (f_R w b 1) wv2 = f_sp2 w a (f_R w a 1) b) (iv4_2 : f_R wv2 b 1 = f_R w b 1), ax_W E l (d + 1) 0 0 iX12_splice 143 [some (.inr 330), some (.inl a), some (.inl b), some (.inl (f_R w a 1)), some (.inl q), none, none] [] SH M4 (ax_P (fun z0 M2 => z0 = some (.inl (f_R (f_splice w a b) a 1)) ∧ (∀ x0 i0 : Int, ¬ (x0 = 331 ∨ x0 = 333 ∨ (x0 = 330 ∧ i0 = 4)) → M2 x0 i0 = M x0 i0) ∧ M2 331 = f_splice w a b ∧ M2 333 = f_keep bk w m ∧ M2 330 4 = f_keepN m)) := by
                  intro kq5
                  induction kq5 with
                  | zero =>
                    intro q wv2 M4 hm4 fr4 mr4_331 iv4_0 iv4_1 iv4_2
                    exfalso
                    omega
                  | succ kq5 ih6 =>
                    intro q wv2 M4 hm4 fr4 mr4_331 iv4_0 iv4_1 iv4_2
                    refine ax_iload dX12_splice_143 rfl (pc' := 145) rfl ?_
                    refine ax_aload_n dX12_splice_145 rfl rfl (pc' := 146) rfl ?_
                    refine ax_iload_n dX12_splice_146 rfl rfl (pc' := 147) rfl ?_
                    refine ax_iconst dX12_splice_147 (by decide) (pc' := 148) rfl ?_
                    refine ax_invG [.inl b, .inl 1] [.inl q] dX12_splice_148 mlX12_78 sh_330 rfl rfl rfl (Nat.le_of_ble_eq_true rfl) (s_X12_ofRope E l _ (by omega) _ b 1 mr4_331 (by first | omega | assumption) (by first | omega | assumption)) (pc' := 151) rfl (fun vv M_148 hq co148 hcm148 => ?_)
                    obtain ⟨rfl, rfl⟩ := hq
                    refine ax_reS (st2 := [.inl (f_R wv2 b 1), .inl q]) rfl ?_
                    have cc148 : -2147483648 ≤ f_R wv2 b 1 ∧ f_R wv2 b 1 < 2147483648 := co148 _ rfl
                    refine ax_icmp_ge (tgt := 172) dX12_splice_151 (by decide) (pc' := 154) rfl (fun h151 => ?_) (fun h151 => ?_)
                    · have qe2 : wv2 = f_sp2 w a (f_R w a 1) b := (f_loop_done (by omega)).symm.trans iv4_1
                      refine ax_aload_n dX12_splice_172 rfl rfl (pc' := 173) rfl ?_
                      refine ax_iload_n dX12_splice_173 rfl rfl (pc' := 174) rfl ?_
                      refine ax_iconst dX12_splice_174 (by decide) (pc' := 175) rfl ?_
                      refine ax_iload_n dX12_splice_175 rfl rfl (pc' := 176) rfl ?_
                      refine ax_aload_n dX12_splice_176 rfl rfl (pc' := 177) rfl ?_
                      refine ax_iload_n dX12_splice_177 rfl rfl (pc' := 178) rfl ?_
                      refine ax_iconst dX12_splice_178 (by decide) (pc' := 179) rfl ?_
                      refine ax_invG [.inl b, .inl 1] [.inl (f_R w a 1), .inl 1, .inl a, .inr 330] dX12_splice_179 mlX12_78 sh_330 rfl rfl rfl (Nat.le_of_ble_eq_true rfl) (s_X12_ofRope E l _ (by omega) _ b 1 mr4_331 (by first | omega | assumption) (by first | omega | assumption)) (pc' := 182) rfl (fun vv M_179 hq co179 hcm179 => ?_)
                      obtain ⟨rfl, rfl⟩ := hq
                      refine ax_reS (st2 := [.inl (f_R wv2 b 1), .inl (f_R w a 1), .inl 1, .inl a, .inr 330]) rfl ?_
                      have cc179 : -2147483648 ≤ f_R wv2 b 1 ∧ f_R wv2 b 1 < 2147483648 := co179 _ rfl
                      refine ax_iadd dX12_splice_182 (by omega) (pc' := 183) rfl ?_
                      refine ax_invG [.inl a, .inl 1, .inl (f_R w a 1 + (f_R wv2 b 1))] [] dX12_splice_183 mlX12_98 sh_330 rfl rfl rfl (Nat.le_of_ble_eq_true rfl) (s_X12_ropes E l _ (by omega) _ a 1 (f_R w a 1 + (f_R wv2 b 1)) mr4_331 (by first | omega | assumption) (by first | omega | assumption)) (pc' := 186) rfl (fun vv M_183 hq co183 hcm183 => ?_)
                      obtain ⟨rfl, frM_183, mrM_183_0⟩ := hq
                      refine ax_reS (st2 := []) rfl ?_
                      refine ax_aload_n dX12_splice_186 rfl rfl (pc' := 187) rfl ?_
                      refine ax_iload_n dX12_splice_187 rfl rfl (pc' := 188) rfl ?_
                      refine ax_iconst dX12_splice_188 (by decide) (pc' := 189) rfl ?_
                      refine ax_aload_n dX12_splice_189 rfl rfl (pc' := 190) rfl ?_
                      refine ax_iload_n dX12_splice_190 rfl rfl (pc' := 191) rfl ?_
                      refine ax_iconst dX12_splice_191 (by decide) (pc' := 192) rfl ?_
                      refine ax_invG [.inl a, .inl 4] [.inl 4, .inl a, .inr 330] dX12_splice_192 mlX12_78 sh_330 rfl rfl rfl (Nat.le_of_ble_eq_true rfl) (s_X12_ofRope E l _ (by omega) _ a 4 mrM_183_0 (by first | omega | assumption) (by first | omega | assumption)) (pc' := 195) rfl (fun vv M_192 hq co192 hcm192 => ?_)
                      obtain ⟨rfl, rfl⟩ := hq
                      refine ax_reS (st2 := [.inl (f_R (f_sR wv2 a 1 (f_R w a 1 + (f_R wv2 b 1))) a 4), .inl 4, .inl a, .inr 330]) rfl ?_
                      have cc192 : -2147483648 ≤ f_R (f_sR wv2 a 1 (f_R w a 1 + (f_R wv2 b 1))) a 4 ∧ f_R (f_sR wv2 a 1 (f_R w a 1 + (f_R wv2 b 1))) a 4 < 2147483648 := co192 _ rfl
                      refine ax_aload_n dX12_splice_195 rfl rfl (pc' := 196) rfl ?_
                      refine ax_iload_n dX12_splice_196 rfl rfl (pc' := 197) rfl ?_
                      refine ax_iconst dX12_splice_197 (by decide) (pc' := 198) rfl ?_
                      refine ax_invG [.inl b, .inl 4] [.inl (f_R (f_sR wv2 a 1 (f_R w a 1 + (f_R wv2 b 1))) a 4), .inl 4, .inl a, .inr 330] dX12_splice_198 mlX12_78 sh_330 rfl rfl rfl (Nat.le_of_ble_eq_true rfl) (s_X12_ofRope E l _ (by omega) _ b 4 mrM_183_0 (by first | omega | assumption) (by first | omega | assumption)) (pc' := 201) rfl (fun vv M_198 hq co198 hcm198 => ?_)
                      obtain ⟨rfl, rfl⟩ := hq
                      refine ax_reS (st2 := [.inl (f_R (f_sR wv2 a 1 (f_R w a 1 + (f_R wv2 b 1))) b 4), .inl (f_R (f_sR wv2 a 1 (f_R w a 1 + (f_R wv2 b 1))) a 4), .inl 4, .inl a, .inr 330]) rfl ?_
                      have cc198 : -2147483648 ≤ f_R (f_sR wv2 a 1 (f_R w a 1 + (f_R wv2 b 1))) b 4 ∧ f_R (f_sR wv2 a 1 (f_R w a 1 + (f_R wv2 b 1))) b 4 < 2147483648 := co198 _ rfl
                      refine ax_insG [.inl (f_R (f_sR wv2 a 1 (f_R w a 1 + (f_R wv2 b 1))) a 4), .inl (f_R (f_sR wv2 a 1 (f_R w a 1 + (f_R wv2 b 1))) b 4)] [.inl 4, .inl a, .inr 330] dX12_splice_201 mlX12_337 rfl rfl (Nat.le_of_ble_eq_true rfl) (s_X12_greater E l _ (by omega) _ (f_R (f_sR wv2 a 1 (f_R w a 1 + (f_R wv2 b 1))) a 4) (f_R (f_sR wv2 a 1 (f_R w a 1 + (f_R wv2 b 1))) b 4)) (pc' := 204) rfl (fun vv M_201 hq co201 hcm201 => ?_)
                      obtain ⟨rfl, rfl⟩ := hq
                      refine ax_reS (st2 := [.inl (max (f_R (f_sR wv2 a 1 (f_R w a 1 + (f_R wv2 b 1))) a 4) (f_R (f_sR wv2 a 1 (f_R w a 1 + (f_R wv2 b 1))) b 4)), .inl 4, .inl a, .inr 330]) rfl ?_
                      have cc201 : -2147483648 ≤ max (f_R (f_sR wv2 a 1 (f_R w a 1 + (f_R wv2 b 1))) a 4) (f_R (f_sR wv2 a 1 (f_R w a 1 + (f_R wv2 b 1))) b 4) ∧ max (f_R (f_sR wv2 a 1 (f_R w a 1 + (f_R wv2 b 1))) a 4) (f_R (f_sR wv2 a 1 (f_R w a 1 + (f_R wv2 b 1))) b 4) < 2147483648 := co201 _ rfl
                      refine ax_invG [.inl a, .inl 4, .inl (max (f_R (f_sR wv2 a 1 (f_R w a 1 + (f_R wv2 b 1))) a 4) (f_R (f_sR wv2 a 1 (f_R w a 1 + (f_R wv2 b 1))) b 4))] [] dX12_splice_204 mlX12_98 sh_330 rfl rfl rfl (Nat.le_of_ble_eq_true rfl) (s_X12_ropes E l _ (by omega) _ a 4 (max (f_R (f_sR wv2 a 1 (f_R w a 1 + (f_R wv2 b 1))) a 4) (f_R (f_sR wv2 a 1 (f_R w a 1 + (f_R wv2 b 1))) b 4)) mrM_183_0 (by first | omega | assumption) (by first | omega | assumption)) (pc' := 207) rfl (fun vv M_204 hq co204 hcm204 => ?_)
                      obtain ⟨rfl, frM_204, mrM_204_0⟩ := hq
                      refine ax_reS (st2 := []) rfl ?_
                      refine ax_aload_n dX12_splice_207 rfl rfl (pc' := 208) rfl ?_
                      refine ax_iload_n dX12_splice_208 rfl rfl (pc' := 209) rfl ?_
                      refine ax_iconst dX12_splice_209 (by decide) (pc' := 210) rfl ?_
                      refine ax_iconst dX12_splice_210 (by decide) (pc' := 211) rfl ?_
                      refine ax_invG [.inl b, .inl 0, .inl 0] [] dX12_splice_211 mlX12_98 sh_330 rfl rfl rfl (Nat.le_of_ble_eq_true rfl) (s_X12_ropes E l _ (by omega) _ b 0 0 mrM_204_0 (by first | omega | assumption) (by first | omega | assumption)) (pc' := 214) rfl (fun vv M_211 hq co211 hcm211 => ?_)
                      obtain ⟨rfl, frM_211, mrM_211_0⟩ := hq
                      refine ax_reS (st2 := []) rfl ?_
                      refine ax_aload_n dX12_splice_214 rfl rfl (pc' := 215) rfl ?_
                      refine ax_iload_n dX12_splice_215 rfl rfl (pc' := 216) rfl ?_
                      refine ax_iconst dX12_splice_216 (by decide) (pc' := 217) rfl ?_
                      refine ax_invG [.inl a, .inl 1] [] dX12_splice_217 mlX12_78 sh_330 rfl rfl rfl (Nat.le_of_ble_eq_true rfl) (s_X12_ofRope E l _ (by omega) _ a 1 mrM_211_0 (by first | omega | assumption) (by first | omega | assumption)) (pc' := 220) rfl (fun vv M_217 hq co217 hcm217 => ?_)
                      obtain ⟨rfl, rfl⟩ := hq
                      refine ax_reS (st2 := [.inl (f_R (f_sR (f_sR (f_sR wv2 a 1 (f_R w a 1 + (f_R wv2 b 1))) a 4 (max (f_R (f_sR wv2 a 1 (f_R w a 1 + (f_R wv2 b 1))) a 4) (f_R (f_sR wv2 a 1 (f_R w a 1 + (f_R wv2 b 1))) b 4))) b 0 0) a 1)]) rfl ?_
                      have cc217 : -2147483648 ≤ f_R (f_sR (f_sR (f_sR wv2 a 1 (f_R w a 1 + (f_R wv2 b 1))) a 4 (max (f_R (f_sR wv2 a 1 (f_R w a 1 + (f_R wv2 b 1))) a 4) (f_R (f_sR wv2 a 1 (f_R w a 1 + (f_R wv2 b 1))) b 4))) b 0 0) a 1 ∧ f_R (f_sR (f_sR (f_sR wv2 a 1 (f_R w a 1 + (f_R wv2 b 1))) a 4 (max (f_R (f_sR wv2 a 1 (f_R w a 1 + (f_R wv2 b 1))) a 4) (f_R (f_sR wv2 a 1 (f_R w a 1 + (f_R wv2 b 1))) b 4))) b 0 0) a 1 < 2147483648 := co217 _ rfl
                      refine ax_iret dX12_splice_220 rfl ?_
                      refine ⟨rfl, ?_, ?_, ?_, ?_, ?_⟩
                      · refine congrArg (fun z => some (Sum.inl z)) ?_
                        rw [qe2]
                        rfl
                      · intro x0 i0 hai
                        exact ((frM_211 x0 i0 (by omega)).trans ((frM_204 x0 i0 (by omega)).trans ((frM_183 x0 i0 (by omega)).trans ((fr4 x0 i0 (by omega)).trans ((fr1 x0 i0 (by omega)).trans ((frM_58 x0 i0 (by omega)).trans ((frM_42 x0 i0 (by omega)).trans rfl)))))))
                      · refine Eq.trans mrM_211_0 ?_
                        rw [qe2]
                        rfl
                      · exact ((funext fun i0 => frM_211 333 i0 (by omega)).trans ((funext fun i0 => frM_204 333 i0 (by omega)).trans ((funext fun i0 => frM_183 333 i0 (by omega)).trans ((funext fun i0 => fr4 333 i0 (by omega)).trans ((funext fun i0 => fr1 333 i0 (by omega)).trans ((funext fun i0 => frM_58 333 i0 (by omega)).trans mrM_42_0))))))
                      · exact ((frM_211 330 4 (by omega)).trans ((frM_204 330 4 (by omega)).trans ((frM_183 330 4 (by omega)).trans ((fr4 330 4 (by omega)).trans ((fr1 330 4 (by omega)).trans ((frM_58 330 4 (by omega)).trans msM_42_0))))))
                    · refine ax_aload_n dX12_splice_154 rfl rfl (pc' := 155) rfl ?_
                      refine ax_iload_n dX12_splice_155 rfl rfl (pc' := 156) rfl ?_
                      refine ax_iload_n dX12_splice_156 rfl rfl (pc' := 157) rfl ?_
                      refine ax_iload dX12_splice_157 rfl (pc' := 159) rfl ?_
                      refine ax_iadd dX12_splice_159 (by omega) (pc' := 160) rfl ?_
                      refine ax_iload_n dX12_splice_160 rfl rfl (pc' := 161) rfl ?_
                      refine ax_iload dX12_splice_161 rfl (pc' := 163) rfl ?_
                      refine ax_invG [.inl a, .inl (f_R w a 1 + q), .inl b, .inl q] [] dX12_splice_163 mlX12_390 sh_330 rfl rfl rfl (Nat.le_of_ble_eq_true rfl) (s_X12_copies E l _ (by omega) _ a (f_R w a 1 + q) b q mr4_331 (by first | omega | assumption) (by first | omega | assumption) (by first | omega | assumption) (by first | omega | assumption)) (pc' := 166) rfl (fun vv M_163 hq co163 hcm163 => ?_)
                      obtain ⟨rfl, frM_163, mrM_163_0⟩ := hq
                      refine ax_reS (st2 := []) rfl ?_
                      refine ax_iinc dX12_splice_166 rfl (by decide) (by omega) (ls' := [some (.inr 330), some (.inl a), some (.inl b), some (.inl (f_R w a 1)), some (.inl (q + 1)), none, none]) rfl (pc' := 169) rfl ?_
                      refine ax_goto dX12_splice_169 (pc' := 143) (by decide) ?_
                      refine ih6 (q + 1) (f_cpy wv2 a (f_R w a 1 + q) b q) M_163 ?_ ?_ ?_ ?_ ?_ ?_
                      · omega
                      · intro x0 i0 hai
                        exact ((frM_163 x0 i0 (by omega)).trans ((fr4 x0 i0 (by omega)).trans rfl))
                      · exact mrM_163_0
                      · omega
                      · exact f_loop_back (by omega) iv4_1 rfl
                      · rw [f_R_cpy ha (by omega) (by omega)]
                        exact iv4_2
                refine LP4 (f_R w b 1 - 0 : Int).toNat.succ 0 wv1 M1 ?_ ?_ ?_ ?_ ?_ ?_
                · omega
                · exact fun a i _ => rfl
                · exact mr1_331
                · omega
                · rw [qe1]
                  rfl
                · rw [qe1]
                  exact qs2 b 1 (by omega)
              · refine ax_aload_n dX12_splice_71 rfl rfl (pc' := 72) rfl ?_
                refine ax_iload_n dX12_splice_72 rfl rfl (pc' := 73) rfl ?_
                refine ax_iload_n dX12_splice_73 rfl rfl (pc' := 74) rfl ?_
                refine ax_iconst dX12_splice_74 (by decide) (pc' := 75) rfl ?_
                refine ax_isub dX12_splice_75 (by omega) (pc' := 76) rfl ?_
                refine ax_iload_n dX12_splice_76 rfl rfl (pc' := 77) rfl ?_
                refine ax_iconst dX12_splice_77 (by decide) (pc' := 78) rfl ?_
                refine ax_iload dX12_splice_78 rfl (pc' := 80) rfl ?_
                refine ax_invG [.inl a, .inl (f_R w a 1 - 1), .inl b, .inl 0, .inl k] [] dX12_splice_80 mlX12_402 sh_330 rfl rfl rfl (Nat.le_of_ble_eq_true rfl) (s_X12_sinceBoth E l _ (by omega) _ a (f_R w a 1 - 1) b 0 k mr1_331 (by first | omega | assumption) (by first | omega | assumption) (by first | omega | assumption) (by first | omega | assumption) (by first | omega | assumption)) (pc' := 83) rfl (fun vv M_80 hq co80 hcm80 => ?_)
                obtain ⟨rfl, rfl⟩ := hq
                refine ax_reS (st2 := [.inl (f_snb wv1 a (f_R w a 1 - 1) b 0 k)]) rfl ?_
                have cc80 : -2147483648 ≤ f_snb wv1 a (f_R w a 1 - 1) b 0 k ∧ f_snb wv1 a (f_R w a 1 - 1) b 0 k < 2147483648 := co80 _ rfl
                refine ax_istore dX12_splice_83 (by decide) (ls' := [some (.inr 330), some (.inl a), some (.inl b), some (.inl (f_R w a 1)), some (.inl k), some (.inl (f_snb wv1 a (f_R w a 1 - 1) b 0 k)), none]) rfl (pc' := 85) rfl ?_
                refine ax_aload_n dX12_splice_85 rfl rfl (pc' := 86) rfl ?_
                refine ax_iload_n dX12_splice_86 rfl rfl (pc' := 87) rfl ?_
                refine ax_iload_n dX12_splice_87 rfl rfl (pc' := 88) rfl ?_
                refine ax_iconst dX12_splice_88 (by decide) (pc' := 89) rfl ?_
                refine ax_isub dX12_splice_89 (by omega) (pc' := 90) rfl ?_
                refine ax_iload dX12_splice_90 rfl (pc' := 92) rfl ?_
                refine ax_invG [.inl a, .inl (f_R w a 1 - 1), .inl k] [] dX12_splice_92 mlX12_354 sh_330 rfl rfl rfl (Nat.le_of_ble_eq_true rfl) (s_X12_habitOf E l _ (by omega) _ a (f_R w a 1 - 1) k mr1_331 (by first | omega | assumption) (by first | omega | assumption) (by first | omega | assumption)) (pc' := 95) rfl (fun vv M_92 hq co92 hcm92 => ?_)
                obtain ⟨rfl, rfl⟩ := hq
                refine ax_reS (st2 := [.inl (f_P wv1 a (f_R w a 1 - 1) (1 + k))]) rfl ?_
                have cc92 : -2147483648 ≤ f_P wv1 a (f_R w a 1 - 1) (1 + k) ∧ f_P wv1 a (f_R w a 1 - 1) (1 + k) < 2147483648 := co92 _ rfl
                refine ax_aload_n dX12_splice_95 rfl rfl (pc' := 96) rfl ?_
                refine ax_iload_n dX12_splice_96 rfl rfl (pc' := 97) rfl ?_
                refine ax_iconst dX12_splice_97 (by decide) (pc' := 98) rfl ?_
                refine ax_iload dX12_splice_98 rfl (pc' := 100) rfl ?_
                refine ax_invG [.inl b, .inl 0, .inl k] [.inl (f_P wv1 a (f_R w a 1 - 1) (1 + k))] dX12_splice_100 mlX12_354 sh_330 rfl rfl rfl (Nat.le_of_ble_eq_true rfl) (s_X12_habitOf E l _ (by omega) _ b 0 k mr1_331 (by first | omega | assumption) (by first | omega | assumption) (by first | omega | assumption)) (pc' := 103) rfl (fun vv M_100 hq co100 hcm100 => ?_)
                obtain ⟨rfl, rfl⟩ := hq
                refine ax_reS (st2 := [.inl (f_P wv1 b 0 (1 + k)), .inl (f_P wv1 a (f_R w a 1 - 1) (1 + k))]) rfl ?_
                have cc100 : -2147483648 ≤ f_P wv1 b 0 (1 + k) ∧ f_P wv1 b 0 (1 + k) < 2147483648 := co100 _ rfl
                refine ax_insG [.inl (f_P wv1 a (f_R w a 1 - 1) (1 + k)), .inl (f_P wv1 b 0 (1 + k))] [] dX12_splice_103 mlX12_337 rfl rfl (Nat.le_of_ble_eq_true rfl) (s_X12_greater E l _ (by omega) _ (f_P wv1 a (f_R w a 1 - 1) (1 + k)) (f_P wv1 b 0 (1 + k))) (pc' := 106) rfl (fun vv M_103 hq co103 hcm103 => ?_)
                obtain ⟨rfl, rfl⟩ := hq
                refine ax_reS (st2 := [.inl (max (f_P wv1 a (f_R w a 1 - 1) (1 + k)) (f_P wv1 b 0 (1 + k)))]) rfl ?_
                have cc103 : -2147483648 ≤ max (f_P wv1 a (f_R w a 1 - 1) (1 + k)) (f_P wv1 b 0 (1 + k)) ∧ max (f_P wv1 a (f_R w a 1 - 1) (1 + k)) (f_P wv1 b 0 (1 + k)) < 2147483648 := co103 _ rfl
                refine ax_istore dX12_splice_106 (by decide) (ls' := [some (.inr 330), some (.inl a), some (.inl b), some (.inl (f_R w a 1)), some (.inl k), some (.inl (f_snb wv1 a (f_R w a 1 - 1) b 0 k)), some (.inl (max (f_P wv1 a (f_R w a 1 - 1) (1 + k)) (f_P wv1 b 0 (1 + k))))]) rfl (pc' := 108) rfl ?_
                refine ax_aload_n dX12_splice_108 rfl rfl (pc' := 109) rfl ?_
                refine ax_iload_n dX12_splice_109 rfl rfl (pc' := 110) rfl ?_
                refine ax_iload_n dX12_splice_110 rfl rfl (pc' := 111) rfl ?_
                refine ax_iconst dX12_splice_111 (by decide) (pc' := 112) rfl ?_
                refine ax_isub dX12_splice_112 (by omega) (pc' := 113) rfl ?_
                refine ax_iload dX12_splice_113 rfl (pc' := 115) rfl ?_
                refine ax_iload dX12_splice_115 rfl (pc' := 117) rfl ?_
                refine ax_iload dX12_splice_117 rfl (pc' := 119) rfl ?_
                refine ax_invG [.inl a, .inl (f_R w a 1 - 1), .inl k, .inl (max (f_P wv1 a (f_R w a 1 - 1) (1 + k)) (f_P wv1 b 0 (1 + k))), .inl (f_snb wv1 a (f_R w a 1 - 1) b 0 k)] [] dX12_splice_119 mlX12_106 sh_330 rfl rfl rfl (Nat.le_of_ble_eq_true rfl) (s_X12_habits E l _ (by omega) _ a (f_R w a 1 - 1) k (max (f_P wv1 a (f_R w a 1 - 1) (1 + k)) (f_P wv1 b 0 (1 + k))) (f_snb wv1 a (f_R w a 1 - 1) b 0 k) mr1_331 (by first | omega | assumption) (by first | omega | assumption) (by first | omega | assumption)) (pc' := 122) rfl (fun vv M_119 hq co119 hcm119 => ?_)
                obtain ⟨rfl, frM_119, mrM_119_0⟩ := hq
                refine ax_reS (st2 := []) rfl ?_
                refine ax_aload_n dX12_splice_122 rfl rfl (pc' := 123) rfl ?_
                refine ax_iload_n dX12_splice_123 rfl rfl (pc' := 124) rfl ?_
                refine ax_iconst dX12_splice_124 (by decide) (pc' := 125) rfl ?_
                refine ax_iload dX12_splice_125 rfl (pc' := 127) rfl ?_
                refine ax_iload dX12_splice_127 rfl (pc' := 129) rfl ?_
                refine ax_iload dX12_splice_129 rfl (pc' := 131) rfl ?_
                refine ax_invG [.inl b, .inl 0, .inl k, .inl (max (f_P wv1 a (f_R w a 1 - 1) (1 + k)) (f_P wv1 b 0 (1 + k))), .inl (f_snb wv1 a (f_R w a 1 - 1) b 0 k)] [] dX12_splice_131 mlX12_106 sh_330 rfl rfl rfl (Nat.le_of_ble_eq_true rfl) (s_X12_habits E l _ (by omega) _ b 0 k (max (f_P wv1 a (f_R w a 1 - 1) (1 + k)) (f_P wv1 b 0 (1 + k))) (f_snb wv1 a (f_R w a 1 - 1) b 0 k) mrM_119_0 (by first | omega | assumption) (by first | omega | assumption) (by first | omega | assumption)) (pc' := 134) rfl (fun vv M_131 hq co131 hcm131 => ?_)
                obtain ⟨rfl, frM_131, mrM_131_0⟩ := hq
                refine ax_reS (st2 := []) rfl ?_
                refine ax_iinc dX12_splice_134 rfl (by decide) (by omega) (ls' := [some (.inr 330), some (.inl a), some (.inl b), some (.inl (f_R w a 1)), some (.inl (k + 1)), some (.inl (f_snb wv1 a (f_R w a 1 - 1) b 0 k)), some (.inl (max (f_P wv1 a (f_R w a 1 - 1) (1 + k)) (f_P wv1 b 0 (1 + k))))]) rfl (pc' := 137) rfl ?_
                refine ax_goto dX12_splice_137 (pc' := 64) (by decide) ?_
                refine ax_less (ls2 := [some (.inr 330), some (.inl a), some (.inl b), some (.inl (f_R w a 1)), some (.inl (k + 1)), none, none]) [true, true, true, true, true, false, false] rfl ?_
                refine ih3 (k + 1) (f_hab (f_hab wv1 a (f_R w a 1 - 1) k (max (f_P wv1 a (f_R w a 1 - 1) (1 + k)) (f_P wv1 b 0 (1 + k))) (f_snb wv1 a (f_R w a 1 - 1) b 0 k)) b 0 k (max (f_P wv1 a (f_R w a 1 - 1) (1 + k)) (f_P wv1 b 0 (1 + k))) (f_snb wv1 a (f_R w a 1 - 1) b 0 k)) M_131 ?_ ?_ ?_ ?_ ?_ ?_
                · omega
                · intro x0 i0 hai
                  exact ((frM_131 x0 i0 (by omega)).trans ((frM_119 x0 i0 (by omega)).trans ((fr1 x0 i0 (by omega)).trans rfl)))
                · exact mrM_131_0
                · omega
                · exact f_loop_back (by omega) iv1_1 rfl
                · exact f_iv_spS ha hb (by omega) (by omega) iv1_2
          refine LP1 (6 - 0 : Int).toNat.succ 0 (f_note w a (f_R w a 1) b 4 (-1)) M_58 ?_ ?_ ?_ ?_ ?_ ?_
          · omega
          · exact fun a i _ => rfl
          · exact mrM_58_0
          · omega
          · rfl
          · exact f_iv_note hg0
        · exfalso
          omega
set_option maxRecDepth 20000 in
theorem s_X12_sell_no (E : ax_Env) (l : Launch) (d : Nat) (hd : 2 ≤ d) (M : ax_Mem) (r v : Int) {w : Int → Int} (hw : M 331 = w) (hg0 : f_iv w) (hg1 : ¬ (f_isR w r ∧ 0 ≤ v ∧ v ≤ 9 ∧ f_R w r 2 ≠ v)) : ax_G E l d iX12_sell [.inr 330, .inl r, .inl v] M (fun z0 M2 => z0 = some (.inl 0) ∧ M = M2) := by
  obtain ⟨d, rfl⟩ : ∃ d0, d = d0 + 1 := ⟨d - 1, by omega⟩
  refine ax_start rfl (Nat.le_of_ble_eq_true rfl) (ls := [some (.inr 330), some (.inl r), some (.inl v)]) rfl (fun hav hcm => ?_)
  have hc1 : -2147483648 ≤ r ∧ r < 2147483648 := hav (.inl r) (by simp)
  have hc2 : -2147483648 ≤ v ∧ v < 2147483648 := hav (.inl v) (by simp)
  clear hav
  refine ax_aload_n dX12_sell_0 rfl rfl (pc' := 1) rfl ?_
  refine ax_iload_n dX12_sell_1 rfl rfl (pc' := 2) rfl ?_
  refine ax_invG [.inl r] [] dX12_sell_2 mlX12_82 sh_330 rfl rfl rfl (Nat.le_of_ble_eq_true rfl) (s_X12_isRope E l _ (by omega) _ r hw) (pc' := 5) rfl (fun vv M_2 hq co2 hcm2 => ?_)
  obtain ⟨rfl, rfl⟩ := hq
  refine ax_reS (st2 := [.inl (f_b (f_isR w r))]) rfl ?_
  refine ax_if_eq (tgt := 28) dX12_sell_5 (by decide) (pc' := 8) rfl (fun h5 => ?_) (fun h5 => ?_)
  · replace h5 := f_b_0 h5
    refine ax_iconst dX12_sell_28 (by decide) (pc' := 29) rfl ?_
    refine ax_zret dX12_sell_29 rfl (by decide) ?_
    refine ⟨rfl, ?_, ?_⟩
    · rfl
    · rfl
  · replace h5 := f_b_1 h5
    refine ax_iload_n dX12_sell_8 rfl rfl (pc' := 9) rfl ?_
    refine ax_iconst dX12_sell_9 (by decide) (pc' := 10) rfl ?_
    refine ax_bipush dX12_sell_10 (by decide) (pc' := 12) rfl ?_
    refine ax_insG [.inl v, .inl 0, .inl 9] [] dX12_sell_12 mlX12_74 rfl rfl (Nat.le_of_ble_eq_true rfl) (s_X12_isIn E l _ (by omega) _ v 0 9) (pc' := 15) rfl (fun vv M_12 hq co12 hcm12 => ?_)
    obtain ⟨rfl, rfl⟩ := hq
    refine ax_reS (st2 := [.inl (f_b (0 ≤ v ∧ v ≤ 9))]) rfl ?_
    refine ax_if_eq (tgt := 28) dX12_sell_15 (by decide) (pc' := 18) rfl (fun h15 => ?_) (fun h15 => ?_)
    · replace h15 := f_b_0 h15
      refine ax_iconst dX12_sell_28 (by decide) (pc' := 29) rfl ?_
      refine ax_zret dX12_sell_29 rfl (by decide) ?_
      refine ⟨rfl, ?_, ?_⟩
      · rfl
      · rfl
    · replace h15 := f_b_1 h15
      refine ax_aload_n dX12_sell_18 rfl rfl (pc' := 19) rfl ?_
      refine ax_iload_n dX12_sell_19 rfl rfl (pc' := 20) rfl ?_
      refine ax_iconst dX12_sell_20 (by decide) (pc' := 21) rfl ?_
      refine ax_invG [.inl r, .inl 2] [] dX12_sell_21 mlX12_78 sh_330 rfl rfl rfl (Nat.le_of_ble_eq_true rfl) (s_X12_ofRope E l _ (by omega) _ r 2 hw (by first | omega | assumption) (by first | omega | assumption)) (pc' := 24) rfl (fun vv M_21 hq co21 hcm21 => ?_)
      obtain ⟨rfl, rfl⟩ := hq
      refine ax_reS (st2 := [.inl (f_R w r 2)]) rfl ?_
      have cc21 : -2147483648 ≤ f_R w r 2 ∧ f_R w r 2 < 2147483648 := co21 _ rfl
      refine ax_iload_n dX12_sell_24 rfl rfl (pc' := 25) rfl ?_
      refine ax_icmp_ne (tgt := 30) dX12_sell_25 (by decide) (pc' := 28) rfl (fun h25 => ?_) (fun h25 => ?_)
      · exfalso
        omega
      · refine ax_iconst dX12_sell_28 (by decide) (pc' := 29) rfl ?_
        refine ax_zret dX12_sell_29 rfl (by decide) ?_
        refine ⟨rfl, ?_, ?_⟩
        · rfl
        · rfl
set_option maxRecDepth 20000 in
theorem s_X12_sell_ok (E : ax_Env) (l : Launch) (d : Nat) (hd : 2 ≤ d) (M : ax_Mem) (r v : Int) {w : Int → Int} (hw : M 331 = w) {b : Int → Int} (hb : M 333 = b) {m : Int} (hm : M 330 4 = m) (hg0 : f_iv w) (hg1 : 0 ≤ m ∧ m ≤ 5) (hg2 : f_isR w r ∧ 0 ≤ v ∧ v ≤ 9 ∧ f_R w r 2 ≠ v) : ax_G E l d iX12_sell [.inr 330, .inl r, .inl v] M (fun z0 M2 => z0 = some (.inl 1) ∧ (∀ x0 i0 : Int, ¬ (x0 = 331 ∨ x0 = 333 ∨ (x0 = 330 ∧ i0 = 4)) → M2 x0 i0 = M x0 i0) ∧ M2 331 = f_note (f_sR w r 2 v) r (-1) v 5 (-1) ∧ M2 333 = f_keep b w m ∧ M2 330 4 = f_keepN m) := by
  obtain ⟨d, rfl⟩ : ∃ d0, d = d0 + 1 := ⟨d - 1, by omega⟩
  refine ax_start rfl (Nat.le_of_ble_eq_true rfl) (ls := [some (.inr 330), some (.inl r), some (.inl v)]) rfl (fun hav hcm => ?_)
  have hc1 : -2147483648 ≤ r ∧ r < 2147483648 := hav (.inl r) (by simp)
  have hc2 : -2147483648 ≤ v ∧ v < 2147483648 := hav (.inl v) (by simp)
  clear hav
  refine ax_aload_n dX12_sell_0 rfl rfl (pc' := 1) rfl ?_
  refine ax_iload_n dX12_sell_1 rfl rfl (pc' := 2) rfl ?_
  refine ax_invG [.inl r] [] dX12_sell_2 mlX12_82 sh_330 rfl rfl rfl (Nat.le_of_ble_eq_true rfl) (s_X12_isRope E l _ (by omega) _ r hw) (pc' := 5) rfl (fun vv M_2 hq co2 hcm2 => ?_)
  obtain ⟨rfl, rfl⟩ := hq
  refine ax_reS (st2 := [.inl (f_b (f_isR w r))]) rfl ?_
  refine ax_if_eq (tgt := 28) dX12_sell_5 (by decide) (pc' := 8) rfl (fun h5 => ?_) (fun h5 => ?_)
  · replace h5 := f_b_0 h5
    exfalso
    omega
  · replace h5 := f_b_1 h5
    refine ax_iload_n dX12_sell_8 rfl rfl (pc' := 9) rfl ?_
    refine ax_iconst dX12_sell_9 (by decide) (pc' := 10) rfl ?_
    refine ax_bipush dX12_sell_10 (by decide) (pc' := 12) rfl ?_
    refine ax_insG [.inl v, .inl 0, .inl 9] [] dX12_sell_12 mlX12_74 rfl rfl (Nat.le_of_ble_eq_true rfl) (s_X12_isIn E l _ (by omega) _ v 0 9) (pc' := 15) rfl (fun vv M_12 hq co12 hcm12 => ?_)
    obtain ⟨rfl, rfl⟩ := hq
    refine ax_reS (st2 := [.inl (f_b (0 ≤ v ∧ v ≤ 9))]) rfl ?_
    refine ax_if_eq (tgt := 28) dX12_sell_15 (by decide) (pc' := 18) rfl (fun h15 => ?_) (fun h15 => ?_)
    · replace h15 := f_b_0 h15
      exfalso
      omega
    · replace h15 := f_b_1 h15
      refine ax_aload_n dX12_sell_18 rfl rfl (pc' := 19) rfl ?_
      refine ax_iload_n dX12_sell_19 rfl rfl (pc' := 20) rfl ?_
      refine ax_iconst dX12_sell_20 (by decide) (pc' := 21) rfl ?_
      refine ax_invG [.inl r, .inl 2] [] dX12_sell_21 mlX12_78 sh_330 rfl rfl rfl (Nat.le_of_ble_eq_true rfl) (s_X12_ofRope E l _ (by omega) _ r 2 hw (by first | omega | assumption) (by first | omega | assumption)) (pc' := 24) rfl (fun vv M_21 hq co21 hcm21 => ?_)
      obtain ⟨rfl, rfl⟩ := hq
      refine ax_reS (st2 := [.inl (f_R w r 2)]) rfl ?_
      have cc21 : -2147483648 ≤ f_R w r 2 ∧ f_R w r 2 < 2147483648 := co21 _ rfl
      refine ax_iload_n dX12_sell_24 rfl rfl (pc' := 25) rfl ?_
      refine ax_icmp_ne (tgt := 30) dX12_sell_25 (by decide) (pc' := 28) rfl (fun h25 => ?_) (fun h25 => ?_)
      · refine ax_aload_n dX12_sell_30 rfl rfl (pc' := 31) rfl ?_
        refine ax_invG [] [] dX12_sell_31 mlX12_379 sh_330 rfl rfl rfl (Nat.le_of_ble_eq_true rfl) (s_X12_keeps E l _ (by omega) _ hw hb hm (by first | omega | assumption)) (pc' := 34) rfl (fun vv M_31 hq co31 hcm31 => ?_)
        obtain ⟨rfl, frM_31, mrM_31_0, msM_31_0⟩ := hq
        refine ax_reS (st2 := []) rfl ?_
        refine ax_aload_n dX12_sell_34 rfl rfl (pc' := 35) rfl ?_
        refine ax_iload_n dX12_sell_35 rfl rfl (pc' := 36) rfl ?_
        refine ax_iconst dX12_sell_36 (by decide) (pc' := 37) rfl ?_
        refine ax_iload_n dX12_sell_37 rfl rfl (pc' := 38) rfl ?_
        refine ax_invG [.inl r, .inl 2, .inl v] [] dX12_sell_38 mlX12_98 sh_330 rfl rfl rfl (Nat.le_of_ble_eq_true rfl) (s_X12_ropes E l _ (by omega) _ r 2 v ((funext fun i0 => frM_31 331 i0 (by omega)).trans hw) (by first | omega | assumption) (by first | omega | assumption)) (pc' := 41) rfl (fun vv M_38 hq co38 hcm38 => ?_)
        obtain ⟨rfl, frM_38, mrM_38_0⟩ := hq
        refine ax_reS (st2 := []) rfl ?_
        have qa1 := (f_iv_sR (f := 2) (v := v) (w := w) (r := r) (by omega) (by omega) (by omega) hg0).2.2.2.1
        refine ax_aload_n dX12_sell_41 rfl rfl (pc' := 42) rfl ?_
        refine ax_iload_n dX12_sell_42 rfl rfl (pc' := 43) rfl ?_
        refine ax_iconst dX12_sell_43 (by decide) (pc' := 44) rfl ?_
        refine ax_iload_n dX12_sell_44 rfl rfl (pc' := 45) rfl ?_
        refine ax_iconst dX12_sell_45 (by decide) (pc' := 46) rfl ?_
        refine ax_iconst dX12_sell_46 (by decide) (pc' := 47) rfl ?_
        refine ax_invG [.inl r, .inl (-1), .inl v, .inl 5, .inl (-1)] [] dX12_sell_47 mlX12_373 sh_330 rfl rfl rfl (Nat.le_of_ble_eq_true rfl) (s_X12_notes E l _ (by omega) _ r (-1) v 5 (-1) mrM_38_0 (by first | omega | assumption)) (pc' := 50) rfl (fun vv M_47 hq co47 hcm47 => ?_)
        obtain ⟨rfl, frM_47, mrM_47_0⟩ := hq
        refine ax_reS (st2 := []) rfl ?_
        refine ax_iconst dX12_sell_50 (by decide) (pc' := 51) rfl ?_
        refine ax_zret dX12_sell_51 rfl (by decide) ?_
        refine ⟨rfl, ?_, ?_, ?_, ?_, ?_⟩
        · rfl
        · intro x0 i0 hai
          exact ((frM_47 x0 i0 (by omega)).trans ((frM_38 x0 i0 (by omega)).trans ((frM_31 x0 i0 (by omega)).trans rfl)))
        · exact mrM_47_0
        · exact ((funext fun i0 => frM_47 333 i0 (by omega)).trans ((funext fun i0 => frM_38 333 i0 (by omega)).trans mrM_31_0))
        · exact ((frM_47 330 4 (by omega)).trans ((frM_38 330 4 (by omega)).trans msM_31_0))
      · exfalso
        omega
