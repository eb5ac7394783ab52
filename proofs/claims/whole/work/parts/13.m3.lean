/-! reads over writes -/
theorem f_loop_back {α : Type} {g : Int → α → α} {lo hi : Int} {a b T : α} (h : lo < hi) (e : f_loop g lo hi a = T) (hb : g lo a = b) : f_loop g (lo + 1) hi b = T := by
  subst hb
  exact (f_loop_step h).symm.trans e
theorem f_ixP {r p f r' p' f' : Int} (h : 0 ≤ r ∧ r < 8 ∧ 0 ≤ p ∧ p < 24 ∧ 0 ≤ f ∧ f < 13) (h' : 0 ≤ r' ∧ r' < 8 ∧ 0 ≤ p' ∧ p' < 24 ∧ 0 ≤ f' ∧ f' < 13) (e : 4 + 320 * r' + 8 + 13 * p' + f' = 4 + 320 * r + 8 + 13 * p + f) : r' = r ∧ p' = p ∧ f' = f := by
  have h1 : r' = r := by
    rcases Int.lt_trichotomy r' r with q | q | q
    · omega
    · exact q
    · omega
  subst h1
  have h2 : p' = p := by
    rcases Int.lt_trichotomy p' p with q | q | q
    · omega
    · exact q
    · omega
  subst h2
  exact ⟨rfl, rfl, by omega⟩
theorem f_ixR {r p f r' f' : Int} (h : 0 ≤ r ∧ r < 8 ∧ 0 ≤ p ∧ p < 24 ∧ 0 ≤ f ∧ f < 13) (h' : 0 ≤ r' ∧ r' < 8 ∧ 0 ≤ f' ∧ f' < 8) : 4 + 320 * r' + f' ≠ 4 + 320 * r + 8 + 13 * p + f := by
  intro e
  rcases Int.lt_trichotomy r' r with q | q | q
  · omega
  · omega
  · omega
theorem f_P_sP {w : Int → Int} {r p f v r' p' f' : Int} (h : 0 ≤ r ∧ r < 8 ∧ 0 ≤ p ∧ p < 24 ∧ 0 ≤ f ∧ f < 13) (h' : 0 ≤ r' ∧ r' < 8 ∧ 0 ≤ p' ∧ p' < 24 ∧ 0 ≤ f' ∧ f' < 13) : f_P (f_sP w r p f v) r' p' f' = if r' = r ∧ p' = p ∧ f' = f then v else f_P w r' p' f' := by
  unfold f_P f_sP f_up
  by_cases e : r' = r ∧ p' = p ∧ f' = f
  · rw [if_pos e, if_pos (by omega)]
  · rw [if_neg e, if_neg (fun q => e (f_ixP h h' q))]
theorem f_R_sP {w : Int → Int} {r p f v r' f' : Int} (h : 0 ≤ r ∧ r < 8 ∧ 0 ≤ p ∧ p < 24 ∧ 0 ≤ f ∧ f < 13) (h' : 0 ≤ r' ∧ r' < 8 ∧ 0 ≤ f' ∧ f' < 8) : f_R (f_sP w r p f v) r' f' = f_R w r' f' := by
  unfold f_R f_sP f_up
  rw [if_neg (f_ixR h h')]
theorem f_R_sR {w : Int → Int} {r f v r' f' : Int} (h : 0 ≤ r ∧ r < 8 ∧ 0 ≤ f ∧ f < 8) (h' : 0 ≤ r' ∧ r' < 8 ∧ 0 ≤ f' ∧ f' < 8) : f_R (f_sR w r f v) r' f' = if r' = r ∧ f' = f then v else f_R w r' f' := by
  unfold f_R f_sR f_up
  by_cases e : r' = r ∧ f' = f
  · rw [if_pos e, if_pos (by omega)]
  · rw [if_neg e, if_neg (by omega)]
theorem f_P_sR {w : Int → Int} {r f v r' p' f' : Int} (h : 0 ≤ r ∧ r < 8 ∧ 0 ≤ f ∧ f < 8) (h' : 0 ≤ r' ∧ r' < 8 ∧ 0 ≤ p' ∧ p' < 24 ∧ 0 ≤ f' ∧ f' < 13) : f_P (f_sR w r f v) r' p' f' = f_P w r' p' f' := by
  unfold f_P f_sR f_up
  rw [if_neg (fun q => f_ixR h' h q.symm)]
/-- beyond the ropes nothing is written -/
theorem f_sP_out {w : Int → Int} {r p f v i : Int} (h : 0 ≤ r ∧ r < 8 ∧ 0 ≤ p ∧ p < 24 ∧ 0 ≤ f ∧ f < 13) (hi : i < 4 ∨ 2564 ≤ i) : f_sP w r p f v i = w i := by
  unfold f_sP f_up
  rw [if_neg (by omega)]
theorem f_sR_out {w : Int → Int} {r f v i : Int} (h : 0 ≤ r ∧ r < 8 ∧ 0 ≤ f ∧ f < 8) (hi : i < 4 ∨ 2564 ≤ i) : f_sR w r f v i = w i := by
  unfold f_sR f_up
  rw [if_neg (by omega)]
/-- what places hold is in its range -/
def f_frg (f v : Int) : Prop := (f = 0 → -1 ≤ v ∧ v ≤ 5) ∧ (1 ≤ f → f ≤ 6 → 0 ≤ v ∧ v ≤ 99) ∧ (7 ≤ f → 0 ≤ v ∧ v ≤ 9999)
def f_rg (w : Int → Int) : Prop := ∀ r p f, 0 ≤ r → r < 8 → 0 ≤ p → p < 24 → 0 ≤ f → f < 13 → f_frg f (f_P w r p f)
theorem f_rgT {w : Int → Int} {r p : Int} (h : f_rg w) (hr : 0 ≤ r ∧ r < 8) (hp : 0 ≤ p ∧ p < 24) : -1 ≤ f_P w r p 0 ∧ f_P w r p 0 ≤ 5 := (h r p 0 hr.1 hr.2 hp.1 hp.2 (by omega) (by omega)).1 rfl
theorem f_rgH {w : Int → Int} {r p k : Int} (h : f_rg w) (hr : 0 ≤ r ∧ r < 8) (hp : 0 ≤ p ∧ p < 24) (hk : 0 ≤ k ∧ k < 6) : 0 ≤ f_P w r p (1 + k) ∧ f_P w r p (1 + k) ≤ 99 := (h r p (1 + k) hr.1 hr.2 hp.1 hp.2 (by omega) (by omega)).2.1 (by omega) (by omega)
theorem f_rgS {w : Int → Int} {r p k : Int} (h : f_rg w) (hr : 0 ≤ r ∧ r < 8) (hp : 0 ≤ p ∧ p < 24) (hk : 0 ≤ k ∧ k < 6) : 0 ≤ f_P w r p (7 + k) ∧ f_P w r p (7 + k) ≤ 9999 := (h r p (7 + k) hr.1 hr.2 hp.1 hp.2 (by omega) (by omega)).2.2 (by omega)
theorem f_ok_sP {w : Int → Int} {r p f v : Int} (h : 0 ≤ r ∧ r < 8 ∧ 0 ≤ p ∧ p < 24 ∧ 0 ≤ f ∧ f < 13) (hw : f_ok w) : f_ok (f_sP w r p f v) := by
  intro r' h1 h2
  rw [f_R_sP h ⟨h1, h2, by omega, by omega⟩, f_R_sP h ⟨h1, h2, by omega, by omega⟩]
  exact hw r' h1 h2
theorem f_rg_sR {w : Int → Int} {r f v : Int} (h : 0 ≤ r ∧ r < 8 ∧ 0 ≤ f ∧ f < 8) (hw : f_rg w) : f_rg (f_sR w r f v) := by
  intro r' p' f' h1 h2 h3 h4 h5 h6
  rw [f_P_sR h ⟨h1, h2, h3, h4, h5, h6⟩]
  exact hw r' p' f' h1 h2 h3 h4 h5 h6
theorem f_rg_sP {w : Int → Int} {r p f v : Int} (h : 0 ≤ r ∧ r < 8 ∧ 0 ≤ p ∧ p < 24 ∧ 0 ≤ f ∧ f < 13) (hv : f_frg f v) (hw : f_rg w) : f_rg (f_sP w r p f v) := by
  intro r' p' f' h1 h2 h3 h4 h5 h6
  rw [f_P_sP h ⟨h1, h2, h3, h4, h5, h6⟩]
  split
  · rename_i e
    rw [e.2.2]
    exact hv
  · exact hw r' p' f' h1 h2 h3 h4 h5 h6
/-- what a place's habit is, written -/
theorem f_P_hab {w : Int → Int} {r p k v s r' p' f' : Int} (h : 0 ≤ r ∧ r < 8 ∧ 0 ≤ p ∧ p < 24 ∧ 0 ≤ k ∧ k < 6) (h' : 0 ≤ r' ∧ r' < 8 ∧ 0 ≤ p' ∧ p' < 24 ∧ 0 ≤ f' ∧ f' < 13) : f_P (f_hab w r p k v s) r' p' f' = if r' = r ∧ p' = p ∧ f' = 1 + k then v else if r' = r ∧ p' = p ∧ f' = 7 + k then (if v = 0 then 0 else s) else f_P w r' p' f' := by
  unfold f_hab
  rw [f_P_sP ⟨h.1, h.2.1, h.2.2.1, h.2.2.2.1, by omega, by omega⟩ h', f_P_sP ⟨h.1, h.2.1, h.2.2.1, h.2.2.2.1, by omega, by omega⟩ h']
  by_cases e : r' = r ∧ p' = p ∧ f' = 1 + k
  · rw [if_neg (by omega), if_pos e, if_pos e]
  · rw [if_neg e, if_neg e]
theorem f_R_hab {w : Int → Int} {r p k v s r' f' : Int} (h : 0 ≤ r ∧ r < 8 ∧ 0 ≤ p ∧ p < 24 ∧ 0 ≤ k ∧ k < 6) (h' : 0 ≤ r' ∧ r' < 8 ∧ 0 ≤ f' ∧ f' < 8) : f_R (f_hab w r p k v s) r' f' = f_R w r' f' := by
  unfold f_hab
  rw [f_R_sP ⟨h.1, h.2.1, h.2.2.1, h.2.2.2.1, by omega, by omega⟩ h', f_R_sP ⟨h.1, h.2.1, h.2.2.1, h.2.2.2.1, by omega, by omega⟩ h']
theorem f_hab_out {w : Int → Int} {r p k v s i : Int} (h : 0 ≤ r ∧ r < 8 ∧ 0 ≤ p ∧ p < 24 ∧ 0 ≤ k ∧ k < 6) (hi : i < 4 ∨ 2564 ≤ i) : f_hab w r p k v s i = w i := by
  unfold f_hab
  rw [f_sP_out ⟨h.1, h.2.1, h.2.2.1, h.2.2.2.1, by omega, by omega⟩ hi, f_sP_out ⟨h.1, h.2.1, h.2.2.1, h.2.2.2.1, by omega, by omega⟩ hi]
theorem f_ok_hab {w : Int → Int} {r p k v s : Int} (h : 0 ≤ r ∧ r < 8 ∧ 0 ≤ p ∧ p < 24 ∧ 0 ≤ k ∧ k < 6) (hw : f_ok w) : f_ok (f_hab w r p k v s) := by
  unfold f_hab
  exact f_ok_sP ⟨h.1, h.2.1, h.2.2.1, h.2.2.2.1, by omega, by omega⟩ (f_ok_sP ⟨h.1, h.2.1, h.2.2.1, h.2.2.2.1, by omega, by omega⟩ hw)
theorem f_rg_hab {w : Int → Int} {r p k v s : Int} (h : 0 ≤ r ∧ r < 8 ∧ 0 ≤ p ∧ p < 24 ∧ 0 ≤ k ∧ k < 6) (hv : 0 ≤ v ∧ v ≤ 99) (hs : v = 0 ∨ 0 ≤ s ∧ s ≤ 9999) (hw : f_rg w) : f_rg (f_hab w r p k v s) := by
  unfold f_hab
  refine f_rg_sP ⟨h.1, h.2.1, h.2.2.1, h.2.2.2.1, by omega, by omega⟩ ⟨by omega, by omega, fun _ => ?_⟩ (f_rg_sP ⟨h.1, h.2.1, h.2.2.1, h.2.2.2.1, by omega, by omega⟩ ⟨by omega, fun _ _ => hv, by omega⟩ hw)
  split <;> omega
theorem f_loop_inv {α : Type} {P : α → Prop} {g : Int → α → α} {lo hi : Int} {a : α} (h0 : P a) (hs : ∀ i x, lo ≤ i → i < hi → P x → P (g i x)) : P (f_loop g lo hi a) := by
  unfold f_loop
  generalize hn : (hi - lo).toNat = n
  induction n generalizing lo a with
  | zero => exact h0
  | succ n ih =>
    refine ih (lo := lo + 1) (hs lo a (Int.le_refl lo) (by omega) h0) (fun i x h1 h2 hx => hs i x (by omega) h2 hx) (by omega)
theorem f_ok_of {w w' : Int → Int} (h : ∀ i, 4 ≤ i → i < 2564 → w' i = w i) (hw : f_ok w) : f_ok w' := by
  intro r h1 h2
  unfold f_R
  rw [h _ (by omega) (by omega), h _ (by omega) (by omega)]
  exact hw r h1 h2
theorem f_rg_of {w w' : Int → Int} (h : ∀ i, 4 ≤ i → i < 2564 → w' i = w i) (hw : f_rg w) : f_rg w' := by
  intro r p f h1 h2 h3 h4 h5 h6
  unfold f_P
  rw [h _ (by omega) (by omega)]
  exact hw r p f h1 h2 h3 h4 h5 h6
/-- the reference, on: ties, calls, notes, what is kept -/
def f_tied (w : Int → Int) (r : Int) : Int := f_loop (fun p n => n + f_b (f_P w r p 0 ≠ -1)) 0 (f_R w r 1) 0
def f_besd (w : Int → Int) (r p : Int) : Int := f_b (0 < p ∧ f_P w r (p - 1) 0 ≠ -1) + f_b (p + 1 < f_R w r 1 ∧ f_P w r (p + 1) 0 ≠ -1)
def f_habs (w : Int → Int) (r p : Int) : Int := f_loop (fun k v => v + f_P w r p (1 + k)) 0 6 0
def f_callS (h s : Int → Int) (k best : Int) : Int := if h k = 0 then best else if best = -1 ∨ s k < s best ∨ (s k = s best ∧ h best < h k) then k else best
def f_callG (h s : Int → Int) : Int := f_loop (f_callS h s) 0 6 (-1)
def f_call (w : Int → Int) (r p : Int) : Int := f_callG (fun k => f_P w r p (1 + k)) (fun k => f_P w r p (7 + k))
def f_note (w : Int → Int) (r p what how hand : Int) : Int → Int := if w 1 = 200 then w else f_up (f_up (f_up (f_up (f_up (f_up (f_up w (2640 + 6 * w 1) (w 0)) (2640 + 6 * w 1 + 1) r) (2640 + 6 * w 1 + 2) p) (2640 + 6 * w 1 + 3) what) (2640 + 6 * w 1 + 4) how) (2640 + 6 * w 1 + 5) hand) 1 (w 1 + 1)
def f_more (w : Int → Int) (r p k v : Int) : Int → Int := f_hab w r p k (min 99 (f_P w r p (1 + k) + v)) (if f_P w r p (1 + k) = 0 then w 0 else f_P w r p (7 + k))
def f_shf (b : Int → Int) (n : Int) : Int → Int := fun j => if 0 ≤ j ∧ j < n then b (j + 2564) else b j
theorem f_shf_step {b : Int → Int} {i : Int} (h : 0 ≤ i ∧ i < 10256) : f_up (f_shf b i) i (f_shf b i (i + 2564)) = f_shf b (i + 1) := by
  funext j
  unfold f_up f_shf
  by_cases e : j = i
  · rw [if_pos e, if_neg (by omega), if_pos (by omega), e]
  · rw [if_neg e]
    by_cases e2 : 0 ≤ j ∧ j < i
    · rw [if_pos e2, if_pos (by omega)]
    · rw [if_neg e2, if_neg (by omega)]
theorem f_shf_0 {b : Int → Int} : b = f_shf b 0 := by
  funext j
  unfold f_shf
  rw [if_neg (by omega)]
theorem f_cp_0 {f g : Int → Int} {sp dp : Int} : g = f_cp f sp g dp 0 := by
  funext j
  unfold f_cp
  rw [if_neg (by omega)]
theorem f_cp_step {f g : Int → Int} {sp dp n : Int} (h : 0 ≤ n) : f_up (f_cp f sp g dp n) (dp + n) (f (sp + n)) = f_cp f sp g dp (n + 1) := by
  funext j
  unfold f_up f_cp
  by_cases e : j = dp + n
  · subst e
    rw [if_pos rfl, if_pos (by omega)]
    congr 1
    omega
  · rw [if_neg e]
    by_cases e2 : dp ≤ j ∧ j < dp + n
    · rw [if_pos e2, if_pos (by omega)]
    · rw [if_neg e2, if_neg (by omega)]
theorem f_cp_step0 {f g : Int → Int} {dp n : Int} (h : 0 ≤ n) : f_up (f_cp f 0 g dp n) (dp + n) (f n) = f_cp f 0 g dp (n + 1) := by
  have e := f_cp_step (f := f) (g := g) (sp := 0) (dp := dp) h
  rw [Int.zero_add] at e
  exact e
theorem f_cp_stepS {f g : Int → Int} {sp n : Int} (h : 0 ≤ n) : f_up (f_cp f sp g 0 n) n (f (sp + n)) = f_cp f sp g 0 (n + 1) := by
  have e := f_cp_step (f := f) (g := g) (sp := sp) (dp := 0) h
  rw [Int.zero_add] at e
  exact e
def f_keep (b w : Int → Int) (m : Int) : Int → Int := if m = 5 then f_cp w 0 (f_shf b 10256) (2564 * 4) 2564 else f_cp w 0 b (2564 * m) 2564
def f_keepN (m : Int) : Int := if m = 5 then 5 else m + 1
set_option maxRecDepth 20000 in
theorem s_X12_tiedMany (E : ax_Env) (l : Launch) (d : Nat) (hd : 2 ≤ d) (M : ax_Mem) (r : Int) {w : Int → Int} (hw : M 331 = w) (hg0 : 0 ≤ r ∧ r < 8) (hg1 : f_ok w) : ax_G E l d iX12_tiedMany [.inr 330, .inl r] M (fun z0 M2 => z0 = some (.inl (f_tied w r)) ∧ M = M2) := by
  obtain ⟨d, rfl⟩ : ∃ d0, d = d0 + 1 := ⟨d - 1, by omega⟩
  refine ax_start rfl (Nat.le_of_ble_eq_true rfl) (ls := [some (.inr 330), some (.inl r), none, none]) rfl (fun hav hcm => ?_)
  have hc1 : -2147483648 ≤ r ∧ r < 2147483648 := hav (.inl r) (by simp)
  clear hav
  have gg := hg1 r (by omega) (by omega)
  refine ax_iconst dX12_tiedMany_0 (by decide) (pc' := 1) rfl ?_
  refine ax_istore_n dX12_tiedMany_1 rfl (by decide) (ls' := [some (.inr 330), some (.inl r), some (.inl 0), none]) rfl (pc' := 2) rfl ?_
  refine ax_iconst dX12_tiedMany_2 (by decide) (pc' := 3) rfl ?_
  refine ax_istore_n dX12_tiedMany_3 rfl (by decide) (ls' := [some (.inr 330), some (.inl r), some (.inl 0), some (.inl 0)]) rfl (pc' := 4) rfl ?_
  have LP1 : ∀ (kq2 : Nat) (p n : Int) (hm1 : f_R w r 1 - p < (kq2 : Nat)) (iv1_0 : 0 ≤ p ∧ p ≤ f_R w r 1) (iv1_1 : f_loop (fun p n => n + f_b (f_P w r p 0 ≠ -1)) p (f_R w r 1) n = f_tied w r) (iv1_2 : 0 ≤ n ∧ n ≤ p), ax_W E l (d + 1) 0 0 iX12_tiedMany 4 [some (.inr 330), some (.inl r), some (.inl n), some (.inl p)] [] SH M (ax_P (fun z0 M2 => z0 = some (.inl (f_tied w r)) ∧ M = M2)) := by
    intro kq2
    induction kq2 with
    | zero =>
      intro p n hm1 iv1_0 iv1_1 iv1_2
      exfalso
      omega
    | succ kq2 ih3 =>
      intro p n hm1 iv1_0 iv1_1 iv1_2
      refine ax_iload_n dX12_tiedMany_4 rfl rfl (pc' := 5) rfl ?_
      refine ax_aload_n dX12_tiedMany_5 rfl rfl (pc' := 6) rfl ?_
      refine ax_iload_n dX12_tiedMany_6 rfl rfl (pc' := 7) rfl ?_
      refine ax_iconst dX12_tiedMany_7 (by decide) (pc' := 8) rfl ?_
      refine ax_invG [.inl r, .inl 1] [.inl p] dX12_tiedMany_8 mlX12_78 sh_330 rfl rfl rfl (Nat.le_of_ble_eq_true rfl) (s_X12_ofRope E l _ (by omega) _ r 1 hw (by first | omega | assumption) (by first | omega | assumption)) (pc' := 11) rfl (fun vv M_8 hq co8 hcm8 => ?_)
      obtain ⟨rfl, rfl⟩ := hq
      refine ax_reS (st2 := [.inl (f_R w r 1), .inl p]) rfl ?_
      have cc8 : -2147483648 ≤ f_R w r 1 ∧ f_R w r 1 < 2147483648 := co8 _ rfl
      refine ax_icmp_ge (tgt := 37) dX12_tiedMany_11 (by decide) (pc' := 14) rfl (fun h11 => ?_) (fun h11 => ?_)
      · refine ax_iload_n dX12_tiedMany_37 rfl rfl (pc' := 38) rfl ?_
        refine ax_iret dX12_tiedMany_38 rfl ?_
        refine ⟨rfl, ?_, ?_⟩
        · refine congrArg (fun z => some (Sum.inl z)) ?_
          exact (f_loop_done (by omega)).symm.trans iv1_1
        · rfl
      · refine ax_iload_n dX12_tiedMany_14 rfl rfl (pc' := 15) rfl ?_
        refine ax_aload_n dX12_tiedMany_15 rfl rfl (pc' := 16) rfl ?_
        refine ax_iload_n dX12_tiedMany_16 rfl rfl (pc' := 17) rfl ?_
        refine ax_iload_n dX12_tiedMany_17 rfl rfl (pc' := 18) rfl ?_
        refine ax_invG [.inl r, .inl p] [.inl n] dX12_tiedMany_18 mlX12_340 sh_330 rfl rfl rfl (Nat.le_of_ble_eq_true rfl) (s_X12_isTied E l _ (by omega) _ r p hw (by first | omega | assumption) (by first | omega | assumption)) (pc' := 21) rfl (fun vv M_18 hq co18 hcm18 => ?_)
        obtain ⟨rfl, rfl⟩ := hq
        refine ax_reS (st2 := [.inl (f_b (f_P w r p 0 ≠ -1)), .inl n]) rfl ?_
        refine ax_if_eq (tgt := 28) dX12_tiedMany_21 (by decide) (pc' := 24) rfl (fun h21 => ?_) (fun h21 => ?_)
        · replace h21 := f_b_0 h21
          refine ax_iconst dX12_tiedMany_28 (by decide) (pc' := 29) rfl ?_
          refine ax_iadd dX12_tiedMany_29 (by omega) (pc' := 30) rfl ?_
          refine ax_istore_n dX12_tiedMany_30 rfl (by decide) (ls' := [some (.inr 330), some (.inl r), some (.inl (n + 0)), some (.inl p)]) rfl (pc' := 31) rfl ?_
          refine ax_iinc dX12_tiedMany_31 rfl (by decide) (by omega) (ls' := [some (.inr 330), some (.inl r), some (.inl (n + 0)), some (.inl (p + 1))]) rfl (pc' := 34) rfl ?_
          refine ax_goto dX12_tiedMany_34 (pc' := 4) (by decide) ?_
          refine ih3 (p + 1) (n + 0) ?_ ?_ ?_ ?_
          · omega
          · omega
          · refine f_loop_back (by omega) iv1_1 ?_
            show n + f_b _ = _
            first | rw [f_b_t h21] | rw [f_b_f h21]
          · omega
        · replace h21 := f_b_1 h21
          refine ax_iconst dX12_tiedMany_24 (by decide) (pc' := 25) rfl ?_
          refine ax_goto dX12_tiedMany_25 (pc' := 29) (by decide) ?_
          refine ax_iadd dX12_tiedMany_29 (by omega) (pc' := 30) rfl ?_
          refine ax_istore_n dX12_tiedMany_30 rfl (by decide) (ls' := [some (.inr 330), some (.inl r), some (.inl (n + 1)), some (.inl p)]) rfl (pc' := 31) rfl ?_
          refine ax_iinc dX12_tiedMany_31 rfl (by decide) (by omega) (ls' := [some (.inr 330), some (.inl r), some (.inl (n + 1)), some (.inl (p + 1))]) rfl (pc' := 34) rfl ?_
          refine ax_goto dX12_tiedMany_34 (pc' := 4) (by decide) ?_
          refine ih3 (p + 1) (n + 1) ?_ ?_ ?_ ?_
          · omega
          · omega
          · refine f_loop_back (by omega) iv1_1 ?_
            show n + f_b _ = _
            first | rw [f_b_t h21] | rw [f_b_f h21]
          · omega
  refine LP1 (f_R w r 1 - 0 : Int).toNat.succ 0 0 ?_ ?_ ?_ ?_
  · omega
  · omega
  · rfl
  · omega
set_option maxRecDepth 20000 in
theorem s_X12_beside (E : ax_Env) (l : Launch) (d : Nat) (hd : 2 ≤ d) (M : ax_Mem) (r p : Int) {w : Int → Int} (hw : M 331 = w) (hg0 : 0 ≤ r ∧ r < 8) (hg1 : f_ok w) (hg2 : 0 ≤ p ∧ p < f_R w r 1) : ax_G E l d iX12_beside [.inr 330, .inl r, .inl p] M (fun z0 M2 => z0 = some (.inl (f_besd w r p)) ∧ M = M2) := by
  obtain ⟨d, rfl⟩ : ∃ d0, d = d0 + 1 := ⟨d - 1, by omega⟩
  refine ax_start rfl (Nat.le_of_ble_eq_true rfl) (ls := [some (.inr 330), some (.inl r), some (.inl p)]) rfl (fun hav hcm => ?_)
  have hc1 : -2147483648 ≤ r ∧ r < 2147483648 := hav (.inl r) (by simp)
  have hc2 : -2147483648 ≤ p ∧ p < 2147483648 := hav (.inl p) (by simp)
  clear hav
  have gg := hg1 r (by omega) (by omega)
  refine ax_iload_n dX12_beside_0 rfl rfl (pc' := 1) rfl ?_
  refine ax_if_le (tgt := 19) dX12_beside_1 (by decide) (pc' := 4) rfl (fun h1 => ?_) (fun h1 => ?_)
  · refine ax_iconst dX12_beside_19 (by decide) (pc' := 20) rfl ?_
    refine ax_iload_n dX12_beside_20 rfl rfl (pc' := 21) rfl ?_
    refine ax_iconst dX12_beside_21 (by decide) (pc' := 22) rfl ?_
    refine ax_iadd dX12_beside_22 (by omega) (pc' := 23) rfl ?_
    refine ax_aload_n dX12_beside_23 rfl rfl (pc' := 24) rfl ?_
    refine ax_iload_n dX12_beside_24 rfl rfl (pc' := 25) rfl ?_
    refine ax_iconst dX12_beside_25 (by decide) (pc' := 26) rfl ?_
    refine ax_invG [.inl r, .inl 1] [.inl (p + 1), .inl 0] dX12_beside_26 mlX12_78 sh_330 rfl rfl rfl (Nat.le_of_ble_eq_true rfl) (s_X12_ofRope E l _ (by omega) _ r 1 hw (by first | omega | assumption) (by first | omega | assumption)) (pc' := 29) rfl (fun vv M_26 hq co26 hcm26 => ?_)
    obtain ⟨rfl, rfl⟩ := hq
    refine ax_reS (st2 := [.inl (f_R w r 1), .inl (p + 1), .inl 0]) rfl ?_
    have cc26 : -2147483648 ≤ f_R w r 1 ∧ f_R w r 1 < 2147483648 := co26 _ rfl
    refine ax_icmp_ge (tgt := 47) dX12_beside_29 (by decide) (pc' := 32) rfl (fun h29 => ?_) (fun h29 => ?_)
    · refine ax_iconst dX12_beside_47 (by decide) (pc' := 48) rfl ?_
      refine ax_iadd dX12_beside_48 (by omega) (pc' := 49) rfl ?_
      refine ax_iret dX12_beside_49 rfl ?_
      refine ⟨rfl, ?_, ?_⟩
      · refine congrArg (fun z => some (Sum.inl z)) ?_
        unfold f_besd f_b
        repeat' split
        all_goals omega
      · rfl
    · refine ax_aload_n dX12_beside_32 rfl rfl (pc' := 33) rfl ?_
      refine ax_iload_n dX12_beside_33 rfl rfl (pc' := 34) rfl ?_
      refine ax_iload_n dX12_beside_34 rfl rfl (pc' := 35) rfl ?_
      refine ax_iconst dX12_beside_35 (by decide) (pc' := 36) rfl ?_
      refine ax_iadd dX12_beside_36 (by omega) (pc' := 37) rfl ?_
      refine ax_invG [.inl r, .inl (p + 1)] [.inl 0] dX12_beside_37 mlX12_340 sh_330 rfl rfl rfl (Nat.le_of_ble_eq_true rfl) (s_X12_isTied E l _ (by omega) _ r (p + 1) hw (by first | omega | assumption) (by first | omega | assumption)) (pc' := 40) rfl (fun vv M_37 hq co37 hcm37 => ?_)
      obtain ⟨rfl, rfl⟩ := hq
      refine ax_reS (st2 := [.inl (f_b (f_P w r (p + 1) 0 ≠ -1)), .inl 0]) rfl ?_
      refine ax_if_eq (tgt := 47) dX12_beside_40 (by decide) (pc' := 43) rfl (fun h40 => ?_) (fun h40 => ?_)
      · replace h40 := f_b_0 h40
        refine ax_iconst dX12_beside_47 (by decide) (pc' := 48) rfl ?_
        refine ax_iadd dX12_beside_48 (by omega) (pc' := 49) rfl ?_
        refine ax_iret dX12_beside_49 rfl ?_
        refine ⟨rfl, ?_, ?_⟩
        · refine congrArg (fun z => some (Sum.inl z)) ?_
          unfold f_besd f_b
          repeat' split
          all_goals omega
        · rfl
      · replace h40 := f_b_1 h40
        refine ax_iconst dX12_beside_43 (by decide) (pc' := 44) rfl ?_
        refine ax_goto dX12_beside_44 (pc' := 48) (by decide) ?_
        refine ax_iadd dX12_beside_48 (by omega) (pc' := 49) rfl ?_
        refine ax_iret dX12_beside_49 rfl ?_
        refine ⟨rfl, ?_, ?_⟩
        · refine congrArg (fun z => some (Sum.inl z)) ?_
          unfold f_besd f_b
          repeat' split
          all_goals omega
        · rfl
  · refine ax_aload_n dX12_beside_4 rfl rfl (pc' := 5) rfl ?_
    refine ax_iload_n dX12_beside_5 rfl rfl (pc' := 6) rfl ?_
    refine ax_iload_n dX12_beside_6 rfl rfl (pc' := 7) rfl ?_
    refine ax_iconst dX12_beside_7 (by decide) (pc' := 8) rfl ?_
    refine ax_isub dX12_beside_8 (by omega) (pc' := 9) rfl ?_
    refine ax_invG [.inl r, .inl (p - 1)] [] dX12_beside_9 mlX12_340 sh_330 rfl rfl rfl (Nat.le_of_ble_eq_true rfl) (s_X12_isTied E l _ (by omega) _ r (p - 1) hw (by first | omega | assumption) (by first | omega | assumption)) (pc' := 12) rfl (fun vv M_9 hq co9 hcm9 => ?_)
    obtain ⟨rfl, rfl⟩ := hq
    refine ax_reS (st2 := [.inl (f_b (f_P w r (p - 1) 0 ≠ -1))]) rfl ?_
    refine ax_if_eq (tgt := 19) dX12_beside_12 (by decide) (pc' := 15) rfl (fun h12 => ?_) (fun h12 => ?_)
    · replace h12 := f_b_0 h12
      refine ax_iconst dX12_beside_19 (by decide) (pc' := 20) rfl ?_
      refine ax_iload_n dX12_beside_20 rfl rfl (pc' := 21) rfl ?_
      refine ax_iconst dX12_beside_21 (by decide) (pc' := 22) rfl ?_
      refine ax_iadd dX12_beside_22 (by omega) (pc' := 23) rfl ?_
      refine ax_aload_n dX12_beside_23 rfl rfl (pc' := 24) rfl ?_
      refine ax_iload_n dX12_beside_24 rfl rfl (pc' := 25) rfl ?_
      refine ax_iconst dX12_beside_25 (by decide) (pc' := 26) rfl ?_
      refine ax_invG [.inl r, .inl 1] [.inl (p + 1), .inl 0] dX12_beside_26 mlX12_78 sh_330 rfl rfl rfl (Nat.le_of_ble_eq_true rfl) (s_X12_ofRope E l _ (by omega) _ r 1 hw (by first | omega | assumption) (by first | omega | assumption)) (pc' := 29) rfl (fun vv M_26 hq co26 hcm26 => ?_)
      obtain ⟨rfl, rfl⟩ := hq
      refine ax_reS (st2 := [.inl (f_R w r 1), .inl (p + 1), .inl 0]) rfl ?_
      have cc26 : -2147483648 ≤ f_R w r 1 ∧ f_R w r 1 < 2147483648 := co26 _ rfl
      refine ax_icmp_ge (tgt := 47) dX12_beside_29 (by decide) (pc' := 32) rfl (fun h29 => ?_) (fun h29 => ?_)
      · refine ax_iconst dX12_beside_47 (by decide) (pc' := 48) rfl ?_
        refine ax_iadd dX12_beside_48 (by omega) (pc' := 49) rfl ?_
        refine ax_iret dX12_beside_49 rfl ?_
        refine ⟨rfl, ?_, ?_⟩
        · refine congrArg (fun z => some (Sum.inl z)) ?_
          unfold f_besd f_b
          repeat' split
          all_goals omega
        · rfl
      · refine ax_aload_n dX12_beside_32 rfl rfl (pc' := 33) rfl ?_
        refine ax_iload_n dX12_beside_33 rfl rfl (pc' := 34) rfl ?_
        refine ax_iload_n dX12_beside_34 rfl rfl (pc' := 35) rfl ?_
        refine ax_iconst dX12_beside_35 (by decide) (pc' := 36) rfl ?_
        refine ax_iadd dX12_beside_36 (by omega) (pc' := 37) rfl ?_
        refine ax_invG [.inl r, .inl (p + 1)] [.inl 0] dX12_beside_37 mlX12_340 sh_330 rfl rfl rfl (Nat.le_of_ble_eq_true rfl) (s_X12_isTied E l _ (by omega) _ r (p + 1) hw (by first | omega | assumption) (by first | omega | assumption)) (pc' := 40) rfl (fun vv M_37 hq co37 hcm37 => ?_)
        obtain ⟨rfl, rfl⟩ := hq
        refine ax_reS (st2 := [.inl (f_b (f_P w r (p + 1) 0 ≠ -1)), .inl 0]) rfl ?_
        refine ax_if_eq (tgt := 47) dX12_beside_40 (by decide) (pc' := 43) rfl (fun h40 => ?_) (fun h40 => ?_)
        · replace h40 := f_b_0 h40
          refine ax_iconst dX12_beside_47 (by decide) (pc' := 48) rfl ?_
          refine ax_iadd dX12_beside_48 (by omega) (pc' := 49) rfl ?_
          refine ax_iret dX12_beside_49 rfl ?_
          refine ⟨rfl, ?_, ?_⟩
          · refine congrArg (fun z => some (Sum.inl z)) ?_
            unfold f_besd f_b
            repeat' split
            all_goals omega
          · rfl
        · replace h40 := f_b_1 h40
          refine ax_iconst dX12_beside_43 (by decide) (pc' := 44) rfl ?_
          refine ax_goto dX12_beside_44 (pc' := 48) (by decide) ?_
          refine ax_iadd dX12_beside_48 (by omega) (pc' := 49) rfl ?_
          refine ax_iret dX12_beside_49 rfl ?_
          refine ⟨rfl, ?_, ?_⟩
          · refine congrArg (fun z => some (Sum.inl z)) ?_
            unfold f_besd f_b
            repeat' split
            all_goals omega
          · rfl
    · replace h12 := f_b_1 h12
      refine ax_iconst dX12_beside_15 (by decide) (pc' := 16) rfl ?_
      refine ax_goto dX12_beside_16 (pc' := 20) (by decide) ?_
      refine ax_iload_n dX12_beside_20 rfl rfl (pc' := 21) rfl ?_
      refine ax_iconst dX12_beside_21 (by decide) (pc' := 22) rfl ?_
      refine ax_iadd dX12_beside_22 (by omega) (pc' := 23) rfl ?_
      refine ax_aload_n dX12_beside_23 rfl rfl (pc' := 24) rfl ?_
      refine ax_iload_n dX12_beside_24 rfl rfl (pc' := 25) rfl ?_
      refine ax_iconst dX12_beside_25 (by decide) (pc' := 26) rfl ?_
      refine ax_invG [.inl r, .inl 1] [.inl (p + 1), .inl 1] dX12_beside_26 mlX12_78 sh_330 rfl rfl rfl (Nat.le_of_ble_eq_true rfl) (s_X12_ofRope E l _ (by omega) _ r 1 hw (by first | omega | assumption) (by first | omega | assumption)) (pc' := 29) rfl (fun vv M_26 hq co26 hcm26 => ?_)
      obtain ⟨rfl, rfl⟩ := hq
      refine ax_reS (st2 := [.inl (f_R w r 1), .inl (p + 1), .inl 1]) rfl ?_
      have cc26 : -2147483648 ≤ f_R w r 1 ∧ f_R w r 1 < 2147483648 := co26 _ rfl
      refine ax_icmp_ge (tgt := 47) dX12_beside_29 (by decide) (pc' := 32) rfl (fun h29 => ?_) (fun h29 => ?_)
      · refine ax_iconst dX12_beside_47 (by decide) (pc' := 48) rfl ?_
        refine ax_iadd dX12_beside_48 (by omega) (pc' := 49) rfl ?_
        refine ax_iret dX12_beside_49 rfl ?_
        refine ⟨rfl, ?_, ?_⟩
        · refine congrArg (fun z => some (Sum.inl z)) ?_
          unfold f_besd f_b
          repeat' split
          all_goals omega
        · rfl
      · refine ax_aload_n dX12_beside_32 rfl rfl (pc' := 33) rfl ?_
        refine ax_iload_n dX12_beside_33 rfl rfl (pc' := 34) rfl ?_
        refine ax_iload_n dX12_beside_34 rfl rfl (pc' := 35) rfl ?_
        refine ax_iconst dX12_beside_35 (by decide) (pc' := 36) rfl ?_
        refine ax_iadd dX12_beside_36 (by omega) (pc' := 37) rfl ?_
        refine ax_invG [.inl r, .inl (p + 1)] [.inl 1] dX12_beside_37 mlX12_340 sh_330 rfl rfl rfl (Nat.le_of_ble_eq_true rfl) (s_X12_isTied E l _ (by omega) _ r (p + 1) hw (by first | omega | assumption) (by first | omega | assumption)) (pc' := 40) rfl (fun vv M_37 hq co37 hcm37 => ?_)
        obtain ⟨rfl, rfl⟩ := hq
        refine ax_reS (st2 := [.inl (f_b (f_P w r (p + 1) 0 ≠ -1)), .inl 1]) rfl ?_
        refine ax_if_eq (tgt := 47) dX12_beside_40 (by decide) (pc' := 43) rfl (fun h40 => ?_) (fun h40 => ?_)
        · replace h40 := f_b_0 h40
          refine ax_iconst dX12_beside_47 (by decide) (pc' := 48) rfl ?_
          refine ax_iadd dX12_beside_48 (by omega) (pc' := 49) rfl ?_
          refine ax_iret dX12_beside_49 rfl ?_
          refine ⟨rfl, ?_, ?_⟩
          · refine congrArg (fun z => some (Sum.inl z)) ?_
            unfold f_besd f_b
            repeat' split
            all_goals omega
          · rfl
        · replace h40 := f_b_1 h40
          refine ax_iconst dX12_beside_43 (by decide) (pc' := 44) rfl ?_
          refine ax_goto dX12_beside_44 (pc' := 48) (by decide) ?_
          refine ax_iadd dX12_beside_48 (by omega) (pc' := 49) rfl ?_
          refine ax_iret dX12_beside_49 rfl ?_
          refine ⟨rfl, ?_, ?_⟩
          · refine congrArg (fun z => some (Sum.inl z)) ?_
            unfold f_besd f_b
            repeat' split
            all_goals omega
          · rfl
set_option maxRecDepth 20000 in
theorem s_X12_habitsAt (E : ax_Env) (l : Launch) (d : Nat) (hd : 2 ≤ d) (M : ax_Mem) (r p : Int) {w : Int → Int} (hw : M 331 = w) (hg0 : 0 ≤ r ∧ r < 8) (hg1 : 0 ≤ p ∧ p < 24) (hg2 : f_rg w) : ax_G E l d iX12_habitsAt [.inr 330, .inl r, .inl p] M (fun z0 M2 => z0 = some (.inl (f_habs w r p)) ∧ M = M2) := by
  obtain ⟨d, rfl⟩ : ∃ d0, d = d0 + 1 := ⟨d - 1, by omega⟩
  refine ax_start rfl (Nat.le_of_ble_eq_true rfl) (ls := [some (.inr 330), some (.inl r), some (.inl p), none, none]) rfl (fun hav hcm => ?_)
  have hc1 : -2147483648 ≤ r ∧ r < 2147483648 := hav (.inl r) (by simp)
  have hc2 : -2147483648 ≤ p ∧ p < 2147483648 := hav (.inl p) (by simp)
  clear hav
  refine ax_iconst dX12_habitsAt_0 (by decide) (pc' := 1) rfl ?_
  refine ax_istore_n dX12_habitsAt_1 rfl (by decide) (ls' := [some (.inr 330), some (.inl r), some (.inl p), some (.inl 0), none]) rfl (pc' := 2) rfl ?_
  refine ax_iconst dX12_habitsAt_2 (by decide) (pc' := 3) rfl ?_
  refine ax_istore dX12_habitsAt_3 (by decide) (ls' := [some (.inr 330), some (.inl r), some (.inl p), some (.inl 0), some (.inl 0)]) rfl (pc' := 5) rfl ?_
  have LP1 : ∀ (kq2 : Nat) (k v : Int) (hm1 : 6 - k < (kq2 : Nat)) (iv1_0 : 0 ≤ k ∧ k ≤ 6) (iv1_1 : f_loop (fun k v => v + f_P w r p (1 + k)) k 6 v = f_habs w r p) (iv1_2 : 0 ≤ v ∧ v ≤ 99 * k), ax_W E l (d + 1) 0 0 iX12_habitsAt 5 [some (.inr 330), some (.inl r), some (.inl p), some (.inl v), some (.inl k)] [] SH M (ax_P (fun z0 M2 => z0 = some (.inl (f_habs w r p)) ∧ M = M2)) := by
    intro kq2
    induction kq2 with
    | zero =>
      intro k v hm1 iv1_0 iv1_1 iv1_2
      exfalso
      omega
    | succ kq2 ih3 =>
      intro k v hm1 iv1_0 iv1_1 iv1_2
      refine ax_iload dX12_habitsAt_5 rfl (pc' := 7) rfl ?_
      refine ax_bipush dX12_habitsAt_7 (by decide) (pc' := 9) rfl ?_
      refine ax_icmp_ge (tgt := 29) dX12_habitsAt_9 (by decide) (pc' := 12) rfl (fun h9 => ?_) (fun h9 => ?_)
      · refine ax_iload_n dX12_habitsAt_29 rfl rfl (pc' := 30) rfl ?_
        refine ax_iret dX12_habitsAt_30 rfl ?_
        refine ⟨rfl, ?_, ?_⟩
        · refine congrArg (fun z => some (Sum.inl z)) ?_
          exact (f_loop_done (by omega)).symm.trans iv1_1
        · rfl
      · have hg3 := f_rgH (k := k) hg2 hg0 hg1 (by omega)
        refine ax_iload_n dX12_habitsAt_12 rfl rfl (pc' := 13) rfl ?_
        refine ax_aload_n dX12_habitsAt_13 rfl rfl (pc' := 14) rfl ?_
        refine ax_iload_n dX12_habitsAt_14 rfl rfl (pc' := 15) rfl ?_
        refine ax_iload_n dX12_habitsAt_15 rfl rfl (pc' := 16) rfl ?_
        refine ax_iload dX12_habitsAt_16 rfl (pc' := 18) rfl ?_
        refine ax_invG [.inl r, .inl p, .inl k] [.inl v] dX12_habitsAt_18 mlX12_354 sh_330 rfl rfl rfl (Nat.le_of_ble_eq_true rfl) (s_X12_habitOf E l _ (by omega) _ r p k hw (by first | omega | assumption) (by first | omega | assumption) (by first | omega | assumption)) (pc' := 21) rfl (fun vv M_18 hq co18 hcm18 => ?_)
        obtain ⟨rfl, rfl⟩ := hq
        refine ax_reS (st2 := [.inl (f_P w r p (1 + k)), .inl v]) rfl ?_
        have cc18 : -2147483648 ≤ f_P w r p (1 + k) ∧ f_P w r p (1 + k) < 2147483648 := co18 _ rfl
        refine ax_iadd dX12_habitsAt_21 (by omega) (pc' := 22) rfl ?_
        refine ax_istore_n dX12_habitsAt_22 rfl (by decide) (ls' := [some (.inr 330), some (.inl r), some (.inl p), some (.inl (v + (f_P w r p (1 + k)))), some (.inl k)]) rfl (pc' := 23) rfl ?_
        refine ax_iinc dX12_habitsAt_23 rfl (by decide) (by omega) (ls' := [some (.inr 330), some (.inl r), some (.inl p), some (.inl (v + (f_P w r p (1 + k)))), some (.inl (k + 1))]) rfl (pc' := 26) rfl ?_
        refine ax_goto dX12_habitsAt_26 (pc' := 5) (by decide) ?_
        refine ih3 (k + 1) (v + (f_P w r p (1 + k))) ?_ ?_ ?_ ?_
        · omega
        · omega
        · exact (f_loop_step (by omega)).symm.trans iv1_1
        · omega
  refine LP1 (6 - 0 : Int).toNat.succ 0 0 ?_ ?_ ?_ ?_
  · omega
  · omega
  · rfl
  · omega
set_option maxRecDepth 20000 in
theorem s_X12_callOf (E : ax_Env) (l : Launch) (d : Nat) (hd : 2 ≤ d) (M : ax_Mem) (r p : Int) {w : Int → Int} (hw : M 331 = w) (hg0 : 0 ≤ r ∧ r < 8) (hg1 : 0 ≤ p ∧ p < 24) : ax_G E l d iX12_callOf [.inr 330, .inl r, .inl p] M (fun z0 M2 => z0 = some (.inl (f_call w r p)) ∧ M = M2 ∧ (-1 ≤ f_call w r p ∧ f_call w r p < 6)) := by
  obtain ⟨d, rfl⟩ : ∃ d0, d = d0 + 1 := ⟨d - 1, by omega⟩
  refine ax_start rfl (Nat.le_of_ble_eq_true rfl) (ls := [some (.inr 330), some (.inl r), some (.inl p), none, none, none]) rfl (fun hav hcm => ?_)
  have hc1 : -2147483648 ≤ r ∧ r < 2147483648 := hav (.inl r) (by simp)
  have hc2 : -2147483648 ≤ p ∧ p < 2147483648 := hav (.inl p) (by simp)
  clear hav
  refine ax_iconst dX12_callOf_0 (by decide) (pc' := 1) rfl ?_
  refine ax_istore_n dX12_callOf_1 rfl (by decide) (ls' := [some (.inr 330), some (.inl r), some (.inl p), some (.inl (-1)), none, none]) rfl (pc' := 2) rfl ?_
  refine ax_iconst dX12_callOf_2 (by decide) (pc' := 3) rfl ?_
  refine ax_istore dX12_callOf_3 (by decide) (ls' := [some (.inr 330), some (.inl r), some (.inl p), some (.inl (-1)), some (.inl 0), none]) rfl (pc' := 5) rfl ?_
  have LP1 : ∀ (kq2 : Nat) (k b : Int) (hm1 : 6 - k < (kq2 : Nat)) (iv1_0 : 0 ≤ k ∧ k ≤ 6) (iv1_1 : f_loop (f_callS (fun k => f_P w r p (1 + k)) (fun k => f_P w r p (7 + k))) k 6 b = f_call w r p) (iv1_2 : -1 ≤ b ∧ b < 6), ax_W E l (d + 1) 0 0 iX12_callOf 5 [some (.inr 330), some (.inl r), some (.inl p), some (.inl b), some (.inl k), none] [] SH M (ax_P (fun z0 M2 => z0 = some (.inl (f_call w r p)) ∧ M = M2 ∧ (-1 ≤ f_call w r p ∧ f_call w r p < 6))) := by
    intro kq2
    induction kq2 with
    | zero =>
      intro k b hm1 iv1_0 iv1_1 iv1_2
      exfalso
      omega
    | succ kq2 ih3 =>
      intro k b hm1 iv1_0 iv1_1 iv1_2
      refine ax_iload dX12_callOf_5 rfl (pc' := 7) rfl ?_
      refine ax_bipush dX12_callOf_7 (by decide) (pc' := 9) rfl ?_
      refine ax_icmp_ge (tgt := 122) dX12_callOf_9 (by decide) (pc' := 12) rfl (fun h9 => ?_) (fun h9 => ?_)
      · refine ax_iload_n dX12_callOf_122 rfl rfl (pc' := 123) rfl ?_
        refine ax_iret dX12_callOf_123 rfl ?_
        refine ⟨rfl, ?_, ?_, ?_⟩
        · refine congrArg (fun z => some (Sum.inl z)) ?_
          exact (f_loop_done (by omega)).symm.trans iv1_1
        · rfl
        · rw [← iv1_1, f_loop_done (by omega)]
          exact iv1_2
      · refine ax_aload_n dX12_callOf_12 rfl rfl (pc' := 13) rfl ?_
        refine ax_iload_n dX12_callOf_13 rfl rfl (pc' := 14) rfl ?_
        refine ax_iload_n dX12_callOf_14 rfl rfl (pc' := 15) rfl ?_
        refine ax_iload dX12_callOf_15 rfl (pc' := 17) rfl ?_
        refine ax_invG [.inl r, .inl p, .inl k] [] dX12_callOf_17 mlX12_354 sh_330 rfl rfl rfl (Nat.le_of_ble_eq_true rfl) (s_X12_habitOf E l _ (by omega) _ r p k hw (by first | omega | assumption) (by first | omega | assumption) (by first | omega | assumption)) (pc' := 20) rfl (fun vv M_17 hq co17 hcm17 => ?_)
        obtain ⟨rfl, rfl⟩ := hq
        refine ax_reS (st2 := [.inl (f_P w r p (1 + k))]) rfl ?_
        have cc17 : -2147483648 ≤ f_P w r p (1 + k) ∧ f_P w r p (1 + k) < 2147483648 := co17 _ rfl
        refine ax_if_ne (tgt := 26) dX12_callOf_20 (by decide) (pc' := 23) rfl (fun h20 => ?_) (fun h20 => ?_)
        · refine ax_iload_n dX12_callOf_26 rfl rfl (pc' := 27) rfl ?_
          refine ax_iconst dX12_callOf_27 (by decide) (pc' := 28) rfl ?_
          refine ax_icmp_eq (tgt := 55) dX12_callOf_28 (by decide) (pc' := 31) rfl (fun h28 => ?_) (fun h28 => ?_)
          · refine ax_iconst dX12_callOf_55 (by decide) (pc' := 56) rfl ?_
            refine ax_goto dX12_callOf_56 (pc' := 60) (by decide) ?_
            refine ax_istore dX12_callOf_60 (by decide) (ls' := [some (.inr 330), some (.inl r), some (.inl p), some (.inl b), some (.inl k), some (.inl 1)]) rfl (pc' := 62) rfl ?_
            refine ax_iload dX12_callOf_62 rfl (pc' := 64) rfl ?_
            refine ax_if_ne (tgt := 109) dX12_callOf_64 (by decide) (pc' := 67) rfl (fun h64 => ?_) (fun h64 => ?_)
            · refine ax_iload dX12_callOf_109 rfl (pc' := 111) rfl ?_
              refine ax_goto dX12_callOf_111 (pc' := 115) (by decide) ?_
              refine ax_istore_n dX12_callOf_115 rfl (by decide) (ls' := [some (.inr 330), some (.inl r), some (.inl p), some (.inl k), some (.inl k), some (.inl 1)]) rfl (pc' := 116) rfl ?_
              refine ax_iinc dX12_callOf_116 rfl (by decide) (by omega) (ls' := [some (.inr 330), some (.inl r), some (.inl p), some (.inl k), some (.inl (k + 1)), some (.inl 1)]) rfl (pc' := 119) rfl ?_
              refine ax_goto dX12_callOf_119 (pc' := 5) (by decide) ?_
              refine ax_less (ls2 := [some (.inr 330), some (.inl r), some (.inl p), some (.inl k), some (.inl (k + 1)), none]) [true, true, true, true, true, false] rfl ?_
              refine ih3 (k + 1) k ?_ ?_ ?_ ?_
              · omega
              · omega
              · refine f_loop_back (by omega) iv1_1 ?_
                unfold f_callS
                simp only []
                repeat' split
                all_goals omega
              · omega
            · exfalso
              omega
          · refine ax_aload_n dX12_callOf_31 rfl rfl (pc' := 32) rfl ?_
            refine ax_iload_n dX12_callOf_32 rfl rfl (pc' := 33) rfl ?_
            refine ax_iload_n dX12_callOf_33 rfl rfl (pc' := 34) rfl ?_
            refine ax_bipush dX12_callOf_34 (by decide) (pc' := 36) rfl ?_
            refine ax_iload dX12_callOf_36 rfl (pc' := 38) rfl ?_
            refine ax_iadd dX12_callOf_38 (by omega) (pc' := 39) rfl ?_
            refine ax_invG [.inl r, .inl p, .inl (7 + k)] [] dX12_callOf_39 mlX12_86 sh_330 rfl rfl rfl (Nat.le_of_ble_eq_true rfl) (s_X12_ofPlace E l _ (by omega) _ r p (7 + k) hw (by first | omega | assumption) (by first | omega | assumption) (by first | omega | assumption)) (pc' := 42) rfl (fun vv M_39 hq co39 hcm39 => ?_)
            obtain ⟨rfl, rfl⟩ := hq
            refine ax_reS (st2 := [.inl (f_P w r p (7 + k))]) rfl ?_
            have cc39 : -2147483648 ≤ f_P w r p (7 + k) ∧ f_P w r p (7 + k) < 2147483648 := co39 _ rfl
            refine ax_aload_n dX12_callOf_42 rfl rfl (pc' := 43) rfl ?_
            refine ax_iload_n dX12_callOf_43 rfl rfl (pc' := 44) rfl ?_
            refine ax_iload_n dX12_callOf_44 rfl rfl (pc' := 45) rfl ?_
            refine ax_bipush dX12_callOf_45 (by decide) (pc' := 47) rfl ?_
            refine ax_iload_n dX12_callOf_47 rfl rfl (pc' := 48) rfl ?_
            refine ax_iadd dX12_callOf_48 (by omega) (pc' := 49) rfl ?_
            refine ax_invG [.inl r, .inl p, .inl (7 + b)] [.inl (f_P w r p (7 + k))] dX12_callOf_49 mlX12_86 sh_330 rfl rfl rfl (Nat.le_of_ble_eq_true rfl) (s_X12_ofPlace E l _ (by omega) _ r p (7 + b) hw (by first | omega | assumption) (by first | omega | assumption) (by first | omega | assumption)) (pc' := 52) rfl (fun vv M_49 hq co49 hcm49 => ?_)
            obtain ⟨rfl, rfl⟩ := hq
            refine ax_reS (st2 := [.inl (f_P w r p (7 + b)), .inl (f_P w r p (7 + k))]) rfl ?_
            have cc49 : -2147483648 ≤ f_P w r p (7 + b) ∧ f_P w r p (7 + b) < 2147483648 := co49 _ rfl
            refine ax_icmp_ge (tgt := 59) dX12_callOf_52 (by decide) (pc' := 55) rfl (fun h52 => ?_) (fun h52 => ?_)
            · refine ax_iconst dX12_callOf_59 (by decide) (pc' := 60) rfl ?_
              refine ax_istore dX12_callOf_60 (by decide) (ls' := [some (.inr 330), some (.inl r), some (.inl p), some (.inl b), some (.inl k), some (.inl 0)]) rfl (pc' := 62) rfl ?_
              refine ax_iload dX12_callOf_62 rfl (pc' := 64) rfl ?_
              refine ax_if_ne (tgt := 109) dX12_callOf_64 (by decide) (pc' := 67) rfl (fun h64 => ?_) (fun h64 => ?_)
              · exfalso
                omega
              · refine ax_aload_n dX12_callOf_67 rfl rfl (pc' := 68) rfl ?_
                refine ax_iload_n dX12_callOf_68 rfl rfl (pc' := 69) rfl ?_
                refine ax_iload_n dX12_callOf_69 rfl rfl (pc' := 70) rfl ?_
                refine ax_bipush dX12_callOf_70 (by decide) (pc' := 72) rfl ?_
                refine ax_iload dX12_callOf_72 rfl (pc' := 74) rfl ?_
                refine ax_iadd dX12_callOf_74 (by omega) (pc' := 75) rfl ?_
                refine ax_invG [.inl r, .inl p, .inl (7 + k)] [] dX12_callOf_75 mlX12_86 sh_330 rfl rfl rfl (Nat.le_of_ble_eq_true rfl) (s_X12_ofPlace E l _ (by omega) _ r p (7 + k) hw (by first | omega | assumption) (by first | omega | assumption) (by first | omega | assumption)) (pc' := 78) rfl (fun vv M_75 hq co75 hcm75 => ?_)
                obtain ⟨rfl, rfl⟩ := hq
                refine ax_reS (st2 := [.inl (f_P w r p (7 + k))]) rfl ?_
                have cc75 : -2147483648 ≤ f_P w r p (7 + k) ∧ f_P w r p (7 + k) < 2147483648 := co75 _ rfl
                refine ax_aload_n dX12_callOf_78 rfl rfl (pc' := 79) rfl ?_
                refine ax_iload_n dX12_callOf_79 rfl rfl (pc' := 80) rfl ?_
                refine ax_iload_n dX12_callOf_80 rfl rfl (pc' := 81) rfl ?_
                refine ax_bipush dX12_callOf_81 (by decide) (pc' := 83) rfl ?_
                refine ax_iload_n dX12_callOf_83 rfl rfl (pc' := 84) rfl ?_
                refine ax_iadd dX12_callOf_84 (by omega) (pc' := 85) rfl ?_
                refine ax_invG [.inl r, .inl p, .inl (7 + b)] [.inl (f_P w r p (7 + k))] dX12_callOf_85 mlX12_86 sh_330 rfl rfl rfl (Nat.le_of_ble_eq_true rfl) (s_X12_ofPlace E l _ (by omega) _ r p (7 + b) hw (by first | omega | assumption) (by first | omega | assumption) (by first | omega | assumption)) (pc' := 88) rfl (fun vv M_85 hq co85 hcm85 => ?_)
                obtain ⟨rfl, rfl⟩ := hq
                refine ax_reS (st2 := [.inl (f_P w r p (7 + b)), .inl (f_P w r p (7 + k))]) rfl ?_
                have cc85 : -2147483648 ≤ f_P w r p (7 + b) ∧ f_P w r p (7 + b) < 2147483648 := co85 _ rfl
                refine ax_icmp_ne (tgt := 114) dX12_callOf_88 (by decide) (pc' := 91) rfl (fun h88 => ?_) (fun h88 => ?_)
                · refine ax_iload_n dX12_callOf_114 rfl rfl (pc' := 115) rfl ?_
                  refine ax_istore_n dX12_callOf_115 rfl (by decide) (ls' := [some (.inr 330), some (.inl r), some (.inl p), some (.inl b), some (.inl k), some (.inl 0)]) rfl (pc' := 116) rfl ?_
                  refine ax_iinc dX12_callOf_116 rfl (by decide) (by omega) (ls' := [some (.inr 330), some (.inl r), some (.inl p), some (.inl b), some (.inl (k + 1)), some (.inl 0)]) rfl (pc' := 119) rfl ?_
                  refine ax_goto dX12_callOf_119 (pc' := 5) (by decide) ?_
                  refine ax_less (ls2 := [some (.inr 330), some (.inl r), some (.inl p), some (.inl b), some (.inl (k + 1)), none]) [true, true, true, true, true, false] rfl ?_
                  refine ih3 (k + 1) b ?_ ?_ ?_ ?_
                  · omega
                  · omega
                  · refine f_loop_back (by omega) iv1_1 ?_
                    unfold f_callS
                    simp only []
                    repeat' split
                    all_goals omega
                  · omega
                · refine ax_aload_n dX12_callOf_91 rfl rfl (pc' := 92) rfl ?_
                  refine ax_iload_n dX12_callOf_92 rfl rfl (pc' := 93) rfl ?_
                  refine ax_iload_n dX12_callOf_93 rfl rfl (pc' := 94) rfl ?_
                  refine ax_iload dX12_callOf_94 rfl (pc' := 96) rfl ?_
                  refine ax_invG [.inl r, .inl p, .inl k] [] dX12_callOf_96 mlX12_354 sh_330 rfl rfl rfl (Nat.le_of_ble_eq_true rfl) (s_X12_habitOf E l _ (by omega) _ r p k hw (by first | omega | assumption) (by first | omega | assumption) (by first | omega | assumption)) (pc' := 99) rfl (fun vv M_96 hq co96 hcm96 => ?_)
                  obtain ⟨rfl, rfl⟩ := hq
                  refine ax_reS (st2 := [.inl (f_P w r p (1 + k))]) rfl ?_
                  have cc96 : -2147483648 ≤ f_P w r p (1 + k) ∧ f_P w r p (1 + k) < 2147483648 := co96 _ rfl
                  refine ax_aload_n dX12_callOf_99 rfl rfl (pc' := 100) rfl ?_
                  refine ax_iload_n dX12_callOf_100 rfl rfl (pc' := 101) rfl ?_
                  refine ax_iload_n dX12_callOf_101 rfl rfl (pc' := 102) rfl ?_
                  refine ax_iload_n dX12_callOf_102 rfl rfl (pc' := 103) rfl ?_
                  refine ax_invG [.inl r, .inl p, .inl b] [.inl (f_P w r p (1 + k))] dX12_callOf_103 mlX12_354 sh_330 rfl rfl rfl (Nat.le_of_ble_eq_true rfl) (s_X12_habitOf E l _ (by omega) _ r p b hw (by first | omega | assumption) (by first | omega | assumption) (by first | omega | assumption)) (pc' := 106) rfl (fun vv M_103 hq co103 hcm103 => ?_)
                  obtain ⟨rfl, rfl⟩ := hq
                  refine ax_reS (st2 := [.inl (f_P w r p (1 + b)), .inl (f_P w r p (1 + k))]) rfl ?_
                  have cc103 : -2147483648 ≤ f_P w r p (1 + b) ∧ f_P w r p (1 + b) < 2147483648 := co103 _ rfl
                  refine ax_icmp_le (tgt := 114) dX12_callOf_106 (by decide) (pc' := 109) rfl (fun h106 => ?_) (fun h106 => ?_)
                  · refine ax_iload_n dX12_callOf_114 rfl rfl (pc' := 115) rfl ?_
                    refine ax_istore_n dX12_callOf_115 rfl (by decide) (ls' := [some (.inr 330), some (.inl r), some (.inl p), some (.inl b), some (.inl k), some (.inl 0)]) rfl (pc' := 116) rfl ?_
                    refine ax_iinc dX12_callOf_116 rfl (by decide) (by omega) (ls' := [some (.inr 330), some (.inl r), some (.inl p), some (.inl b), some (.inl (k + 1)), some (.inl 0)]) rfl (pc' := 119) rfl ?_
                    refine ax_goto dX12_callOf_119 (pc' := 5) (by decide) ?_
                    refine ax_less (ls2 := [some (.inr 330), some (.inl r), some (.inl p), some (.inl b), some (.inl (k + 1)), none]) [true, true, true, true, true, false] rfl ?_
                    refine ih3 (k + 1) b ?_ ?_ ?_ ?_
                    · omega
                    · omega
                    · refine f_loop_back (by omega) iv1_1 ?_
                      unfold f_callS
                      simp only []
                      repeat' split
                      all_goals omega
                    · omega
                  · refine ax_iload dX12_callOf_109 rfl (pc' := 111) rfl ?_
                    refine ax_goto dX12_callOf_111 (pc' := 115) (by decide) ?_
                    refine ax_istore_n dX12_callOf_115 rfl (by decide) (ls' := [some (.inr 330), some (.inl r), some (.inl p), some (.inl k), some (.inl k), some (.inl 0)]) rfl (pc' := 116) rfl ?_
                    refine ax_iinc dX12_callOf_116 rfl (by decide) (by omega) (ls' := [some (.inr 330), some (.inl r), some (.inl p), some (.inl k), some (.inl (k + 1)), some (.inl 0)]) rfl (pc' := 119) rfl ?_
                    refine ax_goto dX12_callOf_119 (pc' := 5) (by decide) ?_
                    refine ax_less (ls2 := [some (.inr 330), some (.inl r), some (.inl p), some (.inl k), some (.inl (k + 1)), none]) [true, true, true, true, true, false] rfl ?_
                    refine ih3 (k + 1) k ?_ ?_ ?_ ?_
                    · omega
                    · omega
                    · refine f_loop_back (by omega) iv1_1 ?_
                      unfold f_callS
                      simp only []
                      repeat' split
                      all_goals omega
                    · omega
            · refine ax_iconst dX12_callOf_55 (by decide) (pc' := 56) rfl ?_
              refine ax_goto dX12_callOf_56 (pc' := 60) (by decide) ?_
              refine ax_istore dX12_callOf_60 (by decide) (ls' := [some (.inr 330), some (.inl r), some (.inl p), some (.inl b), some (.inl k), some (.inl 1)]) rfl (pc' := 62) rfl ?_
              refine ax_iload dX12_callOf_62 rfl (pc' := 64) rfl ?_
              refine ax_if_ne (tgt := 109) dX12_callOf_64 (by decide) (pc' := 67) rfl (fun h64 => ?_) (fun h64 => ?_)
              · refine ax_iload dX12_callOf_109 rfl (pc' := 111) rfl ?_
                refine ax_goto dX12_callOf_111 (pc' := 115) (by decide) ?_
                refine ax_istore_n dX12_callOf_115 rfl (by decide) (ls' := [some (.inr 330), some (.inl r), some (.inl p), some (.inl k), some (.inl k), some (.inl 1)]) rfl (pc' := 116) rfl ?_
                refine ax_iinc dX12_callOf_116 rfl (by decide) (by omega) (ls' := [some (.inr 330), some (.inl r), some (.inl p), some (.inl k), some (.inl (k + 1)), some (.inl 1)]) rfl (pc' := 119) rfl ?_
                refine ax_goto dX12_callOf_119 (pc' := 5) (by decide) ?_
                refine ax_less (ls2 := [some (.inr 330), some (.inl r), some (.inl p), some (.inl k), some (.inl (k + 1)), none]) [true, true, true, true, true, false] rfl ?_
                refine ih3 (k + 1) k ?_ ?_ ?_ ?_
                · omega
                · omega
                · refine f_loop_back (by omega) iv1_1 ?_
                  unfold f_callS
                  simp only []
                  repeat' split
                  all_goals omega
                · omega
              · exfalso
                omega
        · refine ax_goto dX12_callOf_23 (pc' := 116) (by decide) ?_
          refine ax_iinc dX12_callOf_116 rfl (by decide) (by omega) (ls' := [some (.inr 330), some (.inl r), some (.inl p), some (.inl b), some (.inl (k + 1)), none]) rfl (pc' := 119) rfl ?_
          refine ax_goto dX12_callOf_119 (pc' := 5) (by decide) ?_
          refine ih3 (k + 1) b ?_ ?_ ?_ ?_
          · omega
          · omega
          · refine f_loop_back (by omega) iv1_1 ?_
            unfold f_callS
            simp only []
            repeat' split
            all_goals omega
          · omega
  refine LP1 (6 - 0 : Int).toNat.succ 0 (-1) ?_ ?_ ?_ ?_
  · omega
  · omega
  · rfl
  · omega
set_option maxRecDepth 20000 in
theorem s_X12_notes (E : ax_Env) (l : Launch) (d : Nat) (hd : 0 ≤ d) (M : ax_Mem) (r p what how hand : Int) {w : Int → Int} (hw : M 331 = w) (hg0 : 0 ≤ w 1 ∧ w 1 ≤ 200) : ax_G E l d iX12_notes [.inr 330, .inl r, .inl p, .inl what, .inl how, .inl hand] M (fun z0 M2 => z0 = none ∧ (∀ x0 i0 : Int, ¬ (x0 = 331) → M2 x0 i0 = M x0 i0) ∧ M2 331 = f_note w r p what how hand) := by
  refine ax_start rfl (Nat.le_of_ble_eq_true rfl) (ls := [some (.inr 330), some (.inl r), some (.inl p), some (.inl what), some (.inl how), some (.inl hand), none]) rfl (fun hav hcm => ?_)
  have hc1 : -2147483648 ≤ r ∧ r < 2147483648 := hav (.inl r) (by simp)
  have hc2 : -2147483648 ≤ p ∧ p < 2147483648 := hav (.inl p) (by simp)
  have hc3 : -2147483648 ≤ what ∧ what < 2147483648 := hav (.inl what) (by simp)
  have hc4 : -2147483648 ≤ how ∧ how < 2147483648 := hav (.inl how) (by simp)
  have hc5 : -2147483648 ≤ hand ∧ hand < 2147483648 := hav (.inl hand) (by simp)
  clear hav
  refine ax_aload_n dX12_notes_0 rfl rfl (pc' := 1) rfl ?_
  refine ax_getr (v := 331) dX12_notes_1 flX12_7 rfl sh_330 rfl (pc' := 4) rfl ?_
  refine ax_iconst dX12_notes_4 (by decide) (pc' := 5) rfl ?_
  refine ax_iald (v := w 1) dX12_notes_5 sh_331 rfl (by omega) (by omega) ((congrFun hw 1).trans rfl) (pc' := 6) rfl ?_
  refine ax_sipush dX12_notes_6 (by decide) (pc' := 9) rfl ?_
  refine ax_icmp_ne (tgt := 13) dX12_notes_9 (by decide) (pc' := 12) rfl (fun h9 => ?_) (fun h9 => ?_)
  · refine ax_sipush dX12_notes_13 (by decide) (pc' := 16) rfl ?_
    refine ax_bipush dX12_notes_16 (by decide) (pc' := 18) rfl ?_
    refine ax_aload_n dX12_notes_18 rfl rfl (pc' := 19) rfl ?_
    refine ax_getr (v := 331) dX12_notes_19 flX12_7 rfl sh_330 rfl (pc' := 22) rfl ?_
    refine ax_iconst dX12_notes_22 (by decide) (pc' := 23) rfl ?_
    refine ax_iald (v := w 1) dX12_notes_23 sh_331 rfl (by omega) (by omega) ((congrFun hw 1).trans rfl) (pc' := 24) rfl ?_
    refine ax_imul dX12_notes_24 (by omega) (pc' := 25) rfl ?_
    refine ax_iadd dX12_notes_25 (by omega) (pc' := 26) rfl ?_
    refine ax_istore dX12_notes_26 (by decide) (ls' := [some (.inr 330), some (.inl r), some (.inl p), some (.inl what), some (.inl how), some (.inl hand), some (.inl (2640 + (6 * (w 1))))]) rfl (pc' := 28) rfl ?_
    refine ax_aload_n dX12_notes_28 rfl rfl (pc' := 29) rfl ?_
    refine ax_getr (v := 331) dX12_notes_29 flX12_7 rfl sh_330 rfl (pc' := 32) rfl ?_
    refine ax_iload dX12_notes_32 rfl (pc' := 34) rfl ?_
    refine ax_aload_n dX12_notes_34 rfl rfl (pc' := 35) rfl ?_
    refine ax_getr (v := 331) dX12_notes_35 flX12_7 rfl sh_330 rfl (pc' := 38) rfl ?_
    refine ax_iconst dX12_notes_38 (by decide) (pc' := 39) rfl ?_
    refine ax_iald (v := w 0) dX12_notes_39 sh_331 rfl (by omega) (by omega) ((congrFun hw 0).trans rfl) (pc' := 40) rfl ?_
    refine ax_iast dX12_notes_40 sh_331 rfl (by omega) (by omega) (pc' := 41) rfl ?_
    refine ax_aload_n dX12_notes_41 rfl rfl (pc' := 42) rfl ?_
    refine ax_getr (v := 331) dX12_notes_42 flX12_7 rfl sh_330 rfl (pc' := 45) rfl ?_
    refine ax_iload dX12_notes_45 rfl (pc' := 47) rfl ?_
    refine ax_iconst dX12_notes_47 (by decide) (pc' := 48) rfl ?_
    refine ax_iadd dX12_notes_48 (by omega) (pc' := 49) rfl ?_
    refine ax_iload_n dX12_notes_49 rfl rfl (pc' := 50) rfl ?_
    refine ax_iast dX12_notes_50 sh_331 rfl (by omega) (by omega) (pc' := 51) rfl ?_
    refine ax_aload_n dX12_notes_51 rfl rfl (pc' := 52) rfl ?_
    refine ax_getr (v := 331) dX12_notes_52 flX12_7 rfl sh_330 rfl (pc' := 55) rfl ?_
    refine ax_iload dX12_notes_55 rfl (pc' := 57) rfl ?_
    refine ax_iconst dX12_notes_57 (by decide) (pc' := 58) rfl ?_
    refine ax_iadd dX12_notes_58 (by omega) (pc' := 59) rfl ?_
    refine ax_iload_n dX12_notes_59 rfl rfl (pc' := 60) rfl ?_
    refine ax_iast dX12_notes_60 sh_331 rfl (by omega) (by omega) (pc' := 61) rfl ?_
    refine ax_aload_n dX12_notes_61 rfl rfl (pc' := 62) rfl ?_
    refine ax_getr (v := 331) dX12_notes_62 flX12_7 rfl sh_330 rfl (pc' := 65) rfl ?_
    refine ax_iload dX12_notes_65 rfl (pc' := 67) rfl ?_
    refine ax_iconst dX12_notes_67 (by decide) (pc' := 68) rfl ?_
    refine ax_iadd dX12_notes_68 (by omega) (pc' := 69) rfl ?_
    refine ax_iload_n dX12_notes_69 rfl rfl (pc' := 70) rfl ?_
    refine ax_iast dX12_notes_70 sh_331 rfl (by omega) (by omega) (pc' := 71) rfl ?_
    refine ax_aload_n dX12_notes_71 rfl rfl (pc' := 72) rfl ?_
    refine ax_getr (v := 331) dX12_notes_72 flX12_7 rfl sh_330 rfl (pc' := 75) rfl ?_
    refine ax_iload dX12_notes_75 rfl (pc' := 77) rfl ?_
    refine ax_iconst dX12_notes_77 (by decide) (pc' := 78) rfl ?_
    refine ax_iadd dX12_notes_78 (by omega) (pc' := 79) rfl ?_
    refine ax_iload dX12_notes_79 rfl (pc' := 81) rfl ?_
    refine ax_iast dX12_notes_81 sh_331 rfl (by omega) (by omega) (pc' := 82) rfl ?_
    refine ax_aload_n dX12_notes_82 rfl rfl (pc' := 83) rfl ?_
    refine ax_getr (v := 331) dX12_notes_83 flX12_7 rfl sh_330 rfl (pc' := 86) rfl ?_
    refine ax_iload dX12_notes_86 rfl (pc' := 88) rfl ?_
    refine ax_iconst dX12_notes_88 (by decide) (pc' := 89) rfl ?_
    refine ax_iadd dX12_notes_89 (by omega) (pc' := 90) rfl ?_
    refine ax_iload dX12_notes_90 rfl (pc' := 92) rfl ?_
    refine ax_iast dX12_notes_92 sh_331 rfl (by omega) (by omega) (pc' := 93) rfl ?_
    refine ax_aload_n dX12_notes_93 rfl rfl (pc' := 94) rfl ?_
    refine ax_getr (v := 331) dX12_notes_94 flX12_7 rfl sh_330 rfl (pc' := 97) rfl ?_
    refine ax_iconst dX12_notes_97 (by decide) (pc' := 98) rfl ?_
    refine ax_dup2 dX12_notes_98 (pc' := 99) rfl ?_
    refine ax_iald (v := w 1) dX12_notes_99 sh_331 rfl (by omega) (by omega) ((congrFun (ax_up_rowhit (ax_up_rowhit (ax_up_rowhit (ax_up_rowhit (ax_up_rowhit (ax_up_rowhit hw)))))) 1).trans (f_up_ne (by omega) (f_up_ne (by omega) (f_up_ne (by omega) (f_up_ne (by omega) (f_up_ne (by omega) (f_up_ne (by omega) rfl))))))) (pc' := 100) rfl ?_
    refine ax_iconst dX12_notes_100 (by decide) (pc' := 101) rfl ?_
    refine ax_iadd dX12_notes_101 (by omega) (pc' := 102) rfl ?_
    refine ax_iast dX12_notes_102 sh_331 rfl (by omega) (by omega) (pc' := 103) rfl ?_
    refine ax_vret dX12_notes_103 rfl ?_
    refine ⟨rfl, rfl, ?_, ?_⟩
    · intro x0 i0 hai
      exact (ax_up_miss (by omega) (ax_up_miss (by omega) (ax_up_miss (by omega) (ax_up_miss (by omega) (ax_up_miss (by omega) (ax_up_miss (by omega) (ax_up_miss (by omega) rfl)))))))
    · refine Eq.trans (ax_up_rowhit (ax_up_rowhit (ax_up_rowhit (ax_up_rowhit (ax_up_rowhit (ax_up_rowhit (ax_up_rowhit hw))))))) ?_
      unfold f_note
      rw [if_neg h9]
  · refine ax_vret dX12_notes_12 rfl ?_
    refine ⟨rfl, rfl, ?_, ?_⟩
    · intro x0 i0 hai
      exact rfl
    · refine Eq.trans hw ?_
      unfold f_note
      rw [if_pos h9]
set_option maxRecDepth 20000 in
theorem s_X12_more (E : ax_Env) (l : Launch) (d : Nat) (hd : 2 ≤ d) (M : ax_Mem) (r p k v : Int) {w : Int → Int} (hw : M 331 = w) (hg0 : 0 ≤ r ∧ r < 8) (hg1 : 0 ≤ p ∧ p < 24) (hg2 : 0 ≤ k ∧ k < 6) (hg3 : f_rg w) (hg4 : 0 ≤ v ∧ v ≤ 99) : ax_G E l d iX12_more [.inr 330, .inl r, .inl p, .inl k, .inl v] M (fun z0 M2 => z0 = none ∧ (∀ x0 i0 : Int, ¬ (x0 = 331) → M2 x0 i0 = M x0 i0) ∧ M2 331 = f_more w r p k v) := by
  obtain ⟨d, rfl⟩ : ∃ d0, d = d0 + 1 := ⟨d - 1, by omega⟩
  refine ax_start rfl (Nat.le_of_ble_eq_true rfl) (ls := [some (.inr 330), some (.inl r), some (.inl p), some (.inl k), some (.inl v)]) rfl (fun hav hcm => ?_)
  have hc1 : -2147483648 ≤ r ∧ r < 2147483648 := hav (.inl r) (by simp)
  have hc2 : -2147483648 ≤ p ∧ p < 2147483648 := hav (.inl p) (by simp)
  have hc3 : -2147483648 ≤ k ∧ k < 2147483648 := hav (.inl k) (by simp)
  have hc4 : -2147483648 ≤ v ∧ v < 2147483648 := hav (.inl v) (by simp)
  clear hav
  have gg := f_rgH hg3 hg0 hg1 hg2
  refine ax_aload_n dX12_more_0 rfl rfl (pc' := 1) rfl ?_
  refine ax_iload_n dX12_more_1 rfl rfl (pc' := 2) rfl ?_
  refine ax_iload_n dX12_more_2 rfl rfl (pc' := 3) rfl ?_
  refine ax_iload_n dX12_more_3 rfl rfl (pc' := 4) rfl ?_
  refine ax_bipush dX12_more_4 (by decide) (pc' := 6) rfl ?_
  refine ax_aload_n dX12_more_6 rfl rfl (pc' := 7) rfl ?_
  refine ax_iload_n dX12_more_7 rfl rfl (pc' := 8) rfl ?_
  refine ax_iload_n dX12_more_8 rfl rfl (pc' := 9) rfl ?_
  refine ax_iload_n dX12_more_9 rfl rfl (pc' := 10) rfl ?_
  refine ax_invG [.inl r, .inl p, .inl k] [.inl 99, .inl k, .inl p, .inl r, .inr 330] dX12_more_10 mlX12_354 sh_330 rfl rfl rfl (Nat.le_of_ble_eq_true rfl) (s_X12_habitOf E l _ (by omega) _ r p k hw (by first | omega | assumption) (by first | omega | assumption) (by first | omega | assumption)) (pc' := 13) rfl (fun vv M_10 hq co10 hcm10 => ?_)
  obtain ⟨rfl, rfl⟩ := hq
  refine ax_reS (st2 := [.inl (f_P w r p (1 + k)), .inl 99, .inl k, .inl p, .inl r, .inr 330]) rfl ?_
  have cc10 : -2147483648 ≤ f_P w r p (1 + k) ∧ f_P w r p (1 + k) < 2147483648 := co10 _ rfl
  refine ax_iload dX12_more_13 rfl (pc' := 15) rfl ?_
  refine ax_iadd dX12_more_15 (by omega) (pc' := 16) rfl ?_
  refine ax_insG [.inl 99, .inl (f_P w r p (1 + k) + v)] [.inl k, .inl p, .inl r, .inr 330] dX12_more_16 mlX12_334 rfl rfl (Nat.le_of_ble_eq_true rfl) (s_X12_lesser E l _ (by omega) _ 99 (f_P w r p (1 + k) + v)) (pc' := 19) rfl (fun vv M_16 hq co16 hcm16 => ?_)
  obtain ⟨rfl, rfl⟩ := hq
  refine ax_reS (st2 := [.inl (min 99 (f_P w r p (1 + k) + v)), .inl k, .inl p, .inl r, .inr 330]) rfl ?_
  have cc16 : -2147483648 ≤ min 99 (f_P w r p (1 + k) + v) ∧ min 99 (f_P w r p (1 + k) + v) < 2147483648 := co16 _ rfl
  refine ax_aload_n dX12_more_19 rfl rfl (pc' := 20) rfl ?_
  refine ax_iload_n dX12_more_20 rfl rfl (pc' := 21) rfl ?_
  refine ax_iload_n dX12_more_21 rfl rfl (pc' := 22) rfl ?_
  refine ax_iload_n dX12_more_22 rfl rfl (pc' := 23) rfl ?_
  refine ax_invG [.inl r, .inl p, .inl k] [.inl (min 99 (f_P w r p (1 + k) + v)), .inl k, .inl p, .inl r, .inr 330] dX12_more_23 mlX12_354 sh_330 rfl rfl rfl (Nat.le_of_ble_eq_true rfl) (s_X12_habitOf E l _ (by omega) _ r p k hw (by first | omega | assumption) (by first | omega | assumption) (by first | omega | assumption)) (pc' := 26) rfl (fun vv M_23 hq co23 hcm23 => ?_)
  obtain ⟨rfl, rfl⟩ := hq
  refine ax_reS (st2 := [.inl (f_P w r p (1 + k)), .inl (min 99 (f_P w r p (1 + k) + v)), .inl k, .inl p, .inl r, .inr 330]) rfl ?_
  have cc23 : -2147483648 ≤ f_P w r p (1 + k) ∧ f_P w r p (1 + k) < 2147483648 := co23 _ rfl
  refine ax_if_ne (tgt := 38) dX12_more_26 (by decide) (pc' := 29) rfl (fun h26 => ?_) (fun h26 => ?_)
  · refine ax_aload_n dX12_more_38 rfl rfl (pc' := 39) rfl ?_
    refine ax_iload_n dX12_more_39 rfl rfl (pc' := 40) rfl ?_
    refine ax_iload_n dX12_more_40 rfl rfl (pc' := 41) rfl ?_
    refine ax_bipush dX12_more_41 (by decide) (pc' := 43) rfl ?_
    refine ax_iload_n dX12_more_43 rfl rfl (pc' := 44) rfl ?_
    refine ax_iadd dX12_more_44 (by omega) (pc' := 45) rfl ?_
    refine ax_invG [.inl r, .inl p, .inl (7 + k)] [.inl (min 99 (f_P w r p (1 + k) + v)), .inl k, .inl p, .inl r, .inr 330] dX12_more_45 mlX12_86 sh_330 rfl rfl rfl (Nat.le_of_ble_eq_true rfl) (s_X12_ofPlace E l _ (by omega) _ r p (7 + k) hw (by first | omega | assumption) (by first | omega | assumption) (by first | omega | assumption)) (pc' := 48) rfl (fun vv M_45 hq co45 hcm45 => ?_)
    obtain ⟨rfl, rfl⟩ := hq
    refine ax_reS (st2 := [.inl (f_P w r p (7 + k)), .inl (min 99 (f_P w r p (1 + k) + v)), .inl k, .inl p, .inl r, .inr 330]) rfl ?_
    have cc45 : -2147483648 ≤ f_P w r p (7 + k) ∧ f_P w r p (7 + k) < 2147483648 := co45 _ rfl
    refine ax_invG [.inl r, .inl p, .inl k, .inl (min 99 (f_P w r p (1 + k) + v)), .inl (f_P w r p (7 + k))] [] dX12_more_48 mlX12_106 sh_330 rfl rfl rfl (Nat.le_of_ble_eq_true rfl) (s_X12_habits E l _ (by omega) _ r p k (min 99 (f_P w r p (1 + k) + v)) (f_P w r p (7 + k)) hw (by first | omega | assumption) (by first | omega | assumption) (by first | omega | assumption)) (pc' := 51) rfl (fun vv M_48 hq co48 hcm48 => ?_)
    obtain ⟨rfl, frM_48, mrM_48_0⟩ := hq
    refine ax_reS (st2 := []) rfl ?_
    refine ax_vret dX12_more_51 rfl ?_
    refine ⟨rfl, rfl, ?_, ?_⟩
    · intro x0 i0 hai
      exact ((frM_48 x0 i0 (by omega)).trans rfl)
    · refine Eq.trans mrM_48_0 ?_
      unfold f_more
      first | rw [if_pos h26] | rw [if_neg h26]
  · refine ax_aload_n dX12_more_29 rfl rfl (pc' := 30) rfl ?_
    refine ax_getr (v := 331) dX12_more_30 flX12_7 rfl sh_330 rfl (pc' := 33) rfl ?_
    refine ax_iconst dX12_more_33 (by decide) (pc' := 34) rfl ?_
    refine ax_iald (v := w 0) dX12_more_34 sh_331 rfl (by omega) (by omega) ((congrFun hw 0).trans rfl) (pc' := 35) rfl ?_
    refine ax_goto dX12_more_35 (pc' := 48) (by decide) ?_
    refine ax_invG [.inl r, .inl p, .inl k, .inl (min 99 (f_P w r p (1 + k) + v)), .inl (w 0)] [] dX12_more_48 mlX12_106 sh_330 rfl rfl rfl (Nat.le_of_ble_eq_true rfl) (s_X12_habits E l _ (by omega) _ r p k (min 99 (f_P w r p (1 + k) + v)) (w 0) hw (by first | omega | assumption) (by first | omega | assumption) (by first | omega | assumption)) (pc' := 51) rfl (fun vv M_48 hq co48 hcm48 => ?_)
    obtain ⟨rfl, frM_48, mrM_48_0⟩ := hq
    refine ax_reS (st2 := []) rfl ?_
    refine ax_vret dX12_more_51 rfl ?_
    refine ⟨rfl, rfl, ?_, ?_⟩
    · intro x0 i0 hai
      exact ((frM_48 x0 i0 (by omega)).trans rfl)
    · refine Eq.trans mrM_48_0 ?_
      unfold f_more
      first | rw [if_pos h26] | rw [if_neg h26]
set_option maxRecDepth 20000 in
theorem s_X12_canTie (E : ax_Env) (l : Launch) (d : Nat) (hd : 3 ≤ d) (M : ax_Mem) (r p k : Int) {w : Int → Int} (hw : M 331 = w) (hg0 : f_ok w) : ax_G E l d iX12_canTie [.inr 330, .inl r, .inl p, .inl k] M (fun z0 M2 => z0 = some (.inl (f_b (f_isP w r p ∧ f_P w r p 0 = -1 ∧ 0 ≤ k ∧ k ≤ 5))) ∧ M = M2) := by
  obtain ⟨d, rfl⟩ : ∃ d0, d = d0 + 1 := ⟨d - 1, by omega⟩
  refine ax_start rfl (Nat.le_of_ble_eq_true rfl) (ls := [some (.inr 330), some (.inl r), some (.inl p), some (.inl k)]) rfl (fun hav hcm => ?_)
  have hc1 : -2147483648 ≤ r ∧ r < 2147483648 := hav (.inl r) (by simp)
  have hc2 : -2147483648 ≤ p ∧ p < 2147483648 := hav (.inl p) (by simp)
  have hc3 : -2147483648 ≤ k ∧ k < 2147483648 := hav (.inl k) (by simp)
  clear hav
  refine ax_aload_n dX12_canTie_0 rfl rfl (pc' := 1) rfl ?_
  refine ax_iload_n dX12_canTie_1 rfl rfl (pc' := 2) rfl ?_
  refine ax_iload_n dX12_canTie_2 rfl rfl (pc' := 3) rfl ?_
  refine ax_invG [.inl r, .inl p] [] dX12_canTie_3 mlX12_367 sh_330 rfl rfl rfl (Nat.le_of_ble_eq_true rfl) (s_X12_isPlace E l _ (by omega) _ r p hw (by first | omega | assumption)) (pc' := 6) rfl (fun vv M_3 hq co3 hcm3 => ?_)
  obtain ⟨rfl, rfl⟩ := hq
  refine ax_reS (st2 := [.inl (f_b (f_isP w r p))]) rfl ?_
  refine ax_if_eq (tgt := 29) dX12_canTie_6 (by decide) (pc' := 9) rfl (fun h6 => ?_) (fun h6 => ?_)
  · replace h6 := f_b_0 h6
    refine ax_iconst dX12_canTie_29 (by decide) (pc' := 30) rfl ?_
    refine ax_zret dX12_canTie_30 rfl (by decide) ?_
    refine ⟨rfl, ?_, ?_⟩
    · refine congrArg (fun z => some (Sum.inl z)) ?_
      unfold f_b; split <;> omega
    · rfl
  · replace h6 := f_b_1 h6
    have gg := hg0 r (by omega) (by omega)
    refine ax_aload_n dX12_canTie_9 rfl rfl (pc' := 10) rfl ?_
    refine ax_iload_n dX12_canTie_10 rfl rfl (pc' := 11) rfl ?_
    refine ax_iload_n dX12_canTie_11 rfl rfl (pc' := 12) rfl ?_
    refine ax_invG [.inl r, .inl p] [] dX12_canTie_12 mlX12_340 sh_330 rfl rfl rfl (Nat.le_of_ble_eq_true rfl) (s_X12_isTied E l _ (by omega) _ r p hw (by first | omega | assumption) (by first | omega | assumption)) (pc' := 15) rfl (fun vv M_12 hq co12 hcm12 => ?_)
    obtain ⟨rfl, rfl⟩ := hq
    refine ax_reS (st2 := [.inl (f_b (f_P w r p 0 ≠ -1))]) rfl ?_
    refine ax_if_ne (tgt := 29) dX12_canTie_15 (by decide) (pc' := 18) rfl (fun h15 => ?_) (fun h15 => ?_)
    · replace h15 := f_b_1 h15
      refine ax_iconst dX12_canTie_29 (by decide) (pc' := 30) rfl ?_
      refine ax_zret dX12_canTie_30 rfl (by decide) ?_
      refine ⟨rfl, ?_, ?_⟩
      · refine congrArg (fun z => some (Sum.inl z)) ?_
        unfold f_b; split <;> omega
      · rfl
    · replace h15 := f_b_0 h15
      refine ax_iload_n dX12_canTie_18 rfl rfl (pc' := 19) rfl ?_
      refine ax_insG [.inl k] [] dX12_canTie_19 mlX12_117 rfl rfl (Nat.le_of_ble_eq_true rfl) (s_X12_isKnot E l _ (by omega) _ k) (pc' := 22) rfl (fun vv M_19 hq co19 hcm19 => ?_)
      obtain ⟨rfl, rfl⟩ := hq
      refine ax_reS (st2 := [.inl (f_b (0 ≤ k ∧ k ≤ 5))]) rfl ?_
      refine ax_if_eq (tgt := 29) dX12_canTie_22 (by decide) (pc' := 25) rfl (fun h22 => ?_) (fun h22 => ?_)
      · replace h22 := f_b_0 h22
        refine ax_iconst dX12_canTie_29 (by decide) (pc' := 30) rfl ?_
        refine ax_zret dX12_canTie_30 rfl (by decide) ?_
        refine ⟨rfl, ?_, ?_⟩
        · refine congrArg (fun z => some (Sum.inl z)) ?_
          unfold f_b; split <;> omega
        · rfl
      · replace h22 := f_b_1 h22
        refine ax_iconst dX12_canTie_25 (by decide) (pc' := 26) rfl ?_
        refine ax_goto dX12_canTie_26 (pc' := 30) (by decide) ?_
        refine ax_zret dX12_canTie_30 rfl (by decide) ?_
        refine ⟨rfl, ?_, ?_⟩
        · refine congrArg (fun z => some (Sum.inl z)) ?_
          unfold f_b; split <;> omega
        · rfl
set_option maxRecDepth 20000 in
theorem s_X12_keeps (E : ax_Env) (l : Launch) (d : Nat) (hd : 0 ≤ d) (M : ax_Mem) {w : Int → Int} (hw : M 331 = w) {b : Int → Int} (hb : M 333 = b) {m : Int} (hm : M 330 4 = m) (hg0 : 0 ≤ m ∧ m ≤ 5) : ax_G E l d iX12_keeps [.inr 330] M (fun z0 M2 => z0 = none ∧ (∀ x0 i0 : Int, ¬ (x0 = 333 ∨ (x0 = 330 ∧ i0 = 4)) → M2 x0 i0 = M x0 i0) ∧ M2 333 = f_keep b w m ∧ M2 330 4 = f_keepN m) := by
  refine ax_start rfl (Nat.le_of_ble_eq_true rfl) (ls := [some (.inr 330), none]) rfl (fun hav hcm => ?_)
  clear hav
  refine ax_aload_n dX12_keeps_0 rfl rfl (pc' := 1) rfl ?_
  refine ax_geti (v := m) dX12_keeps_1 flX12_90 rfl sh_330 hm rfl (pc' := 4) rfl ?_
  refine ax_iconst dX12_keeps_4 (by decide) (pc' := 5) rfl ?_
  refine ax_icmp_ne (tgt := 49) dX12_keeps_5 (by decide) (pc' := 8) rfl (fun h5 => ?_) (fun h5 => ?_)
  · refine ax_iconst dX12_keeps_49 (by decide) (pc' := 50) rfl ?_
    refine ax_istore_n dX12_keeps_50 rfl (by decide) (ls' := [some (.inr 330), some (.inl 0)]) rfl (pc' := 51) rfl ?_
    have LP1 : ∀ (kq2 : Nat) (j : Int) (bv2 : Int → Int) (M1 : ax_Mem) (hm1 : 2564 - j < (kq2 : Nat)) (fr1 : ∀ x0 i0 : Int, ¬ (x0 = 333) → M1 x0 i0 = M x0 i0) (mr1_333 : M1 333 = bv2) (iv1_0 : 0 ≤ j ∧ j ≤ 2564) (iv1_1 : bv2 = f_cp w 0 b (2564 * m) j), ax_W E l d 0 0 iX12_keeps 51 [some (.inr 330), some (.inl j)] [] SH M1 (ax_P (fun z0 M2 => z0 = none ∧ (∀ x0 i0 : Int, ¬ (x0 = 333 ∨ (x0 = 330 ∧ i0 = 4)) → M2 x0 i0 = M x0 i0) ∧ M2 333 = f_keep b w m ∧ M2 330 4 = f_keepN m)) := by
      intro kq2
      induction kq2 with
      | zero =>
        intro j bv2 M1 hm1 fr1 mr1_333 iv1_0 iv1_1
        exfalso
        omega
      | succ kq2 ih3 =>
        intro j bv2 M1 hm1 fr1 mr1_333 iv1_0 iv1_1
        refine ax_iload_n dX12_keeps_51 rfl rfl (pc' := 52) rfl ?_
        refine ax_sipush dX12_keeps_52 (by decide) (pc' := 55) rfl ?_
        refine ax_icmp_ge (tgt := 85) dX12_keeps_55 (by decide) (pc' := 58) rfl (fun h55 => ?_) (fun h55 => ?_)
        · refine ax_aload_n dX12_keeps_85 rfl rfl (pc' := 86) rfl ?_
          refine ax_dup dX12_keeps_86 (pc' := 87) rfl ?_
          refine ax_geti (v := m) dX12_keeps_87 flX12_90 rfl sh_330 ((fr1 330 4 (by omega)).trans hm) rfl (pc' := 90) rfl ?_
          refine ax_iconst dX12_keeps_90 (by decide) (pc' := 91) rfl ?_
          refine ax_iadd dX12_keeps_91 (by omega) (pc' := 92) rfl ?_
          refine ax_puti dX12_keeps_92 flX12_90 (Or.inl rfl) sh_330 rfl (pc' := 95) rfl ?_
          refine ax_vret dX12_keeps_95 rfl ?_
          refine ⟨rfl, rfl, ?_, ?_, ?_⟩
          · intro x0 i0 hai
            exact (ax_up_miss (by omega) ((fr1 x0 i0 (by omega)).trans rfl))
          · refine Eq.trans (ax_up_rowmiss (by decide) mr1_333) ?_
            unfold f_keep
            first
              | rw [if_pos h5, iv1_1, show j = 2564 by omega, show (m - 1) = 4 by omega, iv0_1, show i = 10256 by omega]
              | rw [if_neg h5, iv1_1, show j = 2564 by omega]
          · refine Eq.trans (ax_up_hit _ _ _ _) ?_
            unfold f_keepN
            first | (rw [if_pos h5]; omega) | rw [if_neg h5]
        · refine ax_aload_n dX12_keeps_58 rfl rfl (pc' := 59) rfl ?_
          refine ax_getr (v := 333) dX12_keeps_59 flX12_16 rfl sh_330 rfl (pc' := 62) rfl ?_
          refine ax_sipush dX12_keeps_62 (by decide) (pc' := 65) rfl ?_
          refine ax_aload_n dX12_keeps_65 rfl rfl (pc' := 66) rfl ?_
          refine ax_geti (v := m) dX12_keeps_66 flX12_90 rfl sh_330 ((fr1 330 4 (by omega)).trans hm) rfl (pc' := 69) rfl ?_
          refine ax_imul dX12_keeps_69 (by omega) (pc' := 70) rfl ?_
          refine ax_iload_n dX12_keeps_70 rfl rfl (pc' := 71) rfl ?_
          refine ax_iadd dX12_keeps_71 (by omega) (pc' := 72) rfl ?_
          refine ax_aload_n dX12_keeps_72 rfl rfl (pc' := 73) rfl ?_
          refine ax_getr (v := 331) dX12_keeps_73 flX12_7 rfl sh_330 rfl (pc' := 76) rfl ?_
          refine ax_iload_n dX12_keeps_76 rfl rfl (pc' := 77) rfl ?_
          refine ax_iald (v := w j) dX12_keeps_77 sh_331 rfl (by omega) (by omega) ((congrFun ((funext fun i0 => fr1 331 i0 (by omega)).trans hw) j).trans rfl) (pc' := 78) rfl ?_
          refine ax_iast dX12_keeps_78 sh_333 rfl (by omega) (by omega) (pc' := 79) rfl ?_
          refine ax_iinc dX12_keeps_79 rfl (by decide) (by omega) (ls' := [some (.inr 330), some (.inl (j + 1))]) rfl (pc' := 82) rfl ?_
          refine ax_goto dX12_keeps_82 (pc' := 51) (by decide) ?_
          refine ih3 (j + 1) (f_up bv2 (2564 * m + j) (w j)) (ax_up M1 333 (2564 * m + j) (w j)) ?_ ?_ ?_ ?_ ?_
          · omega
          · intro x0 i0 hai
            exact (ax_up_miss (by omega) ((fr1 x0 i0 (by omega)).trans rfl))
          · exact (ax_up_rowhit mr1_333)
          · omega
          · rw [iv1_1]
            exact f_cp_step0 (by omega)
    refine LP1 (2564 - 0 : Int).toNat.succ 0 b M ?_ ?_ ?_ ?_ ?_
    · omega
    · exact fun a i _ => rfl
    · exact hb
    · omega
    · exact f_cp_0
  · refine ax_iconst dX12_keeps_8 (by decide) (pc' := 9) rfl ?_
    refine ax_istore_n dX12_keeps_9 rfl (by decide) (ls' := [some (.inr 330), some (.inl 0)]) rfl (pc' := 10) rfl ?_
    have LP4 : ∀ (kq5 : Nat) (i : Int) (bv1 : Int → Int) (M4 : ax_Mem) (hm4 : 10256 - i < (kq5 : Nat)) (fr4 : ∀ x0 i0 : Int, ¬ (x0 = 333) → M4 x0 i0 = M x0 i0) (mr4_333 : M4 333 = bv1) (iv4_0 : 0 ≤ i ∧ i ≤ 10256) (iv4_1 : bv1 = f_shf b i), ax_W E l d 0 0 iX12_keeps 10 [some (.inr 330), some (.inl i)] [] SH M4 (ax_P (fun z0 M2 => z0 = none ∧ (∀ x0 i0 : Int, ¬ (x0 = 333 ∨ (x0 = 330 ∧ i0 = 4)) → M2 x0 i0 = M x0 i0) ∧ M2 333 = f_keep b w m ∧ M2 330 4 = f_keepN m)) := by
      intro kq5
      induction kq5 with
      | zero =>
        intro i bv1 M4 hm4 fr4 mr4_333 iv4_0 iv4_1
        exfalso
        omega
      | succ kq5 ih6 =>
        intro i bv1 M4 hm4 fr4 mr4_333 iv4_0 iv4_1
        refine ax_iload_n dX12_keeps_10 rfl rfl (pc' := 11) rfl ?_
        refine ax_sipush dX12_keeps_11 (by decide) (pc' := 14) rfl ?_
        refine ax_icmp_ge (tgt := 39) dX12_keeps_14 (by decide) (pc' := 17) rfl (fun h14 => ?_) (fun h14 => ?_)
        · refine ax_aload_n dX12_keeps_39 rfl rfl (pc' := 40) rfl ?_
          refine ax_dup dX12_keeps_40 (pc' := 41) rfl ?_
          refine ax_geti (v := m) dX12_keeps_41 flX12_90 rfl sh_330 ((fr4 330 4 (by omega)).trans hm) rfl (pc' := 44) rfl ?_
          refine ax_iconst dX12_keeps_44 (by decide) (pc' := 45) rfl ?_
          refine ax_isub dX12_keeps_45 (by omega) (pc' := 46) rfl ?_
          refine ax_puti dX12_keeps_46 flX12_90 (Or.inl rfl) sh_330 rfl (pc' := 49) rfl ?_
          refine ax_iconst dX12_keeps_49 (by decide) (pc' := 50) rfl ?_
          refine ax_istore_n dX12_keeps_50 rfl (by decide) (ls' := [some (.inr 330), some (.inl 0)]) rfl (pc' := 51) rfl ?_
          have LP7 : ∀ (kq8 : Nat) (j : Int) (bv2 : Int → Int) (M7 : ax_Mem) (hm7 : 2564 - j < (kq8 : Nat)) (fr7 : ∀ x0 i0 : Int, ¬ (x0 = 333) → M7 x0 i0 = (ax_up M4 330 4 (m - 1)) x0 i0) (mr7_333 : M7 333 = bv2) (iv7_0 : 0 ≤ j ∧ j ≤ 2564) (iv7_1 : bv2 = f_cp w 0 bv1 (2564 * (m - 1)) j), ax_W E l d 0 0 iX12_keeps 51 [some (.inr 330), some (.inl j)] [] SH M7 (ax_P (fun z0 M2 => z0 = none ∧ (∀ x0 i0 : Int, ¬ (x0 = 333 ∨ (x0 = 330 ∧ i0 = 4)) → M2 x0 i0 = M x0 i0) ∧ M2 333 = f_keep b w m ∧ M2 330 4 = f_keepN m)) := by
            intro kq8
            induction kq8 with
            | zero =>
              intro j bv2 M7 hm7 fr7 mr7_333 iv7_0 iv7_1
              exfalso
              omega
            | succ kq8 ih9 =>
              intro j bv2 M7 hm7 fr7 mr7_333 iv7_0 iv7_1
              refine ax_iload_n dX12_keeps_51 rfl rfl (pc' := 52) rfl ?_
              refine ax_sipush dX12_keeps_52 (by decide) (pc' := 55) rfl ?_
              refine ax_icmp_ge (tgt := 85) dX12_keeps_55 (by decide) (pc' := 58) rfl (fun h55 => ?_) (fun h55 => ?_)
              · refine ax_aload_n dX12_keeps_85 rfl rfl (pc' := 86) rfl ?_
                refine ax_dup dX12_keeps_86 (pc' := 87) rfl ?_
                refine ax_geti (v := m - 1) dX12_keeps_87 flX12_90 rfl sh_330 ((fr7 330 4 (by omega)).trans (ax_up_hit _ _ _ _)) rfl (pc' := 90) rfl ?_
                refine ax_iconst dX12_keeps_90 (by decide) (pc' := 91) rfl ?_
                refine ax_iadd dX12_keeps_91 (by omega) (pc' := 92) rfl ?_
                refine ax_puti dX12_keeps_92 flX12_90 (Or.inl rfl) sh_330 rfl (pc' := 95) rfl ?_
                refine ax_vret dX12_keeps_95 rfl ?_
                refine ⟨rfl, rfl, ?_, ?_, ?_⟩
                · intro x0 i0 hai
                  exact (ax_up_miss (by omega) ((fr7 x0 i0 (by omega)).trans (ax_up_miss (by omega) ((fr4 x0 i0 (by omega)).trans rfl))))
                · refine Eq.trans (ax_up_rowmiss (by decide) mr7_333) ?_
                  unfold f_keep
                  first
                    | rw [if_pos h5, iv7_1, show j = 2564 by omega, show (m - 1) = 4 by omega, iv4_1, show i = 10256 by omega]
                    | rw [if_neg h5, iv7_1, show j = 2564 by omega]
                · refine Eq.trans (ax_up_hit _ _ _ _) ?_
                  unfold f_keepN
                  first | (rw [if_pos h5]; omega) | rw [if_neg h5]
              · refine ax_aload_n dX12_keeps_58 rfl rfl (pc' := 59) rfl ?_
                refine ax_getr (v := 333) dX12_keeps_59 flX12_16 rfl sh_330 rfl (pc' := 62) rfl ?_
                refine ax_sipush dX12_keeps_62 (by decide) (pc' := 65) rfl ?_
                refine ax_aload_n dX12_keeps_65 rfl rfl (pc' := 66) rfl ?_
                refine ax_geti (v := m - 1) dX12_keeps_66 flX12_90 rfl sh_330 ((fr7 330 4 (by omega)).trans (ax_up_hit _ _ _ _)) rfl (pc' := 69) rfl ?_
                refine ax_imul dX12_keeps_69 (by omega) (pc' := 70) rfl ?_
                refine ax_iload_n dX12_keeps_70 rfl rfl (pc' := 71) rfl ?_
                refine ax_iadd dX12_keeps_71 (by omega) (pc' := 72) rfl ?_
                refine ax_aload_n dX12_keeps_72 rfl rfl (pc' := 73) rfl ?_
                refine ax_getr (v := 331) dX12_keeps_73 flX12_7 rfl sh_330 rfl (pc' := 76) rfl ?_
                refine ax_iload_n dX12_keeps_76 rfl rfl (pc' := 77) rfl ?_
                refine ax_iald (v := w j) dX12_keeps_77 sh_331 rfl (by omega) (by omega) ((congrFun ((funext fun i0 => fr7 331 i0 (by omega)).trans (ax_up_rowmiss (by decide) ((funext fun i0 => fr4 331 i0 (by omega)).trans hw))) j).trans rfl) (pc' := 78) rfl ?_
                refine ax_iast dX12_keeps_78 sh_333 rfl (by omega) (by omega) (pc' := 79) rfl ?_
                refine ax_iinc dX12_keeps_79 rfl (by decide) (by omega) (ls' := [some (.inr 330), some (.inl (j + 1))]) rfl (pc' := 82) rfl ?_
                refine ax_goto dX12_keeps_82 (pc' := 51) (by decide) ?_
                refine ih9 (j + 1) (f_up bv2 (2564 * (m - 1) + j) (w j)) (ax_up M7 333 (2564 * (m - 1) + j) (w j)) ?_ ?_ ?_ ?_ ?_
                · omega
                · intro x0 i0 hai
                  exact (ax_up_miss (by omega) ((fr7 x0 i0 (by omega)).trans rfl))
                · exact (ax_up_rowhit mr7_333)
                · omega
                · rw [iv7_1]
                  exact f_cp_step0 (by omega)
          refine LP7 (2564 - 0 : Int).toNat.succ 0 bv1 (ax_up M4 330 4 (m - 1)) ?_ ?_ ?_ ?_ ?_
          · omega
          · exact fun a i _ => rfl
          · exact (ax_up_rowmiss (by decide) mr4_333)
          · omega
          · exact f_cp_0
        · refine ax_aload_n dX12_keeps_17 rfl rfl (pc' := 18) rfl ?_
          refine ax_getr (v := 333) dX12_keeps_18 flX12_16 rfl sh_330 rfl (pc' := 21) rfl ?_
          refine ax_iload_n dX12_keeps_21 rfl rfl (pc' := 22) rfl ?_
          refine ax_aload_n dX12_keeps_22 rfl rfl (pc' := 23) rfl ?_
          refine ax_getr (v := 333) dX12_keeps_23 flX12_16 rfl sh_330 rfl (pc' := 26) rfl ?_
          refine ax_iload_n dX12_keeps_26 rfl rfl (pc' := 27) rfl ?_
          refine ax_sipush dX12_keeps_27 (by decide) (pc' := 30) rfl ?_
          refine ax_iadd dX12_keeps_30 (by omega) (pc' := 31) rfl ?_
          refine ax_iald (v := bv1 (i + 2564)) dX12_keeps_31 sh_333 rfl (by omega) (by omega) ((congrFun mr4_333 (i + 2564)).trans rfl) (pc' := 32) rfl ?_
          refine ax_iast dX12_keeps_32 sh_333 rfl (by omega) (by omega) (pc' := 33) rfl ?_
          refine ax_iinc dX12_keeps_33 rfl (by decide) (by omega) (ls' := [some (.inr 330), some (.inl (i + 1))]) rfl (pc' := 36) rfl ?_
          refine ax_goto dX12_keeps_36 (pc' := 10) (by decide) ?_
          refine ih6 (i + 1) (f_up bv1 i (bv1 (i + 2564))) (ax_up M4 333 i (bv1 (i + 2564))) ?_ ?_ ?_ ?_ ?_
          · omega
          · intro x0 i0 hai
            exact (ax_up_miss (by omega) ((fr4 x0 i0 (by omega)).trans rfl))
          · exact (ax_up_rowhit mr4_333)
          · omega
          · rw [iv4_1]
            exact f_shf_step (by omega)
    refine LP4 (10256 - 0 : Int).toNat.succ 0 b M ?_ ?_ ?_ ?_ ?_
    · omega
    · exact fun a i _ => rfl
    · exact hb
    · omega
    · exact f_shf_0
set_option maxRecDepth 20000 in
theorem s_X12_undo_ok (E : ax_Env) (l : Launch) (d : Nat) (hd : 0 ≤ d) (M : ax_Mem) {w : Int → Int} (hw : M 331 = w) {b : Int → Int} (hb : M 333 = b) {m : Int} (hm : M 330 4 = m) (hg0 : 0 < m ∧ m ≤ 5) : ax_G E l d iX12_undo [.inr 330] M (fun z0 M2 => z0 = some (.inl 1) ∧ (∀ x0 i0 : Int, ¬ (x0 = 331 ∨ (x0 = 330 ∧ i0 = 4)) → M2 x0 i0 = M x0 i0) ∧ M2 331 = f_cp b (2564 * (m - 1)) w 0 2564 ∧ M2 330 4 = m - 1) := by
  refine ax_start rfl (Nat.le_of_ble_eq_true rfl) (ls := [some (.inr 330), none]) rfl (fun hav hcm => ?_)
  clear hav
  refine ax_aload_n dX12_undo_0 rfl rfl (pc' := 1) rfl ?_
  refine ax_geti (v := m) dX12_undo_1 flX12_90 rfl sh_330 hm rfl (pc' := 4) rfl ?_
  refine ax_if_ne (tgt := 9) dX12_undo_4 (by decide) (pc' := 7) rfl (fun h4 => ?_) (fun h4 => ?_)
  · refine ax_aload_n dX12_undo_9 rfl rfl (pc' := 10) rfl ?_
    refine ax_dup dX12_undo_10 (pc' := 11) rfl ?_
    refine ax_geti (v := m) dX12_undo_11 flX12_90 rfl sh_330 hm rfl (pc' := 14) rfl ?_
    refine ax_iconst dX12_undo_14 (by decide) (pc' := 15) rfl ?_
    refine ax_isub dX12_undo_15 (by omega) (pc' := 16) rfl ?_
    refine ax_puti dX12_undo_16 flX12_90 (Or.inl rfl) sh_330 rfl (pc' := 19) rfl ?_
    refine ax_iconst dX12_undo_19 (by decide) (pc' := 20) rfl ?_
    refine ax_istore_n dX12_undo_20 rfl (by decide) (ls' := [some (.inr 330), some (.inl 0)]) rfl (pc' := 21) rfl ?_
    have LP1 : ∀ (kq2 : Nat) (i : Int) (wv1 : Int → Int) (M1 : ax_Mem) (hm1 : 2564 - i < (kq2 : Nat)) (fr1 : ∀ x0 i0 : Int, ¬ (x0 = 331) → M1 x0 i0 = (ax_up M 330 4 (m - 1)) x0 i0) (mr1_331 : M1 331 = wv1) (iv1_0 : 0 ≤ i ∧ i ≤ 2564) (iv1_1 : wv1 = f_cp b (2564 * (m - 1)) w 0 i), ax_W E l d 0 0 iX12_undo 21 [some (.inr 330), some (.inl i)] [] SH M1 (ax_P (fun z0 M2 => z0 = some (.inl 1) ∧ (∀ x0 i0 : Int, ¬ (x0 = 331 ∨ (x0 = 330 ∧ i0 = 4)) → M2 x0 i0 = M x0 i0) ∧ M2 331 = f_cp b (2564 * (m - 1)) w 0 2564 ∧ M2 330 4 = m - 1)) := by
      intro kq2
      induction kq2 with
      | zero =>
        intro i wv1 M1 hm1 fr1 mr1_331 iv1_0 iv1_1
        exfalso
        omega
      | succ kq2 ih3 =>
        intro i wv1 M1 hm1 fr1 mr1_331 iv1_0 iv1_1
        refine ax_iload_n dX12_undo_21 rfl rfl (pc' := 22) rfl ?_
        refine ax_sipush dX12_undo_22 (by decide) (pc' := 25) rfl ?_
        refine ax_icmp_ge (tgt := 55) dX12_undo_25 (by decide) (pc' := 28) rfl (fun h25 => ?_) (fun h25 => ?_)
        · refine ax_iconst dX12_undo_55 (by decide) (pc' := 56) rfl ?_
          refine ax_zret dX12_undo_56 rfl (by decide) ?_
          refine ⟨rfl, ?_, ?_, ?_, ?_⟩
          · rfl
          · intro x0 i0 hai
            exact ((fr1 x0 i0 (by omega)).trans (ax_up_miss (by omega) rfl))
          · refine Eq.trans mr1_331 ?_
            rw [iv1_1, show i = 2564 by omega]
          · exact ((fr1 330 4 (by omega)).trans (ax_up_hit _ _ _ _))
        · refine ax_aload_n dX12_undo_28 rfl rfl (pc' := 29) rfl ?_
          refine ax_getr (v := 331) dX12_undo_29 flX12_7 rfl sh_330 rfl (pc' := 32) rfl ?_
          refine ax_iload_n dX12_undo_32 rfl rfl (pc' := 33) rfl ?_
          refine ax_aload_n dX12_undo_33 rfl rfl (pc' := 34) rfl ?_
          refine ax_getr (v := 333) dX12_undo_34 flX12_16 rfl sh_330 rfl (pc' := 37) rfl ?_
          refine ax_sipush dX12_undo_37 (by decide) (pc' := 40) rfl ?_
          refine ax_aload_n dX12_undo_40 rfl rfl (pc' := 41) rfl ?_
          refine ax_geti (v := m - 1) dX12_undo_41 flX12_90 rfl sh_330 ((fr1 330 4 (by omega)).trans (ax_up_hit _ _ _ _)) rfl (pc' := 44) rfl ?_
          refine ax_imul dX12_undo_44 (by omega) (pc' := 45) rfl ?_
          refine ax_iload_n dX12_undo_45 rfl rfl (pc' := 46) rfl ?_
          refine ax_iadd dX12_undo_46 (by omega) (pc' := 47) rfl ?_
          refine ax_iald (v := b (2564 * (m - 1) + i)) dX12_undo_47 sh_333 rfl (by omega) (by omega) ((congrFun ((funext fun i0 => fr1 333 i0 (by omega)).trans (ax_up_rowmiss (by decide) hb)) (2564 * (m - 1) + i)).trans rfl) (pc' := 48) rfl ?_
          refine ax_iast dX12_undo_48 sh_331 rfl (by omega) (by omega) (pc' := 49) rfl ?_
          refine ax_iinc dX12_undo_49 rfl (by decide) (by omega) (ls' := [some (.inr 330), some (.inl (i + 1))]) rfl (pc' := 52) rfl ?_
          refine ax_goto dX12_undo_52 (pc' := 21) (by decide) ?_
          refine ih3 (i + 1) (f_up wv1 i (b (2564 * (m - 1) + i))) (ax_up M1 331 i (b (2564 * (m - 1) + i))) ?_ ?_ ?_ ?_ ?_
          · omega
          · intro x0 i0 hai
            exact (ax_up_miss (by omega) ((fr1 x0 i0 (by omega)).trans rfl))
          · exact (ax_up_rowhit mr1_331)
          · omega
          · rw [iv1_1]
            exact f_cp_stepS (by omega)
    refine LP1 (2564 - 0 : Int).toNat.succ 0 w (ax_up M 330 4 (m - 1)) ?_ ?_ ?_ ?_ ?_
    · omega
    · exact fun a i _ => rfl
    · exact (ax_up_rowmiss (by decide) hw)
    · omega
    · exact f_cp_0
  · exfalso
    omega
set_option maxRecDepth 20000 in
theorem s_X12_undo_no (E : ax_Env) (l : Launch) (d : Nat) (hd : 0 ≤ d) (M : ax_Mem) {m : Int} (hm : M 330 4 = m) (hg0 : m = 0) : ax_G E l d iX12_undo [.inr 330] M (fun z0 M2 => z0 = some (.inl 0) ∧ M = M2) := by
  refine ax_start rfl (Nat.le_of_ble_eq_true rfl) (ls := [some (.inr 330), none]) rfl (fun hav hcm => ?_)
  clear hav
  refine ax_aload_n dX12_undo_0 rfl rfl (pc' := 1) rfl ?_
  refine ax_geti (v := m) dX12_undo_1 flX12_90 rfl sh_330 hm rfl (pc' := 4) rfl ?_
  refine ax_if_ne (tgt := 9) dX12_undo_4 (by decide) (pc' := 7) rfl (fun h4 => ?_) (fun h4 => ?_)
  · exfalso
    omega
  · refine ax_iconst dX12_undo_7 (by decide) (pc' := 8) rfl ?_
    refine ax_zret dX12_undo_8 rfl (by decide) ?_
    refine ⟨rfl, ?_, ?_⟩
    · rfl
    · rfl
