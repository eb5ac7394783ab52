/-! the yard: fewest ropes over all ways, first in the order of numbers -/
def f_bsS (g : Int → Int) (r : Int) (p : Int × Int) : Int × Int := if g r < p.1 then (g r, r) else p
def f_bst (g : Int → Int) (R : Int) : Int × Int := f_loop (f_bsS g) 0 R (1000, -1)
def f_mn (c : Int) (us lv : Int → Int) : List Int → Int
  | [] => c
  | o :: tl => (f_bst (fun r => if o ≤ lv r then f_mn (c + 1 - us r) (f_up us r 1) (f_up lv r (lv r - o)) tl else 1000) 8).1
def f_mnG (c : Int) (us lv : Int → Int) (o : Int) (tl : List Int) (r : Int) : Int := if o ≤ lv r then f_mn (c + 1 - us r) (f_up us r 1) (f_up lv r (lv r - o)) tl else 1000
def f_chR (c : Int) (us lv : Int → Int) : List Int → Int → (Int → Int) → (Int → Int)
  | [], _, row => row
  | o :: tl, i, row => f_chR (c + 1 - us (f_bst (f_mnG c us lv o tl) 8).2) (f_up us (f_bst (f_mnG c us lv o tl) 8).2 1) (f_up lv (f_bst (f_mnG c us lv o tl) 8).2 (lv (f_bst (f_mnG c us lv o tl) 8).2 - o)) tl (i + 1) (f_up row i (f_bst (f_mnG c us lv o tl) 8).2)
def f_chN (c : Int) (us lv : Int → Int) (o : Int) (tl : List Int) (i : Int) (row : Int → Int) (r : Int) : Int → Int := f_chR (c + 1 - us r) (f_up us r 1) (f_up lv r (lv r - o)) tl (i + 1) (f_up row i r)
theorem f_mn_cons {c : Int} {us lv : Int → Int} {o : Int} {tl : List Int} : f_mn c us lv (o :: tl) = (f_bst (f_mnG c us lv o tl) 8).1 := rfl
theorem f_chR_cons {c : Int} {us lv : Int → Int} {o : Int} {tl : List Int} {i : Int} {row : Int → Int} : f_chR c us lv (o :: tl) i row = f_chN c us lv o tl i row (f_bst (f_mnG c us lv o tl) 8).2 := rfl
theorem f_bst_last {g : Int → Int} {R : Int} (h : 0 ≤ R) : f_bst g (R + 1) = f_bsS g R (f_bst g R) := f_loop_last h
theorem f_bst_rg {g : Int → Int} {b : Int} (hb : b ≤ 1000) (hg : ∀ r, 0 ≤ r → r < 8 → b ≤ g r) : ∀ (n : Nat), (n : Int) ≤ 8 → b ≤ (f_bst g (n : Int)).1 ∧ (f_bst g (n : Int)).1 ≤ 1000 := by
  intro n
  induction n with
  | zero =>
    intro _
    have e : f_bst g ((0 : Nat) : Int) = (1000, -1) := f_loop_done (Int.le_refl 0)
    rw [e]
    exact ⟨hb, Int.le_refl _⟩
  | succ n ih =>
    intro h
    have h1 := ih (by omega)
    rw [show ((n + 1 : Nat) : Int) = (n : Int) + 1 by omega, f_bst_last (by omega)]
    unfold f_bsS
    split
    · exact ⟨hg _ (by omega) (by omega), by show g (n : Int) ≤ 1000; omega⟩
    · exact h1
def f_u01 (us : Int → Int) : Prop := ∀ r, 0 ≤ r → r < 8 → us r = 0 ∨ us r = 1
theorem f_u01_up {us : Int → Int} {r : Int} (h : f_u01 us) : f_u01 (f_up us r 1) := by
  intro q q1 q2
  unfold f_up
  split
  · exact Or.inr rfl
  · exact h q q1 q2
theorem f_mn_rg : ∀ (os : List Int) (c : Int) (us lv : Int → Int), f_u01 us → c + (os.length : Int) ≤ 1000 → c ≤ f_mn c us lv os ∧ f_mn c us lv os ≤ 1000
  | [], c, us, lv, hu, hc => by
    simp only [List.length_nil] at hc
    exact ⟨Int.le_refl c, by show c ≤ 1000; omega⟩
  | o :: tl, c, us, lv, hu, hc => by
    simp only [List.length_cons] at hc
    rw [f_mn_cons]
    refine f_bst_rg (b := c) (by omega) (fun r h1 h2 => ?_) 8 (by omega)
    unfold f_mnG
    split
    · have h3 := hu r h1 h2
      have h5 := f_mn_rg tl (c + 1 - us r) (f_up us r 1) (f_up lv r (lv r - o)) (f_u01_up hu) (by omega)
      omega
    · omega
theorem f_mnG_rg {tl : List Int} {c o r : Int} {us lv : Int → Int} (hu : f_u01 us) (hc : c + 1 + (tl.length : Int) ≤ 1000) (hr : 0 ≤ r ∧ r < 8) : c ≤ f_mnG c us lv o tl r ∧ f_mnG c us lv o tl r ≤ 1000 := by
  unfold f_mnG
  split
  · have h3 := hu r hr.1 hr.2
    have h5 := f_mn_rg tl (c + 1 - us r) (f_up us r 1) (f_up lv r (lv r - o)) (f_u01_up hu) (by omega)
    omega
  · omega
def f_yb (bb m : Int) : Int := if m < 1000 ∧ (bb = -1 ∨ m < bb) then m else bb
def f_yw (N : Int) (row bf : Int → Int) : Int → Int := fun j => if 0 ≤ j ∧ j < N then row j else bf j
def f_yR (m bb N : Int) (row bf : Int → Int) : Int → Int := if m < 1000 ∧ (bb = -1 ∨ m < bb) then f_yw N row bf else bf
theorem f_yw_yw (N : Int) (a b c : Int → Int) : f_yw N a (f_yw N b c) = f_yw N a c := by
  funext j
  unfold f_yw
  split
  · rfl
  · rfl
theorem f_yw_up {k : Int} {fr bf : Int → Int} (hk : 0 ≤ k) : f_up (f_yw k fr bf) k (fr k) = f_yw (k + 1) fr bf := by
  funext j
  unfold f_up
  by_cases hj : j = k
  · rw [if_pos hj]
    show fr k = if 0 ≤ j ∧ j < k + 1 then fr j else bf j
    rw [if_pos (by omega), hj]
  · rw [if_neg hj]
    show (if 0 ≤ j ∧ j < k then fr j else bf j) = if 0 ≤ j ∧ j < k + 1 then fr j else bf j
    by_cases h : 0 ≤ j ∧ j < k
    · rw [if_pos h, if_pos (by omega)]
    · rw [if_neg h, if_neg (by omega)]
theorem f_yb_step {bb m m2 : Int} (h1 : 0 ≤ m) (h2 : 0 ≤ m2) : f_yb (f_yb bb m) m2 = f_yb bb (if m2 < m then m2 else m) := by
  unfold f_yb
  repeat' split
  all_goals omega
theorem f_yR_step {bb m m2 N : Int} {ra rb bf : Int → Int} (h1 : 0 ≤ m) (h2 : 0 ≤ m2) : f_yR m2 (f_yb bb m) N rb (f_yR m bb N ra bf) = if m2 < m then f_yR m2 bb N rb bf else f_yR m bb N ra bf := by
  by_cases hm : m < 1000 ∧ (bb = -1 ∨ m < bb)
  · have e1 : f_yb bb m = m := if_pos hm
    have e2 : f_yR m bb N ra bf = f_yw N ra bf := if_pos hm
    rw [e1, e2]
    by_cases h3 : m2 < m
    · rw [if_pos h3]
      unfold f_yR
      rw [if_pos (by omega), if_pos (by omega), f_yw_yw]
    · rw [if_neg h3]
      unfold f_yR
      rw [if_neg (by omega)]
  · have e1 : f_yb bb m = bb := if_neg hm
    have e2 : f_yR m bb N ra bf = bf := if_neg hm
    rw [e1, e2]
    by_cases h3 : m2 < m
    · rw [if_pos h3]
    · rw [if_neg h3]
      unfold f_yR
      rw [if_neg (by omega)]
theorem f_chR_cong : ∀ (os : List Int) (c : Int) (us lv : Int → Int) (i : Int) (ra rb : Int → Int), (∀ j, 0 ≤ j → j < i → ra j = rb j) → 0 ≤ i → ∀ j, 0 ≤ j → j < i + (os.length : Int) → f_chR c us lv os i ra j = f_chR c us lv os i rb j
  | [], c, us, lv, i, ra, rb, h, hi, j, h1, h2 => by
    simp only [List.length_nil] at h2
    exact h j h1 (by omega)
  | o :: tl, c, us, lv, i, ra, rb, h, hi, j, h1, h2 => by
    simp only [List.length_cons] at h2
    rw [f_chR_cons, f_chR_cons]
    unfold f_chN
    refine f_chR_cong tl _ _ _ (i + 1) _ _ (fun q q1 q2 => ?_) (by omega) j h1 (by omega)
    unfold f_up
    split
    · rfl
    · exact h q q1 (by omega)
theorem f_yw_cong {N : Int} {ra rb bf : Int → Int} (h : ∀ j, 0 ≤ j → j < N → ra j = rb j) : f_yw N ra bf = f_yw N rb bf := by
  funext j
  unfold f_yw
  split
  · rename_i hj
    exact h j hj.1 hj.2
  · rfl
theorem f_yR_cong {m bb N : Int} {ra rb bf : Int → Int} (h : ∀ j, 0 ≤ j → j < N → ra j = rb j) : f_yR m bb N ra bf = f_yR m bb N rb bf := by
  unfold f_yR
  rw [f_yw_cong h]
set_option maxRecDepth 100000 in
theorem f_bs_all : ∀ x : Fin 256, ∀ r : Fin 8, (0 ≤ ax_or (x.val : Int) (ax_shl 1 (r.val : Int)) ∧ ax_or (x.val : Int) (ax_shl 1 (r.val : Int)) < 256) ∧ f_cn8 (ax_or (x.val : Int) (ax_shl 1 (r.val : Int))) + f_bit (x.val : Int) (r.val : Int) = f_cn8 (x.val : Int) + 1 ∧ ∀ k : Fin 8, f_bit (ax_or (x.val : Int) (ax_shl 1 (r.val : Int))) (k.val : Int) = if k = r then 1 else f_bit (x.val : Int) (k.val : Int) := by decide +kernel
def f_uo (u c : Int) (us : Int → Int) : Prop := (0 ≤ u ∧ u < 256) ∧ f_cn8 u = c ∧ ∀ r, 0 ≤ r → r < 8 → us r = f_bit u r
theorem f_uo_up {u c r : Int} {us : Int → Int} (hr : 0 ≤ r ∧ r < 8) (h : f_uo u c us) : f_uo (ax_or u (ax_shl 1 r)) (c + 1 - us r) (f_up us r 1) := by
  obtain ⟨h1, h2, h3⟩ := h
  obtain ⟨x, rfl⟩ : ∃ x : Fin 256, (x.val : Int) = u := ⟨⟨u.toNat, by omega⟩, by show ((u.toNat : Nat) : Int) = u; omega⟩
  obtain ⟨q, rfl⟩ : ∃ q : Fin 8, (q.val : Int) = r := ⟨⟨r.toNat, by omega⟩, by show ((r.toNat : Nat) : Int) = r; omega⟩
  have h4 := f_bs_all x q
  refine ⟨h4.1, ?_, fun k k1 k2 => ?_⟩
  · have h5 := h3 (q.val : Int) (by omega) (by omega)
    omega
  · obtain ⟨z, rfl⟩ : ∃ z : Fin 8, (z.val : Int) = k := ⟨⟨k.toNat, by omega⟩, by show ((k.toNat : Nat) : Int) = k; omega⟩
    rw [h4.2.2 z]
    unfold f_up
    by_cases hz : z = q
    · rw [if_pos hz, if_pos (by rw [hz])]
    · rw [if_neg hz, if_neg (fun e => hz (Fin.ext (by omega)))]
      exact h3 _ k1 k2
theorem f_uo_01 {u c : Int} {us : Int → Int} (h : f_uo u c us) : f_u01 us := by
  intro r h1 h2
  rw [h.2.2 r h1 h2]
  have h4 : 0 ≤ f_bit u r ∧ f_bit u r ≤ 1 := ax_and_one _
  omega
theorem f_cn8_rg (s : Int) : 0 ≤ f_cn8 s ∧ f_cn8 s ≤ 8 := by
  unfold f_cn8
  have key : ∀ (n : Nat) (lo a : Int), (n : Int) = 8 - lo → a ≤ f_loop (fun k n => n + f_bit s k) lo 8 a ∧ f_loop (fun k n => n + f_bit s k) lo 8 a ≤ a + (n : Int) := by
    intro n
    induction n with
    | zero =>
      intro lo a e
      rw [f_loop_done (by omega)]
      omega
    | succ n ih =>
      intro lo a e
      rw [f_loop_step (by omega)]
      have h1 := ih (lo + 1) (a + f_bit s lo) (by omega)
      have h2 : 0 ≤ f_bit s lo ∧ f_bit s lo ≤ 1 := ax_and_one _
      omega
  have := key 8 0 0 (by omega)
  omega
def f_ord (w : Int → Int) : Int → List Int → Prop
  | _, [] => True
  | i, o :: tl => w (2592 + i) = o ∧ (1 ≤ o ∧ o ≤ 24) ∧ f_ord w (i + 1) tl
def f_lvo (w lv : Int → Int) : Prop := ∀ r, 0 ≤ r → r < 8 → (0 ≤ lv r ∧ lv r ≤ 24) ∧ (¬ f_isR w r → lv r = 0)
theorem f_lvo_up {w lv : Int → Int} {r o : Int} (hr : 0 ≤ r ∧ r < 8) (ho : 1 ≤ o ∧ o ≤ lv r) (h : f_lvo w lv) : f_lvo w (f_up lv r (lv r - o)) := by
  intro q q1 q2
  have h1 := h q q1 q2
  unfold f_up
  split
  · rename_i hq
    rw [hq] at h1
    refine ⟨by omega, fun hn => ?_⟩
    rw [hq] at hn
    have := h1.2 hn
    omega
  · exact h1
theorem f_up_back {lv : Int → Int} {r a o : Int} : f_up (f_up lv r a) r (lv r - o + o) = lv := by
  funext j
  unfold f_up
  split
  · rename_i h
    rw [h]
    omega
  · rfl
theorem f_chN_cong {tl : List Int} {c o i N r : Int} {us lv fa fr : Int → Int} (hi : 0 ≤ i) (hN : i + 1 + (tl.length : Int) = N) (h : ∀ j, 0 ≤ j → j < i → fa j = fr j) : ∀ j, 0 ≤ j → j < N → f_chR (c + 1 - us r) (f_up us r 1) (f_up lv r (lv r - o)) tl (i + 1) (f_up fa i r) j = f_chN c us lv o tl i fr r j := by
  intro j h1 h2
  refine f_chR_cong tl _ _ _ (i + 1) _ _ (fun q q1 q2 => ?_) (by omega) j h1 (by omega)
  unfold f_up
  split
  · rfl
  · exact h q q1 (by omega)
theorem f_bst_ix {g : Int → Int} : ∀ (n : Nat), (f_bst g (n : Int)).1 < 1000 → (0 ≤ (f_bst g (n : Int)).2 ∧ (f_bst g (n : Int)).2 < (n : Int)) ∧ g (f_bst g (n : Int)).2 = (f_bst g (n : Int)).1 := by
  intro n
  induction n with
  | zero =>
    intro h
    have e : f_bst g ((0 : Nat) : Int) = (1000, -1) := f_loop_done (Int.le_refl 0)
    rw [e] at h
    exact absurd h (by decide)
  | succ n ih =>
    rw [show ((n + 1 : Nat) : Int) = (n : Int) + 1 by omega, f_bst_last (by omega)]
    unfold f_bsS
    split
    · intro h
      exact ⟨⟨by show (0 : Int) ≤ (n : Int); omega, by show (n : Int) < _; omega⟩, rfl⟩
    · intro h
      have h1 := ih h
      exact ⟨⟨h1.1.1, by omega⟩, h1.2⟩
theorem f_bst_cong {g k : Int → Int} : ∀ (n : Nat), (∀ r, 0 ≤ r → r < (n : Int) → g r = k r) → f_bst g (n : Int) = f_bst k (n : Int) := by
  intro n
  induction n with
  | zero =>
    intro _
    have e : ∀ g : Int → Int, f_bst g ((0 : Nat) : Int) = (1000, -1) := fun g => f_loop_done (Int.le_refl 0)
    rw [e, e]
  | succ n ih =>
    intro h
    rw [show ((n + 1 : Nat) : Int) = (n : Int) + 1 by omega, f_bst_last (by omega), f_bst_last (by omega), ih (fun r h1 h2 => h r h1 (by omega))]
    unfold f_bsS
    rw [h (n : Int) (by omega) (by omega)]
def f_ag8 (a b : Int → Int) : Prop := ∀ r, 0 ≤ r → r < 8 → a r = b r
theorem f_ag8_up {a b : Int → Int} {r v v2 : Int} (h : f_ag8 a b) (hv : v = v2) : f_ag8 (f_up a r v) (f_up b r v2) := by
  intro q q1 q2
  unfold f_up
  split
  · exact hv
  · exact h q q1 q2
theorem f_mn_cong : ∀ (os : List Int) (c : Int) (us us2 lv lv2 : Int → Int), f_ag8 us us2 → f_ag8 lv lv2 → f_mn c us lv os = f_mn c us2 lv2 os
  | [], c, us, us2, lv, lv2, h1, h2 => rfl
  | o :: tl, c, us, us2, lv, lv2, h1, h2 => by
    rw [f_mn_cons, f_mn_cons]
    have e : f_bst (f_mnG c us lv o tl) 8 = f_bst (f_mnG c us2 lv2 o tl) 8 := by
      refine f_bst_cong 8 (fun r r1 r2 => ?_)
      unfold f_mnG
      rw [h2 r r1 r2, h1 r r1 r2, f_mn_cong tl _ _ _ _ _ (f_ag8_up (r := r) h1 rfl) (f_ag8_up (r := r) h2 rfl)]
    rw [e]
theorem f_mnG_cong {tl : List Int} {c o : Int} {us us2 lv lv2 : Int → Int} (h1 : f_ag8 us us2) (h2 : f_ag8 lv lv2) : f_bst (f_mnG c us lv o tl) 8 = f_bst (f_mnG c us2 lv2 o tl) 8 := by
  refine f_bst_cong 8 (fun r r1 r2 => ?_)
  unfold f_mnG
  rw [h2 r r1 r2, h1 r r1 r2, f_mn_cong tl _ _ _ _ _ (f_ag8_up (r := r) h1 rfl) (f_ag8_up (r := r) h2 rfl)]
theorem f_mnG_lt {tl : List Int} {c o r : Int} {us lv : Int → Int} (h : f_mnG c us lv o tl r < 1000) : o ≤ lv r ∧ f_mn (c + 1 - us r) (f_up us r 1) (f_up lv r (lv r - o)) tl < 1000 := by
  unfold f_mnG at h
  split at h
  · exact ⟨by assumption, h⟩
  · omega
theorem f_chR_lv : ∀ (os : List Int) (c : Int) (us us2 lv lv2 : Int → Int) (i : Int) (row : Int → Int), f_ag8 us us2 → f_ag8 lv lv2 → f_mn c us lv os < 1000 → f_chR c us lv os i row = f_chR c us2 lv2 os i row
  | [], c, us, us2, lv, lv2, i, row, h1, h2, h3 => rfl
  | o :: tl, c, us, us2, lv, lv2, i, row, h1, h2, h3 => by
    rw [f_mn_cons] at h3
    have e := f_mnG_cong (tl := tl) (c := c) (o := o) h1 h2
    have h4 : (0 ≤ (f_bst (f_mnG c us lv o tl) 8).2 ∧ (f_bst (f_mnG c us lv o tl) 8).2 < 8) ∧ f_mnG c us lv o tl (f_bst (f_mnG c us lv o tl) 8).2 = (f_bst (f_mnG c us lv o tl) 8).1 := f_bst_ix 8 h3
    rw [f_chR_cons, f_chR_cons, ← e]
    unfold f_chN
    rw [← h1 _ h4.1.1 h4.1.2, ← h2 _ h4.1.1 h4.1.2]
    refine f_chR_lv tl _ _ _ _ _ (i + 1) _ (f_ag8_up h1 rfl) (f_ag8_up h2 rfl) ?_
    exact (f_mnG_lt (by rw [h4.2]; exact h3)).2
def f_C4 (nn : Nat) : Prop := ∀ (E : ax_Env) (l : Launch) (d : Nat) (hd : 2 + nn ≤ d) (M : ax_Mem) (i u : Int) (os : List Int) (c : Int) (us : Int → Int) {w : Int → Int} (hw : M 331 = w) {lv : Int → Int} (hlv : M 345 = lv) {fr : Int → Int} (hfr : M 346 = fr) {bf : Int → Int} (hbf : M 347 = bf) {bb : Int} (hbb : M 330 39 = bb) (hg0 : 0 ≤ i ∧ i + (os.length : Int) = w 2578 ∧ w 2578 ≤ 7) (hg1 : f_ord w i os) (hg2 : f_lvo w lv) (hg3 : f_uo u c us) (hg4 : bb = -1 ∨ (0 ≤ bb ∧ bb ≤ 8)) (hg5 : os.length = nn), ax_G E l d iX12_yards [.inr 330, .inl i, .inl u] M (fun z0 M2 => z0 = none ∧ (∀ x0 i0 : Int, ¬ (x0 = 345 ∨ x0 = 347 ∨ (x0 = 330 ∧ i0 = 39) ∨ x0 = 346) → M2 x0 i0 = M x0 i0) ∧ M2 345 = lv ∧ M2 347 = f_yR (f_mn c us lv os) bb (w 2578) (f_chR c us lv os i fr) bf ∧ M2 330 39 = f_yb bb (f_mn c us lv os) ∧ (∀ j, 0 ≤ j → j < i → M2 346 j = fr j) ∧ (f_yb bb (f_mn c us lv os) = -1 ∨ (0 ≤ f_yb bb (f_mn c us lv os) ∧ f_yb bb (f_mn c us lv os) ≤ 8)))
set_option maxRecDepth 20000 in
theorem s_yds_0 (E : ax_Env) (l : Launch) (d : Nat) (hd : 2 ≤ d) (M : ax_Mem) (i u : Int) (c : Int) (us : Int → Int) {w : Int → Int} (hw : M 331 = w) {lv : Int → Int} (hlv : M 345 = lv) {fr : Int → Int} (hfr : M 346 = fr) {bf : Int → Int} (hbf : M 347 = bf) {bb : Int} (hbb : M 330 39 = bb) (hg0 : 0 ≤ i ∧ i + (([] : List Int).length : Int) = w 2578 ∧ w 2578 ≤ 7) (hg1 : f_ord w i ([] : List Int)) (hg2 : f_lvo w lv) (hg3 : f_uo u c us) (hg4 : bb = -1 ∨ (0 ≤ bb ∧ bb ≤ 8)) : ax_G E l d iX12_yards [.inr 330, .inl i, .inl u] M (fun z0 M2 => z0 = none ∧ (∀ x0 i0 : Int, ¬ (x0 = 345 ∨ x0 = 347 ∨ (x0 = 330 ∧ i0 = 39) ∨ x0 = 346) → M2 x0 i0 = M x0 i0) ∧ M2 345 = lv ∧ M2 347 = f_yR (f_mn c us lv ([] : List Int)) bb (w 2578) (f_chR c us lv ([] : List Int) i fr) bf ∧ M2 330 39 = f_yb bb (f_mn c us lv ([] : List Int)) ∧ (∀ j, 0 ≤ j → j < i → M2 346 j = fr j) ∧ (f_yb bb (f_mn c us lv ([] : List Int)) = -1 ∨ (0 ≤ f_yb bb (f_mn c us lv ([] : List Int)) ∧ f_yb bb (f_mn c us lv ([] : List Int)) ≤ 8))) := by
  obtain ⟨d, rfl⟩ : ∃ d0, d = d0 + 1 := ⟨d - 1, by omega⟩
  refine ax_start rfl (Nat.le_of_ble_eq_true rfl) (ls := [some (.inr 330), some (.inl i), some (.inl u), none]) rfl (fun hav hcm => ?_)
  have hc1 : -2147483648 ≤ i ∧ i < 2147483648 := hav (.inl i) (by simp)
  have hc2 : -2147483648 ≤ u ∧ u < 2147483648 := hav (.inl u) (by simp)
  clear hav
  have qln : (([] : List Int).length : Int) = 0 := rfl
  have qcn := f_cn8_rg u
  have qq := hg3.2.1
  refine ax_aload_n dX12_yards_0 rfl rfl (pc' := 1) rfl ?_
  refine ax_geti (v := bb) dX12_yards_1 flX12_479 rfl sh_330 hbb rfl (pc' := 4) rfl ?_
  refine ax_iconst dX12_yards_4 (by decide) (pc' := 5) rfl ?_
  refine ax_icmp_eq (tgt := 20) dX12_yards_5 (by decide) (pc' := 8) rfl (fun h5 => ?_) (fun h5 => ?_)
  · have q0 : f_mn c us lv [] < 1000 ∧ (bb = -1 ∨ f_mn c us lv [] < bb) := by
      show c < 1000 ∧ (bb = -1 ∨ c < bb)
      omega
    refine ax_iload_n dX12_yards_20 rfl rfl (pc' := 21) rfl ?_
    refine ax_aload_n dX12_yards_21 rfl rfl (pc' := 22) rfl ?_
    refine ax_getr (v := 331) dX12_yards_22 flX12_7 rfl sh_330 rfl (pc' := 25) rfl ?_
    refine ax_sipush dX12_yards_25 (by decide) (pc' := 28) rfl ?_
    refine ax_iald (v := w 2578) dX12_yards_28 sh_331 rfl (by omega) (by omega) ((congrFun hw 2578).trans rfl) (pc' := 29) rfl ?_
    refine ax_icmp_ne (tgt := 66) dX12_yards_29 (by decide) (pc' := 32) rfl (fun h29 => ?_) (fun h29 => ?_)
    · exfalso
      omega
    · refine ax_aload_n dX12_yards_32 rfl rfl (pc' := 33) rfl ?_
      refine ax_iload_n dX12_yards_33 rfl rfl (pc' := 34) rfl ?_
      refine ax_insG [.inl u] [.inr 330] dX12_yards_34 mlX12_482 rfl rfl (Nat.le_of_ble_eq_true rfl) (s_X12_count E l _ (by omega) _ u) (pc' := 37) rfl (fun vv M_34 hq co34 hcm34 => ?_)
      obtain ⟨rfl, rfl, fa34_0⟩ := hq
      refine ax_reS (st2 := [.inl (f_cn8 u), .inr 330]) rfl ?_
      have cc34 : -2147483648 ≤ f_cn8 u ∧ f_cn8 u < 2147483648 := co34 _ rfl
      refine ax_puti dX12_yards_37 flX12_479 (Or.inl rfl) sh_330 rfl (pc' := 40) rfl ?_
      refine ax_iconst dX12_yards_40 (by decide) (pc' := 41) rfl ?_
      refine ax_istore_n dX12_yards_41 rfl (by decide) (ls' := [some (.inr 330), some (.inl i), some (.inl u), some (.inl 0)]) rfl (pc' := 42) rfl ?_
      have LP1 : ∀ (kq2 : Nat) (k : Int) (b1 : Int → Int) (M1 : ax_Mem) (hm1 : i - k < (kq2 : Nat)) (fr1 : ∀ x0 i0 : Int, ¬ (x0 = 347) → M1 x0 i0 = (ax_up M 330 39 (f_cn8 u)) x0 i0) (mr1_347 : M1 347 = b1) (iv1_0 : 0 ≤ k ∧ k ≤ i) (iv1_1 : b1 = f_yw k fr bf), ax_W E l (d + 1) 0 0 iX12_yards 42 [some (.inr 330), some (.inl i), some (.inl u), some (.inl k)] [] SH M1 (ax_P (fun z0 M2 => z0 = none ∧ (∀ x0 i0 : Int, ¬ (x0 = 345 ∨ x0 = 347 ∨ (x0 = 330 ∧ i0 = 39) ∨ x0 = 346) → M2 x0 i0 = M x0 i0) ∧ M2 345 = lv ∧ M2 347 = f_yR (f_mn c us lv ([] : List Int)) bb (w 2578) (f_chR c us lv ([] : List Int) i fr) bf ∧ M2 330 39 = f_yb bb (f_mn c us lv ([] : List Int)) ∧ (∀ j, 0 ≤ j → j < i → M2 346 j = fr j) ∧ (f_yb bb (f_mn c us lv ([] : List Int)) = -1 ∨ (0 ≤ f_yb bb (f_mn c us lv ([] : List Int)) ∧ f_yb bb (f_mn c us lv ([] : List Int)) ≤ 8)))) := by
        intro kq2
        induction kq2 with
        | zero =>
          intro k b1 M1 hm1 fr1 mr1_347 iv1_0 iv1_1
          exfalso
          omega
        | succ kq2 ih3 =>
          intro k b1 M1 hm1 fr1 mr1_347 iv1_0 iv1_1
          refine ax_iload_n dX12_yards_42 rfl rfl (pc' := 43) rfl ?_
          refine ax_iload_n dX12_yards_43 rfl rfl (pc' := 44) rfl ?_
          refine ax_icmp_ge (tgt := 65) dX12_yards_44 (by decide) (pc' := 47) rfl (fun h44 => ?_) (fun h44 => ?_)
          · refine ax_vret dX12_yards_65 rfl ?_
            refine ⟨rfl, rfl, ?_, ?_, ?_, ?_, ?_, ?_⟩
            · intro x0 i0 hai
              exact ((fr1 x0 i0 (fun h => hai (Or.inr (Or.inl h)))).trans (ax_up_miss (fun h => hai (Or.inr (Or.inr (Or.inl h)))) rfl))
            · exact ((funext fun i0 => fr1 345 i0 (fun h => absurd h (by decide))).trans (ax_up_rowmiss (by decide) hlv))
            · refine Eq.trans mr1_347 ?_
              unfold f_yR
              rw [if_pos q0, iv1_1, show k = w 2578 by omega]
              rfl
            · refine Eq.trans ((fr1 330 39 (fun h => absurd h (by decide))).trans (ax_up_hit _ _ _ _)) ?_
              unfold f_yb
              rw [if_pos q0]
              exact qq
            · intro j h1 h2
              exact congrFun (show M1 346 = fr from ((funext fun i0 => fr1 346 i0 (fun h => absurd h (by decide))).trans (ax_up_rowmiss (by decide) hfr))) j
            · unfold f_yb
              rw [if_pos q0]
              show c = -1 ∨ (0 ≤ c ∧ c ≤ 8)
              omega
          · refine ax_aload_n dX12_yards_47 rfl rfl (pc' := 48) rfl ?_
            refine ax_getr (v := 347) dX12_yards_48 flX12_62 rfl sh_330 rfl (pc' := 51) rfl ?_
            refine ax_iload_n dX12_yards_51 rfl rfl (pc' := 52) rfl ?_
            refine ax_aload_n dX12_yards_52 rfl rfl (pc' := 53) rfl ?_
            refine ax_getr (v := 346) dX12_yards_53 flX12_59 rfl sh_330 rfl (pc' := 56) rfl ?_
            refine ax_iload_n dX12_yards_56 rfl rfl (pc' := 57) rfl ?_
            refine ax_iald (v := fr k) dX12_yards_57 sh_346 rfl (by omega) (by omega) ((congrFun ((funext fun i0 => fr1 346 i0 (fun h => absurd h (by decide))).trans (ax_up_rowmiss (by decide) hfr)) k).trans rfl) (pc' := 58) rfl ?_
            refine ax_iast dX12_yards_58 sh_347 rfl (by omega) (by omega) (pc' := 59) rfl ?_
            refine ax_iinc dX12_yards_59 rfl (by decide) (by omega) (ls' := [some (.inr 330), some (.inl i), some (.inl u), some (.inl (k + 1))]) rfl (pc' := 62) rfl ?_
            refine ax_goto dX12_yards_62 (pc' := 42) (by decide) ?_
            refine ih3 (k + 1) (f_up b1 k (fr k)) (ax_up M1 347 k (fr k)) ?_ ?_ ?_ ?_ ?_
            · omega
            · intro x0 i0 hai
              exact (ax_up_miss (fun h => hai h.1) ((fr1 x0 i0 (fun h => hai h)).trans rfl))
            · exact (ax_up_rowhit mr1_347)
            · omega
            · rw [iv1_1]
              exact f_yw_up (by omega)
      refine LP1 (i - 0 : Int).toNat.succ 0 bf (ax_up M 330 39 (f_cn8 u)) ?_ ?_ ?_ ?_ ?_
      · omega
      · exact fun a i _ => rfl
      · exact (ax_up_rowmiss (by decide) hbf)
      · omega
      · funext j
        unfold f_yw
        rw [if_neg (by omega)]
  · refine ax_iload_n dX12_yards_8 rfl rfl (pc' := 9) rfl ?_
    refine ax_insG [.inl u] [] dX12_yards_9 mlX12_482 rfl rfl (Nat.le_of_ble_eq_true rfl) (s_X12_count E l _ (by omega) _ u) (pc' := 12) rfl (fun vv M_9 hq co9 hcm9 => ?_)
    obtain ⟨rfl, rfl, fa9_0⟩ := hq
    refine ax_reS (st2 := [.inl (f_cn8 u)]) rfl ?_
    have cc9 : -2147483648 ≤ f_cn8 u ∧ f_cn8 u < 2147483648 := co9 _ rfl
    refine ax_aload_n dX12_yards_12 rfl rfl (pc' := 13) rfl ?_
    refine ax_geti (v := bb) dX12_yards_13 flX12_479 rfl sh_330 hbb rfl (pc' := 16) rfl ?_
    refine ax_icmp_lt (tgt := 20) dX12_yards_16 (by decide) (pc' := 19) rfl (fun h16 => ?_) (fun h16 => ?_)
    · have q0 : f_mn c us lv [] < 1000 ∧ (bb = -1 ∨ f_mn c us lv [] < bb) := by
        show c < 1000 ∧ (bb = -1 ∨ c < bb)
        omega
      refine ax_iload_n dX12_yards_20 rfl rfl (pc' := 21) rfl ?_
      refine ax_aload_n dX12_yards_21 rfl rfl (pc' := 22) rfl ?_
      refine ax_getr (v := 331) dX12_yards_22 flX12_7 rfl sh_330 rfl (pc' := 25) rfl ?_
      refine ax_sipush dX12_yards_25 (by decide) (pc' := 28) rfl ?_
      refine ax_iald (v := w 2578) dX12_yards_28 sh_331 rfl (by omega) (by omega) ((congrFun hw 2578).trans rfl) (pc' := 29) rfl ?_
      refine ax_icmp_ne (tgt := 66) dX12_yards_29 (by decide) (pc' := 32) rfl (fun h29 => ?_) (fun h29 => ?_)
      · exfalso
        omega
      · refine ax_aload_n dX12_yards_32 rfl rfl (pc' := 33) rfl ?_
        refine ax_iload_n dX12_yards_33 rfl rfl (pc' := 34) rfl ?_
        refine ax_insG [.inl u] [.inr 330] dX12_yards_34 mlX12_482 rfl rfl (Nat.le_of_ble_eq_true rfl) (s_X12_count E l _ (by omega) _ u) (pc' := 37) rfl (fun vv M_34 hq co34 hcm34 => ?_)
        obtain ⟨rfl, rfl, fa34_0⟩ := hq
        refine ax_reS (st2 := [.inl (f_cn8 u), .inr 330]) rfl ?_
        have cc34 : -2147483648 ≤ f_cn8 u ∧ f_cn8 u < 2147483648 := co34 _ rfl
        refine ax_puti dX12_yards_37 flX12_479 (Or.inl rfl) sh_330 rfl (pc' := 40) rfl ?_
        refine ax_iconst dX12_yards_40 (by decide) (pc' := 41) rfl ?_
        refine ax_istore_n dX12_yards_41 rfl (by decide) (ls' := [some (.inr 330), some (.inl i), some (.inl u), some (.inl 0)]) rfl (pc' := 42) rfl ?_
        have LP4 : ∀ (kq5 : Nat) (k : Int) (b1 : Int → Int) (M4 : ax_Mem) (hm4 : i - k < (kq5 : Nat)) (fr4 : ∀ x0 i0 : Int, ¬ (x0 = 347) → M4 x0 i0 = (ax_up M 330 39 (f_cn8 u)) x0 i0) (mr4_347 : M4 347 = b1) (iv4_0 : 0 ≤ k ∧ k ≤ i) (iv4_1 : b1 = f_yw k fr bf), ax_W E l (d + 1) 0 0 iX12_yards 42 [some (.inr 330), some (.inl i), some (.inl u), some (.inl k)] [] SH M4 (ax_P (fun z0 M2 => z0 = none ∧ (∀ x0 i0 : Int, ¬ (x0 = 345 ∨ x0 = 347 ∨ (x0 = 330 ∧ i0 = 39) ∨ x0 = 346) → M2 x0 i0 = M x0 i0) ∧ M2 345 = lv ∧ M2 347 = f_yR (f_mn c us lv ([] : List Int)) bb (w 2578) (f_chR c us lv ([] : List Int) i fr) bf ∧ M2 330 39 = f_yb bb (f_mn c us lv ([] : List Int)) ∧ (∀ j, 0 ≤ j → j < i → M2 346 j = fr j) ∧ (f_yb bb (f_mn c us lv ([] : List Int)) = -1 ∨ (0 ≤ f_yb bb (f_mn c us lv ([] : List Int)) ∧ f_yb bb (f_mn c us lv ([] : List Int)) ≤ 8)))) := by
          intro kq5
          induction kq5 with
          | zero =>
            intro k b1 M4 hm4 fr4 mr4_347 iv4_0 iv4_1
            exfalso
            omega
          | succ kq5 ih6 =>
            intro k b1 M4 hm4 fr4 mr4_347 iv4_0 iv4_1
            refine ax_iload_n dX12_yards_42 rfl rfl (pc' := 43) rfl ?_
            refine ax_iload_n dX12_yards_43 rfl rfl (pc' := 44) rfl ?_
            refine ax_icmp_ge (tgt := 65) dX12_yards_44 (by decide) (pc' := 47) rfl (fun h44 => ?_) (fun h44 => ?_)
            · refine ax_vret dX12_yards_65 rfl ?_
              refine ⟨rfl, rfl, ?_, ?_, ?_, ?_, ?_, ?_⟩
              · intro x0 i0 hai
                exact ((fr4 x0 i0 (fun h => hai (Or.inr (Or.inl h)))).trans (ax_up_miss (fun h => hai (Or.inr (Or.inr (Or.inl h)))) rfl))
              · exact ((funext fun i0 => fr4 345 i0 (fun h => absurd h (by decide))).trans (ax_up_rowmiss (by decide) hlv))
              · refine Eq.trans mr4_347 ?_
                unfold f_yR
                rw [if_pos q0, iv4_1, show k = w 2578 by omega]
                rfl
              · refine Eq.trans ((fr4 330 39 (fun h => absurd h (by decide))).trans (ax_up_hit _ _ _ _)) ?_
                unfold f_yb
                rw [if_pos q0]
                exact qq
              · intro j h1 h2
                exact congrFun (show M4 346 = fr from ((funext fun i0 => fr4 346 i0 (fun h => absurd h (by decide))).trans (ax_up_rowmiss (by decide) hfr))) j
              · unfold f_yb
                rw [if_pos q0]
                show c = -1 ∨ (0 ≤ c ∧ c ≤ 8)
                omega
            · refine ax_aload_n dX12_yards_47 rfl rfl (pc' := 48) rfl ?_
              refine ax_getr (v := 347) dX12_yards_48 flX12_62 rfl sh_330 rfl (pc' := 51) rfl ?_
              refine ax_iload_n dX12_yards_51 rfl rfl (pc' := 52) rfl ?_
              refine ax_aload_n dX12_yards_52 rfl rfl (pc' := 53) rfl ?_
              refine ax_getr (v := 346) dX12_yards_53 flX12_59 rfl sh_330 rfl (pc' := 56) rfl ?_
              refine ax_iload_n dX12_yards_56 rfl rfl (pc' := 57) rfl ?_
              refine ax_iald (v := fr k) dX12_yards_57 sh_346 rfl (by omega) (by omega) ((congrFun ((funext fun i0 => fr4 346 i0 (fun h => absurd h (by decide))).trans (ax_up_rowmiss (by decide) hfr)) k).trans rfl) (pc' := 58) rfl ?_
              refine ax_iast dX12_yards_58 sh_347 rfl (by omega) (by omega) (pc' := 59) rfl ?_
              refine ax_iinc dX12_yards_59 rfl (by decide) (by omega) (ls' := [some (.inr 330), some (.inl i), some (.inl u), some (.inl (k + 1))]) rfl (pc' := 62) rfl ?_
              refine ax_goto dX12_yards_62 (pc' := 42) (by decide) ?_
              refine ih6 (k + 1) (f_up b1 k (fr k)) (ax_up M4 347 k (fr k)) ?_ ?_ ?_ ?_ ?_
              · omega
              · intro x0 i0 hai
                exact (ax_up_miss (fun h => hai h.1) ((fr4 x0 i0 (fun h => hai h)).trans rfl))
              · exact (ax_up_rowhit mr4_347)
              · omega
              · rw [iv4_1]
                exact f_yw_up (by omega)
        refine LP4 (i - 0 : Int).toNat.succ 0 bf (ax_up M 330 39 (f_cn8 u)) ?_ ?_ ?_ ?_ ?_
        · omega
        · exact fun a i _ => rfl
        · exact (ax_up_rowmiss (by decide) hbf)
        · omega
        · funext j
          unfold f_yw
          rw [if_neg (by omega)]
    · have q0 : ¬ (f_mn c us lv ([] : List Int) < 1000 ∧ (bb = -1 ∨ f_mn c us lv ([] : List Int) < bb)) := by
        have q1 := f_mn_rg [] c us lv (f_uo_01 hg3) (by omega)
        have q2 := hg3.2.1
        omega
      refine ax_vret dX12_yards_19 rfl ?_
      refine ⟨rfl, rfl, ?_, ?_, ?_, ?_, ?_, ?_⟩
      · intro x0 i0 hai
        exact rfl
      · exact hlv
      · refine Eq.trans hbf ?_
        unfold f_yR
        rw [if_neg q0]
      · refine Eq.trans hbb ?_
        unfold f_yb
        rw [if_neg q0]
      · intro j h1 h2
        exact congrFun (show M 346 = fr from hfr) j
      · unfold f_yb
        rw [if_neg q0]
        exact hg4
set_option maxRecDepth 20000 in
theorem s_yds_s (nn : Nat) (H4 : f_C4 nn) (E : ax_Env) (l : Launch) (d : Nat) (hd : 2 + (nn + 1) ≤ d) (M : ax_Mem) (i u : Int) (o : Int) (tl : List Int) (c : Int) (us : Int → Int) {w : Int → Int} (hw : M 331 = w) {lv : Int → Int} (hlv : M 345 = lv) {fr : Int → Int} (hfr : M 346 = fr) {bf : Int → Int} (hbf : M 347 = bf) {bb : Int} (hbb : M 330 39 = bb) (hg0 : 0 ≤ i ∧ i + ((o :: tl).length : Int) = w 2578 ∧ w 2578 ≤ 7) (hg1 : f_ord w i (o :: tl)) (hg2 : f_lvo w lv) (hg3 : f_uo u c us) (hg4 : bb = -1 ∨ (0 ≤ bb ∧ bb ≤ 8)) (hg5 : tl.length = nn) : ax_G E l d iX12_yards [.inr 330, .inl i, .inl u] M (fun z0 M2 => z0 = none ∧ (∀ x0 i0 : Int, ¬ (x0 = 345 ∨ x0 = 347 ∨ (x0 = 330 ∧ i0 = 39) ∨ x0 = 346) → M2 x0 i0 = M x0 i0) ∧ M2 345 = lv ∧ M2 347 = f_yR (f_mn c us lv (o :: tl)) bb (w 2578) (f_chR c us lv (o :: tl) i fr) bf ∧ M2 330 39 = f_yb bb (f_mn c us lv (o :: tl)) ∧ (∀ j, 0 ≤ j → j < i → M2 346 j = fr j) ∧ (f_yb bb (f_mn c us lv (o :: tl)) = -1 ∨ (0 ≤ f_yb bb (f_mn c us lv (o :: tl)) ∧ f_yb bb (f_mn c us lv (o :: tl)) ≤ 8))) := by
  obtain ⟨d, rfl⟩ : ∃ d0, d = d0 + 1 := ⟨d - 1, by omega⟩
  refine ax_start rfl (Nat.le_of_ble_eq_true rfl) (ls := [some (.inr 330), some (.inl i), some (.inl u), none]) rfl (fun hav hcm => ?_)
  have hc1 : -2147483648 ≤ i ∧ i < 2147483648 := hav (.inl i) (by simp)
  have hc2 : -2147483648 ≤ u ∧ u < 2147483648 := hav (.inl u) (by simp)
  clear hav
  have qln : ((o :: tl).length : Int) = (tl.length : Int) + 1 := by
    simp only [List.length_cons]
    omega
  have qcn := f_cn8_rg u
  have qq := hg3.2.1
  have qo : w (2592 + i) = o := hg1.1
  have qo2 : 1 ≤ o ∧ o ≤ 24 := hg1.2.1
  have qu := f_uo_01 hg3
  refine ax_aload_n dX12_yards_0 rfl rfl (pc' := 1) rfl ?_
  refine ax_geti (v := bb) dX12_yards_1 flX12_479 rfl sh_330 hbb rfl (pc' := 4) rfl ?_
  refine ax_iconst dX12_yards_4 (by decide) (pc' := 5) rfl ?_
  refine ax_icmp_eq (tgt := 20) dX12_yards_5 (by decide) (pc' := 8) rfl (fun h5 => ?_) (fun h5 => ?_)
  · refine ax_iload_n dX12_yards_20 rfl rfl (pc' := 21) rfl ?_
    refine ax_aload_n dX12_yards_21 rfl rfl (pc' := 22) rfl ?_
    refine ax_getr (v := 331) dX12_yards_22 flX12_7 rfl sh_330 rfl (pc' := 25) rfl ?_
    refine ax_sipush dX12_yards_25 (by decide) (pc' := 28) rfl ?_
    refine ax_iald (v := w 2578) dX12_yards_28 sh_331 rfl (by omega) (by omega) ((congrFun hw 2578).trans rfl) (pc' := 29) rfl ?_
    refine ax_icmp_ne (tgt := 66) dX12_yards_29 (by decide) (pc' := 32) rfl (fun h29 => ?_) (fun h29 => ?_)
    · refine ax_iconst dX12_yards_66 (by decide) (pc' := 67) rfl ?_
      refine ax_istore_n dX12_yards_67 rfl (by decide) (ls' := [some (.inr 330), some (.inl i), some (.inl u), some (.inl 0)]) rfl (pc' := 68) rfl ?_
      have LP1 : ∀ (kq2 : Nat) (r : Int) (fa ba : Int → Int) (bx : Int) (M1 : ax_Mem) (hm1 : 8 - r < (kq2 : Nat)) (fr1 : ∀ x0 i0 : Int, ¬ (x0 = 345 ∨ x0 = 346 ∨ x0 = 347 ∨ (x0 = 330 ∧ i0 = 39)) → M1 x0 i0 = M x0 i0) (mr1_345 : M1 345 = lv) (mr1_346 : M1 346 = fa) (mr1_347 : M1 347 = ba) (ms1_330_39 : M1 330 39 = bx) (iv1_0 : 0 ≤ r ∧ r ≤ 8) (iv1_1 : bx = f_yb bb (f_bst (f_mnG c us lv o tl) r).1) (iv1_2 : ba = f_yR (f_bst (f_mnG c us lv o tl) r).1 bb (w 2578) (f_chN c us lv o tl i fr (f_bst (f_mnG c us lv o tl) r).2) bf) (iv1_3 : ∀ j, 0 ≤ j → j < i → fa j = fr j) (iv1_4 : bx = -1 ∨ (0 ≤ bx ∧ bx ≤ 8)) (iv1_5 : c ≤ (f_bst (f_mnG c us lv o tl) r).1 ∧ (f_bst (f_mnG c us lv o tl) r).1 ≤ 1000), ax_W E l (d + 1) 0 0 iX12_yards 68 [some (.inr 330), some (.inl i), some (.inl u), some (.inl r)] [] SH M1 (ax_P (fun z0 M2 => z0 = none ∧ (∀ x0 i0 : Int, ¬ (x0 = 345 ∨ x0 = 347 ∨ (x0 = 330 ∧ i0 = 39) ∨ x0 = 346) → M2 x0 i0 = M x0 i0) ∧ M2 345 = lv ∧ M2 347 = f_yR (f_mn c us lv (o :: tl)) bb (w 2578) (f_chR c us lv (o :: tl) i fr) bf ∧ M2 330 39 = f_yb bb (f_mn c us lv (o :: tl)) ∧ (∀ j, 0 ≤ j → j < i → M2 346 j = fr j) ∧ (f_yb bb (f_mn c us lv (o :: tl)) = -1 ∨ (0 ≤ f_yb bb (f_mn c us lv (o :: tl)) ∧ f_yb bb (f_mn c us lv (o :: tl)) ≤ 8)))) := by
        intro kq2
        induction kq2 with
        | zero =>
          intro r fa ba bx M1 hm1 fr1 mr1_345 mr1_346 mr1_347 ms1_330_39 iv1_0 iv1_1 iv1_2 iv1_3 iv1_4 iv1_5
          exfalso
          omega
        | succ kq2 ih3 =>
          intro r fa ba bx M1 hm1 fr1 mr1_345 mr1_346 mr1_347 ms1_330_39 iv1_0 iv1_1 iv1_2 iv1_3 iv1_4 iv1_5
          refine ax_iload_n dX12_yards_68 rfl rfl (pc' := 69) rfl ?_
          refine ax_bipush dX12_yards_69 (by decide) (pc' := 71) rfl ?_
          refine ax_icmp_ge (tgt := 167) dX12_yards_71 (by decide) (pc' := 74) rfl (fun h71 => ?_) (fun h71 => ?_)
          · obtain rfl : r = 8 := by omega
            refine ax_vret dX12_yards_167 rfl ?_
            refine ⟨rfl, rfl, ?_, ?_, ?_, ?_, ?_, ?_⟩
            · intro x0 i0 hai
              exact ((fr1 x0 i0 (fun h => h.elim (fun h => hai (Or.inl h)) (fun h => h.elim (fun h => hai (Or.inr (Or.inr (Or.inr h)))) (fun h => h.elim (fun h => hai (Or.inr (Or.inl h))) (fun h => hai (Or.inr (Or.inr (Or.inl h)))))))).trans rfl)
            · exact mr1_345
            · refine Eq.trans mr1_347 ?_
              exact iv1_2
            · refine Eq.trans ms1_330_39 ?_
              exact iv1_1
            · intro j h1 h2
              exact (congrFun (show M1 346 = fa from mr1_346) j).trans (iv1_3 j h1 h2)
            · have q := iv1_4
              rw [iv1_1] at q
              exact q
          · have qlv := hg2 r (by omega) (by omega)
            have qgr := f_mnG_rg (tl := tl) (c := c) (o := o) (r := r) (lv := lv) qu (by omega) ⟨by omega, by omega⟩
            refine ax_aload_n dX12_yards_74 rfl rfl (pc' := 75) rfl ?_
            refine ax_iload_n dX12_yards_75 rfl rfl (pc' := 76) rfl ?_
            refine ax_invG [.inl r] [] dX12_yards_76 mlX12_82 sh_330 rfl rfl rfl (Nat.le_of_ble_eq_true rfl) (s_X12_isRope E l _ (by omega) _ r ((funext fun i0 => fr1 331 i0 (fun h => h.elim (fun h => absurd h (by decide)) (fun h => h.elim (fun h => absurd h (by decide)) (fun h => h.elim (fun h => absurd h (by decide)) (fun h => absurd h.1 (by decide)))))).trans hw)) (pc' := 79) rfl (fun vv M_76 hq co76 hcm76 => ?_)
            obtain ⟨rfl, rfl⟩ := hq
            refine ax_reS (st2 := [.inl (f_b (f_isR w r))]) rfl ?_
            refine ax_if_eq (tgt := 161) dX12_yards_79 (by decide) (pc' := 82) rfl (fun h79 => ?_) (fun h79 => ?_)
            · replace h79 := f_b_0 h79
              have qg : f_mnG c us lv o tl r = 1000 := by
                have q := qlv.2 h79
                unfold f_mnG
                rw [if_neg (by omega)]
              have qs : f_bst (f_mnG c us lv o tl) (r + 1) = f_bst (f_mnG c us lv o tl) r := by
                rw [f_bst_last (by omega)]
                unfold f_bsS
                rw [if_neg (by omega)]
              have qa0 : lv = lv := rfl
              have qa1 : bx = f_yb bb (f_bst (f_mnG c us lv o tl) (r + 1)).1 := by
                rw [qs]
                exact iv1_1
              have qa2 : ba = f_yR (f_bst (f_mnG c us lv o tl) (r + 1)).1 bb (w 2578) (f_chN c us lv o tl i fr (f_bst (f_mnG c us lv o tl) (r + 1)).2) bf := by
                rw [qs]
                exact iv1_2
              have qa3 := iv1_3
              have qa4 := iv1_4
              have qa5 : c ≤ (f_bst (f_mnG c us lv o tl) (r + 1)).1 ∧ (f_bst (f_mnG c us lv o tl) (r + 1)).1 ≤ 1000 := by
                rw [qs]
                exact iv1_5
              refine ax_iinc dX12_yards_161 rfl (by decide) (by omega) (ls' := [some (.inr 330), some (.inl i), some (.inl u), some (.inl (r + 1))]) rfl (pc' := 164) rfl ?_
              refine ax_goto dX12_yards_164 (pc' := 68) (by decide) ?_
              refine ih3 (r + 1) fa ba bx M1 ?_ ?_ ?_ ?_ ?_ ?_ ?_ ?_ ?_ ?_ ?_ ?_
              · omega
              · intro x0 i0 hai
                exact ((fr1 x0 i0 (fun h => h.elim (fun h => hai (Or.inl h)) (fun h => h.elim (fun h => hai (Or.inr (Or.inl h))) (fun h => h.elim (fun h => hai (Or.inr (Or.inr (Or.inl h)))) (fun h => hai (Or.inr (Or.inr (Or.inr h)))))))).trans rfl)
              · refine Eq.trans mr1_345 ?_
                exact qa0
              · exact mr1_346
              · exact mr1_347
              · exact ms1_330_39
              · omega
              · exact qa1
              · exact qa2
              · exact qa3
              · exact qa4
              · exact qa5
            · replace h79 := f_b_1 h79
              refine ax_aload_n dX12_yards_82 rfl rfl (pc' := 83) rfl ?_
              refine ax_getr (v := 345) dX12_yards_83 flX12_56 rfl sh_330 rfl (pc' := 86) rfl ?_
              refine ax_iload_n dX12_yards_86 rfl rfl (pc' := 87) rfl ?_
              refine ax_iald (v := lv r) dX12_yards_87 sh_345 rfl (by omega) (by omega) ((congrFun mr1_345 r).trans rfl) (pc' := 88) rfl ?_
              refine ax_aload_n dX12_yards_88 rfl rfl (pc' := 89) rfl ?_
              refine ax_getr (v := 331) dX12_yards_89 flX12_7 rfl sh_330 rfl (pc' := 92) rfl ?_
              refine ax_sipush dX12_yards_92 (by decide) (pc' := 95) rfl ?_
              refine ax_iload_n dX12_yards_95 rfl rfl (pc' := 96) rfl ?_
              refine ax_iadd dX12_yards_96 (by omega) (pc' := 97) rfl ?_
              refine ax_iald (v := w (2592 + i)) dX12_yards_97 sh_331 rfl (by omega) (by omega) ((congrFun ((funext fun i0 => fr1 331 i0 (fun h => h.elim (fun h => absurd h (by decide)) (fun h => h.elim (fun h => absurd h (by decide)) (fun h => h.elim (fun h => absurd h (by decide)) (fun h => absurd h.1 (by decide)))))).trans hw) (2592 + i)).trans rfl) (pc' := 98) rfl ?_
              refine ax_reS (st2 := [.inl o, .inl (lv r)]) (congrArg (fun z => Sum.inl z :: _) (by exact qo)) ?_
              refine ax_icmp_ge (tgt := 104) dX12_yards_98 (by decide) (pc' := 101) rfl (fun h98 => ?_) (fun h98 => ?_)
              · have qg : f_mnG c us lv o tl r = f_mn (c + 1 - us r) (f_up us r 1) (f_up lv r (lv r - o)) tl := by
                  unfold f_mnG
                  rw [if_pos (by omega)]
                refine ax_aload_n dX12_yards_104 rfl rfl (pc' := 105) rfl ?_
                refine ax_getr (v := 346) dX12_yards_105 flX12_59 rfl sh_330 rfl (pc' := 108) rfl ?_
                refine ax_iload_n dX12_yards_108 rfl rfl (pc' := 109) rfl ?_
                refine ax_iload_n dX12_yards_109 rfl rfl (pc' := 110) rfl ?_
                refine ax_iast dX12_yards_110 sh_346 rfl (by omega) (by omega) (pc' := 111) rfl ?_
                refine ax_aload_n dX12_yards_111 rfl rfl (pc' := 112) rfl ?_
                refine ax_getr (v := 345) dX12_yards_112 flX12_56 rfl sh_330 rfl (pc' := 115) rfl ?_
                refine ax_iload_n dX12_yards_115 rfl rfl (pc' := 116) rfl ?_
                refine ax_dup2 dX12_yards_116 (pc' := 117) rfl ?_
                refine ax_iald (v := lv r) dX12_yards_117 sh_345 rfl (by omega) (by omega) ((congrFun (ax_up_rowmiss (by decide) mr1_345) r).trans rfl) (pc' := 118) rfl ?_
                refine ax_aload_n dX12_yards_118 rfl rfl (pc' := 119) rfl ?_
                refine ax_getr (v := 331) dX12_yards_119 flX12_7 rfl sh_330 rfl (pc' := 122) rfl ?_
                refine ax_sipush dX12_yards_122 (by decide) (pc' := 125) rfl ?_
                refine ax_iload_n dX12_yards_125 rfl rfl (pc' := 126) rfl ?_
                refine ax_iadd dX12_yards_126 (by omega) (pc' := 127) rfl ?_
                refine ax_iald (v := w (2592 + i)) dX12_yards_127 sh_331 rfl (by omega) (by omega) ((congrFun (ax_up_rowmiss (by decide) ((funext fun i0 => fr1 331 i0 (fun h => h.elim (fun h => absurd h (by decide)) (fun h => h.elim (fun h => absurd h (by decide)) (fun h => h.elim (fun h => absurd h (by decide)) (fun h => absurd h.1 (by decide)))))).trans hw)) (2592 + i)).trans rfl) (pc' := 128) rfl ?_
                refine ax_reS (st2 := [.inl o, .inl (lv r), .inl r, .inr 345]) (congrArg (fun z => Sum.inl z :: _) (by exact qo)) ?_
                refine ax_isub dX12_yards_128 (by omega) (pc' := 129) rfl ?_
                refine ax_iast dX12_yards_129 sh_345 rfl (by omega) (by omega) (pc' := 130) rfl ?_
                refine ax_aload_n dX12_yards_130 rfl rfl (pc' := 131) rfl ?_
                refine ax_iload_n dX12_yards_131 rfl rfl (pc' := 132) rfl ?_
                refine ax_iconst dX12_yards_132 (by decide) (pc' := 133) rfl ?_
                refine ax_iadd dX12_yards_133 (by omega) (pc' := 134) rfl ?_
                refine ax_iload_n dX12_yards_134 rfl rfl (pc' := 135) rfl ?_
                refine ax_iconst dX12_yards_135 (by decide) (pc' := 136) rfl ?_
                refine ax_iload_n dX12_yards_136 rfl rfl (pc' := 137) rfl ?_
                refine ax_ishl dX12_yards_137 (pc' := 138) rfl ?_
                refine ax_ior dX12_yards_138 (pc' := 139) rfl ?_
                refine ax_invG [.inl (i + 1), .inl (ax_or u (ax_shl 1 r))] [] dX12_yards_139 mlX12_485 sh_330 rfl rfl rfl (Nat.le_of_ble_eq_true rfl) (H4 E l _ (by omega) _ (i + 1) (ax_or u (ax_shl 1 r)) tl (c + 1 - us r) (f_up us r 1) (ax_up_rowmiss (by decide) (ax_up_rowmiss (by decide) ((funext fun i0 => fr1 331 i0 (fun h => h.elim (fun h => absurd h (by decide)) (fun h => h.elim (fun h => absurd h (by decide)) (fun h => h.elim (fun h => absurd h (by decide)) (fun h => absurd h.1 (by decide)))))).trans hw))) (ax_up_rowhit (ax_up_rowmiss (by decide) mr1_345)) (ax_up_rowmiss (by decide) (ax_up_rowhit mr1_346)) (ax_up_rowmiss (by decide) (ax_up_rowmiss (by decide) mr1_347)) (ax_up_miss (fun h => absurd h.1 (by decide)) (ax_up_miss (fun h => absurd h.1 (by decide)) ms1_330_39)) ⟨by omega, by omega, by omega⟩ hg1.2.2 (f_lvo_up ⟨by omega, by omega⟩ ⟨by omega, by omega⟩ hg2) (f_uo_up ⟨by omega, by omega⟩ hg3) iv1_4 hg5) (pc' := 142) rfl (fun vv M_139 hq co139 hcm139 => ?_)
                obtain ⟨rfl, frM_139, mrM_139_0, mrM_139_1, msM_139_0, fa139_0, fa139_1⟩ := hq
                refine ax_reS (st2 := []) rfl ?_
                refine ax_aload_n dX12_yards_142 rfl rfl (pc' := 143) rfl ?_
                refine ax_getr (v := 345) dX12_yards_143 flX12_56 rfl sh_330 rfl (pc' := 146) rfl ?_
                refine ax_iload_n dX12_yards_146 rfl rfl (pc' := 147) rfl ?_
                refine ax_dup2 dX12_yards_147 (pc' := 148) rfl ?_
                refine ax_iald (v := (f_up lv r (lv r - o)) r) dX12_yards_148 sh_345 rfl (by omega) (by omega) ((congrFun mrM_139_0 r).trans rfl) (pc' := 149) rfl ?_
                refine ax_reS (st2 := [.inl (lv r - o), .inl r, .inr 345]) (congrArg (fun z => Sum.inl z :: _) (by exact f_up_same _ _ _)) ?_
                refine ax_aload_n dX12_yards_149 rfl rfl (pc' := 150) rfl ?_
                refine ax_getr (v := 331) dX12_yards_150 flX12_7 rfl sh_330 rfl (pc' := 153) rfl ?_
                refine ax_sipush dX12_yards_153 (by decide) (pc' := 156) rfl ?_
                refine ax_iload_n dX12_yards_156 rfl rfl (pc' := 157) rfl ?_
                refine ax_iadd dX12_yards_157 (by omega) (pc' := 158) rfl ?_
                refine ax_iald (v := w (2592 + i)) dX12_yards_158 sh_331 rfl (by omega) (by omega) ((congrFun ((funext fun i0 => frM_139 331 i0 (fun h => h.elim (fun h => absurd h (by decide)) (fun h => h.elim (fun h => absurd h (by decide)) (fun h => h.elim (fun h => absurd h.1 (by decide)) (fun h => absurd h (by decide)))))).trans (ax_up_rowmiss (by decide) (ax_up_rowmiss (by decide) ((funext fun i0 => fr1 331 i0 (fun h => h.elim (fun h => absurd h (by decide)) (fun h => h.elim (fun h => absurd h (by decide)) (fun h => h.elim (fun h => absurd h (by decide)) (fun h => absurd h.1 (by decide)))))).trans hw)))) (2592 + i)).trans rfl) (pc' := 159) rfl ?_
                refine ax_reS (st2 := [.inl o, .inl (lv r - o), .inl r, .inr 345]) (congrArg (fun z => Sum.inl z :: _) (by exact qo)) ?_
                refine ax_iadd dX12_yards_159 (by omega) (pc' := 160) rfl ?_
                refine ax_iast dX12_yards_160 sh_345 rfl (by omega) (by omega) (pc' := 161) rfl ?_
                have qs : f_bst (f_mnG c us lv o tl) (r + 1) = if f_mnG c us lv o tl r < (f_bst (f_mnG c us lv o tl) r).1 then (f_mnG c us lv o tl r, r) else f_bst (f_mnG c us lv o tl) r := by
                  rw [f_bst_last (by omega)]
                  rfl
                have qs1 : (f_bst (f_mnG c us lv o tl) (r + 1)).1 = if f_mnG c us lv o tl r < (f_bst (f_mnG c us lv o tl) r).1 then f_mnG c us lv o tl r else (f_bst (f_mnG c us lv o tl) r).1 := by
                  rw [qs]
                  split <;> rfl
                have qa0 : f_up (f_up lv r (lv r - o)) r (lv r - o + o) = lv := f_up_back
                have qa1 : f_yb bx (f_mn (c + 1 - us r) (f_up us r 1) (f_up lv r (lv r - o)) tl) = f_yb bb (f_bst (f_mnG c us lv o tl) (r + 1)).1 := by
                  rw [qs1, ← qg, iv1_1]
                  exact f_yb_step (by omega) (by omega)
                have qa2 : f_yR (f_mn (c + 1 - us r) (f_up us r 1) (f_up lv r (lv r - o)) tl) bx (w 2578) (f_chR (c + 1 - us r) (f_up us r 1) (f_up lv r (lv r - o)) tl (i + 1) (f_up fa i r)) ba = f_yR (f_bst (f_mnG c us lv o tl) (r + 1)).1 bb (w 2578) (f_chN c us lv o tl i fr (f_bst (f_mnG c us lv o tl) (r + 1)).2) bf := by
                  rw [f_yR_cong (rb := f_chN c us lv o tl i fr r) (f_chN_cong (by omega) (by omega) iv1_3), ← qg, iv1_1, iv1_2, f_yR_step (by omega) (by omega), qs]
                  split <;> rfl
                have qa3 : ∀ j, 0 ≤ j → j < i → M_139 346 j = fr j := fun j h1 h2 => (fa139_0 j h1 (by omega)).trans ((f_up_o (by omega)).trans (iv1_3 j h1 h2))
                have qa4 : f_yb bx (f_mn (c + 1 - us r) (f_up us r 1) (f_up lv r (lv r - o)) tl) = -1 ∨ (0 ≤ f_yb bx (f_mn (c + 1 - us r) (f_up us r 1) (f_up lv r (lv r - o)) tl) ∧ f_yb bx (f_mn (c + 1 - us r) (f_up us r 1) (f_up lv r (lv r - o)) tl) ≤ 8) := fa139_1
                have qa5 : c ≤ (f_bst (f_mnG c us lv o tl) (r + 1)).1 ∧ (f_bst (f_mnG c us lv o tl) (r + 1)).1 ≤ 1000 := by
                  rw [qs1]
                  split <;> omega
                refine ax_iinc dX12_yards_161 rfl (by decide) (by omega) (ls' := [some (.inr 330), some (.inl i), some (.inl u), some (.inl (r + 1))]) rfl (pc' := 164) rfl ?_
                refine ax_goto dX12_yards_164 (pc' := 68) (by decide) ?_
                refine ih3 (r + 1) (M_139 346) (f_yR (f_mn (c + 1 - us r) (f_up us r 1) (f_up lv r (lv r - o)) tl) bx (w 2578) (f_chR (c + 1 - us r) (f_up us r 1) (f_up lv r (lv r - o)) tl (i + 1) (f_up fa i r)) ba) (f_yb bx (f_mn (c + 1 - us r) (f_up us r 1) (f_up lv r (lv r - o)) tl)) (ax_up M_139 345 r (lv r - o + o)) ?_ ?_ ?_ ?_ ?_ ?_ ?_ ?_ ?_ ?_ ?_ ?_
                · omega
                · intro x0 i0 hai
                  exact (ax_up_miss (fun h => hai (Or.inl h.1)) ((frM_139 x0 i0 (fun h => h.elim (fun h => hai (Or.inl h)) (fun h => h.elim (fun h => hai (Or.inr (Or.inr (Or.inl h)))) (fun h => h.elim (fun h => hai (Or.inr (Or.inr (Or.inr h)))) (fun h => hai (Or.inr (Or.inl h))))))).trans (ax_up_miss (fun h => hai (Or.inl h.1)) (ax_up_miss (fun h => hai (Or.inr (Or.inl h.1))) ((fr1 x0 i0 (fun h => h.elim (fun h => hai (Or.inl h)) (fun h => h.elim (fun h => hai (Or.inr (Or.inl h))) (fun h => h.elim (fun h => hai (Or.inr (Or.inr (Or.inl h)))) (fun h => hai (Or.inr (Or.inr (Or.inr h)))))))).trans rfl)))))
                · refine Eq.trans (ax_up_rowhit mrM_139_0) ?_
                  exact qa0
                · exact (ax_up_rowmiss (by decide) rfl)
                · exact (ax_up_rowmiss (by decide) mrM_139_1)
                · exact (ax_up_miss (fun h => absurd h.1 (by decide)) msM_139_0)
                · omega
                · exact qa1
                · exact qa2
                · exact qa3
                · exact qa4
                · exact qa5
              · have qg : f_mnG c us lv o tl r = 1000 := by
                  unfold f_mnG
                  rw [if_neg (by omega)]
                refine ax_goto dX12_yards_101 (pc' := 161) (by decide) ?_
                have qs : f_bst (f_mnG c us lv o tl) (r + 1) = f_bst (f_mnG c us lv o tl) r := by
                  rw [f_bst_last (by omega)]
                  unfold f_bsS
                  rw [if_neg (by omega)]
                have qa0 : lv = lv := rfl
                have qa1 : bx = f_yb bb (f_bst (f_mnG c us lv o tl) (r + 1)).1 := by
                  rw [qs]
                  exact iv1_1
                have qa2 : ba = f_yR (f_bst (f_mnG c us lv o tl) (r + 1)).1 bb (w 2578) (f_chN c us lv o tl i fr (f_bst (f_mnG c us lv o tl) (r + 1)).2) bf := by
                  rw [qs]
                  exact iv1_2
                have qa3 := iv1_3
                have qa4 := iv1_4
                have qa5 : c ≤ (f_bst (f_mnG c us lv o tl) (r + 1)).1 ∧ (f_bst (f_mnG c us lv o tl) (r + 1)).1 ≤ 1000 := by
                  rw [qs]
                  exact iv1_5
                refine ax_iinc dX12_yards_161 rfl (by decide) (by omega) (ls' := [some (.inr 330), some (.inl i), some (.inl u), some (.inl (r + 1))]) rfl (pc' := 164) rfl ?_
                refine ax_goto dX12_yards_164 (pc' := 68) (by decide) ?_
                refine ih3 (r + 1) fa ba bx M1 ?_ ?_ ?_ ?_ ?_ ?_ ?_ ?_ ?_ ?_ ?_ ?_
                · omega
                · intro x0 i0 hai
                  exact ((fr1 x0 i0 (fun h => h.elim (fun h => hai (Or.inl h)) (fun h => h.elim (fun h => hai (Or.inr (Or.inl h))) (fun h => h.elim (fun h => hai (Or.inr (Or.inr (Or.inl h)))) (fun h => hai (Or.inr (Or.inr (Or.inr h)))))))).trans rfl)
                · refine Eq.trans mr1_345 ?_
                  exact qa0
                · exact mr1_346
                · exact mr1_347
                · exact ms1_330_39
                · omega
                · exact qa1
                · exact qa2
                · exact qa3
                · exact qa4
                · exact qa5
      refine LP1 (8 - 0 : Int).toNat.succ 0 fr bf bb M ?_ ?_ ?_ ?_ ?_ ?_ ?_ ?_ ?_ ?_ ?_ ?_
      · omega
      · exact fun a i _ => rfl
      · exact hlv
      · exact hfr
      · exact hbf
      · exact hbb
      · omega
      · have q : f_bst (f_mnG c us lv o tl) 0 = (1000, -1) := f_loop_done (Int.le_refl 0)
        rw [q]
        unfold f_yb
        rw [if_neg (by omega)]
      · have q : f_bst (f_mnG c us lv o tl) 0 = (1000, -1) := f_loop_done (Int.le_refl 0)
        rw [q]
        unfold f_yR
        rw [if_neg (by omega)]
      · intro j h1 h2
        rfl
      · exact hg4
      · have q : f_bst (f_mnG c us lv o tl) 0 = (1000, -1) := f_loop_done (Int.le_refl 0)
        rw [q]
        exact ⟨by show c ≤ 1000; omega, Int.le_refl _⟩
    · exfalso
      omega
  · refine ax_iload_n dX12_yards_8 rfl rfl (pc' := 9) rfl ?_
    refine ax_insG [.inl u] [] dX12_yards_9 mlX12_482 rfl rfl (Nat.le_of_ble_eq_true rfl) (s_X12_count E l _ (by omega) _ u) (pc' := 12) rfl (fun vv M_9 hq co9 hcm9 => ?_)
    obtain ⟨rfl, rfl, fa9_0⟩ := hq
    refine ax_reS (st2 := [.inl (f_cn8 u)]) rfl ?_
    have cc9 : -2147483648 ≤ f_cn8 u ∧ f_cn8 u < 2147483648 := co9 _ rfl
    refine ax_aload_n dX12_yards_12 rfl rfl (pc' := 13) rfl ?_
    refine ax_geti (v := bb) dX12_yards_13 flX12_479 rfl sh_330 hbb rfl (pc' := 16) rfl ?_
    refine ax_icmp_lt (tgt := 20) dX12_yards_16 (by decide) (pc' := 19) rfl (fun h16 => ?_) (fun h16 => ?_)
    · refine ax_iload_n dX12_yards_20 rfl rfl (pc' := 21) rfl ?_
      refine ax_aload_n dX12_yards_21 rfl rfl (pc' := 22) rfl ?_
      refine ax_getr (v := 331) dX12_yards_22 flX12_7 rfl sh_330 rfl (pc' := 25) rfl ?_
      refine ax_sipush dX12_yards_25 (by decide) (pc' := 28) rfl ?_
      refine ax_iald (v := w 2578) dX12_yards_28 sh_331 rfl (by omega) (by omega) ((congrFun hw 2578).trans rfl) (pc' := 29) rfl ?_
      refine ax_icmp_ne (tgt := 66) dX12_yards_29 (by decide) (pc' := 32) rfl (fun h29 => ?_) (fun h29 => ?_)
      · refine ax_iconst dX12_yards_66 (by decide) (pc' := 67) rfl ?_
        refine ax_istore_n dX12_yards_67 rfl (by decide) (ls' := [some (.inr 330), some (.inl i), some (.inl u), some (.inl 0)]) rfl (pc' := 68) rfl ?_
        have LP4 : ∀ (kq5 : Nat) (r : Int) (fa ba : Int → Int) (bx : Int) (M4 : ax_Mem) (hm4 : 8 - r < (kq5 : Nat)) (fr4 : ∀ x0 i0 : Int, ¬ (x0 = 345 ∨ x0 = 346 ∨ x0 = 347 ∨ (x0 = 330 ∧ i0 = 39)) → M4 x0 i0 = M x0 i0) (mr4_345 : M4 345 = lv) (mr4_346 : M4 346 = fa) (mr4_347 : M4 347 = ba) (ms4_330_39 : M4 330 39 = bx) (iv4_0 : 0 ≤ r ∧ r ≤ 8) (iv4_1 : bx = f_yb bb (f_bst (f_mnG c us lv o tl) r).1) (iv4_2 : ba = f_yR (f_bst (f_mnG c us lv o tl) r).1 bb (w 2578) (f_chN c us lv o tl i fr (f_bst (f_mnG c us lv o tl) r).2) bf) (iv4_3 : ∀ j, 0 ≤ j → j < i → fa j = fr j) (iv4_4 : bx = -1 ∨ (0 ≤ bx ∧ bx ≤ 8)) (iv4_5 : c ≤ (f_bst (f_mnG c us lv o tl) r).1 ∧ (f_bst (f_mnG c us lv o tl) r).1 ≤ 1000), ax_W E l (d + 1) 0 0 iX12_yards 68 [some (.inr 330), some (.inl i), some (.inl u), some (.inl r)] [] SH M4 (ax_P (fun z0 M2 => z0 = none ∧ (∀ x0 i0 : Int, ¬ (x0 = 345 ∨ x0 = 347 ∨ (x0 = 330 ∧ i0 = 39) ∨ x0 = 346) → M2 x0 i0 = M x0 i0) ∧ M2 345 = lv ∧ M2 347 = f_yR (f_mn c us lv (o :: tl)) bb (w 2578) (f_chR c us lv (o :: tl) i fr) bf ∧ M2 330 39 = f_yb bb (f_mn c us lv (o :: tl)) ∧ (∀ j, 0 ≤ j → j < i → M2 346 j = fr j) ∧ (f_yb bb (f_mn c us lv (o :: tl)) = -1 ∨ (0 ≤ f_yb bb (f_mn c us lv (o :: tl)) ∧ f_yb bb (f_mn c us lv (o :: tl)) ≤ 8)))) := by
          intro kq5
          induction kq5 with
          | zero =>
            intro r fa ba bx M4 hm4 fr4 mr4_345 mr4_346 mr4_347 ms4_330_39 iv4_0 iv4_1 iv4_2 iv4_3 iv4_4 iv4_5
            exfalso
            omega
          | succ kq5 ih6 =>
            intro r fa ba bx M4 hm4 fr4 mr4_345 mr4_346 mr4_347 ms4_330_39 iv4_0 iv4_1 iv4_2 iv4_3 iv4_4 iv4_5
            refine ax_iload_n dX12_yards_68 rfl rfl (pc' := 69) rfl ?_
            refine ax_bipush dX12_yards_69 (by decide) (pc' := 71) rfl ?_
            refine ax_icmp_ge (tgt := 167) dX12_yards_71 (by decide) (pc' := 74) rfl (fun h71 => ?_) (fun h71 => ?_)
            · obtain rfl : r = 8 := by omega
              refine ax_vret dX12_yards_167 rfl ?_
              refine ⟨rfl, rfl, ?_, ?_, ?_, ?_, ?_, ?_⟩
              · intro x0 i0 hai
                exact ((fr4 x0 i0 (fun h => h.elim (fun h => hai (Or.inl h)) (fun h => h.elim (fun h => hai (Or.inr (Or.inr (Or.inr h)))) (fun h => h.elim (fun h => hai (Or.inr (Or.inl h))) (fun h => hai (Or.inr (Or.inr (Or.inl h)))))))).trans rfl)
              · exact mr4_345
              · refine Eq.trans mr4_347 ?_
                exact iv4_2
              · refine Eq.trans ms4_330_39 ?_
                exact iv4_1
              · intro j h1 h2
                exact (congrFun (show M4 346 = fa from mr4_346) j).trans (iv4_3 j h1 h2)
              · have q := iv4_4
                rw [iv4_1] at q
                exact q
            · have qlv := hg2 r (by omega) (by omega)
              have qgr := f_mnG_rg (tl := tl) (c := c) (o := o) (r := r) (lv := lv) qu (by omega) ⟨by omega, by omega⟩
              refine ax_aload_n dX12_yards_74 rfl rfl (pc' := 75) rfl ?_
              refine ax_iload_n dX12_yards_75 rfl rfl (pc' := 76) rfl ?_
              refine ax_invG [.inl r] [] dX12_yards_76 mlX12_82 sh_330 rfl rfl rfl (Nat.le_of_ble_eq_true rfl) (s_X12_isRope E l _ (by omega) _ r ((funext fun i0 => fr4 331 i0 (fun h => h.elim (fun h => absurd h (by decide)) (fun h => h.elim (fun h => absurd h (by decide)) (fun h => h.elim (fun h => absurd h (by decide)) (fun h => absurd h.1 (by decide)))))).trans hw)) (pc' := 79) rfl (fun vv M_76 hq co76 hcm76 => ?_)
              obtain ⟨rfl, rfl⟩ := hq
              refine ax_reS (st2 := [.inl (f_b (f_isR w r))]) rfl ?_
              refine ax_if_eq (tgt := 161) dX12_yards_79 (by decide) (pc' := 82) rfl (fun h79 => ?_) (fun h79 => ?_)
              · replace h79 := f_b_0 h79
                have qg : f_mnG c us lv o tl r = 1000 := by
                  have q := qlv.2 h79
                  unfold f_mnG
                  rw [if_neg (by omega)]
                have qs : f_bst (f_mnG c us lv o tl) (r + 1) = f_bst (f_mnG c us lv o tl) r := by
                  rw [f_bst_last (by omega)]
                  unfold f_bsS
                  rw [if_neg (by omega)]
                have qa0 : lv = lv := rfl
                have qa1 : bx = f_yb bb (f_bst (f_mnG c us lv o tl) (r + 1)).1 := by
                  rw [qs]
                  exact iv4_1
                have qa2 : ba = f_yR (f_bst (f_mnG c us lv o tl) (r + 1)).1 bb (w 2578) (f_chN c us lv o tl i fr (f_bst (f_mnG c us lv o tl) (r + 1)).2) bf := by
                  rw [qs]
                  exact iv4_2
                have qa3 := iv4_3
                have qa4 := iv4_4
                have qa5 : c ≤ (f_bst (f_mnG c us lv o tl) (r + 1)).1 ∧ (f_bst (f_mnG c us lv o tl) (r + 1)).1 ≤ 1000 := by
                  rw [qs]
                  exact iv4_5
                refine ax_iinc dX12_yards_161 rfl (by decide) (by omega) (ls' := [some (.inr 330), some (.inl i), some (.inl u), some (.inl (r + 1))]) rfl (pc' := 164) rfl ?_
                refine ax_goto dX12_yards_164 (pc' := 68) (by decide) ?_
                refine ih6 (r + 1) fa ba bx M4 ?_ ?_ ?_ ?_ ?_ ?_ ?_ ?_ ?_ ?_ ?_ ?_
                · omega
                · intro x0 i0 hai
                  exact ((fr4 x0 i0 (fun h => h.elim (fun h => hai (Or.inl h)) (fun h => h.elim (fun h => hai (Or.inr (Or.inl h))) (fun h => h.elim (fun h => hai (Or.inr (Or.inr (Or.inl h)))) (fun h => hai (Or.inr (Or.inr (Or.inr h)))))))).trans rfl)
                · refine Eq.trans mr4_345 ?_
                  exact qa0
                · exact mr4_346
                · exact mr4_347
                · exact ms4_330_39
                · omega
                · exact qa1
                · exact qa2
                · exact qa3
                · exact qa4
                · exact qa5
              · replace h79 := f_b_1 h79
                refine ax_aload_n dX12_yards_82 rfl rfl (pc' := 83) rfl ?_
                refine ax_getr (v := 345) dX12_yards_83 flX12_56 rfl sh_330 rfl (pc' := 86) rfl ?_
                refine ax_iload_n dX12_yards_86 rfl rfl (pc' := 87) rfl ?_
                refine ax_iald (v := lv r) dX12_yards_87 sh_345 rfl (by omega) (by omega) ((congrFun mr4_345 r).trans rfl) (pc' := 88) rfl ?_
                refine ax_aload_n dX12_yards_88 rfl rfl (pc' := 89) rfl ?_
                refine ax_getr (v := 331) dX12_yards_89 flX12_7 rfl sh_330 rfl (pc' := 92) rfl ?_
                refine ax_sipush dX12_yards_92 (by decide) (pc' := 95) rfl ?_
                refine ax_iload_n dX12_yards_95 rfl rfl (pc' := 96) rfl ?_
                refine ax_iadd dX12_yards_96 (by omega) (pc' := 97) rfl ?_
                refine ax_iald (v := w (2592 + i)) dX12_yards_97 sh_331 rfl (by omega) (by omega) ((congrFun ((funext fun i0 => fr4 331 i0 (fun h => h.elim (fun h => absurd h (by decide)) (fun h => h.elim (fun h => absurd h (by decide)) (fun h => h.elim (fun h => absurd h (by decide)) (fun h => absurd h.1 (by decide)))))).trans hw) (2592 + i)).trans rfl) (pc' := 98) rfl ?_
                refine ax_reS (st2 := [.inl o, .inl (lv r)]) (congrArg (fun z => Sum.inl z :: _) (by exact qo)) ?_
                refine ax_icmp_ge (tgt := 104) dX12_yards_98 (by decide) (pc' := 101) rfl (fun h98 => ?_) (fun h98 => ?_)
                · have qg : f_mnG c us lv o tl r = f_mn (c + 1 - us r) (f_up us r 1) (f_up lv r (lv r - o)) tl := by
                    unfold f_mnG
                    rw [if_pos (by omega)]
                  refine ax_aload_n dX12_yards_104 rfl rfl (pc' := 105) rfl ?_
                  refine ax_getr (v := 346) dX12_yards_105 flX12_59 rfl sh_330 rfl (pc' := 108) rfl ?_
                  refine ax_iload_n dX12_yards_108 rfl rfl (pc' := 109) rfl ?_
                  refine ax_iload_n dX12_yards_109 rfl rfl (pc' := 110) rfl ?_
                  refine ax_iast dX12_yards_110 sh_346 rfl (by omega) (by omega) (pc' := 111) rfl ?_
                  refine ax_aload_n dX12_yards_111 rfl rfl (pc' := 112) rfl ?_
                  refine ax_getr (v := 345) dX12_yards_112 flX12_56 rfl sh_330 rfl (pc' := 115) rfl ?_
                  refine ax_iload_n dX12_yards_115 rfl rfl (pc' := 116) rfl ?_
                  refine ax_dup2 dX12_yards_116 (pc' := 117) rfl ?_
                  refine ax_iald (v := lv r) dX12_yards_117 sh_345 rfl (by omega) (by omega) ((congrFun (ax_up_rowmiss (by decide) mr4_345) r).trans rfl) (pc' := 118) rfl ?_
                  refine ax_aload_n dX12_yards_118 rfl rfl (pc' := 119) rfl ?_
                  refine ax_getr (v := 331) dX12_yards_119 flX12_7 rfl sh_330 rfl (pc' := 122) rfl ?_
                  refine ax_sipush dX12_yards_122 (by decide) (pc' := 125) rfl ?_
                  refine ax_iload_n dX12_yards_125 rfl rfl (pc' := 126) rfl ?_
                  refine ax_iadd dX12_yards_126 (by omega) (pc' := 127) rfl ?_
                  refine ax_iald (v := w (2592 + i)) dX12_yards_127 sh_331 rfl (by omega) (by omega) ((congrFun (ax_up_rowmiss (by decide) ((funext fun i0 => fr4 331 i0 (fun h => h.elim (fun h => absurd h (by decide)) (fun h => h.elim (fun h => absurd h (by decide)) (fun h => h.elim (fun h => absurd h (by decide)) (fun h => absurd h.1 (by decide)))))).trans hw)) (2592 + i)).trans rfl) (pc' := 128) rfl ?_
                  refine ax_reS (st2 := [.inl o, .inl (lv r), .inl r, .inr 345]) (congrArg (fun z => Sum.inl z :: _) (by exact qo)) ?_
                  refine ax_isub dX12_yards_128 (by omega) (pc' := 129) rfl ?_
                  refine ax_iast dX12_yards_129 sh_345 rfl (by omega) (by omega) (pc' := 130) rfl ?_
                  refine ax_aload_n dX12_yards_130 rfl rfl (pc' := 131) rfl ?_
                  refine ax_iload_n dX12_yards_131 rfl rfl (pc' := 132) rfl ?_
                  refine ax_iconst dX12_yards_132 (by decide) (pc' := 133) rfl ?_
                  refine ax_iadd dX12_yards_133 (by omega) (pc' := 134) rfl ?_
                  refine ax_iload_n dX12_yards_134 rfl rfl (pc' := 135) rfl ?_
                  refine ax_iconst dX12_yards_135 (by decide) (pc' := 136) rfl ?_
                  refine ax_iload_n dX12_yards_136 rfl rfl (pc' := 137) rfl ?_
                  refine ax_ishl dX12_yards_137 (pc' := 138) rfl ?_
                  refine ax_ior dX12_yards_138 (pc' := 139) rfl ?_
                  refine ax_invG [.inl (i + 1), .inl (ax_or u (ax_shl 1 r))] [] dX12_yards_139 mlX12_485 sh_330 rfl rfl rfl (Nat.le_of_ble_eq_true rfl) (H4 E l _ (by omega) _ (i + 1) (ax_or u (ax_shl 1 r)) tl (c + 1 - us r) (f_up us r 1) (ax_up_rowmiss (by decide) (ax_up_rowmiss (by decide) ((funext fun i0 => fr4 331 i0 (fun h => h.elim (fun h => absurd h (by decide)) (fun h => h.elim (fun h => absurd h (by decide)) (fun h => h.elim (fun h => absurd h (by decide)) (fun h => absurd h.1 (by decide)))))).trans hw))) (ax_up_rowhit (ax_up_rowmiss (by decide) mr4_345)) (ax_up_rowmiss (by decide) (ax_up_rowhit mr4_346)) (ax_up_rowmiss (by decide) (ax_up_rowmiss (by decide) mr4_347)) (ax_up_miss (fun h => absurd h.1 (by decide)) (ax_up_miss (fun h => absurd h.1 (by decide)) ms4_330_39)) ⟨by omega, by omega, by omega⟩ hg1.2.2 (f_lvo_up ⟨by omega, by omega⟩ ⟨by omega, by omega⟩ hg2) (f_uo_up ⟨by omega, by omega⟩ hg3) iv4_4 hg5) (pc' := 142) rfl (fun vv M_139 hq co139 hcm139 => ?_)
                  obtain ⟨rfl, frM_139, mrM_139_0, mrM_139_1, msM_139_0, fa139_0, fa139_1⟩ := hq
                  refine ax_reS (st2 := []) rfl ?_
                  refine ax_aload_n dX12_yards_142 rfl rfl (pc' := 143) rfl ?_
                  refine ax_getr (v := 345) dX12_yards_143 flX12_56 rfl sh_330 rfl (pc' := 146) rfl ?_
                  refine ax_iload_n dX12_yards_146 rfl rfl (pc' := 147) rfl ?_
                  refine ax_dup2 dX12_yards_147 (pc' := 148) rfl ?_
                  refine ax_iald (v := (f_up lv r (lv r - o)) r) dX12_yards_148 sh_345 rfl (by omega) (by omega) ((congrFun mrM_139_0 r).trans rfl) (pc' := 149) rfl ?_
                  refine ax_reS (st2 := [.inl (lv r - o), .inl r, .inr 345]) (congrArg (fun z => Sum.inl z :: _) (by exact f_up_same _ _ _)) ?_
                  refine ax_aload_n dX12_yards_149 rfl rfl (pc' := 150) rfl ?_
                  refine ax_getr (v := 331) dX12_yards_150 flX12_7 rfl sh_330 rfl (pc' := 153) rfl ?_
                  refine ax_sipush dX12_yards_153 (by decide) (pc' := 156) rfl ?_
                  refine ax_iload_n dX12_yards_156 rfl rfl (pc' := 157) rfl ?_
                  refine ax_iadd dX12_yards_157 (by omega) (pc' := 158) rfl ?_
                  refine ax_iald (v := w (2592 + i)) dX12_yards_158 sh_331 rfl (by omega) (by omega) ((congrFun ((funext fun i0 => frM_139 331 i0 (fun h => h.elim (fun h => absurd h (by decide)) (fun h => h.elim (fun h => absurd h (by decide)) (fun h => h.elim (fun h => absurd h.1 (by decide)) (fun h => absurd h (by decide)))))).trans (ax_up_rowmiss (by decide) (ax_up_rowmiss (by decide) ((funext fun i0 => fr4 331 i0 (fun h => h.elim (fun h => absurd h (by decide)) (fun h => h.elim (fun h => absurd h (by decide)) (fun h => h.elim (fun h => absurd h (by decide)) (fun h => absurd h.1 (by decide)))))).trans hw)))) (2592 + i)).trans rfl) (pc' := 159) rfl ?_
                  refine ax_reS (st2 := [.inl o, .inl (lv r - o), .inl r, .inr 345]) (congrArg (fun z => Sum.inl z :: _) (by exact qo)) ?_
                  refine ax_iadd dX12_yards_159 (by omega) (pc' := 160) rfl ?_
                  refine ax_iast dX12_yards_160 sh_345 rfl (by omega) (by omega) (pc' := 161) rfl ?_
                  have qs : f_bst (f_mnG c us lv o tl) (r + 1) = if f_mnG c us lv o tl r < (f_bst (f_mnG c us lv o tl) r).1 then (f_mnG c us lv o tl r, r) else f_bst (f_mnG c us lv o tl) r := by
                    rw [f_bst_last (by omega)]
                    rfl
                  have qs1 : (f_bst (f_mnG c us lv o tl) (r + 1)).1 = if f_mnG c us lv o tl r < (f_bst (f_mnG c us lv o tl) r).1 then f_mnG c us lv o tl r else (f_bst (f_mnG c us lv o tl) r).1 := by
                    rw [qs]
                    split <;> rfl
                  have qa0 : f_up (f_up lv r (lv r - o)) r (lv r - o + o) = lv := f_up_back
                  have qa1 : f_yb bx (f_mn (c + 1 - us r) (f_up us r 1) (f_up lv r (lv r - o)) tl) = f_yb bb (f_bst (f_mnG c us lv o tl) (r + 1)).1 := by
                    rw [qs1, ← qg, iv4_1]
                    exact f_yb_step (by omega) (by omega)
                  have qa2 : f_yR (f_mn (c + 1 - us r) (f_up us r 1) (f_up lv r (lv r - o)) tl) bx (w 2578) (f_chR (c + 1 - us r) (f_up us r 1) (f_up lv r (lv r - o)) tl (i + 1) (f_up fa i r)) ba = f_yR (f_bst (f_mnG c us lv o tl) (r + 1)).1 bb (w 2578) (f_chN c us lv o tl i fr (f_bst (f_mnG c us lv o tl) (r + 1)).2) bf := by
                    rw [f_yR_cong (rb := f_chN c us lv o tl i fr r) (f_chN_cong (by omega) (by omega) iv4_3), ← qg, iv4_1, iv4_2, f_yR_step (by omega) (by omega), qs]
                    split <;> rfl
                  have qa3 : ∀ j, 0 ≤ j → j < i → M_139 346 j = fr j := fun j h1 h2 => (fa139_0 j h1 (by omega)).trans ((f_up_o (by omega)).trans (iv4_3 j h1 h2))
                  have qa4 : f_yb bx (f_mn (c + 1 - us r) (f_up us r 1) (f_up lv r (lv r - o)) tl) = -1 ∨ (0 ≤ f_yb bx (f_mn (c + 1 - us r) (f_up us r 1) (f_up lv r (lv r - o)) tl) ∧ f_yb bx (f_mn (c + 1 - us r) (f_up us r 1) (f_up lv r (lv r - o)) tl) ≤ 8) := fa139_1
                  have qa5 : c ≤ (f_bst (f_mnG c us lv o tl) (r + 1)).1 ∧ (f_bst (f_mnG c us lv o tl) (r + 1)).1 ≤ 1000 := by
                    rw [qs1]
                    split <;> omega
                  refine ax_iinc dX12_yards_161 rfl (by decide) (by omega) (ls' := [some (.inr 330), some (.inl i), some (.inl u), some (.inl (r + 1))]) rfl (pc' := 164) rfl ?_
                  refine ax_goto dX12_yards_164 (pc' := 68) (by decide) ?_
                  refine ih6 (r + 1) (M_139 346) (f_yR (f_mn (c + 1 - us r) (f_up us r 1) (f_up lv r (lv r - o)) tl) bx (w 2578) (f_chR (c + 1 - us r) (f_up us r 1) (f_up lv r (lv r - o)) tl (i + 1) (f_up fa i r)) ba) (f_yb bx (f_mn (c + 1 - us r) (f_up us r 1) (f_up lv r (lv r - o)) tl)) (ax_up M_139 345 r (lv r - o + o)) ?_ ?_ ?_ ?_ ?_ ?_ ?_ ?_ ?_ ?_ ?_ ?_
                  · omega
                  · intro x0 i0 hai
                    exact (ax_up_miss (fun h => hai (Or.inl h.1)) ((frM_139 x0 i0 (fun h => h.elim (fun h => hai (Or.inl h)) (fun h => h.elim (fun h => hai (Or.inr (Or.inr (Or.inl h)))) (fun h => h.elim (fun h => hai (Or.inr (Or.inr (Or.inr h)))) (fun h => hai (Or.inr (Or.inl h))))))).trans (ax_up_miss (fun h => hai (Or.inl h.1)) (ax_up_miss (fun h => hai (Or.inr (Or.inl h.1))) ((fr4 x0 i0 (fun h => h.elim (fun h => hai (Or.inl h)) (fun h => h.elim (fun h => hai (Or.inr (Or.inl h))) (fun h => h.elim (fun h => hai (Or.inr (Or.inr (Or.inl h)))) (fun h => hai (Or.inr (Or.inr (Or.inr h)))))))).trans rfl)))))
                  · refine Eq.trans (ax_up_rowhit mrM_139_0) ?_
                    exact qa0
                  · exact (ax_up_rowmiss (by decide) rfl)
                  · exact (ax_up_rowmiss (by decide) mrM_139_1)
                  · exact (ax_up_miss (fun h => absurd h.1 (by decide)) msM_139_0)
                  · omega
                  · exact qa1
                  · exact qa2
                  · exact qa3
                  · exact qa4
                  · exact qa5
                · have qg : f_mnG c us lv o tl r = 1000 := by
                    unfold f_mnG
                    rw [if_neg (by omega)]
                  refine ax_goto dX12_yards_101 (pc' := 161) (by decide) ?_
                  have qs : f_bst (f_mnG c us lv o tl) (r + 1) = f_bst (f_mnG c us lv o tl) r := by
                    rw [f_bst_last (by omega)]
                    unfold f_bsS
                    rw [if_neg (by omega)]
                  have qa0 : lv = lv := rfl
                  have qa1 : bx = f_yb bb (f_bst (f_mnG c us lv o tl) (r + 1)).1 := by
                    rw [qs]
                    exact iv4_1
                  have qa2 : ba = f_yR (f_bst (f_mnG c us lv o tl) (r + 1)).1 bb (w 2578) (f_chN c us lv o tl i fr (f_bst (f_mnG c us lv o tl) (r + 1)).2) bf := by
                    rw [qs]
                    exact iv4_2
                  have qa3 := iv4_3
                  have qa4 := iv4_4
                  have qa5 : c ≤ (f_bst (f_mnG c us lv o tl) (r + 1)).1 ∧ (f_bst (f_mnG c us lv o tl) (r + 1)).1 ≤ 1000 := by
                    rw [qs]
                    exact iv4_5
                  refine ax_iinc dX12_yards_161 rfl (by decide) (by omega) (ls' := [some (.inr 330), some (.inl i), some (.inl u), some (.inl (r + 1))]) rfl (pc' := 164) rfl ?_
                  refine ax_goto dX12_yards_164 (pc' := 68) (by decide) ?_
                  refine ih6 (r + 1) fa ba bx M4 ?_ ?_ ?_ ?_ ?_ ?_ ?_ ?_ ?_ ?_ ?_ ?_
                  · omega
                  · intro x0 i0 hai
                    exact ((fr4 x0 i0 (fun h => h.elim (fun h => hai (Or.inl h)) (fun h => h.elim (fun h => hai (Or.inr (Or.inl h))) (fun h => h.elim (fun h => hai (Or.inr (Or.inr (Or.inl h)))) (fun h => hai (Or.inr (Or.inr (Or.inr h)))))))).trans rfl)
                  · refine Eq.trans mr4_345 ?_
                    exact qa0
                  · exact mr4_346
                  · exact mr4_347
                  · exact ms4_330_39
                  · omega
                  · exact qa1
                  · exact qa2
                  · exact qa3
                  · exact qa4
                  · exact qa5
        refine LP4 (8 - 0 : Int).toNat.succ 0 fr bf bb M ?_ ?_ ?_ ?_ ?_ ?_ ?_ ?_ ?_ ?_ ?_ ?_
        · omega
        · exact fun a i _ => rfl
        · exact hlv
        · exact hfr
        · exact hbf
        · exact hbb
        · omega
        · have q : f_bst (f_mnG c us lv o tl) 0 = (1000, -1) := f_loop_done (Int.le_refl 0)
          rw [q]
          unfold f_yb
          rw [if_neg (by omega)]
        · have q : f_bst (f_mnG c us lv o tl) 0 = (1000, -1) := f_loop_done (Int.le_refl 0)
          rw [q]
          unfold f_yR
          rw [if_neg (by omega)]
        · intro j h1 h2
          rfl
        · exact hg4
        · have q : f_bst (f_mnG c us lv o tl) 0 = (1000, -1) := f_loop_done (Int.le_refl 0)
          rw [q]
          exact ⟨by show c ≤ 1000; omega, Int.le_refl _⟩
      · exfalso
        omega
    · have q0 : ¬ (f_mn c us lv (o :: tl) < 1000 ∧ (bb = -1 ∨ f_mn c us lv (o :: tl) < bb)) := by
        have q1 := f_mn_rg (o :: tl) c us lv (f_uo_01 hg3) (by omega)
        have q2 := hg3.2.1
        omega
      refine ax_vret dX12_yards_19 rfl ?_
      refine ⟨rfl, rfl, ?_, ?_, ?_, ?_, ?_, ?_⟩
      · intro x0 i0 hai
        exact rfl
      · exact hlv
      · refine Eq.trans hbf ?_
        unfold f_yR
        rw [if_neg q0]
      · refine Eq.trans hbb ?_
        unfold f_yb
        rw [if_neg q0]
      · intro j h1 h2
        exact congrFun (show M 346 = fr from hfr) j
      · unfold f_yb
        rw [if_neg q0]
        exact hg4
theorem f_C4_all : ∀ nn : Nat, f_C4 nn
  | 0 => by
    intro E l d hd M i u os c us w hw lv hlv fr hfr bf hbf bb hbb h0 h1 h2 h3 h4 h5
    obtain rfl : os = [] := List.length_eq_zero_iff.mp h5
    exact s_yds_0 E l d hd M i u c us hw hlv hfr hbf hbb h0 h1 h2 h3 h4
  | nn + 1 => by
    intro E l d hd M i u os c us w hw lv hlv fr hfr bf hbf bb hbb h0 h1 h2 h3 h4 h5
    match os, h0, h1, h5 with
    | o :: tl, h0, h1, h5 => exact s_yds_s nn (f_C4_all nn) E l d hd M i u o tl c us hw hlv hfr hbf hbb h0 h1 h2 h3 h4 (Nat.succ.inj h5)
def f_lv0 (w : Int → Int) (r : Int) : Int := if f_isR w r then f_R w r 1 else 0
def f_yrd (w : Int → Int) (os : List Int) (q : Int) : Int := if q ≠ 0 ∧ ¬ (10 ≤ q ∧ q ≤ 9 + w 2578) then -1 else if 1000 ≤ f_mn 0 (fun _ => 0) (f_lv0 w) os then -1 else if q = 0 then f_mn 0 (fun _ => 0) (f_lv0 w) os else f_chR 0 (fun _ => 0) (f_lv0 w) os 0 (fun _ => 0) (q - 10)
theorem f_uo_0 : f_uo 0 0 (fun _ => 0) := by
  refine ⟨by decide, by decide +kernel, fun r h1 h2 => ?_⟩
  obtain ⟨z, rfl⟩ : ∃ z : Fin 8, (z.val : Int) = r := ⟨⟨r.toNat, by omega⟩, by show ((r.toNat : Nat) : Int) = r; omega⟩
  have key : ∀ z : Fin 8, (0 : Int) = f_bit 0 (z.val : Int) := by decide +kernel
  exact key z
set_option maxRecDepth 20000 in
theorem s_X12_yard (E : ax_Env) (l : Launch) (d : Nat) (hd : 10 ≤ d) (M : ax_Mem) (q : Int) (os : List Int) {w : Int → Int} (hw : M 331 = w) {lv : Int → Int} (hlv : M 345 = lv) {fr : Int → Int} (hfr : M 346 = fr) {bf : Int → Int} (hbf : M 347 = bf) (hg0 : f_ord w 0 os) (hg1 : (os.length : Int) = w 2578 ∧ w 2578 ≤ 7) (hg2 : f_ok w) : ax_G E l d iX12_yard [.inr 330, .inl q] M (fun z0 M2 => z0 = some (.inl (f_yrd w os q)) ∧ (∀ x0 i0 : Int, ¬ (x0 = 345 ∨ x0 = 346 ∨ x0 = 347 ∨ (x0 = 330 ∧ i0 = 39)) → M2 x0 i0 = M x0 i0)) := by
  obtain ⟨d, rfl⟩ : ∃ d0, d = d0 + 1 := ⟨d - 1, by omega⟩
  refine ax_start rfl (Nat.le_of_ble_eq_true rfl) (ls := [some (.inr 330), some (.inl q), none]) rfl (fun hav hcm => ?_)
  have hc1 : -2147483648 ≤ q ∧ q < 2147483648 := hav (.inl q) (by simp)
  clear hav
  refine ax_iload_n dX12_yard_0 rfl rfl (pc' := 1) rfl ?_
  refine ax_if_eq (tgt := 26) dX12_yard_1 (by decide) (pc' := 4) rfl (fun h1 => ?_) (fun h1 => ?_)
  · refine ax_iconst dX12_yard_26 (by decide) (pc' := 27) rfl ?_
    refine ax_istore_n dX12_yard_27 rfl (by decide) (ls' := [some (.inr 330), some (.inl q), some (.inl 0)]) rfl (pc' := 28) rfl ?_
    have LP1 : ∀ (kq2 : Nat) (r : Int) (la : Int → Int) (M1 : ax_Mem) (hm1 : 8 - r < (kq2 : Nat)) (fr1 : ∀ x0 i0 : Int, ¬ (x0 = 345) → M1 x0 i0 = M x0 i0) (mr1_345 : M1 345 = la) (iv1_0 : 0 ≤ r ∧ r ≤ 8) (iv1_1 : ∀ j, 0 ≤ j → j < r → la j = f_lv0 w j), ax_W E l (d + 1) 0 0 iX12_yard 28 [some (.inr 330), some (.inl q), some (.inl r)] [] SH M1 (ax_P (fun z0 M2 => z0 = some (.inl (f_yrd w os q)) ∧ (∀ x0 i0 : Int, ¬ (x0 = 345 ∨ x0 = 346 ∨ x0 = 347 ∨ (x0 = 330 ∧ i0 = 39)) → M2 x0 i0 = M x0 i0))) := by
      intro kq2
      induction kq2 with
      | zero =>
        intro r la M1 hm1 fr1 mr1_345 iv1_0 iv1_1
        exfalso
        omega
      | succ kq2 ih3 =>
        intro r la M1 hm1 fr1 mr1_345 iv1_0 iv1_1
        refine ax_iload_n dX12_yard_28 rfl rfl (pc' := 29) rfl ?_
        refine ax_bipush dX12_yard_29 (by decide) (pc' := 31) rfl ?_
        refine ax_icmp_ge (tgt := 64) dX12_yard_31 (by decide) (pc' := 34) rfl (fun h31 => ?_) (fun h31 => ?_)
        · have qag : f_ag8 la (f_lv0 w) := fun j h1 h2 => iv1_1 j h1 (by omega)
          have qlvo : f_lvo w la := by
            intro j h1 h2
            have q := hg2 j h1 h2
            rw [qag j h1 h2]
            unfold f_lv0
            split
            · exact ⟨by omega, fun hn => absurd (by assumption) hn⟩
            · exact ⟨by omega, fun _ => rfl⟩
          have qm := f_mn_cong os 0 (fun _ => 0) (fun _ => 0) la (f_lv0 w) (fun _ _ _ => rfl) qag
          have qmr := f_mn_rg os 0 (fun _ => 0) la (f_uo_01 f_uo_0) (by omega)
          have qy : f_yb (-1) (f_mn 0 (fun _ => 0) la os) = if f_mn 0 (fun _ => 0) la os < 1000 then f_mn 0 (fun _ => 0) la os else -1 := by
            unfold f_yb
            by_cases hm : f_mn 0 (fun _ => 0) la os < 1000
            · rw [if_pos ⟨hm, Or.inl rfl⟩, if_pos hm]
            · rw [if_neg (fun hh => hm hh.1), if_neg hm]
          have qnc : ¬ (q ≠ 0 ∧ ¬ (10 ≤ q ∧ q ≤ 9 + w 2578)) := fun hh => by
            first | omega | exact hh.2 h21
          refine ax_aload_n dX12_yard_64 rfl rfl (pc' := 65) rfl ?_
          refine ax_iconst dX12_yard_65 (by decide) (pc' := 66) rfl ?_
          refine ax_puti dX12_yard_66 flX12_479 (Or.inl rfl) sh_330 rfl (pc' := 69) rfl ?_
          refine ax_aload_n dX12_yard_69 rfl rfl (pc' := 70) rfl ?_
          refine ax_iconst dX12_yard_70 (by decide) (pc' := 71) rfl ?_
          refine ax_iconst dX12_yard_71 (by decide) (pc' := 72) rfl ?_
          refine ax_invG [.inl 0, .inl 0] [] dX12_yard_72 mlX12_485 sh_330 rfl rfl rfl (Nat.le_of_ble_eq_true rfl) (f_C4_all os.length E l _ (by omega) _ 0 0 os 0 (fun _ => 0) (ax_up_rowmiss (by decide) ((funext fun i0 => fr1 331 i0 (fun h => absurd h (by decide))).trans hw)) (ax_up_rowmiss (by decide) mr1_345) (ax_up_rowmiss (by decide) ((funext fun i0 => fr1 346 i0 (fun h => absurd h (by decide))).trans hfr)) (ax_up_rowmiss (by decide) ((funext fun i0 => fr1 347 i0 (fun h => absurd h (by decide))).trans hbf)) (ax_up_hit _ _ _ _) ⟨by omega, by omega, by omega⟩ hg0 qlvo f_uo_0 (Or.inl rfl) rfl) (pc' := 75) rfl (fun vv M_72 hq co72 hcm72 => ?_)
          obtain ⟨rfl, frM_72, mrM_72_0, mrM_72_1, msM_72_0, fa72_0, fa72_1⟩ := hq
          refine ax_reS (st2 := []) rfl ?_
          refine ax_aload_n dX12_yard_75 rfl rfl (pc' := 76) rfl ?_
          refine ax_geti (v := f_yb (-1) (f_mn 0 (fun _ => 0) la os)) dX12_yard_76 flX12_479 rfl sh_330 msM_72_0 rfl (pc' := 79) rfl ?_
          refine ax_iconst dX12_yard_79 (by decide) (pc' := 80) rfl ?_
          refine ax_icmp_eq (tgt := 87) dX12_yard_80 (by decide) (pc' := 83) rfl (fun h80 => ?_) (fun h80 => ?_)
          · have qz : f_yrd w os q = f_yb (-1) (f_mn 0 (fun _ => 0) la os) := by
              rw [qy] at h80 ⊢
              unfold f_yrd
              rw [if_neg qnc, ← qm]
              by_cases hm : f_mn 0 (fun _ => 0) la os < 1000
              · rw [if_pos hm] at h80
                omega
              · rw [if_neg hm, if_pos (by omega)]
            refine ax_aload_n dX12_yard_87 rfl rfl (pc' := 88) rfl ?_
            refine ax_geti (v := f_yb (-1) (f_mn 0 (fun _ => 0) la os)) dX12_yard_88 flX12_479 rfl sh_330 msM_72_0 rfl (pc' := 91) rfl ?_
            refine ax_goto dX12_yard_91 (pc' := 103) (by decide) ?_
            refine ax_iret dX12_yard_103 rfl ?_
            refine ⟨rfl, ?_, ?_⟩
            · refine congrArg (fun z => some (Sum.inl z)) ?_
              exact qz.symm
            · intro x0 i0 hai
              exact ((frM_72 x0 i0 (fun h => h.elim (fun h => hai (Or.inl h)) (fun h => h.elim (fun h => hai (Or.inr (Or.inr (Or.inl h)))) (fun h => h.elim (fun h => hai (Or.inr (Or.inr (Or.inr h)))) (fun h => hai (Or.inr (Or.inl h))))))).trans (ax_up_miss (fun h => hai (Or.inr (Or.inr (Or.inr h)))) ((fr1 x0 i0 (fun h => hai (Or.inl h))).trans rfl)))
          · have qmm : f_mn 0 (fun _ => 0) la os < 1000 := by
              by_cases hm : f_mn 0 (fun _ => 0) la os < 1000
              · exact hm
              · rw [qy, if_neg hm] at h80
                omega
            refine ax_iload_n dX12_yard_83 rfl rfl (pc' := 84) rfl ?_
            refine ax_if_ne (tgt := 94) dX12_yard_84 (by decide) (pc' := 87) rfl (fun h84 => ?_) (fun h84 => ?_)
            · have qz : f_yrd w os q = f_yR (f_mn 0 (fun _ => 0) la os) (-1) (w 2578) (f_chR 0 (fun _ => 0) la os 0 fr) bf (q - 10) := by
                unfold f_yR
                rw [if_pos ⟨qmm, Or.inl rfl⟩]
                unfold f_yrd f_yw
                rw [if_neg qnc, ← qm, if_neg (by omega), if_neg (by omega), if_pos (by omega), f_chR_lv os 0 (fun _ => 0) (fun _ => 0) la (f_lv0 w) 0 fr (fun _ _ _ => rfl) qag qmm]
                exact f_chR_cong os 0 _ _ 0 _ _ (fun j h1 h2 => by omega) (Int.le_refl 0) (q - 10) (by omega) (by omega)
              refine ax_aload_n dX12_yard_94 rfl rfl (pc' := 95) rfl ?_
              refine ax_getr (v := 347) dX12_yard_95 flX12_62 rfl sh_330 rfl (pc' := 98) rfl ?_
              refine ax_iload_n dX12_yard_98 rfl rfl (pc' := 99) rfl ?_
              refine ax_bipush dX12_yard_99 (by decide) (pc' := 101) rfl ?_
              refine ax_isub dX12_yard_101 (by omega) (pc' := 102) rfl ?_
              refine ax_iald (v := (f_yR (f_mn 0 (fun _ => 0) la os) (-1) (w 2578) (f_chR 0 (fun _ => 0) la os 0 fr) bf) (q - 10)) dX12_yard_102 sh_347 rfl (by omega) (by omega) ((congrFun mrM_72_1 (q - 10)).trans rfl) (pc' := 103) rfl ?_
              refine ax_iret dX12_yard_103 rfl ?_
              refine ⟨rfl, ?_, ?_⟩
              · refine congrArg (fun z => some (Sum.inl z)) ?_
                exact qz.symm
              · intro x0 i0 hai
                exact ((frM_72 x0 i0 (fun h => h.elim (fun h => hai (Or.inl h)) (fun h => h.elim (fun h => hai (Or.inr (Or.inr (Or.inl h)))) (fun h => h.elim (fun h => hai (Or.inr (Or.inr (Or.inr h)))) (fun h => hai (Or.inr (Or.inl h))))))).trans (ax_up_miss (fun h => hai (Or.inr (Or.inr (Or.inr h)))) ((fr1 x0 i0 (fun h => hai (Or.inl h))).trans rfl)))
            · have qz : f_yrd w os q = f_yb (-1) (f_mn 0 (fun _ => 0) la os) := by
                rw [qy, if_pos qmm]
                unfold f_yrd
                rw [if_neg qnc, ← qm, if_neg (by omega), if_pos (by omega)]
              refine ax_aload_n dX12_yard_87 rfl rfl (pc' := 88) rfl ?_
              refine ax_geti (v := f_yb (-1) (f_mn 0 (fun _ => 0) la os)) dX12_yard_88 flX12_479 rfl sh_330 msM_72_0 rfl (pc' := 91) rfl ?_
              refine ax_goto dX12_yard_91 (pc' := 103) (by decide) ?_
              refine ax_iret dX12_yard_103 rfl ?_
              refine ⟨rfl, ?_, ?_⟩
              · refine congrArg (fun z => some (Sum.inl z)) ?_
                exact qz.symm
              · intro x0 i0 hai
                exact ((frM_72 x0 i0 (fun h => h.elim (fun h => hai (Or.inl h)) (fun h => h.elim (fun h => hai (Or.inr (Or.inr (Or.inl h)))) (fun h => h.elim (fun h => hai (Or.inr (Or.inr (Or.inr h)))) (fun h => hai (Or.inr (Or.inl h))))))).trans (ax_up_miss (fun h => hai (Or.inr (Or.inr (Or.inr h)))) ((fr1 x0 i0 (fun h => hai (Or.inl h))).trans rfl)))
        · refine ax_aload_n dX12_yard_34 rfl rfl (pc' := 35) rfl ?_
          refine ax_getr (v := 345) dX12_yard_35 flX12_56 rfl sh_330 rfl (pc' := 38) rfl ?_
          refine ax_iload_n dX12_yard_38 rfl rfl (pc' := 39) rfl ?_
          refine ax_aload_n dX12_yard_39 rfl rfl (pc' := 40) rfl ?_
          refine ax_iload_n dX12_yard_40 rfl rfl (pc' := 41) rfl ?_
          refine ax_invG [.inl r] [.inl r, .inr 345] dX12_yard_41 mlX12_82 sh_330 rfl rfl rfl (Nat.le_of_ble_eq_true rfl) (s_X12_isRope E l _ (by omega) _ r ((funext fun i0 => fr1 331 i0 (fun h => absurd h (by decide))).trans hw)) (pc' := 44) rfl (fun vv M_41 hq co41 hcm41 => ?_)
          obtain ⟨rfl, rfl⟩ := hq
          refine ax_reS (st2 := [.inl (f_b (f_isR w r)), .inl r, .inr 345]) rfl ?_
          refine ax_if_eq (tgt := 56) dX12_yard_44 (by decide) (pc' := 47) rfl (fun h44 => ?_) (fun h44 => ?_)
          · replace h44 := f_b_0 h44
            have qlv : (0 : Int) = f_lv0 w r := by
              unfold f_lv0
              rw [if_neg h44]
            refine ax_iconst dX12_yard_56 (by decide) (pc' := 57) rfl ?_
            refine ax_iast dX12_yard_57 sh_345 rfl (by omega) (by omega) (pc' := 58) rfl ?_
            refine ax_iinc dX12_yard_58 rfl (by decide) (by omega) (ls' := [some (.inr 330), some (.inl q), some (.inl (r + 1))]) rfl (pc' := 61) rfl ?_
            refine ax_goto dX12_yard_61 (pc' := 28) (by decide) ?_
            refine ih3 (r + 1) (f_up la r 0) (ax_up M1 345 r 0) ?_ ?_ ?_ ?_ ?_
            · omega
            · intro x0 i0 hai
              exact (ax_up_miss (fun h => hai h.1) ((fr1 x0 i0 (fun h => hai h)).trans rfl))
            · exact (ax_up_rowhit mr1_345)
            · omega
            · intro j h1 h2
              by_cases hj : j = r
              · rw [hj, f_up_same]
                exact qlv
              · rw [f_up_o hj]
                exact iv1_1 j h1 (by omega)
          · replace h44 := f_b_1 h44
            have qlv : f_R w r 1 = f_lv0 w r := by
              unfold f_lv0
              rw [if_pos h44]
            refine ax_aload_n dX12_yard_47 rfl rfl (pc' := 48) rfl ?_
            refine ax_iload_n dX12_yard_48 rfl rfl (pc' := 49) rfl ?_
            refine ax_iconst dX12_yard_49 (by decide) (pc' := 50) rfl ?_
            refine ax_invG [.inl r, .inl 1] [.inl r, .inr 345] dX12_yard_50 mlX12_78 sh_330 rfl rfl rfl (Nat.le_of_ble_eq_true rfl) (s_X12_ofRope E l _ (by omega) _ r 1 ((funext fun i0 => fr1 331 i0 (fun h => absurd h (by decide))).trans hw) (by first | omega | assumption) (by first | omega | assumption)) (pc' := 53) rfl (fun vv M_50 hq co50 hcm50 => ?_)
            obtain ⟨rfl, rfl⟩ := hq
            refine ax_reS (st2 := [.inl (f_R w r 1), .inl r, .inr 345]) rfl ?_
            have cc50 : -2147483648 ≤ f_R w r 1 ∧ f_R w r 1 < 2147483648 := co50 _ rfl
            refine ax_goto dX12_yard_53 (pc' := 57) (by decide) ?_
            refine ax_iast dX12_yard_57 sh_345 rfl (by omega) (by omega) (pc' := 58) rfl ?_
            refine ax_iinc dX12_yard_58 rfl (by decide) (by omega) (ls' := [some (.inr 330), some (.inl q), some (.inl (r + 1))]) rfl (pc' := 61) rfl ?_
            refine ax_goto dX12_yard_61 (pc' := 28) (by decide) ?_
            refine ih3 (r + 1) (f_up la r (f_R w r 1)) (ax_up M1 345 r (f_R w r 1)) ?_ ?_ ?_ ?_ ?_
            · omega
            · intro x0 i0 hai
              exact (ax_up_miss (fun h => hai h.1) ((fr1 x0 i0 (fun h => hai h)).trans rfl))
            · exact (ax_up_rowhit mr1_345)
            · omega
            · intro j h1 h2
              by_cases hj : j = r
              · rw [hj, f_up_same]
                exact qlv
              · rw [f_up_o hj]
                exact iv1_1 j h1 (by omega)
    refine LP1 (8 - 0 : Int).toNat.succ 0 lv M ?_ ?_ ?_ ?_ ?_
    · omega
    · exact fun a i _ => rfl
    · exact hlv
    · omega
    · intro j h1 h2
      omega
  · refine ax_iload_n dX12_yard_4 rfl rfl (pc' := 5) rfl ?_
    refine ax_bipush dX12_yard_5 (by decide) (pc' := 7) rfl ?_
    refine ax_bipush dX12_yard_7 (by decide) (pc' := 9) rfl ?_
    refine ax_aload_n dX12_yard_9 rfl rfl (pc' := 10) rfl ?_
    refine ax_getr (v := 331) dX12_yard_10 flX12_7 rfl sh_330 rfl (pc' := 13) rfl ?_
    refine ax_sipush dX12_yard_13 (by decide) (pc' := 16) rfl ?_
    refine ax_iald (v := w 2578) dX12_yard_16 sh_331 rfl (by omega) (by omega) ((congrFun hw 2578).trans rfl) (pc' := 17) rfl ?_
    refine ax_iadd dX12_yard_17 (by omega) (pc' := 18) rfl ?_
    refine ax_insG [.inl q, .inl 10, .inl (9 + (w 2578))] [] dX12_yard_18 mlX12_74 rfl rfl (Nat.le_of_ble_eq_true rfl) (s_X12_isIn E l _ (by omega) _ q 10 (9 + (w 2578))) (pc' := 21) rfl (fun vv M_18 hq co18 hcm18 => ?_)
    obtain ⟨rfl, rfl⟩ := hq
    refine ax_reS (st2 := [.inl (f_b (10 ≤ q ∧ q ≤ (9 + (w 2578))))]) rfl ?_
    refine ax_if_ne (tgt := 26) dX12_yard_21 (by decide) (pc' := 24) rfl (fun h21 => ?_) (fun h21 => ?_)
    · replace h21 := f_b_1 h21
      refine ax_iconst dX12_yard_26 (by decide) (pc' := 27) rfl ?_
      refine ax_istore_n dX12_yard_27 rfl (by decide) (ls' := [some (.inr 330), some (.inl q), some (.inl 0)]) rfl (pc' := 28) rfl ?_
      have LP4 : ∀ (kq5 : Nat) (r : Int) (la : Int → Int) (M4 : ax_Mem) (hm4 : 8 - r < (kq5 : Nat)) (fr4 : ∀ x0 i0 : Int, ¬ (x0 = 345) → M4 x0 i0 = M x0 i0) (mr4_345 : M4 345 = la) (iv4_0 : 0 ≤ r ∧ r ≤ 8) (iv4_1 : ∀ j, 0 ≤ j → j < r → la j = f_lv0 w j), ax_W E l (d + 1) 0 0 iX12_yard 28 [some (.inr 330), some (.inl q), some (.inl r)] [] SH M4 (ax_P (fun z0 M2 => z0 = some (.inl (f_yrd w os q)) ∧ (∀ x0 i0 : Int, ¬ (x0 = 345 ∨ x0 = 346 ∨ x0 = 347 ∨ (x0 = 330 ∧ i0 = 39)) → M2 x0 i0 = M x0 i0))) := by
        intro kq5
        induction kq5 with
        | zero =>
          intro r la M4 hm4 fr4 mr4_345 iv4_0 iv4_1
          exfalso
          omega
        | succ kq5 ih6 =>
          intro r la M4 hm4 fr4 mr4_345 iv4_0 iv4_1
          refine ax_iload_n dX12_yard_28 rfl rfl (pc' := 29) rfl ?_
          refine ax_bipush dX12_yard_29 (by decide) (pc' := 31) rfl ?_
          refine ax_icmp_ge (tgt := 64) dX12_yard_31 (by decide) (pc' := 34) rfl (fun h31 => ?_) (fun h31 => ?_)
          · have qag : f_ag8 la (f_lv0 w) := fun j h1 h2 => iv4_1 j h1 (by omega)
            have qlvo : f_lvo w la := by
              intro j h1 h2
              have q := hg2 j h1 h2
              rw [qag j h1 h2]
              unfold f_lv0
              split
              · exact ⟨by omega, fun hn => absurd (by assumption) hn⟩
              · exact ⟨by omega, fun _ => rfl⟩
            have qm := f_mn_cong os 0 (fun _ => 0) (fun _ => 0) la (f_lv0 w) (fun _ _ _ => rfl) qag
            have qmr := f_mn_rg os 0 (fun _ => 0) la (f_uo_01 f_uo_0) (by omega)
            have qy : f_yb (-1) (f_mn 0 (fun _ => 0) la os) = if f_mn 0 (fun _ => 0) la os < 1000 then f_mn 0 (fun _ => 0) la os else -1 := by
              unfold f_yb
              by_cases hm : f_mn 0 (fun _ => 0) la os < 1000
              · rw [if_pos ⟨hm, Or.inl rfl⟩, if_pos hm]
              · rw [if_neg (fun hh => hm hh.1), if_neg hm]
            have qnc : ¬ (q ≠ 0 ∧ ¬ (10 ≤ q ∧ q ≤ 9 + w 2578)) := fun hh => by
              first | omega | exact hh.2 h21
            refine ax_aload_n dX12_yard_64 rfl rfl (pc' := 65) rfl ?_
            refine ax_iconst dX12_yard_65 (by decide) (pc' := 66) rfl ?_
            refine ax_puti dX12_yard_66 flX12_479 (Or.inl rfl) sh_330 rfl (pc' := 69) rfl ?_
            refine ax_aload_n dX12_yard_69 rfl rfl (pc' := 70) rfl ?_
            refine ax_iconst dX12_yard_70 (by decide) (pc' := 71) rfl ?_
            refine ax_iconst dX12_yard_71 (by decide) (pc' := 72) rfl ?_
            refine ax_invG [.inl 0, .inl 0] [] dX12_yard_72 mlX12_485 sh_330 rfl rfl rfl (Nat.le_of_ble_eq_true rfl) (f_C4_all os.length E l _ (by omega) _ 0 0 os 0 (fun _ => 0) (ax_up_rowmiss (by decide) ((funext fun i0 => fr4 331 i0 (fun h => absurd h (by decide))).trans hw)) (ax_up_rowmiss (by decide) mr4_345) (ax_up_rowmiss (by decide) ((funext fun i0 => fr4 346 i0 (fun h => absurd h (by decide))).trans hfr)) (ax_up_rowmiss (by decide) ((funext fun i0 => fr4 347 i0 (fun h => absurd h (by decide))).trans hbf)) (ax_up_hit _ _ _ _) ⟨by omega, by omega, by omega⟩ hg0 qlvo f_uo_0 (Or.inl rfl) rfl) (pc' := 75) rfl (fun vv M_72 hq co72 hcm72 => ?_)
            obtain ⟨rfl, frM_72, mrM_72_0, mrM_72_1, msM_72_0, fa72_0, fa72_1⟩ := hq
            refine ax_reS (st2 := []) rfl ?_
            refine ax_aload_n dX12_yard_75 rfl rfl (pc' := 76) rfl ?_
            refine ax_geti (v := f_yb (-1) (f_mn 0 (fun _ => 0) la os)) dX12_yard_76 flX12_479 rfl sh_330 msM_72_0 rfl (pc' := 79) rfl ?_
            refine ax_iconst dX12_yard_79 (by decide) (pc' := 80) rfl ?_
            refine ax_icmp_eq (tgt := 87) dX12_yard_80 (by decide) (pc' := 83) rfl (fun h80 => ?_) (fun h80 => ?_)
            · have qz : f_yrd w os q = f_yb (-1) (f_mn 0 (fun _ => 0) la os) := by
                rw [qy] at h80 ⊢
                unfold f_yrd
                rw [if_neg qnc, ← qm]
                by_cases hm : f_mn 0 (fun _ => 0) la os < 1000
                · rw [if_pos hm] at h80
                  omega
                · rw [if_neg hm, if_pos (by omega)]
              refine ax_aload_n dX12_yard_87 rfl rfl (pc' := 88) rfl ?_
              refine ax_geti (v := f_yb (-1) (f_mn 0 (fun _ => 0) la os)) dX12_yard_88 flX12_479 rfl sh_330 msM_72_0 rfl (pc' := 91) rfl ?_
              refine ax_goto dX12_yard_91 (pc' := 103) (by decide) ?_
              refine ax_iret dX12_yard_103 rfl ?_
              refine ⟨rfl, ?_, ?_⟩
              · refine congrArg (fun z => some (Sum.inl z)) ?_
                exact qz.symm
              · intro x0 i0 hai
                exact ((frM_72 x0 i0 (fun h => h.elim (fun h => hai (Or.inl h)) (fun h => h.elim (fun h => hai (Or.inr (Or.inr (Or.inl h)))) (fun h => h.elim (fun h => hai (Or.inr (Or.inr (Or.inr h)))) (fun h => hai (Or.inr (Or.inl h))))))).trans (ax_up_miss (fun h => hai (Or.inr (Or.inr (Or.inr h)))) ((fr4 x0 i0 (fun h => hai (Or.inl h))).trans rfl)))
            · have qmm : f_mn 0 (fun _ => 0) la os < 1000 := by
                by_cases hm : f_mn 0 (fun _ => 0) la os < 1000
                · exact hm
                · rw [qy, if_neg hm] at h80
                  omega
              refine ax_iload_n dX12_yard_83 rfl rfl (pc' := 84) rfl ?_
              refine ax_if_ne (tgt := 94) dX12_yard_84 (by decide) (pc' := 87) rfl (fun h84 => ?_) (fun h84 => ?_)
              · have qz : f_yrd w os q = f_yR (f_mn 0 (fun _ => 0) la os) (-1) (w 2578) (f_chR 0 (fun _ => 0) la os 0 fr) bf (q - 10) := by
                  unfold f_yR
                  rw [if_pos ⟨qmm, Or.inl rfl⟩]
                  unfold f_yrd f_yw
                  rw [if_neg qnc, ← qm, if_neg (by omega), if_neg (by omega), if_pos (by omega), f_chR_lv os 0 (fun _ => 0) (fun _ => 0) la (f_lv0 w) 0 fr (fun _ _ _ => rfl) qag qmm]
                  exact f_chR_cong os 0 _ _ 0 _ _ (fun j h1 h2 => by omega) (Int.le_refl 0) (q - 10) (by omega) (by omega)
                refine ax_aload_n dX12_yard_94 rfl rfl (pc' := 95) rfl ?_
                refine ax_getr (v := 347) dX12_yard_95 flX12_62 rfl sh_330 rfl (pc' := 98) rfl ?_
                refine ax_iload_n dX12_yard_98 rfl rfl (pc' := 99) rfl ?_
                refine ax_bipush dX12_yard_99 (by decide) (pc' := 101) rfl ?_
                refine ax_isub dX12_yard_101 (by omega) (pc' := 102) rfl ?_
                refine ax_iald (v := (f_yR (f_mn 0 (fun _ => 0) la os) (-1) (w 2578) (f_chR 0 (fun _ => 0) la os 0 fr) bf) (q - 10)) dX12_yard_102 sh_347 rfl (by omega) (by omega) ((congrFun mrM_72_1 (q - 10)).trans rfl) (pc' := 103) rfl ?_
                refine ax_iret dX12_yard_103 rfl ?_
                refine ⟨rfl, ?_, ?_⟩
                · refine congrArg (fun z => some (Sum.inl z)) ?_
                  exact qz.symm
                · intro x0 i0 hai
                  exact ((frM_72 x0 i0 (fun h => h.elim (fun h => hai (Or.inl h)) (fun h => h.elim (fun h => hai (Or.inr (Or.inr (Or.inl h)))) (fun h => h.elim (fun h => hai (Or.inr (Or.inr (Or.inr h)))) (fun h => hai (Or.inr (Or.inl h))))))).trans (ax_up_miss (fun h => hai (Or.inr (Or.inr (Or.inr h)))) ((fr4 x0 i0 (fun h => hai (Or.inl h))).trans rfl)))
              · have qz : f_yrd w os q = f_yb (-1) (f_mn 0 (fun _ => 0) la os) := by
                  rw [qy, if_pos qmm]
                  unfold f_yrd
                  rw [if_neg qnc, ← qm, if_neg (by omega), if_pos (by omega)]
                refine ax_aload_n dX12_yard_87 rfl rfl (pc' := 88) rfl ?_
                refine ax_geti (v := f_yb (-1) (f_mn 0 (fun _ => 0) la os)) dX12_yard_88 flX12_479 rfl sh_330 msM_72_0 rfl (pc' := 91) rfl ?_
                refine ax_goto dX12_yard_91 (pc' := 103) (by decide) ?_
                refine ax_iret dX12_yard_103 rfl ?_
                refine ⟨rfl, ?_, ?_⟩
                · refine congrArg (fun z => some (Sum.inl z)) ?_
                  exact qz.symm
                · intro x0 i0 hai
                  exact ((frM_72 x0 i0 (fun h => h.elim (fun h => hai (Or.inl h)) (fun h => h.elim (fun h => hai (Or.inr (Or.inr (Or.inl h)))) (fun h => h.elim (fun h => hai (Or.inr (Or.inr (Or.inr h)))) (fun h => hai (Or.inr (Or.inl h))))))).trans (ax_up_miss (fun h => hai (Or.inr (Or.inr (Or.inr h)))) ((fr4 x0 i0 (fun h => hai (Or.inl h))).trans rfl)))
          · refine ax_aload_n dX12_yard_34 rfl rfl (pc' := 35) rfl ?_
            refine ax_getr (v := 345) dX12_yard_35 flX12_56 rfl sh_330 rfl (pc' := 38) rfl ?_
            refine ax_iload_n dX12_yard_38 rfl rfl (pc' := 39) rfl ?_
            refine ax_aload_n dX12_yard_39 rfl rfl (pc' := 40) rfl ?_
            refine ax_iload_n dX12_yard_40 rfl rfl (pc' := 41) rfl ?_
            refine ax_invG [.inl r] [.inl r, .inr 345] dX12_yard_41 mlX12_82 sh_330 rfl rfl rfl (Nat.le_of_ble_eq_true rfl) (s_X12_isRope E l _ (by omega) _ r ((funext fun i0 => fr4 331 i0 (fun h => absurd h (by decide))).trans hw)) (pc' := 44) rfl (fun vv M_41 hq co41 hcm41 => ?_)
            obtain ⟨rfl, rfl⟩ := hq
            refine ax_reS (st2 := [.inl (f_b (f_isR w r)), .inl r, .inr 345]) rfl ?_
            refine ax_if_eq (tgt := 56) dX12_yard_44 (by decide) (pc' := 47) rfl (fun h44 => ?_) (fun h44 => ?_)
            · replace h44 := f_b_0 h44
              have qlv : (0 : Int) = f_lv0 w r := by
                unfold f_lv0
                rw [if_neg h44]
              refine ax_iconst dX12_yard_56 (by decide) (pc' := 57) rfl ?_
              refine ax_iast dX12_yard_57 sh_345 rfl (by omega) (by omega) (pc' := 58) rfl ?_
              refine ax_iinc dX12_yard_58 rfl (by decide) (by omega) (ls' := [some (.inr 330), some (.inl q), some (.inl (r + 1))]) rfl (pc' := 61) rfl ?_
              refine ax_goto dX12_yard_61 (pc' := 28) (by decide) ?_
              refine ih6 (r + 1) (f_up la r 0) (ax_up M4 345 r 0) ?_ ?_ ?_ ?_ ?_
              · omega
              · intro x0 i0 hai
                exact (ax_up_miss (fun h => hai h.1) ((fr4 x0 i0 (fun h => hai h)).trans rfl))
              · exact (ax_up_rowhit mr4_345)
              · omega
              · intro j h1 h2
                by_cases hj : j = r
                · rw [hj, f_up_same]
                  exact qlv
                · rw [f_up_o hj]
                  exact iv4_1 j h1 (by omega)
            · replace h44 := f_b_1 h44
              have qlv : f_R w r 1 = f_lv0 w r := by
                unfold f_lv0
                rw [if_pos h44]
              refine ax_aload_n dX12_yard_47 rfl rfl (pc' := 48) rfl ?_
              refine ax_iload_n dX12_yard_48 rfl rfl (pc' := 49) rfl ?_
              refine ax_iconst dX12_yard_49 (by decide) (pc' := 50) rfl ?_
              refine ax_invG [.inl r, .inl 1] [.inl r, .inr 345] dX12_yard_50 mlX12_78 sh_330 rfl rfl rfl (Nat.le_of_ble_eq_true rfl) (s_X12_ofRope E l _ (by omega) _ r 1 ((funext fun i0 => fr4 331 i0 (fun h => absurd h (by decide))).trans hw) (by first | omega | assumption) (by first | omega | assumption)) (pc' := 53) rfl (fun vv M_50 hq co50 hcm50 => ?_)
              obtain ⟨rfl, rfl⟩ := hq
              refine ax_reS (st2 := [.inl (f_R w r 1), .inl r, .inr 345]) rfl ?_
              have cc50 : -2147483648 ≤ f_R w r 1 ∧ f_R w r 1 < 2147483648 := co50 _ rfl
              refine ax_goto dX12_yard_53 (pc' := 57) (by decide) ?_
              refine ax_iast dX12_yard_57 sh_345 rfl (by omega) (by omega) (pc' := 58) rfl ?_
              refine ax_iinc dX12_yard_58 rfl (by decide) (by omega) (ls' := [some (.inr 330), some (.inl q), some (.inl (r + 1))]) rfl (pc' := 61) rfl ?_
              refine ax_goto dX12_yard_61 (pc' := 28) (by decide) ?_
              refine ih6 (r + 1) (f_up la r (f_R w r 1)) (ax_up M4 345 r (f_R w r 1)) ?_ ?_ ?_ ?_ ?_
              · omega
              · intro x0 i0 hai
                exact (ax_up_miss (fun h => hai h.1) ((fr4 x0 i0 (fun h => hai h)).trans rfl))
              · exact (ax_up_rowhit mr4_345)
              · omega
              · intro j h1 h2
                by_cases hj : j = r
                · rw [hj, f_up_same]
                  exact qlv
                · rw [f_up_o hj]
                  exact iv4_1 j h1 (by omega)
      refine LP4 (8 - 0 : Int).toNat.succ 0 lv M ?_ ?_ ?_ ?_ ?_
      · omega
      · exact fun a i _ => rfl
      · exact hlv
      · omega
      · intro j h1 h2
        omega
    · replace h21 := f_b_0 h21
      have qz : f_yrd w os q = -1 := by
        unfold f_yrd
        rw [if_pos ⟨by omega, h21⟩]
      refine ax_iconst dX12_yard_24 (by decide) (pc' := 25) rfl ?_
      refine ax_iret dX12_yard_25 rfl ?_
      refine ⟨rfl, ?_, ?_⟩
      · refine congrArg (fun z => some (Sum.inl z)) ?_
        exact qz.symm
      · intro x0 i0 hai
        exact rfl
