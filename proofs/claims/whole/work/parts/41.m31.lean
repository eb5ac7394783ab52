/-! texts are laid into w -/
def f_oL (k x : Int) : Prop := x = 2634 + k ∨ (3840 + 16 * k ≤ x ∧ x < 3856 + 16 * k) ∨ (3888 + 16 * k ≤ x ∧ x < 3904 + 16 * k) ∨ (3936 + 16 * k ≤ x ∧ x < 3952 + 16 * k) ∨ (4434 + 820 * k ≤ x ∧ x < 5254 + 820 * k)
def f_l3 (k i : Int) (fl w : Int → Int) : Prop := ∀ j, 0 ≤ j → j < i → w (3840 + 16 * k + j) = fl (3 * j) ∧ w (3888 + 16 * k + j) = fl (3 * j + 1) ∧ w (3936 + 16 * k + j) = fl (3 * j + 2)
def f_plw (w : Int → Int) (k n sn : Int) (fl fs w2 : Int → Int) : Prop := (∀ x, ¬ f_oL k x → w2 x = w x) ∧ w2 (2634 + k) = n ∧ f_l3 k n fl w2 ∧ ∀ j, 0 ≤ j → j < 2 * sn → w2 (4434 + 820 * k + j) = fs j
theorem f_up_o {f : Int → Int} {i v j : Int} (h : j ≠ i) : f_up f i v j = f j := by
  unfold f_up
  rw [if_neg h]
theorem f_l3_up {k i : Int} {fl w : Int → Int} (hk : 0 ≤ k ∧ k < 3) (hi : 0 ≤ i ∧ i < 16) (h : f_l3 k i fl w) : f_l3 k (i + 1) fl (f_up (f_up (f_up w (3840 + 16 * k + i) (fl (3 * i))) (3888 + 16 * k + i) (fl (3 * i + 1))) (3936 + 16 * k + i) (fl (3 * i + 2))) := by
  intro j h1 h2
  by_cases hj : j = i
  · rw [hj]
    refine ⟨?_, ?_, ?_⟩
    · rw [f_up_o (by omega), f_up_o (by omega), f_up_same]
    · rw [f_up_o (by omega), f_up_same]
    · rw [f_up_same]
  · have h3 := h j h1 (by omega)
    refine ⟨?_, ?_, ?_⟩
    · rw [f_up_o (by omega), f_up_o (by omega), f_up_o (by omega)]
      exact h3.1
    · rw [f_up_o (by omega), f_up_o (by omega), f_up_o (by omega)]
      exact h3.2.1
    · rw [f_up_o (by omega), f_up_o (by omega), f_up_o (by omega)]
      exact h3.2.2
theorem f_cd_sh {w v : Int → Int} {dx : Int} : ∀ {o : List f_Op} {x : Int}, (∀ i, x ≤ i → i < x + 2 * (o.length : Int) → v (i + dx) = w i) → f_cd w x o → f_cd v (x + dx) o
  | [], _, _, _ => trivial
  | o :: tl, x, h, hc => by
    simp only [List.length_cons] at h
    refine ⟨(h x (Int.le_refl _) (by omega)).trans hc.1, ?_, ?_⟩
    · rw [show x + dx + 1 = x + 1 + dx by omega]
      exact (h (x + 1) (by omega) (by omega)).trans hc.2.1
    · rw [show x + dx + 2 = x + 2 + dx by omega]
      exact f_cd_sh (fun i h1 h2 => h i (by omega) (by omega)) hc.2.2
theorem f_put_lt : ∀ (o : List f_Op) (fs : Int → Int) (n i : Int), i < 2 * n → f_put fs n o i = fs i
  | [], _, _, _, _ => rfl
  | o :: tl, fs, n, i, h => by
    show f_put (f_up (f_up fs (2 * n) o.1) (2 * n + 1) o.2) (n + 1) tl i = fs i
    rw [f_put_lt tl _ (n + 1) i (by omega), f_up_o (by omega), f_up_o (by omega)]
theorem f_cd_put : ∀ (o b : List f_Op) (fs : Int → Int) (n : Int), f_cd (f_put fs n (o ++ b)) (2 * n) o
  | [], _, _, _ => trivial
  | o :: tl, b, fs, n => by
    show f_cd (f_put (f_up (f_up fs (2 * n) o.1) (2 * n + 1) o.2) (n + 1) (tl ++ b)) (2 * n) (o :: tl)
    refine ⟨?_, ?_, ?_⟩
    · rw [f_put_lt _ _ _ _ (by omega), f_up_o (by omega), f_up_same]
    · rw [f_put_lt _ _ _ _ (by omega), f_up_same]
    · have h := f_cd_put tl b (f_up (f_up fs (2 * n) o.1) (2 * n + 1) o.2) (n + 1)
      rw [show 2 * (n + 1) = 2 * n + 2 by omega] at h
      exact h
theorem f_cd_putm (a o b : List f_Op) (fs : Int → Int) : f_cd (f_put fs 0 (a ++ (o ++ b))) (2 * (a.length : Int)) o := by
  rw [f_put_app, Int.zero_add]
  exact f_cd_put o b _ _
theorem f_putL_lt : ∀ (ls : List f_Ln) (fl : Int → Int) (n s i : Int), i < 3 * n → f_putL fl n s ls i = fl i
  | [], _, _, _, _, _ => rfl
  | ln :: tl, fl, n, s, i, h => by
    show f_putL (f_pL3 fl n s ln) (n + 1) (s + (ln.1.length : Int) + (ln.2.length : Int)) tl i = fl i
    rw [f_putL_lt tl _ (n + 1) _ i (by omega)]
    unfold f_pL3
    rw [f_up_o (by omega), f_up_o (by omega), f_up_o (by omega)]
theorem f_putL_app : ∀ (a b : List f_Ln) (fl : Int → Int) (n s : Int), f_putL fl n s (a ++ b) = f_putL (f_putL fl n s a) (n + (a.length : Int)) (s + ((f_cds a).length : Int)) b
  | [], b, fl, n, s => by
    show f_putL fl n s b = f_putL fl (n + 0) (s + 0) b
    rw [Int.add_zero, Int.add_zero]
  | l0 :: tl, b, fl, n, s => by
    show f_putL (f_pL3 fl n s l0) (n + 1) (s + (l0.1.length : Int) + (l0.2.length : Int)) (tl ++ b) = f_putL (f_putL (f_pL3 fl n s l0) (n + 1) (s + (l0.1.length : Int) + (l0.2.length : Int)) tl) (n + ((tl.length + 1 : Nat) : Int)) (s + ((l0.1 ++ (l0.2 ++ f_cds tl)).length : Int)) b
    rw [f_putL_app tl b]
    have e1 : n + 1 + (tl.length : Int) = n + ((tl.length + 1 : Nat) : Int) := by omega
    have e2 : s + (l0.1.length : Int) + (l0.2.length : Int) + ((f_cds tl).length : Int) = s + ((l0.1 ++ (l0.2 ++ f_cds tl)).length : Int) := by
      rw [List.length_append, List.length_append]
      omega
    rw [e1, e2]
theorem f_putL_get (a tl : List f_Ln) (ln : f_Ln) (fl : Int → Int) : f_putL fl 0 0 (a ++ ln :: tl) (3 * (a.length : Int)) = ((f_cds a).length : Int) ∧ f_putL fl 0 0 (a ++ ln :: tl) (3 * (a.length : Int) + 1) = ((f_cds a).length : Int) + (ln.1.length : Int) ∧ f_putL fl 0 0 (a ++ ln :: tl) (3 * (a.length : Int) + 2) = ((f_cds a).length : Int) + (ln.1.length : Int) + (ln.2.length : Int) := by
  rw [f_putL_app, Int.zero_add, Int.zero_add]
  show f_putL (f_pL3 _ _ _ ln) _ _ tl _ = _ ∧ f_putL (f_pL3 _ _ _ ln) _ _ tl _ = _ ∧ f_putL (f_pL3 _ _ _ ln) _ _ tl _ = _
  rw [f_putL_lt _ _ _ _ _ (by omega), f_putL_lt _ _ _ _ _ (by omega), f_putL_lt _ _ _ _ _ (by omega)]
  unfold f_pL3
  refine ⟨?_, ?_, ?_⟩
  · rw [f_up_o (by omega), f_up_o (by omega), f_up_same]
  · rw [f_up_o (by omega), f_up_same]
  · rw [f_up_same]
theorem f_plw_lns {w w2 fl0 fs0 : Int → Int} {k n sn : Int} {ls : List f_Ln} (hk : 0 ≤ k ∧ k < 3) (hn : n = (ls.length : Int)) (hs : sn = ((f_cds ls).length : Int)) (hs2 : sn ≤ 410) (hg : ∀ ln ∈ ls, f_gl k ln) (h : f_plw w k n sn (f_putL fl0 0 0 ls) (f_put fs0 0 (f_cds ls)) w2) : f_lns w2 k (16 * k) ls := by
  obtain ⟨h1, h2, h3, h4⟩ := h
  have key : ∀ (b a : List f_Ln), ls = a ++ b → f_lns w2 k (16 * k + (a.length : Int)) b := by
    intro b
    induction b with
    | nil =>
      intro a e
      show 16 * k + (a.length : Int) = 16 * k + w2 (2634 + k)
      rw [h2, hn, e, List.append_nil]
    | cons ln tl ih =>
      intro a e
      have hl : (ls.length : Int) = (a.length : Int) + ((tl.length : Int) + 1) := by
        rw [e, List.length_append, List.length_cons]
        omega
      have hp := f_putL_get a tl ln fl0
      rw [← e] at hp
      have h5 := h3 (a.length : Int) (by omega) (by omega)
      rw [hp.1, hp.2.1, hp.2.2] at h5
      have hc : f_cds ls = f_cds a ++ (ln.1 ++ (ln.2 ++ f_cds tl)) := by
        rw [e, f_cds_app]
        rfl
      have hcl : ((f_cds ls).length : Int) = ((f_cds a).length : Int) + (ln.1.length : Int) + (ln.2.length : Int) + ((f_cds tl).length : Int) := by
        rw [hc, List.length_append, List.length_append, List.length_append]
        omega
      have e0 : 3840 + 16 * k + (a.length : Int) = 3840 + (16 * k + (a.length : Int)) := by omega
      have e1 : 3888 + 16 * k + (a.length : Int) = 3888 + (16 * k + (a.length : Int)) := by omega
      have e2 : 3936 + 16 * k + (a.length : Int) = 3936 + (16 * k + (a.length : Int)) := by omega
      rw [e0, e1, e2] at h5
      have c1 := f_cd_putm (f_cds a) ln.1 (ln.2 ++ f_cds tl) fs0
      rw [← hc] at c1
      have c2 := f_cd_putm (f_cds a ++ ln.1) ln.2 (f_cds tl) fs0
      rw [List.append_assoc, ← hc, List.length_append] at c2
      refine ⟨hg ln (by rw [e]; exact List.mem_append.mpr (Or.inr (List.mem_cons_self))), ⟨by omega, by omega, by omega, by omega, ?_, ?_⟩, ?_⟩
      · rw [h5.1]
        have q := f_cd_sh (w := f_put fs0 0 (f_cds ls)) (v := w2) (dx := 4434 + 820 * k) (o := ln.1) (x := 2 * ((f_cds a).length : Int)) (fun i i1 i2 => by
          rw [show i + (4434 + 820 * k) = 4434 + 820 * k + i by omega]
          exact h4 i (by omega) (by omega)) c1
        rw [show 2 * ((f_cds a).length : Int) + (4434 + 820 * k) = 4434 + 820 * k + 2 * ((f_cds a).length : Int) by omega] at q
        exact q
      · rw [h5.2.1]
        have q := f_cd_sh (w := f_put fs0 0 (f_cds ls)) (v := w2) (dx := 4434 + 820 * k) (o := ln.2) (x := 2 * (((f_cds a).length + ln.1.length : Nat) : Int)) (fun i i1 i2 => by
          rw [show i + (4434 + 820 * k) = 4434 + 820 * k + i by omega]
          exact h4 i (by omega) (by omega)) c2
        rw [show 2 * (((f_cds a).length + ln.1.length : Nat) : Int) + (4434 + 820 * k) = 4434 + 820 * k + 2 * (((f_cds a).length : Int) + (ln.1.length : Int)) by omega] at q
        exact q
      · have q := ih (a ++ [ln]) (by rw [e, List.append_assoc]; rfl)
        rw [List.length_append] at q
        simp only [List.length_cons, List.length_nil] at q
        rw [show 16 * k + (a.length : Int) + 1 = 16 * k + ((a.length + (0 + 1) : Nat) : Int) by omega]
        exact q
  have q := key ls [] rfl
  simp only [List.length_nil] at q
  rw [show 16 * k + ((0 : Nat) : Int) = 16 * k by omega] at q
  exact q
theorem f_law_ok : ∀ (g : Nat) (n : Int) (L : List f_Tk) (ls : List f_Ln), f_law g n L = .inr ls → n ≤ 16 → n + (ls.length : Int) ≤ 16 ∧ (f_cds ls).length ≤ L.length ∧ ∀ rd, (∀ x ∈ L, f_tkr rd x) → ∀ ln ∈ ls, f_gl rd ln := by
  intro g
  induction g with
  | zero =>
    intro n L ls e hn
    cases e
    exact ⟨by simp only [List.length_nil]; omega, Nat.zero_le _, fun rd hx ln h => absurd h (List.not_mem_nil)⟩
  | succ g ih =>
    intro n L ls e hn
    have e1 : (if f_T L = 0 then (.inr [] : f_Rw) else f_lseq (f_line n L) (f_law g (n + 1))) = .inr ls := e
    split at e1
    · cases e1
      exact ⟨by simp only [List.length_nil]; omega, Nat.zero_le _, fun rd hx ln h => absurd h (List.not_mem_nil)⟩
    · match e2 : f_line n L, e1 with
      | .inl x, e1 => cases e1
      | .inr (L2, ln), e1 =>
        have h1 := f_line_gd e2
        have e3 : f_lpre ln (f_law g (n + 1) L2) = .inr ls := e1
        match e4 : f_law g (n + 1) L2, e3 with
        | .inl x, e3 => cases e3
        | .inr l2, e3 =>
          cases e3
          have h2 := ih (n + 1) L2 l2 e4 (by omega)
          have w1 := f_wt_len ln.1
          have w2 := f_wt_len ln.2
          refine ⟨by simp only [List.length_cons]; omega, ?_, fun rd hx x hm => ?_⟩
          · show (ln.1 ++ (ln.2 ++ f_cds l2)).length ≤ _
            rw [List.length_append, List.length_append]
            omega
          · rcases List.mem_cons.mp hm with h3 | h3
            · rw [h3]
              exact h1.2.2 rd hx
            · exact h2.2.2 rd (fun y hy => hx y (h1.1.2 y hy)) x h3
def f_pdr (w : Int → Int) (dn : Int) (fd w2 : Int → Int) : Prop := (∀ x, ¬ (x = 2600 ∨ (3984 ≤ x ∧ x < 4434)) → w2 x = w x) ∧ w2 2600 = dn ∧ ∀ j, 0 ≤ j → j < 3 * dn → w2 (3984 + j) = fd j
def f_psh (w : Int → Int) (k dn : Int) (fh w2 : Int → Int) : Prop := (∀ x, ¬ (x = 2601 + k ∨ (2606 + 7 * k ≤ x ∧ x < 2613 + 7 * k)) → w2 x = w x) ∧ w2 (2601 + k) = dn ∧ ∀ j, 0 ≤ j → j < dn → w2 (2606 + 7 * k + j) = fh j
/-! shapes -/
abbrev f_Rh : Type := (Int × Int) ⊕ List Int
def f_ltr (c : Int) : Int := if c = 111 then 0 else if c = 117 then 1 else if c = 116 then 2 else -1
def f_rsh (ta : Int → Int) : Nat → Int → List Int → f_Rh
  | 0, _, ls => .inr ls
  | n + 1, i, ls => if f_blk (ta i) then f_rsh ta n (i + 1) ls else if f_ltr (ta i) = -1 then .inl (1, i) else if (ls.length : Int) = 7 then .inl (3, i) else f_rsh ta n (i + 1) (ls ++ [f_ltr (ta i)])
def f_rshp (ta : Int → Int) (tn : Int) : f_Rh := f_rsh ta tn.toNat 0 []
def f_ryb (r : f_Rh) : Int := match r with
  | .inl _ => 0
  | .inr _ => 1
def f_putS (fh : Int → Int) : Int → List Int → (Int → Int)
  | _, [] => fh
  | n, x :: tl => f_putS (f_up fh n x) (n + 1) tl
theorem f_putS_snoc : ∀ (a : List Int) (x : Int) (fh : Int → Int) (n : Int), f_putS fh n (a ++ [x]) = f_up (f_putS fh n a) (n + (a.length : Int)) x
  | [], x, fh, n => by
    show f_up fh n x = f_up fh (n + 0) x
    rw [Int.add_zero]
  | y :: tl, x, fh, n => by
    show f_putS (f_up fh n y) (n + 1) (tl ++ [x]) = f_up (f_putS (f_up fh n y) (n + 1) tl) (n + ((tl.length + 1 : Nat) : Int)) x
    rw [f_putS_snoc tl x, show n + 1 + (tl.length : Int) = n + ((tl.length + 1 : Nat) : Int) by omega]
def f_hok (fh : Int → Int) (r : f_Rh) (M2 : ax_Mem) : Prop := match r with
  | .inl (k, s) => M2 330 22 = k ∧ M2 330 23 = s
  | .inr ls => M2 338 = f_putS fh 0 ls ∧ M2 330 16 = (ls.length : Int) ∧ ls.length ≤ 7
theorem f_rsh_stp {ta : Int → Int} {tn i : Int} {ls : List Int} (h : i < tn) : f_rsh ta (tn - i).toNat i ls = if f_blk (ta i) then f_rsh ta (tn - (i + 1)).toNat (i + 1) ls else if f_ltr (ta i) = -1 then .inl (1, i) else if (ls.length : Int) = 7 then .inl (3, i) else f_rsh ta (tn - (i + 1)).toNat (i + 1) (ls ++ [f_ltr (ta i)]) := by
  rw [show (tn - i).toNat = (tn - (i + 1)).toNat + 1 by omega]
  rfl
theorem f_rsh_end {ta : Int → Int} {tn i : Int} {ls : List Int} (h : tn ≤ i) : f_rsh ta (tn - i).toNat i ls = .inr ls := by
  rw [show (tn - i).toNat = 0 by omega]
  rfl
/-! text -/
def f_twr (r : f_Rw) : Int := match r with
  | .inl _ => -1
  | .inr ls => (ls.length : Int)
def f_tqr (r : f_Rq) : Int := match r with
  | .inl _ => -1
  | .inr ls => (ls.length : Int)
def f_thr (r : f_Rh) : Int := match r with
  | .inl _ => -1
  | .inr ls => (ls.length : Int)
def f_txL (w : Int → Int) (k : Int) (r : f_Rw) (M2 : ax_Mem) : Prop := match r with
  | .inl (kk, s) => M2 331 = w ∧ M2 330 24 = kk ∧ M2 330 26 = s
  | .inr ls => f_lns (M2 331) k (16 * k) ls ∧ (0 ≤ M2 331 (2634 + k) ∧ M2 331 (2634 + k) ≤ 16) ∧ (∀ x, ¬ f_oL k x → M2 331 x = w x) ∧ M2 330 24 = 0 ∧ M2 330 26 = -1
def f_txD (w : Int → Int) (r : f_Rq) (M2 : ax_Mem) : Prop := match r with
  | .inl (kk, s) => M2 331 = w ∧ M2 330 24 = kk ∧ M2 330 26 = s
  | .inr ss => (∃ fd, f_pdr w (ss.length : Int) (f_putD fd 0 ss) (M2 331)) ∧ M2 330 24 = 0 ∧ M2 330 26 = -1
def f_txS (w : Int → Int) (k : Int) (r : f_Rh) (M2 : ax_Mem) : Prop := match r with
  | .inl (kk, s) => M2 331 = w ∧ M2 330 24 = kk ∧ M2 330 26 = s
  | .inr ls => (∃ fh, f_psh w k (ls.length : Int) (f_putS fh 0 ls) (M2 331)) ∧ M2 330 24 = 0 ∧ M2 330 26 = -1
theorem f_rwb_ok {r : f_Rw} (h : f_rwb r ≠ 0) : ∃ o, r = .inr o := by
  match r, h with
  | .inl e, h => exact absurd rfl h
  | .inr o, h => exact ⟨o, rfl⟩
theorem f_rwb_no {r : f_Rw} (h : f_rwb r = 0) : ∃ k s, r = .inl (k, s) := by
  match r, h with
  | .inl (k, s), h => exact ⟨k, s, rfl⟩
theorem f_rwb_01 (r : f_Rw) : f_rwb r = 0 ∨ f_rwb r = 1 := by
  cases r with
  | inl e => exact Or.inl rfl
  | inr e => exact Or.inr rfl
theorem f_rqb_ok {r : f_Rq} (h : f_rqb r ≠ 0) : ∃ o, r = .inr o := by
  match r, h with
  | .inl e, h => exact absurd rfl h
  | .inr o, h => exact ⟨o, rfl⟩
theorem f_rqb_no {r : f_Rq} (h : f_rqb r = 0) : ∃ k s, r = .inl (k, s) := by
  match r, h with
  | .inl (k, s), h => exact ⟨k, s, rfl⟩
theorem f_ryb_ok {r : f_Rh} (h : f_ryb r ≠ 0) : ∃ o, r = .inr o := by
  match r, h with
  | .inl e, h => exact absurd rfl h
  | .inr o, h => exact ⟨o, rfl⟩
theorem f_ryb_no {r : f_Rh} (h : f_ryb r = 0) : ∃ k s, r = .inl (k, s) := by
  match r, h with
  | .inl (k, s), h => exact ⟨k, s, rfl⟩
theorem f_ryb_01 (r : f_Rh) : f_ryb r = 0 ∨ f_ryb r = 1 := by
  cases r with
  | inl e => exact Or.inl rfl
  | inr e => exact Or.inr rfl
theorem f_drl_ok {L : List f_Tk} {ss : List f_Sp} (h : f_drl L = .inr ss) : (ss.length : Int) ≤ 150 ∧ ∀ s ∈ ss, f_sok s := by
  unfold f_drl at h
  match e : f_sts 4 L, h with
  | .inl x, h => cases h
  | .inr (L2, s2), h =>
    have h2 : (if f_T L2 ≠ 0 then (.inl (1, f_S L2) : f_Rq) else if (s2.length : Int) ≤ 150 then .inr s2 else .inl (4, f_S L2)) = .inr ss := h
    split at h2
    · cases h2
    · split at h2
      · rename_i h3
        cases h2
        exact ⟨h3, f_sts_ok 4 L L2 ss e⟩
      · cases h2
set_option maxRecDepth 20000 in
theorem s_X12_putsLaw (E : ax_Env) (l : Launch) (d : Nat) (hd : 0 ≤ d) (M : ax_Mem) (k : Int) {w : Int → Int} (hw : M 331 = w) {fl : Int → Int} (hfl : M 335 = fl) {fs : Int → Int} (hfs : M 336 = fs) {n : Int} (hn : M 330 14 = n) {sn : Int} (hsn : M 330 15 = sn) (hg0 : 0 ≤ k ∧ k < 3) (hg1 : 0 ≤ n ∧ n ≤ 16) (hg2 : 0 ≤ sn ∧ sn ≤ 410) : ax_G E l d iX12_putsLaw [.inr 330, .inl k] M (fun z0 M2 => z0 = some (.inl n) ∧ (∀ x0 i0 : Int, ¬ (x0 = 331) → M2 x0 i0 = M x0 i0) ∧ (f_plw w k n sn fl fs (M2 331))) := by
  refine ax_start rfl (Nat.le_of_ble_eq_true rfl) (ls := [some (.inr 330), some (.inl k), none]) rfl (fun hav hcm => ?_)
  have hc1 : -2147483648 ≤ k ∧ k < 2147483648 := hav (.inl k) (by simp)
  clear hav
  refine ax_aload_n dX12_putsLaw_0 rfl rfl (pc' := 1) rfl ?_
  refine ax_getr (v := 331) dX12_putsLaw_1 flX12_7 rfl sh_330 rfl (pc' := 4) rfl ?_
  refine ax_sipush dX12_putsLaw_4 (by decide) (pc' := 7) rfl ?_
  refine ax_iload_n dX12_putsLaw_7 rfl rfl (pc' := 8) rfl ?_
  refine ax_iadd dX12_putsLaw_8 (by omega) (pc' := 9) rfl ?_
  refine ax_aload_n dX12_putsLaw_9 rfl rfl (pc' := 10) rfl ?_
  refine ax_geti (v := n) dX12_putsLaw_10 flX12_270 rfl sh_330 hn rfl (pc' := 13) rfl ?_
  refine ax_iast dX12_putsLaw_13 sh_331 rfl (by omega) (by omega) (pc' := 14) rfl ?_
  refine ax_iconst dX12_putsLaw_14 (by decide) (pc' := 15) rfl ?_
  refine ax_istore_n dX12_putsLaw_15 rfl (by decide) (ls' := [some (.inr 330), some (.inl k), some (.inl 0)]) rfl (pc' := 16) rfl ?_
  have LP1 : ∀ (kq2 : Nat) (i : Int) (wa : Int → Int) (M1 : ax_Mem) (hm1 : n - i < (kq2 : Nat)) (fr1 : ∀ x0 i0 : Int, ¬ (x0 = 331) → M1 x0 i0 = (ax_up M 331 (2634 + k) n) x0 i0) (mr1_331 : M1 331 = wa) (iv1_0 : 0 ≤ i ∧ i ≤ n) (iv1_1 : ∀ x, ¬ f_oL k x → wa x = w x) (iv1_2 : wa (2634 + k) = n) (iv1_3 : f_l3 k i fl wa), ax_W E l d 0 0 iX12_putsLaw 16 [some (.inr 330), some (.inl k), some (.inl i)] [] SH M1 (ax_P (fun z0 M2 => z0 = some (.inl n) ∧ (∀ x0 i0 : Int, ¬ (x0 = 331) → M2 x0 i0 = M x0 i0) ∧ (f_plw w k n sn fl fs (M2 331)))) := by
    intro kq2
    induction kq2 with
    | zero =>
      intro i wa M1 hm1 fr1 mr1_331 iv1_0 iv1_1 iv1_2 iv1_3
      exfalso
      omega
    | succ kq2 ih3 =>
      intro i wa M1 hm1 fr1 mr1_331 iv1_0 iv1_1 iv1_2 iv1_3
      refine ax_iload_n dX12_putsLaw_16 rfl rfl (pc' := 17) rfl ?_
      refine ax_aload_n dX12_putsLaw_17 rfl rfl (pc' := 18) rfl ?_
      refine ax_geti (v := n) dX12_putsLaw_18 flX12_270 rfl sh_330 (show M1 330 14 = n from ((fr1 330 14 (fun h => absurd h (by decide))).trans (ax_up_miss (fun h => absurd h.1 (by decide)) hn))) rfl (pc' := 21) rfl ?_
      refine ax_icmp_ge (tgt := 103) dX12_putsLaw_21 (by decide) (pc' := 24) rfl (fun h21 => ?_) (fun h21 => ?_)
      · refine ax_iconst dX12_putsLaw_103 (by decide) (pc' := 104) rfl ?_
        refine ax_istore_n dX12_putsLaw_104 rfl (by decide) (ls' := [some (.inr 330), some (.inl k), some (.inl 0)]) rfl (pc' := 105) rfl ?_
        have LP4 : ∀ (kq5 : Nat) (i2 : Int) (wb : Int → Int) (M4 : ax_Mem) (hm4 : 2 * sn - i2 < (kq5 : Nat)) (fr4 : ∀ x0 i0 : Int, ¬ (x0 = 331) → M4 x0 i0 = M1 x0 i0) (mr4_331 : M4 331 = wb) (iv4_0 : 0 ≤ i2 ∧ i2 ≤ 2 * sn) (iv4_1 : ∀ x, ¬ f_oL k x → wb x = w x) (iv4_2 : wb (2634 + k) = n) (iv4_3 : f_l3 k n fl wb) (iv4_4 : ∀ j, 0 ≤ j → j < i2 → wb (4434 + 820 * k + j) = fs j), ax_W E l d 0 0 iX12_putsLaw 105 [some (.inr 330), some (.inl k), some (.inl i2)] [] SH M4 (ax_P (fun z0 M2 => z0 = some (.inl n) ∧ (∀ x0 i0 : Int, ¬ (x0 = 331) → M2 x0 i0 = M x0 i0) ∧ (f_plw w k n sn fl fs (M2 331)))) := by
          intro kq5
          induction kq5 with
          | zero =>
            intro i2 wb M4 hm4 fr4 mr4_331 iv4_0 iv4_1 iv4_2 iv4_3 iv4_4
            exfalso
            omega
          | succ kq5 ih6 =>
            intro i2 wb M4 hm4 fr4 mr4_331 iv4_0 iv4_1 iv4_2 iv4_3 iv4_4
            refine ax_iload_n dX12_putsLaw_105 rfl rfl (pc' := 106) rfl ?_
            refine ax_iconst dX12_putsLaw_106 (by decide) (pc' := 107) rfl ?_
            refine ax_aload_n dX12_putsLaw_107 rfl rfl (pc' := 108) rfl ?_
            refine ax_geti (v := sn) dX12_putsLaw_108 flX12_235 rfl sh_330 (show M4 330 15 = sn from ((fr4 330 15 (fun h => absurd h (by decide))).trans ((fr1 330 15 (fun h => absurd h (by decide))).trans (ax_up_miss (fun h => absurd h.1 (by decide)) hsn)))) rfl (pc' := 111) rfl ?_
            refine ax_imul dX12_putsLaw_111 (by omega) (pc' := 112) rfl ?_
            refine ax_icmp_ge (tgt := 143) dX12_putsLaw_112 (by decide) (pc' := 115) rfl (fun h112 => ?_) (fun h112 => ?_)
            · refine ax_aload_n dX12_putsLaw_143 rfl rfl (pc' := 144) rfl ?_
              refine ax_geti (v := n) dX12_putsLaw_144 flX12_270 rfl sh_330 (show M4 330 14 = n from ((fr4 330 14 (fun h => absurd h (by decide))).trans ((fr1 330 14 (fun h => absurd h (by decide))).trans (ax_up_miss (fun h => absurd h.1 (by decide)) hn)))) rfl (pc' := 147) rfl ?_
              refine ax_iret dX12_putsLaw_147 rfl ?_
              refine ⟨rfl, ?_, ?_, ?_⟩
              · rfl
              · intro x0 i0 hai
                exact ((fr4 x0 i0 (fun h => hai h)).trans ((fr1 x0 i0 (fun h => hai h)).trans (ax_up_miss (fun h => hai h.1) rfl)))
              · rw [show M4 331 = wb from mr4_331]
                refine ⟨iv4_1, iv4_2, iv4_3, fun j h1 h2 => iv4_4 j h1 (by omega)⟩
            · refine ax_aload_n dX12_putsLaw_115 rfl rfl (pc' := 116) rfl ?_
              refine ax_getr (v := 331) dX12_putsLaw_116 flX12_7 rfl sh_330 rfl (pc' := 119) rfl ?_
              refine ax_sipush dX12_putsLaw_119 (by decide) (pc' := 122) rfl ?_
              refine ax_sipush dX12_putsLaw_122 (by decide) (pc' := 125) rfl ?_
              refine ax_iload_n dX12_putsLaw_125 rfl rfl (pc' := 126) rfl ?_
              refine ax_imul dX12_putsLaw_126 (by omega) (pc' := 127) rfl ?_
              refine ax_iadd dX12_putsLaw_127 (by omega) (pc' := 128) rfl ?_
              refine ax_iload_n dX12_putsLaw_128 rfl rfl (pc' := 129) rfl ?_
              refine ax_iadd dX12_putsLaw_129 (by omega) (pc' := 130) rfl ?_
              refine ax_aload_n dX12_putsLaw_130 rfl rfl (pc' := 131) rfl ?_
              refine ax_getr (v := 336) dX12_putsLaw_131 flX12_25 rfl sh_330 rfl (pc' := 134) rfl ?_
              refine ax_iload_n dX12_putsLaw_134 rfl rfl (pc' := 135) rfl ?_
              refine ax_iald (v := fs i2) dX12_putsLaw_135 sh_336 rfl (by omega) (by omega) ((congrFun ((funext fun i0 => fr4 336 i0 (fun h => absurd h (by decide))).trans ((funext fun i0 => fr1 336 i0 (fun h => absurd h (by decide))).trans (ax_up_rowmiss (by decide) hfs))) i2).trans rfl) (pc' := 136) rfl ?_
              refine ax_iast dX12_putsLaw_136 sh_331 rfl (by omega) (by omega) (pc' := 137) rfl ?_
              refine ax_iinc dX12_putsLaw_137 rfl (by decide) (by omega) (ls' := [some (.inr 330), some (.inl k), some (.inl (i2 + 1))]) rfl (pc' := 140) rfl ?_
              refine ax_goto dX12_putsLaw_140 (pc' := 105) (by decide) ?_
              refine ih6 (i2 + 1) (f_up wb (4434 + (820 * k) + i2) (fs i2)) (ax_up M4 331 (4434 + (820 * k) + i2) (fs i2)) ?_ ?_ ?_ ?_ ?_ ?_ ?_ ?_
              · omega
              · intro x0 i0 hai
                exact (ax_up_miss (fun h => hai h.1) ((fr4 x0 i0 (fun h => hai h)).trans rfl))
              · exact (ax_up_rowhit mr4_331)
              · omega
              · intro x hx
                have qx := hx
                unfold f_oL at qx
                rw [f_up_o (by omega)]
                exact iv4_1 x hx
              · rw [f_up_o (by omega)]
                exact iv4_2
              · intro j h1 h2
                rw [f_up_o (by omega), f_up_o (by omega), f_up_o (by omega)]
                exact iv4_3 j h1 h2
              · intro j h1 h2
                by_cases hj : j = i2
                · rw [hj, f_up_same]
                · rw [f_up_o (by omega)]
                  exact iv4_4 j h1 (by omega)
        refine LP4 (2 * sn - 0 : Int).toNat.succ 0 wa M1 ?_ ?_ ?_ ?_ ?_ ?_ ?_ ?_
        · omega
        · exact fun a i _ => rfl
        · exact mr1_331
        · omega
        · exact iv1_1
        · exact iv1_2
        · rw [show n = i by omega]
          exact iv1_3
        · intro j h1 h2
          omega
      · refine ax_aload_n dX12_putsLaw_24 rfl rfl (pc' := 25) rfl ?_
        refine ax_getr (v := 331) dX12_putsLaw_25 flX12_7 rfl sh_330 rfl (pc' := 28) rfl ?_
        refine ax_sipush dX12_putsLaw_28 (by decide) (pc' := 31) rfl ?_
        refine ax_bipush dX12_putsLaw_31 (by decide) (pc' := 33) rfl ?_
        refine ax_iload_n dX12_putsLaw_33 rfl rfl (pc' := 34) rfl ?_
        refine ax_imul dX12_putsLaw_34 (by omega) (pc' := 35) rfl ?_
        refine ax_iadd dX12_putsLaw_35 (by omega) (pc' := 36) rfl ?_
        refine ax_iload_n dX12_putsLaw_36 rfl rfl (pc' := 37) rfl ?_
        refine ax_iadd dX12_putsLaw_37 (by omega) (pc' := 38) rfl ?_
        refine ax_aload_n dX12_putsLaw_38 rfl rfl (pc' := 39) rfl ?_
        refine ax_getr (v := 335) dX12_putsLaw_39 flX12_22 rfl sh_330 rfl (pc' := 42) rfl ?_
        refine ax_iconst dX12_putsLaw_42 (by decide) (pc' := 43) rfl ?_
        refine ax_iload_n dX12_putsLaw_43 rfl rfl (pc' := 44) rfl ?_
        refine ax_imul dX12_putsLaw_44 (by omega) (pc' := 45) rfl ?_
        refine ax_iald (v := fl (3 * i)) dX12_putsLaw_45 sh_335 rfl (by omega) (by omega) ((congrFun ((funext fun i0 => fr1 335 i0 (fun h => absurd h (by decide))).trans (ax_up_rowmiss (by decide) hfl)) (3 * i)).trans rfl) (pc' := 46) rfl ?_
        refine ax_iast dX12_putsLaw_46 sh_331 rfl (by omega) (by omega) (pc' := 47) rfl ?_
        refine ax_aload_n dX12_putsLaw_47 rfl rfl (pc' := 48) rfl ?_
        refine ax_getr (v := 331) dX12_putsLaw_48 flX12_7 rfl sh_330 rfl (pc' := 51) rfl ?_
        refine ax_sipush dX12_putsLaw_51 (by decide) (pc' := 54) rfl ?_
        refine ax_bipush dX12_putsLaw_54 (by decide) (pc' := 56) rfl ?_
        refine ax_iload_n dX12_putsLaw_56 rfl rfl (pc' := 57) rfl ?_
        refine ax_imul dX12_putsLaw_57 (by omega) (pc' := 58) rfl ?_
        refine ax_iadd dX12_putsLaw_58 (by omega) (pc' := 59) rfl ?_
        refine ax_iload_n dX12_putsLaw_59 rfl rfl (pc' := 60) rfl ?_
        refine ax_iadd dX12_putsLaw_60 (by omega) (pc' := 61) rfl ?_
        refine ax_aload_n dX12_putsLaw_61 rfl rfl (pc' := 62) rfl ?_
        refine ax_getr (v := 335) dX12_putsLaw_62 flX12_22 rfl sh_330 rfl (pc' := 65) rfl ?_
        refine ax_iconst dX12_putsLaw_65 (by decide) (pc' := 66) rfl ?_
        refine ax_iload_n dX12_putsLaw_66 rfl rfl (pc' := 67) rfl ?_
        refine ax_imul dX12_putsLaw_67 (by omega) (pc' := 68) rfl ?_
        refine ax_iconst dX12_putsLaw_68 (by decide) (pc' := 69) rfl ?_
        refine ax_iadd dX12_putsLaw_69 (by omega) (pc' := 70) rfl ?_
        refine ax_iald (v := fl (3 * i + 1)) dX12_putsLaw_70 sh_335 rfl (by omega) (by omega) ((congrFun (ax_up_rowmiss (by decide) ((funext fun i0 => fr1 335 i0 (fun h => absurd h (by decide))).trans (ax_up_rowmiss (by decide) hfl))) (3 * i + 1)).trans rfl) (pc' := 71) rfl ?_
        refine ax_iast dX12_putsLaw_71 sh_331 rfl (by omega) (by omega) (pc' := 72) rfl ?_
        refine ax_aload_n dX12_putsLaw_72 rfl rfl (pc' := 73) rfl ?_
        refine ax_getr (v := 331) dX12_putsLaw_73 flX12_7 rfl sh_330 rfl (pc' := 76) rfl ?_
        refine ax_sipush dX12_putsLaw_76 (by decide) (pc' := 79) rfl ?_
        refine ax_bipush dX12_putsLaw_79 (by decide) (pc' := 81) rfl ?_
        refine ax_iload_n dX12_putsLaw_81 rfl rfl (pc' := 82) rfl ?_
        refine ax_imul dX12_putsLaw_82 (by omega) (pc' := 83) rfl ?_
        refine ax_iadd dX12_putsLaw_83 (by omega) (pc' := 84) rfl ?_
        refine ax_iload_n dX12_putsLaw_84 rfl rfl (pc' := 85) rfl ?_
        refine ax_iadd dX12_putsLaw_85 (by omega) (pc' := 86) rfl ?_
        refine ax_aload_n dX12_putsLaw_86 rfl rfl (pc' := 87) rfl ?_
        refine ax_getr (v := 335) dX12_putsLaw_87 flX12_22 rfl sh_330 rfl (pc' := 90) rfl ?_
        refine ax_iconst dX12_putsLaw_90 (by decide) (pc' := 91) rfl ?_
        refine ax_iload_n dX12_putsLaw_91 rfl rfl (pc' := 92) rfl ?_
        refine ax_imul dX12_putsLaw_92 (by omega) (pc' := 93) rfl ?_
        refine ax_iconst dX12_putsLaw_93 (by decide) (pc' := 94) rfl ?_
        refine ax_iadd dX12_putsLaw_94 (by omega) (pc' := 95) rfl ?_
        refine ax_iald (v := fl (3 * i + 2)) dX12_putsLaw_95 sh_335 rfl (by omega) (by omega) ((congrFun (ax_up_rowmiss (by decide) (ax_up_rowmiss (by decide) ((funext fun i0 => fr1 335 i0 (fun h => absurd h (by decide))).trans (ax_up_rowmiss (by decide) hfl)))) (3 * i + 2)).trans rfl) (pc' := 96) rfl ?_
        refine ax_iast dX12_putsLaw_96 sh_331 rfl (by omega) (by omega) (pc' := 97) rfl ?_
        refine ax_iinc dX12_putsLaw_97 rfl (by decide) (by omega) (ls' := [some (.inr 330), some (.inl k), some (.inl (i + 1))]) rfl (pc' := 100) rfl ?_
        refine ax_goto dX12_putsLaw_100 (pc' := 16) (by decide) ?_
        refine ih3 (i + 1) (f_up (f_up (f_up wa (3840 + (16 * k) + i) (fl (3 * i))) (3888 + (16 * k) + i) (fl (3 * i + 1))) (3936 + (16 * k) + i) (fl (3 * i + 2))) (ax_up (ax_up (ax_up M1 331 (3840 + (16 * k) + i) (fl (3 * i))) 331 (3888 + (16 * k) + i) (fl (3 * i + 1))) 331 (3936 + (16 * k) + i) (fl (3 * i + 2))) ?_ ?_ ?_ ?_ ?_ ?_ ?_
        · omega
        · intro x0 i0 hai
          exact (ax_up_miss (fun h => hai h.1) (ax_up_miss (fun h => hai h.1) (ax_up_miss (fun h => hai h.1) ((fr1 x0 i0 (fun h => hai h)).trans rfl))))
        · exact (ax_up_rowhit (ax_up_rowhit (ax_up_rowhit mr1_331)))
        · omega
        · intro x hx
          have qx := hx
          unfold f_oL at qx
          rw [f_up_o (by omega), f_up_o (by omega), f_up_o (by omega)]
          exact iv1_1 x hx
        · rw [f_up_o (by omega), f_up_o (by omega), f_up_o (by omega)]
          exact iv1_2
        · exact f_l3_up hg0 (by omega) iv1_3
  refine LP1 (n - 0 : Int).toNat.succ 0 (f_up w (2634 + k) n) (ax_up M 331 (2634 + k) n) ?_ ?_ ?_ ?_ ?_ ?_ ?_
  · omega
  · exact fun a i _ => rfl
  · exact (ax_up_rowhit hw)
  · omega
  · intro x hx
    have qx := hx
    unfold f_oL at qx
    rw [f_up_o (by omega)]
  · exact f_up_same _ _ _
  · intro j h1 h2
    omega
set_option maxRecDepth 20000 in
theorem s_X12_putsDrill (E : ax_Env) (l : Launch) (d : Nat) (hd : 0 ≤ d) (M : ax_Mem) {w : Int → Int} (hw : M 331 = w) {fd : Int → Int} (hfd : M 337 = fd) {dn : Int} (hdn : M 330 16 = dn) (hg0 : 0 ≤ dn ∧ dn ≤ 150) : ax_G E l d iX12_putsDrill [.inr 330] M (fun z0 M2 => z0 = some (.inl dn) ∧ (∀ x0 i0 : Int, ¬ (x0 = 331) → M2 x0 i0 = M x0 i0) ∧ (f_pdr w dn fd (M2 331))) := by
  refine ax_start rfl (Nat.le_of_ble_eq_true rfl) (ls := [some (.inr 330), none]) rfl (fun hav hcm => ?_)
  clear hav
  refine ax_aload_n dX12_putsDrill_0 rfl rfl (pc' := 1) rfl ?_
  refine ax_getr (v := 331) dX12_putsDrill_1 flX12_7 rfl sh_330 rfl (pc' := 4) rfl ?_
  refine ax_sipush dX12_putsDrill_4 (by decide) (pc' := 7) rfl ?_
  refine ax_aload_n dX12_putsDrill_7 rfl rfl (pc' := 8) rfl ?_
  refine ax_geti (v := dn) dX12_putsDrill_8 flX12_279 rfl sh_330 hdn rfl (pc' := 11) rfl ?_
  refine ax_iast dX12_putsDrill_11 sh_331 rfl (by omega) (by omega) (pc' := 12) rfl ?_
  refine ax_iconst dX12_putsDrill_12 (by decide) (pc' := 13) rfl ?_
  refine ax_istore_n dX12_putsDrill_13 rfl (by decide) (ls' := [some (.inr 330), some (.inl 0)]) rfl (pc' := 14) rfl ?_
  have LP1 : ∀ (kq2 : Nat) (i : Int) (wa : Int → Int) (M1 : ax_Mem) (hm1 : 3 * dn - i < (kq2 : Nat)) (fr1 : ∀ x0 i0 : Int, ¬ (x0 = 331) → M1 x0 i0 = (ax_up M 331 2600 dn) x0 i0) (mr1_331 : M1 331 = wa) (iv1_0 : 0 ≤ i ∧ i ≤ 3 * dn) (iv1_1 : ∀ x, ¬ (x = 2600 ∨ (3984 ≤ x ∧ x < 4434)) → wa x = w x) (iv1_2 : wa 2600 = dn) (iv1_3 : ∀ j, 0 ≤ j → j < i → wa (3984 + j) = fd j), ax_W E l d 0 0 iX12_putsDrill 14 [some (.inr 330), some (.inl i)] [] SH M1 (ax_P (fun z0 M2 => z0 = some (.inl dn) ∧ (∀ x0 i0 : Int, ¬ (x0 = 331) → M2 x0 i0 = M x0 i0) ∧ (f_pdr w dn fd (M2 331)))) := by
    intro kq2
    induction kq2 with
    | zero =>
      intro i wa M1 hm1 fr1 mr1_331 iv1_0 iv1_1 iv1_2 iv1_3
      exfalso
      omega
    | succ kq2 ih3 =>
      intro i wa M1 hm1 fr1 mr1_331 iv1_0 iv1_1 iv1_2 iv1_3
      refine ax_iload_n dX12_putsDrill_14 rfl rfl (pc' := 15) rfl ?_
      refine ax_iconst dX12_putsDrill_15 (by decide) (pc' := 16) rfl ?_
      refine ax_aload_n dX12_putsDrill_16 rfl rfl (pc' := 17) rfl ?_
      refine ax_geti (v := dn) dX12_putsDrill_17 flX12_279 rfl sh_330 (show M1 330 16 = dn from ((fr1 330 16 (fun h => absurd h (by decide))).trans (ax_up_miss (fun h => absurd h.1 (by decide)) hdn))) rfl (pc' := 20) rfl ?_
      refine ax_imul dX12_putsDrill_20 (by omega) (pc' := 21) rfl ?_
      refine ax_icmp_ge (tgt := 46) dX12_putsDrill_21 (by decide) (pc' := 24) rfl (fun h21 => ?_) (fun h21 => ?_)
      · refine ax_aload_n dX12_putsDrill_46 rfl rfl (pc' := 47) rfl ?_
        refine ax_geti (v := dn) dX12_putsDrill_47 flX12_279 rfl sh_330 (show M1 330 16 = dn from ((fr1 330 16 (fun h => absurd h (by decide))).trans (ax_up_miss (fun h => absurd h.1 (by decide)) hdn))) rfl (pc' := 50) rfl ?_
        refine ax_iret dX12_putsDrill_50 rfl ?_
        refine ⟨rfl, ?_, ?_, ?_⟩
        · rfl
        · intro x0 i0 hai
          exact ((fr1 x0 i0 (fun h => hai h)).trans (ax_up_miss (fun h => hai h.1) rfl))
        · rw [show M1 331 = wa from mr1_331]
          refine ⟨iv1_1, iv1_2, fun j h1 h2 => iv1_3 j h1 (by omega)⟩
      · refine ax_aload_n dX12_putsDrill_24 rfl rfl (pc' := 25) rfl ?_
        refine ax_getr (v := 331) dX12_putsDrill_25 flX12_7 rfl sh_330 rfl (pc' := 28) rfl ?_
        refine ax_sipush dX12_putsDrill_28 (by decide) (pc' := 31) rfl ?_
        refine ax_iload_n dX12_putsDrill_31 rfl rfl (pc' := 32) rfl ?_
        refine ax_iadd dX12_putsDrill_32 (by omega) (pc' := 33) rfl ?_
        refine ax_aload_n dX12_putsDrill_33 rfl rfl (pc' := 34) rfl ?_
        refine ax_getr (v := 337) dX12_putsDrill_34 flX12_28 rfl sh_330 rfl (pc' := 37) rfl ?_
        refine ax_iload_n dX12_putsDrill_37 rfl rfl (pc' := 38) rfl ?_
        refine ax_iald (v := fd i) dX12_putsDrill_38 sh_337 rfl (by omega) (by omega) ((congrFun ((funext fun i0 => fr1 337 i0 (fun h => absurd h (by decide))).trans (ax_up_rowmiss (by decide) hfd)) i).trans rfl) (pc' := 39) rfl ?_
        refine ax_iast dX12_putsDrill_39 sh_331 rfl (by omega) (by omega) (pc' := 40) rfl ?_
        refine ax_iinc dX12_putsDrill_40 rfl (by decide) (by omega) (ls' := [some (.inr 330), some (.inl (i + 1))]) rfl (pc' := 43) rfl ?_
        refine ax_goto dX12_putsDrill_43 (pc' := 14) (by decide) ?_
        refine ih3 (i + 1) (f_up wa (3984 + i) (fd i)) (ax_up M1 331 (3984 + i) (fd i)) ?_ ?_ ?_ ?_ ?_ ?_ ?_
        · omega
        · intro x0 i0 hai
          exact (ax_up_miss (fun h => hai h.1) ((fr1 x0 i0 (fun h => hai h)).trans rfl))
        · exact (ax_up_rowhit mr1_331)
        · omega
        · intro x hx
          rw [f_up_o (by omega)]
          exact iv1_1 x hx
        · rw [f_up_o (by omega)]
          exact iv1_2
        · intro j h1 h2
          by_cases hj : j = i
          · rw [hj, f_up_same]
          · rw [f_up_o (by omega)]
            exact iv1_3 j h1 (by omega)
  refine LP1 (3 * dn - 0 : Int).toNat.succ 0 (f_up w 2600 dn) (ax_up M 331 2600 dn) ?_ ?_ ?_ ?_ ?_ ?_ ?_
  · omega
  · exact fun a i _ => rfl
  · exact (ax_up_rowhit hw)
  · omega
  · intro x hx
    rw [f_up_o (by omega)]
  · exact f_up_same _ _ _
  · intro j h1 h2
    omega
set_option maxRecDepth 20000 in
theorem s_X12_putsShape (E : ax_Env) (l : Launch) (d : Nat) (hd : 0 ≤ d) (M : ax_Mem) (k : Int) {w : Int → Int} (hw : M 331 = w) {fh : Int → Int} (hfh : M 338 = fh) {dn : Int} (hdn : M 330 16 = dn) (hg0 : 0 ≤ k ∧ k < 4) (hg1 : 0 ≤ dn ∧ dn ≤ 7) : ax_G E l d iX12_putsShape [.inr 330, .inl k] M (fun z0 M2 => z0 = some (.inl dn) ∧ (∀ x0 i0 : Int, ¬ (x0 = 331) → M2 x0 i0 = M x0 i0) ∧ (f_psh w k dn fh (M2 331))) := by
  refine ax_start rfl (Nat.le_of_ble_eq_true rfl) (ls := [some (.inr 330), some (.inl k), none]) rfl (fun hav hcm => ?_)
  have hc1 : -2147483648 ≤ k ∧ k < 2147483648 := hav (.inl k) (by simp)
  clear hav
  refine ax_aload_n dX12_putsShape_0 rfl rfl (pc' := 1) rfl ?_
  refine ax_getr (v := 331) dX12_putsShape_1 flX12_7 rfl sh_330 rfl (pc' := 4) rfl ?_
  refine ax_sipush dX12_putsShape_4 (by decide) (pc' := 7) rfl ?_
  refine ax_iload_n dX12_putsShape_7 rfl rfl (pc' := 8) rfl ?_
  refine ax_iadd dX12_putsShape_8 (by omega) (pc' := 9) rfl ?_
  refine ax_aload_n dX12_putsShape_9 rfl rfl (pc' := 10) rfl ?_
  refine ax_geti (v := dn) dX12_putsShape_10 flX12_279 rfl sh_330 hdn rfl (pc' := 13) rfl ?_
  refine ax_iast dX12_putsShape_13 sh_331 rfl (by omega) (by omega) (pc' := 14) rfl ?_
  refine ax_iconst dX12_putsShape_14 (by decide) (pc' := 15) rfl ?_
  refine ax_istore_n dX12_putsShape_15 rfl (by decide) (ls' := [some (.inr 330), some (.inl k), some (.inl 0)]) rfl (pc' := 16) rfl ?_
  have LP1 : ∀ (kq2 : Nat) (i : Int) (wa : Int → Int) (M1 : ax_Mem) (hm1 : dn - i < (kq2 : Nat)) (fr1 : ∀ x0 i0 : Int, ¬ (x0 = 331) → M1 x0 i0 = (ax_up M 331 (2601 + k) dn) x0 i0) (mr1_331 : M1 331 = wa) (iv1_0 : 0 ≤ i ∧ i ≤ dn) (iv1_1 : ∀ x, ¬ (x = 2601 + k ∨ (2606 + 7 * k ≤ x ∧ x < 2613 + 7 * k)) → wa x = w x) (iv1_2 : wa (2601 + k) = dn) (iv1_3 : ∀ j, 0 ≤ j → j < i → wa (2606 + 7 * k + j) = fh j), ax_W E l d 0 0 iX12_putsShape 16 [some (.inr 330), some (.inl k), some (.inl i)] [] SH M1 (ax_P (fun z0 M2 => z0 = some (.inl dn) ∧ (∀ x0 i0 : Int, ¬ (x0 = 331) → M2 x0 i0 = M x0 i0) ∧ (f_psh w k dn fh (M2 331)))) := by
    intro kq2
    induction kq2 with
    | zero =>
      intro i wa M1 hm1 fr1 mr1_331 iv1_0 iv1_1 iv1_2 iv1_3
      exfalso
      omega
    | succ kq2 ih3 =>
      intro i wa M1 hm1 fr1 mr1_331 iv1_0 iv1_1 iv1_2 iv1_3
      refine ax_iload_n dX12_putsShape_16 rfl rfl (pc' := 17) rfl ?_
      refine ax_aload_n dX12_putsShape_17 rfl rfl (pc' := 18) rfl ?_
      refine ax_geti (v := dn) dX12_putsShape_18 flX12_279 rfl sh_330 (show M1 330 16 = dn from ((fr1 330 16 (fun h => absurd h (by decide))).trans (ax_up_miss (fun h => absurd h.1 (by decide)) hdn))) rfl (pc' := 21) rfl ?_
      refine ax_icmp_ge (tgt := 51) dX12_putsShape_21 (by decide) (pc' := 24) rfl (fun h21 => ?_) (fun h21 => ?_)
      · refine ax_aload_n dX12_putsShape_51 rfl rfl (pc' := 52) rfl ?_
        refine ax_geti (v := dn) dX12_putsShape_52 flX12_279 rfl sh_330 (show M1 330 16 = dn from ((fr1 330 16 (fun h => absurd h (by decide))).trans (ax_up_miss (fun h => absurd h.1 (by decide)) hdn))) rfl (pc' := 55) rfl ?_
        refine ax_iret dX12_putsShape_55 rfl ?_
        refine ⟨rfl, ?_, ?_, ?_⟩
        · rfl
        · intro x0 i0 hai
          exact ((fr1 x0 i0 (fun h => hai h)).trans (ax_up_miss (fun h => hai h.1) rfl))
        · rw [show M1 331 = wa from mr1_331]
          refine ⟨iv1_1, iv1_2, fun j h1 h2 => iv1_3 j h1 (by omega)⟩
      · refine ax_aload_n dX12_putsShape_24 rfl rfl (pc' := 25) rfl ?_
        refine ax_getr (v := 331) dX12_putsShape_25 flX12_7 rfl sh_330 rfl (pc' := 28) rfl ?_
        refine ax_sipush dX12_putsShape_28 (by decide) (pc' := 31) rfl ?_
        refine ax_bipush dX12_putsShape_31 (by decide) (pc' := 33) rfl ?_
        refine ax_iload_n dX12_putsShape_33 rfl rfl (pc' := 34) rfl ?_
        refine ax_imul dX12_putsShape_34 (by omega) (pc' := 35) rfl ?_
        refine ax_iadd dX12_putsShape_35 (by omega) (pc' := 36) rfl ?_
        refine ax_iload_n dX12_putsShape_36 rfl rfl (pc' := 37) rfl ?_
        refine ax_iadd dX12_putsShape_37 (by omega) (pc' := 38) rfl ?_
        refine ax_aload_n dX12_putsShape_38 rfl rfl (pc' := 39) rfl ?_
        refine ax_getr (v := 338) dX12_putsShape_39 flX12_31 rfl sh_330 rfl (pc' := 42) rfl ?_
        refine ax_iload_n dX12_putsShape_42 rfl rfl (pc' := 43) rfl ?_
        refine ax_iald (v := fh i) dX12_putsShape_43 sh_338 rfl (by omega) (by omega) ((congrFun ((funext fun i0 => fr1 338 i0 (fun h => absurd h (by decide))).trans (ax_up_rowmiss (by decide) hfh)) i).trans rfl) (pc' := 44) rfl ?_
        refine ax_iast dX12_putsShape_44 sh_331 rfl (by omega) (by omega) (pc' := 45) rfl ?_
        refine ax_iinc dX12_putsShape_45 rfl (by decide) (by omega) (ls' := [some (.inr 330), some (.inl k), some (.inl (i + 1))]) rfl (pc' := 48) rfl ?_
        refine ax_goto dX12_putsShape_48 (pc' := 16) (by decide) ?_
        refine ih3 (i + 1) (f_up wa (2606 + (7 * k) + i) (fh i)) (ax_up M1 331 (2606 + (7 * k) + i) (fh i)) ?_ ?_ ?_ ?_ ?_ ?_ ?_
        · omega
        · intro x0 i0 hai
          exact (ax_up_miss (fun h => hai h.1) ((fr1 x0 i0 (fun h => hai h)).trans rfl))
        · exact (ax_up_rowhit mr1_331)
        · omega
        · intro x hx
          rw [f_up_o (by omega)]
          exact iv1_1 x hx
        · rw [f_up_o (by omega)]
          exact iv1_2
        · intro j h1 h2
          by_cases hj : j = i
          · rw [hj, f_up_same]
          · rw [f_up_o (by omega)]
            exact iv1_3 j h1 (by omega)
  refine LP1 (dn - 0 : Int).toNat.succ 0 (f_up w (2601 + k) dn) (ax_up M 331 (2601 + k) dn) ?_ ?_ ?_ ?_ ?_ ?_ ?_
  · omega
  · exact fun a i _ => rfl
  · exact (ax_up_rowhit hw)
  · omega
  · intro x hx
    rw [f_up_o (by omega)]
  · exact f_up_same _ _ _
  · intro j h1 h2
    omega
set_option maxRecDepth 20000 in
theorem s_X12_wrongHere (E : ax_Env) (l : Launch) (d : Nat) (hd : 0 ≤ d) (M : ax_Mem) (k s : Int) : ax_G E l d iX12_wrongHere [.inr 330, .inl k, .inl s] M (fun z0 M2 => z0 = some (.inl 0) ∧ (∀ x0 i0 : Int, ¬ ((x0 = 330 ∧ i0 = 22) ∨ (x0 = 330 ∧ i0 = 23)) → M2 x0 i0 = M x0 i0) ∧ M2 330 22 = k ∧ M2 330 23 = s) := by
  refine ax_start rfl (Nat.le_of_ble_eq_true rfl) (ls := [some (.inr 330), some (.inl k), some (.inl s)]) rfl (fun hav hcm => ?_)
  have hc1 : -2147483648 ≤ k ∧ k < 2147483648 := hav (.inl k) (by simp)
  have hc2 : -2147483648 ≤ s ∧ s < 2147483648 := hav (.inl s) (by simp)
  clear hav
  refine ax_aload_n dX12_wrongHere_0 rfl rfl (pc' := 1) rfl ?_
  refine ax_iload_n dX12_wrongHere_1 rfl rfl (pc' := 2) rfl ?_
  refine ax_puti dX12_wrongHere_2 flX12_223 (Or.inl rfl) sh_330 rfl (pc' := 5) rfl ?_
  refine ax_aload_n dX12_wrongHere_5 rfl rfl (pc' := 6) rfl ?_
  refine ax_iload_n dX12_wrongHere_6 rfl rfl (pc' := 7) rfl ?_
  refine ax_puti dX12_wrongHere_7 flX12_226 (Or.inl rfl) sh_330 rfl (pc' := 10) rfl ?_
  refine ax_iconst dX12_wrongHere_10 (by decide) (pc' := 11) rfl ?_
  refine ax_zret dX12_wrongHere_11 rfl (by decide) ?_
  refine ⟨rfl, ?_, ?_, ?_, ?_⟩
  · rfl
  · intro x0 i0 hai
    exact (ax_up_miss (fun h => hai (Or.inr h)) (ax_up_miss (fun h => hai (Or.inl h)) rfl))
  · exact (ax_up_miss (by decide) (ax_up_hit _ _ _ _))
  · exact (ax_up_hit _ _ _ _)
set_option maxRecDepth 20000 in
theorem s_X12_readsShape (E : ax_Env) (l : Launch) (d : Nat) (hd : 1 ≤ d) (M : ax_Mem) {ta : Int → Int} (hta : M 339 = ta) {fh : Int → Int} (hfh : M 338 = fh) {tn : Int} (htn : M 330 17 = tn) (hg0 : 0 ≤ tn ∧ tn ≤ 400) : ax_G E l d iX12_readsShape [.inr 330] M (fun z0 M2 => z0 = some (.inl (f_ryb (f_rshp ta tn))) ∧ (∀ x0 i0 : Int, ¬ (x0 = 338 ∨ (x0 = 330 ∧ i0 = 16) ∨ (x0 = 330 ∧ i0 = 22) ∨ (x0 = 330 ∧ i0 = 23)) → M2 x0 i0 = M x0 i0) ∧ (f_hok fh (f_rshp ta tn) M2)) := by
  obtain ⟨d, rfl⟩ : ∃ d0, d = d0 + 1 := ⟨d - 1, by omega⟩
  refine ax_start rfl (Nat.le_of_ble_eq_true rfl) (ls := [some (.inr 330), none, none, none]) rfl (fun hav hcm => ?_)
  clear hav
  refine ax_aload_n dX12_readsShape_0 rfl rfl (pc' := 1) rfl ?_
  refine ax_iconst dX12_readsShape_1 (by decide) (pc' := 2) rfl ?_
  refine ax_puti dX12_readsShape_2 flX12_279 (Or.inl rfl) sh_330 rfl (pc' := 5) rfl ?_
  refine ax_iconst dX12_readsShape_5 (by decide) (pc' := 6) rfl ?_
  refine ax_istore_n dX12_readsShape_6 rfl (by decide) (ls' := [some (.inr 330), some (.inl 0), none, none]) rfl (pc' := 7) rfl ?_
  have LP1 : ∀ (kq2 : Nat) (i : Int) (f1 : Int → Int) (s1 : Int) (ls : List Int) (M1 : ax_Mem) (hm1 : tn - i < (kq2 : Nat)) (fr1 : ∀ x0 i0 : Int, ¬ (x0 = 338 ∨ (x0 = 330 ∧ i0 = 16)) → M1 x0 i0 = (ax_up M 330 16 0) x0 i0) (mr1_338 : M1 338 = f1) (ms1_330_16 : M1 330 16 = s1) (iv1_0 : 0 ≤ i ∧ i ≤ tn) (iv1_1 : f1 = f_putS fh 0 ls) (iv1_2 : s1 = (ls.length : Int) ∧ s1 ≤ 7) (iv1_3 : f_rshp ta tn = f_rsh ta (tn - i).toNat i ls), ax_W E l (d + 1) 0 0 iX12_readsShape 7 [some (.inr 330), some (.inl i), none, none] [] SH M1 (ax_P (fun z0 M2 => z0 = some (.inl (f_ryb (f_rshp ta tn))) ∧ (∀ x0 i0 : Int, ¬ (x0 = 338 ∨ (x0 = 330 ∧ i0 = 16) ∨ (x0 = 330 ∧ i0 = 22) ∨ (x0 = 330 ∧ i0 = 23)) → M2 x0 i0 = M x0 i0) ∧ (f_hok fh (f_rshp ta tn) M2))) := by
    intro kq2
    induction kq2 with
    | zero =>
      intro i f1 s1 ls M1 hm1 fr1 mr1_338 ms1_330_16 iv1_0 iv1_1 iv1_2 iv1_3
      exfalso
      omega
    | succ kq2 ih3 =>
      intro i f1 s1 ls M1 hm1 fr1 mr1_338 ms1_330_16 iv1_0 iv1_1 iv1_2 iv1_3
      refine ax_iload_n dX12_readsShape_7 rfl rfl (pc' := 8) rfl ?_
      refine ax_aload_n dX12_readsShape_8 rfl rfl (pc' := 9) rfl ?_
      refine ax_geti (v := tn) dX12_readsShape_9 flX12_120 rfl sh_330 (show M1 330 17 = tn from ((fr1 330 17 (fun h => h.elim (fun h => absurd h (by decide)) (fun h => absurd h.2 (by decide)))).trans (ax_up_miss (by decide) htn))) rfl (pc' := 12) rfl ?_
      refine ax_icmp_ge (tgt := 123) dX12_readsShape_12 (by decide) (pc' := 15) rfl (fun h12 => ?_) (fun h12 => ?_)
      · have qz : f_rshp ta tn = .inr ls := by
          rw [iv1_3, f_rsh_end (by omega)]
        refine ax_iconst dX12_readsShape_123 (by decide) (pc' := 124) rfl ?_
        refine ax_zret dX12_readsShape_124 rfl (by decide) ?_
        refine ⟨rfl, ?_, ?_, ?_⟩
        · refine congrArg (fun z => some (Sum.inl z)) ?_
          rw [qz]
          rfl
        · intro x0 i0 hai
          exact ((fr1 x0 i0 (fun h => h.elim (fun h => hai (Or.inl h)) (fun h => hai (Or.inr (Or.inl h))))).trans (ax_up_miss (fun h => hai (Or.inr (Or.inl h))) rfl))
        · rw [qz]
          exact ⟨Eq.trans mr1_338 iv1_1, Eq.trans ms1_330_16 iv1_2.1, by omega⟩
      · have qst : f_rshp ta tn = _ := iv1_3.trans (f_rsh_stp (by omega))
        refine ax_aload_n dX12_readsShape_15 rfl rfl (pc' := 16) rfl ?_
        refine ax_getr (v := 339) dX12_readsShape_16 flX12_34 rfl sh_330 rfl (pc' := 19) rfl ?_
        refine ax_iload_n dX12_readsShape_19 rfl rfl (pc' := 20) rfl ?_
        refine ax_iald (v := ta i) dX12_readsShape_20 sh_339 rfl (by omega) (by omega) ((congrFun ((funext fun i0 => fr1 339 i0 (fun h => h.elim (fun h => absurd h (by decide)) (fun h => absurd h.1 (by decide)))).trans (ax_up_rowmiss (by decide) hta)) i).trans rfl) (pc' := 21) rfl ?_
        refine ax_istore_n dX12_readsShape_21 rfl (by decide) (ls' := [some (.inr 330), some (.inl i), some (.inl (ta i)), none]) rfl (pc' := 22) rfl ?_
        refine ax_iload_n dX12_readsShape_22 rfl rfl (pc' := 23) rfl ?_
        refine ax_bipush dX12_readsShape_23 (by decide) (pc' := 25) rfl ?_
        refine ax_icmp_eq (tgt := 117) dX12_readsShape_25 (by decide) (pc' := 28) rfl (fun h25 => ?_) (fun h25 => ?_)
        · have qb : f_blk (ta i) := Or.inl h25
          obtain ⟨ls3, qls⟩ : ∃ z, z = ls := ⟨_, rfl⟩
          have qa1 : f1 = f_putS fh 0 ls3 := by
            rw [qls]
            exact iv1_1
          have qa2 : s1 = (ls3.length : Int) ∧ s1 ≤ 7 := by
            rw [qls]
            exact iv1_2
          have qa3 : f_rshp ta tn = f_rsh ta (tn - (i + 1)).toNat (i + 1) ls3 := by
            rw [qst, if_pos qb, qls]
          refine ax_iinc dX12_readsShape_117 rfl (by decide) (by omega) (ls' := [some (.inr 330), some (.inl (i + 1)), some (.inl (ta i)), none]) rfl (pc' := 120) rfl ?_
          refine ax_goto dX12_readsShape_120 (pc' := 7) (by decide) ?_
          refine ax_less (ls2 := [some (.inr 330), some (.inl (i + 1)), none, none]) [true, true, false, false] rfl ?_
          refine ih3 (i + 1) f1 s1 ls3 M1 ?_ ?_ ?_ ?_ ?_ ?_ ?_ ?_
          · omega
          · intro x0 i0 hai
            exact ((fr1 x0 i0 (fun h => h.elim (fun h => hai (Or.inl h)) (fun h => hai (Or.inr h)))).trans rfl)
          · exact mr1_338
          · exact ms1_330_16
          · omega
          · exact qa1
          · exact qa2
          · exact qa3
        · refine ax_iload_n dX12_readsShape_28 rfl rfl (pc' := 29) rfl ?_
          refine ax_bipush dX12_readsShape_29 (by decide) (pc' := 31) rfl ?_
          refine ax_icmp_ne (tgt := 37) dX12_readsShape_31 (by decide) (pc' := 34) rfl (fun h31 => ?_) (fun h31 => ?_)
          · have qnb : ¬ f_blk (ta i) := by
              unfold f_blk
              omega
            refine ax_iload_n dX12_readsShape_37 rfl rfl (pc' := 38) rfl ?_
            refine ax_bipush dX12_readsShape_38 (by decide) (pc' := 40) rfl ?_
            refine ax_icmp_ne (tgt := 47) dX12_readsShape_40 (by decide) (pc' := 43) rfl (fun h40 => ?_) (fun h40 => ?_)
            · refine ax_iload_n dX12_readsShape_47 rfl rfl (pc' := 48) rfl ?_
              refine ax_bipush dX12_readsShape_48 (by decide) (pc' := 50) rfl ?_
              refine ax_icmp_ne (tgt := 57) dX12_readsShape_50 (by decide) (pc' := 53) rfl (fun h50 => ?_) (fun h50 => ?_)
              · refine ax_iload_n dX12_readsShape_57 rfl rfl (pc' := 58) rfl ?_
                refine ax_bipush dX12_readsShape_58 (by decide) (pc' := 60) rfl ?_
                refine ax_icmp_ne (tgt := 67) dX12_readsShape_60 (by decide) (pc' := 63) rfl (fun h60 => ?_) (fun h60 => ?_)
                · refine ax_iconst dX12_readsShape_67 (by decide) (pc' := 68) rfl ?_
                  refine ax_istore_n dX12_readsShape_68 rfl (by decide) (ls' := [some (.inr 330), some (.inl i), some (.inl (ta i)), some (.inl (-1))]) rfl (pc' := 69) rfl ?_
                  refine ax_iload_n dX12_readsShape_69 rfl rfl (pc' := 70) rfl ?_
                  refine ax_iconst dX12_readsShape_70 (by decide) (pc' := 71) rfl ?_
                  refine ax_icmp_ne (tgt := 81) dX12_readsShape_71 (by decide) (pc' := 74) rfl (fun h71 => ?_) (fun h71 => ?_)
                  · exfalso
                    omega
                  · have ql : f_ltr (ta i) = -1 := by
                      unfold f_ltr
                      repeat' split
                      all_goals first | rfl | (exfalso; omega)
                    have qz : f_rshp ta tn = .inl (1, i) := by
                      rw [qst, if_neg qnb, if_pos ql]
                    refine ax_aload_n dX12_readsShape_74 rfl rfl (pc' := 75) rfl ?_
                    refine ax_iconst dX12_readsShape_75 (by decide) (pc' := 76) rfl ?_
                    refine ax_iload_n dX12_readsShape_76 rfl rfl (pc' := 77) rfl ?_
                    refine ax_invG [.inl 1, .inl i] [] dX12_readsShape_77 mlX12_301 sh_330 rfl rfl rfl (Nat.le_of_ble_eq_true rfl) (s_X12_wrongHere E l _ (by omega) _ 1 i) (pc' := 80) rfl (fun vv M_77 hq co77 hcm77 => ?_)
                    obtain ⟨rfl, frM_77, msM_77_0, msM_77_1⟩ := hq
                    refine ax_reS (st2 := [.inl 0]) rfl ?_
                    refine ax_zret dX12_readsShape_80 rfl (by decide) ?_
                    refine ⟨rfl, ?_, ?_, ?_⟩
                    · refine congrArg (fun z => some (Sum.inl z)) ?_
                      rw [qz]
                      rfl
                    · intro x0 i0 hai
                      exact ((frM_77 x0 i0 (fun h => h.elim (fun h => hai (Or.inr (Or.inr (Or.inl h)))) (fun h => hai (Or.inr (Or.inr (Or.inr h)))))).trans ((fr1 x0 i0 (fun h => h.elim (fun h => hai (Or.inl h)) (fun h => hai (Or.inr (Or.inl h))))).trans (ax_up_miss (fun h => hai (Or.inr (Or.inl h))) rfl)))
                    · rw [qz]
                      exact ⟨msM_77_0, msM_77_1⟩
                · refine ax_iconst dX12_readsShape_63 (by decide) (pc' := 64) rfl ?_
                  refine ax_goto dX12_readsShape_64 (pc' := 68) (by decide) ?_
                  refine ax_istore_n dX12_readsShape_68 rfl (by decide) (ls' := [some (.inr 330), some (.inl i), some (.inl (ta i)), some (.inl 2)]) rfl (pc' := 69) rfl ?_
                  refine ax_iload_n dX12_readsShape_69 rfl rfl (pc' := 70) rfl ?_
                  refine ax_iconst dX12_readsShape_70 (by decide) (pc' := 71) rfl ?_
                  refine ax_icmp_ne (tgt := 81) dX12_readsShape_71 (by decide) (pc' := 74) rfl (fun h71 => ?_) (fun h71 => ?_)
                  · have ql : f_ltr (ta i) = 2 := by
                      unfold f_ltr
                      repeat' split
                      all_goals first | rfl | (exfalso; omega)
                    refine ax_aload_n dX12_readsShape_81 rfl rfl (pc' := 82) rfl ?_
                    refine ax_geti (v := s1) dX12_readsShape_82 flX12_279 rfl sh_330 ms1_330_16 rfl (pc' := 85) rfl ?_
                    refine ax_bipush dX12_readsShape_85 (by decide) (pc' := 87) rfl ?_
                    refine ax_icmp_ne (tgt := 97) dX12_readsShape_87 (by decide) (pc' := 90) rfl (fun h87 => ?_) (fun h87 => ?_)
                    · obtain ⟨ls3, qls⟩ : ∃ z, z = ls ++ [f_ltr (ta i)] := ⟨_, rfl⟩
                      have qll : ls3.length = ls.length + 1 := by
                        rw [qls, List.length_append]
                        rfl
                      have qa3 : f_rshp ta tn = f_rsh ta (tn - (i + 1)).toNat (i + 1) ls3 := by
                        rw [qst, if_neg qnb, if_neg (by rw [ql]; decide), if_neg (by omega), qls]
                      refine ax_aload_n dX12_readsShape_97 rfl rfl (pc' := 98) rfl ?_
                      refine ax_getr (v := 338) dX12_readsShape_98 flX12_31 rfl sh_330 rfl (pc' := 101) rfl ?_
                      refine ax_aload_n dX12_readsShape_101 rfl rfl (pc' := 102) rfl ?_
                      refine ax_geti (v := s1) dX12_readsShape_102 flX12_279 rfl sh_330 ms1_330_16 rfl (pc' := 105) rfl ?_
                      refine ax_iload_n dX12_readsShape_105 rfl rfl (pc' := 106) rfl ?_
                      refine ax_iast dX12_readsShape_106 sh_338 rfl (by omega) (by omega) (pc' := 107) rfl ?_
                      refine ax_aload_n dX12_readsShape_107 rfl rfl (pc' := 108) rfl ?_
                      refine ax_dup dX12_readsShape_108 (pc' := 109) rfl ?_
                      refine ax_geti (v := s1) dX12_readsShape_109 flX12_279 rfl sh_330 (show (ax_up M1 338 s1 2) 330 16 = s1 from (ax_up_miss (fun h => absurd h.1 (by decide)) ms1_330_16)) rfl (pc' := 112) rfl ?_
                      refine ax_iconst dX12_readsShape_112 (by decide) (pc' := 113) rfl ?_
                      refine ax_iadd dX12_readsShape_113 (by omega) (pc' := 114) rfl ?_
                      refine ax_puti dX12_readsShape_114 flX12_279 (Or.inl rfl) sh_330 rfl (pc' := 117) rfl ?_
                      have qa1 : f_up f1 s1 2 = f_putS fh 0 ls3 := by
                        rw [qls, f_putS_snoc, ← iv1_1, ql, Int.zero_add, iv1_2.1]
                      have qa2 : s1 + 1 = (ls3.length : Int) ∧ s1 + 1 ≤ 7 := by omega
                      refine ax_iinc dX12_readsShape_117 rfl (by decide) (by omega) (ls' := [some (.inr 330), some (.inl (i + 1)), some (.inl (ta i)), some (.inl 2)]) rfl (pc' := 120) rfl ?_
                      refine ax_goto dX12_readsShape_120 (pc' := 7) (by decide) ?_
                      refine ax_less (ls2 := [some (.inr 330), some (.inl (i + 1)), none, none]) [true, true, false, false] rfl ?_
                      refine ih3 (i + 1) (f_up f1 s1 2) (s1 + 1) ls3 (ax_up (ax_up M1 338 s1 2) 330 16 (s1 + 1)) ?_ ?_ ?_ ?_ ?_ ?_ ?_ ?_
                      · omega
                      · intro x0 i0 hai
                        exact (ax_up_miss (fun h => hai (Or.inr h)) (ax_up_miss (fun h => hai (Or.inl h.1)) ((fr1 x0 i0 (fun h => h.elim (fun h => hai (Or.inl h)) (fun h => hai (Or.inr h)))).trans rfl)))
                      · exact (ax_up_rowmiss (by decide) (ax_up_rowhit mr1_338))
                      · exact (ax_up_hit _ _ _ _)
                      · omega
                      · exact qa1
                      · exact qa2
                      · exact qa3
                    · have qz : f_rshp ta tn = .inl (3, i) := by
                        rw [qst, if_neg qnb, if_neg (by rw [ql]; decide), if_pos (by omega)]
                      refine ax_aload_n dX12_readsShape_90 rfl rfl (pc' := 91) rfl ?_
                      refine ax_iconst dX12_readsShape_91 (by decide) (pc' := 92) rfl ?_
                      refine ax_iload_n dX12_readsShape_92 rfl rfl (pc' := 93) rfl ?_
                      refine ax_invG [.inl 3, .inl i] [] dX12_readsShape_93 mlX12_301 sh_330 rfl rfl rfl (Nat.le_of_ble_eq_true rfl) (s_X12_wrongHere E l _ (by omega) _ 3 i) (pc' := 96) rfl (fun vv M_93 hq co93 hcm93 => ?_)
                      obtain ⟨rfl, frM_93, msM_93_0, msM_93_1⟩ := hq
                      refine ax_reS (st2 := [.inl 0]) rfl ?_
                      refine ax_zret dX12_readsShape_96 rfl (by decide) ?_
                      refine ⟨rfl, ?_, ?_, ?_⟩
                      · refine congrArg (fun z => some (Sum.inl z)) ?_
                        rw [qz]
                        rfl
                      · intro x0 i0 hai
                        exact ((frM_93 x0 i0 (fun h => h.elim (fun h => hai (Or.inr (Or.inr (Or.inl h)))) (fun h => hai (Or.inr (Or.inr (Or.inr h)))))).trans ((fr1 x0 i0 (fun h => h.elim (fun h => hai (Or.inl h)) (fun h => hai (Or.inr (Or.inl h))))).trans (ax_up_miss (fun h => hai (Or.inr (Or.inl h))) rfl)))
                      · rw [qz]
                        exact ⟨msM_93_0, msM_93_1⟩
                  · exfalso
                    omega
              · refine ax_iconst dX12_readsShape_53 (by decide) (pc' := 54) rfl ?_
                refine ax_goto dX12_readsShape_54 (pc' := 68) (by decide) ?_
                refine ax_istore_n dX12_readsShape_68 rfl (by decide) (ls' := [some (.inr 330), some (.inl i), some (.inl (ta i)), some (.inl 1)]) rfl (pc' := 69) rfl ?_
                refine ax_iload_n dX12_readsShape_69 rfl rfl (pc' := 70) rfl ?_
                refine ax_iconst dX12_readsShape_70 (by decide) (pc' := 71) rfl ?_
                refine ax_icmp_ne (tgt := 81) dX12_readsShape_71 (by decide) (pc' := 74) rfl (fun h71 => ?_) (fun h71 => ?_)
                · have ql : f_ltr (ta i) = 1 := by
                    unfold f_ltr
                    repeat' split
                    all_goals first | rfl | (exfalso; omega)
                  refine ax_aload_n dX12_readsShape_81 rfl rfl (pc' := 82) rfl ?_
                  refine ax_geti (v := s1) dX12_readsShape_82 flX12_279 rfl sh_330 ms1_330_16 rfl (pc' := 85) rfl ?_
                  refine ax_bipush dX12_readsShape_85 (by decide) (pc' := 87) rfl ?_
                  refine ax_icmp_ne (tgt := 97) dX12_readsShape_87 (by decide) (pc' := 90) rfl (fun h87 => ?_) (fun h87 => ?_)
                  · obtain ⟨ls3, qls⟩ : ∃ z, z = ls ++ [f_ltr (ta i)] := ⟨_, rfl⟩
                    have qll : ls3.length = ls.length + 1 := by
                      rw [qls, List.length_append]
                      rfl
                    have qa3 : f_rshp ta tn = f_rsh ta (tn - (i + 1)).toNat (i + 1) ls3 := by
                      rw [qst, if_neg qnb, if_neg (by rw [ql]; decide), if_neg (by omega), qls]
                    refine ax_aload_n dX12_readsShape_97 rfl rfl (pc' := 98) rfl ?_
                    refine ax_getr (v := 338) dX12_readsShape_98 flX12_31 rfl sh_330 rfl (pc' := 101) rfl ?_
                    refine ax_aload_n dX12_readsShape_101 rfl rfl (pc' := 102) rfl ?_
                    refine ax_geti (v := s1) dX12_readsShape_102 flX12_279 rfl sh_330 ms1_330_16 rfl (pc' := 105) rfl ?_
                    refine ax_iload_n dX12_readsShape_105 rfl rfl (pc' := 106) rfl ?_
                    refine ax_iast dX12_readsShape_106 sh_338 rfl (by omega) (by omega) (pc' := 107) rfl ?_
                    refine ax_aload_n dX12_readsShape_107 rfl rfl (pc' := 108) rfl ?_
                    refine ax_dup dX12_readsShape_108 (pc' := 109) rfl ?_
                    refine ax_geti (v := s1) dX12_readsShape_109 flX12_279 rfl sh_330 (show (ax_up M1 338 s1 1) 330 16 = s1 from (ax_up_miss (fun h => absurd h.1 (by decide)) ms1_330_16)) rfl (pc' := 112) rfl ?_
                    refine ax_iconst dX12_readsShape_112 (by decide) (pc' := 113) rfl ?_
                    refine ax_iadd dX12_readsShape_113 (by omega) (pc' := 114) rfl ?_
                    refine ax_puti dX12_readsShape_114 flX12_279 (Or.inl rfl) sh_330 rfl (pc' := 117) rfl ?_
                    have qa1 : f_up f1 s1 1 = f_putS fh 0 ls3 := by
                      rw [qls, f_putS_snoc, ← iv1_1, ql, Int.zero_add, iv1_2.1]
                    have qa2 : s1 + 1 = (ls3.length : Int) ∧ s1 + 1 ≤ 7 := by omega
                    refine ax_iinc dX12_readsShape_117 rfl (by decide) (by omega) (ls' := [some (.inr 330), some (.inl (i + 1)), some (.inl (ta i)), some (.inl 1)]) rfl (pc' := 120) rfl ?_
                    refine ax_goto dX12_readsShape_120 (pc' := 7) (by decide) ?_
                    refine ax_less (ls2 := [some (.inr 330), some (.inl (i + 1)), none, none]) [true, true, false, false] rfl ?_
                    refine ih3 (i + 1) (f_up f1 s1 1) (s1 + 1) ls3 (ax_up (ax_up M1 338 s1 1) 330 16 (s1 + 1)) ?_ ?_ ?_ ?_ ?_ ?_ ?_ ?_
                    · omega
                    · intro x0 i0 hai
                      exact (ax_up_miss (fun h => hai (Or.inr h)) (ax_up_miss (fun h => hai (Or.inl h.1)) ((fr1 x0 i0 (fun h => h.elim (fun h => hai (Or.inl h)) (fun h => hai (Or.inr h)))).trans rfl)))
                    · exact (ax_up_rowmiss (by decide) (ax_up_rowhit mr1_338))
                    · exact (ax_up_hit _ _ _ _)
                    · omega
                    · exact qa1
                    · exact qa2
                    · exact qa3
                  · have qz : f_rshp ta tn = .inl (3, i) := by
                      rw [qst, if_neg qnb, if_neg (by rw [ql]; decide), if_pos (by omega)]
                    refine ax_aload_n dX12_readsShape_90 rfl rfl (pc' := 91) rfl ?_
                    refine ax_iconst dX12_readsShape_91 (by decide) (pc' := 92) rfl ?_
                    refine ax_iload_n dX12_readsShape_92 rfl rfl (pc' := 93) rfl ?_
                    refine ax_invG [.inl 3, .inl i] [] dX12_readsShape_93 mlX12_301 sh_330 rfl rfl rfl (Nat.le_of_ble_eq_true rfl) (s_X12_wrongHere E l _ (by omega) _ 3 i) (pc' := 96) rfl (fun vv M_93 hq co93 hcm93 => ?_)
                    obtain ⟨rfl, frM_93, msM_93_0, msM_93_1⟩ := hq
                    refine ax_reS (st2 := [.inl 0]) rfl ?_
                    refine ax_zret dX12_readsShape_96 rfl (by decide) ?_
                    refine ⟨rfl, ?_, ?_, ?_⟩
                    · refine congrArg (fun z => some (Sum.inl z)) ?_
                      rw [qz]
                      rfl
                    · intro x0 i0 hai
                      exact ((frM_93 x0 i0 (fun h => h.elim (fun h => hai (Or.inr (Or.inr (Or.inl h)))) (fun h => hai (Or.inr (Or.inr (Or.inr h)))))).trans ((fr1 x0 i0 (fun h => h.elim (fun h => hai (Or.inl h)) (fun h => hai (Or.inr (Or.inl h))))).trans (ax_up_miss (fun h => hai (Or.inr (Or.inl h))) rfl)))
                    · rw [qz]
                      exact ⟨msM_93_0, msM_93_1⟩
                · exfalso
                  omega
            · refine ax_iconst dX12_readsShape_43 (by decide) (pc' := 44) rfl ?_
              refine ax_goto dX12_readsShape_44 (pc' := 68) (by decide) ?_
              refine ax_istore_n dX12_readsShape_68 rfl (by decide) (ls' := [some (.inr 330), some (.inl i), some (.inl (ta i)), some (.inl 0)]) rfl (pc' := 69) rfl ?_
              refine ax_iload_n dX12_readsShape_69 rfl rfl (pc' := 70) rfl ?_
              refine ax_iconst dX12_readsShape_70 (by decide) (pc' := 71) rfl ?_
              refine ax_icmp_ne (tgt := 81) dX12_readsShape_71 (by decide) (pc' := 74) rfl (fun h71 => ?_) (fun h71 => ?_)
              · have ql : f_ltr (ta i) = 0 := by
                  unfold f_ltr
                  repeat' split
                  all_goals first | rfl | (exfalso; omega)
                refine ax_aload_n dX12_readsShape_81 rfl rfl (pc' := 82) rfl ?_
                refine ax_geti (v := s1) dX12_readsShape_82 flX12_279 rfl sh_330 ms1_330_16 rfl (pc' := 85) rfl ?_
                refine ax_bipush dX12_readsShape_85 (by decide) (pc' := 87) rfl ?_
                refine ax_icmp_ne (tgt := 97) dX12_readsShape_87 (by decide) (pc' := 90) rfl (fun h87 => ?_) (fun h87 => ?_)
                · obtain ⟨ls3, qls⟩ : ∃ z, z = ls ++ [f_ltr (ta i)] := ⟨_, rfl⟩
                  have qll : ls3.length = ls.length + 1 := by
                    rw [qls, List.length_append]
                    rfl
                  have qa3 : f_rshp ta tn = f_rsh ta (tn - (i + 1)).toNat (i + 1) ls3 := by
                    rw [qst, if_neg qnb, if_neg (by rw [ql]; decide), if_neg (by omega), qls]
                  refine ax_aload_n dX12_readsShape_97 rfl rfl (pc' := 98) rfl ?_
                  refine ax_getr (v := 338) dX12_readsShape_98 flX12_31 rfl sh_330 rfl (pc' := 101) rfl ?_
                  refine ax_aload_n dX12_readsShape_101 rfl rfl (pc' := 102) rfl ?_
                  refine ax_geti (v := s1) dX12_readsShape_102 flX12_279 rfl sh_330 ms1_330_16 rfl (pc' := 105) rfl ?_
                  refine ax_iload_n dX12_readsShape_105 rfl rfl (pc' := 106) rfl ?_
                  refine ax_iast dX12_readsShape_106 sh_338 rfl (by omega) (by omega) (pc' := 107) rfl ?_
                  refine ax_aload_n dX12_readsShape_107 rfl rfl (pc' := 108) rfl ?_
                  refine ax_dup dX12_readsShape_108 (pc' := 109) rfl ?_
                  refine ax_geti (v := s1) dX12_readsShape_109 flX12_279 rfl sh_330 (show (ax_up M1 338 s1 0) 330 16 = s1 from (ax_up_miss (fun h => absurd h.1 (by decide)) ms1_330_16)) rfl (pc' := 112) rfl ?_
                  refine ax_iconst dX12_readsShape_112 (by decide) (pc' := 113) rfl ?_
                  refine ax_iadd dX12_readsShape_113 (by omega) (pc' := 114) rfl ?_
                  refine ax_puti dX12_readsShape_114 flX12_279 (Or.inl rfl) sh_330 rfl (pc' := 117) rfl ?_
                  have qa1 : f_up f1 s1 0 = f_putS fh 0 ls3 := by
                    rw [qls, f_putS_snoc, ← iv1_1, ql, Int.zero_add, iv1_2.1]
                  have qa2 : s1 + 1 = (ls3.length : Int) ∧ s1 + 1 ≤ 7 := by omega
                  refine ax_iinc dX12_readsShape_117 rfl (by decide) (by omega) (ls' := [some (.inr 330), some (.inl (i + 1)), some (.inl (ta i)), some (.inl 0)]) rfl (pc' := 120) rfl ?_
                  refine ax_goto dX12_readsShape_120 (pc' := 7) (by decide) ?_
                  refine ax_less (ls2 := [some (.inr 330), some (.inl (i + 1)), none, none]) [true, true, false, false] rfl ?_
                  refine ih3 (i + 1) (f_up f1 s1 0) (s1 + 1) ls3 (ax_up (ax_up M1 338 s1 0) 330 16 (s1 + 1)) ?_ ?_ ?_ ?_ ?_ ?_ ?_ ?_
                  · omega
                  · intro x0 i0 hai
                    exact (ax_up_miss (fun h => hai (Or.inr h)) (ax_up_miss (fun h => hai (Or.inl h.1)) ((fr1 x0 i0 (fun h => h.elim (fun h => hai (Or.inl h)) (fun h => hai (Or.inr h)))).trans rfl)))
                  · exact (ax_up_rowmiss (by decide) (ax_up_rowhit mr1_338))
                  · exact (ax_up_hit _ _ _ _)
                  · omega
                  · exact qa1
                  · exact qa2
                  · exact qa3
                · have qz : f_rshp ta tn = .inl (3, i) := by
                    rw [qst, if_neg qnb, if_neg (by rw [ql]; decide), if_pos (by omega)]
                  refine ax_aload_n dX12_readsShape_90 rfl rfl (pc' := 91) rfl ?_
                  refine ax_iconst dX12_readsShape_91 (by decide) (pc' := 92) rfl ?_
                  refine ax_iload_n dX12_readsShape_92 rfl rfl (pc' := 93) rfl ?_
                  refine ax_invG [.inl 3, .inl i] [] dX12_readsShape_93 mlX12_301 sh_330 rfl rfl rfl (Nat.le_of_ble_eq_true rfl) (s_X12_wrongHere E l _ (by omega) _ 3 i) (pc' := 96) rfl (fun vv M_93 hq co93 hcm93 => ?_)
                  obtain ⟨rfl, frM_93, msM_93_0, msM_93_1⟩ := hq
                  refine ax_reS (st2 := [.inl 0]) rfl ?_
                  refine ax_zret dX12_readsShape_96 rfl (by decide) ?_
                  refine ⟨rfl, ?_, ?_, ?_⟩
                  · refine congrArg (fun z => some (Sum.inl z)) ?_
                    rw [qz]
                    rfl
                  · intro x0 i0 hai
                    exact ((frM_93 x0 i0 (fun h => h.elim (fun h => hai (Or.inr (Or.inr (Or.inl h)))) (fun h => hai (Or.inr (Or.inr (Or.inr h)))))).trans ((fr1 x0 i0 (fun h => h.elim (fun h => hai (Or.inl h)) (fun h => hai (Or.inr (Or.inl h))))).trans (ax_up_miss (fun h => hai (Or.inr (Or.inl h))) rfl)))
                  · rw [qz]
                    exact ⟨msM_93_0, msM_93_1⟩
              · exfalso
                omega
          · have qb : f_blk (ta i) := Or.inr h31
            refine ax_goto dX12_readsShape_34 (pc' := 117) (by decide) ?_
            obtain ⟨ls3, qls⟩ : ∃ z, z = ls := ⟨_, rfl⟩
            have qa1 : f1 = f_putS fh 0 ls3 := by
              rw [qls]
              exact iv1_1
            have qa2 : s1 = (ls3.length : Int) ∧ s1 ≤ 7 := by
              rw [qls]
              exact iv1_2
            have qa3 : f_rshp ta tn = f_rsh ta (tn - (i + 1)).toNat (i + 1) ls3 := by
              rw [qst, if_pos qb, qls]
            refine ax_iinc dX12_readsShape_117 rfl (by decide) (by omega) (ls' := [some (.inr 330), some (.inl (i + 1)), some (.inl (ta i)), none]) rfl (pc' := 120) rfl ?_
            refine ax_goto dX12_readsShape_120 (pc' := 7) (by decide) ?_
            refine ax_less (ls2 := [some (.inr 330), some (.inl (i + 1)), none, none]) [true, true, false, false] rfl ?_
            refine ih3 (i + 1) f1 s1 ls3 M1 ?_ ?_ ?_ ?_ ?_ ?_ ?_ ?_
            · omega
            · intro x0 i0 hai
              exact ((fr1 x0 i0 (fun h => h.elim (fun h => hai (Or.inl h)) (fun h => hai (Or.inr h)))).trans rfl)
            · exact mr1_338
            · exact ms1_330_16
            · omega
            · exact qa1
            · exact qa2
            · exact qa3
  refine LP1 (tn - 0 : Int).toNat.succ 0 fh 0 ([]) (ax_up M 330 16 0) ?_ ?_ ?_ ?_ ?_ ?_ ?_ ?_
  · omega
  · exact fun a i _ => rfl
  · exact (ax_up_rowmiss (by decide) hfh)
  · exact (ax_up_hit _ _ _ _)
  · omega
  · rfl
  · exact ⟨rfl, by decide⟩
  · unfold f_rshp
    rw [Int.sub_zero]
set_option maxRecDepth 20000 in
theorem s_reads_lw (E : ax_Env) (l : Launch) (d : Nat) (hd : 42 ≤ d) (M : ax_Mem) (k : Int) (L : List f_Tk) {ta : Int → Int} (hta : M 339 = ta) {fs : Int → Int} (hfs : M 336 = fs) {fl : Int → Int} (hfl : M 335 = fl) {p0 : Int} (hp0 : M 330 18 = p0) {tn : Int} (htn : M 330 17 = tn) {rd : Int} (hrd : M 330 13 = rd) {v0 : Int} (hv0 : M 330 21 = v0) {dp : Int} (hdp : M 330 25 = dp) (hg0 : 0 ≤ tn ∧ tn ≤ 400) (hg1 : f_tp ta tn) (hg2 : f_lx ta tn rd p0 v0 L) (hg3 : 0 ≤ v0 ∧ v0 ≤ 9999 ∧ p0 = 0) (hg4 : (L.length : Int) ≤ 405) (hg5 : k < 3) : ax_G E l d iX12_reads [.inr 330, .inl k] M (fun z0 M2 => z0 = some (.inl (f_rwb (f_laws L))) ∧ (∀ x0 i0 : Int, ¬ (x0 = 336 ∨ (x0 = 330 ∧ i0 = 15) ∨ (x0 = 330 ∧ i0 = 18) ∨ (x0 = 330 ∧ i0 = 19) ∨ (x0 = 330 ∧ i0 = 20) ∨ (x0 = 330 ∧ i0 = 21) ∨ (x0 = 330 ∧ i0 = 22) ∨ (x0 = 330 ∧ i0 = 23) ∨ x0 = 335 ∨ (x0 = 330 ∧ i0 = 25) ∨ (x0 = 330 ∧ i0 = 14)) → M2 x0 i0 = M x0 i0) ∧ (f_wok fs fl (f_laws L) M2) ∧ (0 ≤ M2 330 21 ∧ M2 330 21 ≤ 9999)) := by
  obtain ⟨d, rfl⟩ : ∃ d0, d = d0 + 1 := ⟨d - 1, by omega⟩
  refine ax_start rfl (Nat.le_of_ble_eq_true rfl) (ls := [some (.inr 330), some (.inl k)]) rfl (fun hav hcm => ?_)
  have hc1 : -2147483648 ≤ k ∧ k < 2147483648 := hav (.inl k) (by simp)
  clear hav
  have qcu := f_lx_cur (ta := ta) (tn := tn) (rd := rd) (p := p0) (v := v0) (by omega) hg2
  have qR := f_cur_rg qcu
  refine ax_iload_n dX12_reads_0 rfl rfl (pc' := 1) rfl ?_
  refine ax_iconst dX12_reads_1 (by decide) (pc' := 2) rfl ?_
  refine ax_icmp_le (tgt := 10) dX12_reads_2 (by decide) (pc' := 5) rfl (fun h2 => ?_) (fun h2 => ?_)
  · refine ax_aload_n dX12_reads_10 rfl rfl (pc' := 11) rfl ?_
    refine ax_invG [] [] dX12_reads_11 mlX12_232 sh_330 rfl rfl rfl (Nat.le_of_ble_eq_true rfl) (s_X12_next0 E l _ (by omega) _ hta hp0 htn hrd hv0 (by first | omega | assumption) (by first | omega | assumption)) (pc' := 14) rfl (fun vv M_11 hq co11 hcm11 => ?_)
    obtain ⟨rfl, frM_11, msM_11_0, msM_11_1, msM_11_2, msM_11_3⟩ := hq
    refine ax_reS (st2 := []) rfl ?_
    refine ax_iload_n dX12_reads_14 rfl rfl (pc' := 15) rfl ?_
    refine ax_iconst dX12_reads_15 (by decide) (pc' := 16) rfl ?_
    refine ax_icmp_ne (tgt := 26) dX12_reads_16 (by decide) (pc' := 19) rfl (fun h16 => ?_) (fun h16 => ?_)
    · refine ax_aload_n dX12_reads_26 rfl rfl (pc' := 27) rfl ?_
      refine ax_invG [] [] dX12_reads_27 mlX12_310 sh_330 rfl rfl rfl (Nat.le_of_ble_eq_true rfl) (s_X12_readsLaw E l _ (by omega) _ L ((funext fun i0 => frM_11 339 i0 (fun h => h.elim (fun h => absurd h.1 (by decide)) (fun h => h.elim (fun h => absurd h.1 (by decide)) (fun h => h.elim (fun h => absurd h.1 (by decide)) (fun h => absurd h.1 (by decide)))))).trans hta) ((funext fun i0 => frM_11 336 i0 (fun h => h.elim (fun h => absurd h.1 (by decide)) (fun h => h.elim (fun h => absurd h.1 (by decide)) (fun h => h.elim (fun h => absurd h.1 (by decide)) (fun h => absurd h.1 (by decide)))))).trans hfs) ((funext fun i0 => frM_11 335 i0 (fun h => h.elim (fun h => absurd h.1 (by decide)) (fun h => h.elim (fun h => absurd h.1 (by decide)) (fun h => h.elim (fun h => absurd h.1 (by decide)) (fun h => absurd h.1 (by decide)))))).trans hfl) msM_11_0 msM_11_1 msM_11_2 msM_11_3 ((frM_11 330 25 (fun h => h.elim (fun h => absurd h.2 (by decide)) (fun h => h.elim (fun h => absurd h.2 (by decide)) (fun h => h.elim (fun h => absurd h.2 (by decide)) (fun h => absurd h.2 (by decide)))))).trans hdp) ((frM_11 330 17 (fun h => h.elim (fun h => absurd h.2 (by decide)) (fun h => h.elim (fun h => absurd h.2 (by decide)) (fun h => h.elim (fun h => absurd h.2 (by decide)) (fun h => absurd h.2 (by decide)))))).trans htn) ((frM_11 330 13 (fun h => h.elim (fun h => absurd h.2 (by decide)) (fun h => h.elim (fun h => absurd h.2 (by decide)) (fun h => h.elim (fun h => absurd h.2 (by decide)) (fun h => absurd h.2 (by decide)))))).trans hrd) (by first | omega | assumption) (by first | omega | assumption) qcu (by first | omega | assumption)) (pc' := 30) rfl (fun vv M_27 hq co27 hcm27 => ?_)
      obtain ⟨rfl, frM_27, fa27_0, fa27_1⟩ := hq
      refine ax_reS (st2 := [.inl (f_rwb (f_laws L))]) rfl ?_
      have cc27 : -2147483648 ≤ f_rwb (f_laws L) ∧ f_rwb (f_laws L) < 2147483648 := co27 _ rfl
      refine ax_zret dX12_reads_30 rfl (f_rwb_01 _) ?_
      refine ⟨rfl, ?_, ?_, ?_, ?_⟩
      · rfl
      · intro x0 i0 hai
        exact ((frM_27 x0 i0 (fun h => h.elim (fun h => hai (Or.inl h)) (fun h => h.elim (fun h => hai (Or.inr (Or.inl h))) (fun h => h.elim (fun h => hai (Or.inr (Or.inr (Or.inl h)))) (fun h => h.elim (fun h => hai (Or.inr (Or.inr (Or.inr (Or.inl h))))) (fun h => h.elim (fun h => hai (Or.inr (Or.inr (Or.inr (Or.inr (Or.inl h)))))) (fun h => h.elim (fun h => hai (Or.inr (Or.inr (Or.inr (Or.inr (Or.inr (Or.inl h))))))) (fun h => h.elim (fun h => hai (Or.inr (Or.inr (Or.inr (Or.inr (Or.inr (Or.inr (Or.inl h)))))))) (fun h => h.elim (fun h => hai (Or.inr (Or.inr (Or.inr (Or.inr (Or.inr (Or.inr (Or.inr (Or.inl h))))))))) (fun h => h.elim (fun h => hai (Or.inr (Or.inr (Or.inr (Or.inr (Or.inr (Or.inr (Or.inr (Or.inr (Or.inl h)))))))))) (fun h => h.elim (fun h => hai (Or.inr (Or.inr (Or.inr (Or.inr (Or.inr (Or.inr (Or.inr (Or.inr (Or.inr (Or.inl h))))))))))) (fun h => hai (Or.inr (Or.inr (Or.inr (Or.inr (Or.inr (Or.inr (Or.inr (Or.inr (Or.inr (Or.inr h)))))))))))))))))))))).trans ((frM_11 x0 i0 (fun h => h.elim (fun h => hai (Or.inr (Or.inr (Or.inl h)))) (fun h => h.elim (fun h => hai (Or.inr (Or.inr (Or.inr (Or.inl h))))) (fun h => h.elim (fun h => hai (Or.inr (Or.inr (Or.inr (Or.inr (Or.inl h)))))) (fun h => hai (Or.inr (Or.inr (Or.inr (Or.inr (Or.inr (Or.inl h))))))))))).trans rfl))
      · exact fa27_0
      · exact fa27_1
    · exfalso
      omega
  · exfalso
    omega
set_option maxRecDepth 20000 in
theorem s_reads_dr (E : ax_Env) (l : Launch) (d : Nat) (hd : 42 ≤ d) (M : ax_Mem) (k : Int) (L : List f_Tk) {ta : Int → Int} (hta : M 339 = ta) {fd : Int → Int} (hfd : M 337 = fd) {p0 : Int} (hp0 : M 330 18 = p0) {tn : Int} (htn : M 330 17 = tn) {rd : Int} (hrd : M 330 13 = rd) {v0 : Int} (hv0 : M 330 21 = v0) (hg0 : 0 ≤ tn ∧ tn ≤ 400) (hg1 : f_tp ta tn) (hg2 : f_lx ta tn rd p0 v0 L) (hg3 : 0 ≤ v0 ∧ v0 ≤ 9999 ∧ p0 = 0) (hg4 : (L.length : Int) ≤ 405) (hg5 : k = 3) : ax_G E l d iX12_reads [.inr 330, .inl k] M (fun z0 M2 => z0 = some (.inl (f_rqb (f_drl L))) ∧ (∀ x0 i0 : Int, ¬ ((x0 = 330 ∧ i0 = 18) ∨ (x0 = 330 ∧ i0 = 19) ∨ (x0 = 330 ∧ i0 = 20) ∨ (x0 = 330 ∧ i0 = 21) ∨ (x0 = 330 ∧ i0 = 22) ∨ (x0 = 330 ∧ i0 = 23) ∨ x0 = 337 ∨ (x0 = 330 ∧ i0 = 16) ∨ (x0 = 330 ∧ i0 = 27)) → M2 x0 i0 = M x0 i0) ∧ (f_qok fd (f_drl L) M2) ∧ (0 ≤ M2 330 21 ∧ M2 330 21 ≤ 9999)) := by
  obtain ⟨d, rfl⟩ : ∃ d0, d = d0 + 1 := ⟨d - 1, by omega⟩
  refine ax_start rfl (Nat.le_of_ble_eq_true rfl) (ls := [some (.inr 330), some (.inl k)]) rfl (fun hav hcm => ?_)
  have hc1 : -2147483648 ≤ k ∧ k < 2147483648 := hav (.inl k) (by simp)
  clear hav
  have qcu := f_lx_cur (ta := ta) (tn := tn) (rd := rd) (p := p0) (v := v0) (by omega) hg2
  have qR := f_cur_rg qcu
  refine ax_iload_n dX12_reads_0 rfl rfl (pc' := 1) rfl ?_
  refine ax_iconst dX12_reads_1 (by decide) (pc' := 2) rfl ?_
  refine ax_icmp_le (tgt := 10) dX12_reads_2 (by decide) (pc' := 5) rfl (fun h2 => ?_) (fun h2 => ?_)
  · refine ax_aload_n dX12_reads_10 rfl rfl (pc' := 11) rfl ?_
    refine ax_invG [] [] dX12_reads_11 mlX12_232 sh_330 rfl rfl rfl (Nat.le_of_ble_eq_true rfl) (s_X12_next0 E l _ (by omega) _ hta hp0 htn hrd hv0 (by first | omega | assumption) (by first | omega | assumption)) (pc' := 14) rfl (fun vv M_11 hq co11 hcm11 => ?_)
    obtain ⟨rfl, frM_11, msM_11_0, msM_11_1, msM_11_2, msM_11_3⟩ := hq
    refine ax_reS (st2 := []) rfl ?_
    refine ax_iload_n dX12_reads_14 rfl rfl (pc' := 15) rfl ?_
    refine ax_iconst dX12_reads_15 (by decide) (pc' := 16) rfl ?_
    refine ax_icmp_ne (tgt := 26) dX12_reads_16 (by decide) (pc' := 19) rfl (fun h16 => ?_) (fun h16 => ?_)
    · exfalso
      omega
    · refine ax_aload_n dX12_reads_19 rfl rfl (pc' := 20) rfl ?_
      refine ax_invG [] [] dX12_reads_20 mlX12_307 sh_330 rfl rfl rfl (Nat.le_of_ble_eq_true rfl) (s_X12_readsDrill E l _ (by omega) _ L ((funext fun i0 => frM_11 339 i0 (fun h => h.elim (fun h => absurd h.1 (by decide)) (fun h => h.elim (fun h => absurd h.1 (by decide)) (fun h => h.elim (fun h => absurd h.1 (by decide)) (fun h => absurd h.1 (by decide)))))).trans hta) ((funext fun i0 => frM_11 337 i0 (fun h => h.elim (fun h => absurd h.1 (by decide)) (fun h => h.elim (fun h => absurd h.1 (by decide)) (fun h => h.elim (fun h => absurd h.1 (by decide)) (fun h => absurd h.1 (by decide)))))).trans hfd) msM_11_0 msM_11_1 msM_11_2 msM_11_3 ((frM_11 330 17 (fun h => h.elim (fun h => absurd h.2 (by decide)) (fun h => h.elim (fun h => absurd h.2 (by decide)) (fun h => h.elim (fun h => absurd h.2 (by decide)) (fun h => absurd h.2 (by decide)))))).trans htn) ((frM_11 330 13 (fun h => h.elim (fun h => absurd h.2 (by decide)) (fun h => h.elim (fun h => absurd h.2 (by decide)) (fun h => h.elim (fun h => absurd h.2 (by decide)) (fun h => absurd h.2 (by decide)))))).trans hrd) (by first | omega | assumption) (by first | omega | assumption) qcu (by first | omega | assumption)) (pc' := 23) rfl (fun vv M_20 hq co20 hcm20 => ?_)
      obtain ⟨rfl, frM_20, fa20_0, fa20_1⟩ := hq
      refine ax_reS (st2 := [.inl (f_rqb (f_drl L))]) rfl ?_
      have cc20 : -2147483648 ≤ f_rqb (f_drl L) ∧ f_rqb (f_drl L) < 2147483648 := co20 _ rfl
      refine ax_goto dX12_reads_23 (pc' := 30) (by decide) ?_
      refine ax_zret dX12_reads_30 rfl (f_rqb_01 _) ?_
      refine ⟨rfl, ?_, ?_, ?_, ?_⟩
      · rfl
      · intro x0 i0 hai
        exact ((frM_20 x0 i0 (fun h => h.elim (fun h => hai (Or.inl h)) (fun h => h.elim (fun h => hai (Or.inr (Or.inl h))) (fun h => h.elim (fun h => hai (Or.inr (Or.inr (Or.inl h)))) (fun h => h.elim (fun h => hai (Or.inr (Or.inr (Or.inr (Or.inl h))))) (fun h => h.elim (fun h => hai (Or.inr (Or.inr (Or.inr (Or.inr (Or.inl h)))))) (fun h => h.elim (fun h => hai (Or.inr (Or.inr (Or.inr (Or.inr (Or.inr (Or.inl h))))))) (fun h => h.elim (fun h => hai (Or.inr (Or.inr (Or.inr (Or.inr (Or.inr (Or.inr (Or.inl h)))))))) (fun h => h.elim (fun h => hai (Or.inr (Or.inr (Or.inr (Or.inr (Or.inr (Or.inr (Or.inr (Or.inl h))))))))) (fun h => hai (Or.inr (Or.inr (Or.inr (Or.inr (Or.inr (Or.inr (Or.inr (Or.inr h)))))))))))))))))).trans ((frM_11 x0 i0 (fun h => h.elim (fun h => hai (Or.inl h)) (fun h => h.elim (fun h => hai (Or.inr (Or.inl h))) (fun h => h.elim (fun h => hai (Or.inr (Or.inr (Or.inl h)))) (fun h => hai (Or.inr (Or.inr (Or.inr (Or.inl h))))))))).trans rfl))
      · exact fa20_0
      · exact fa20_1
  · exfalso
    omega
set_option maxRecDepth 20000 in
theorem s_reads_sh (E : ax_Env) (l : Launch) (d : Nat) (hd : 42 ≤ d) (M : ax_Mem) (k : Int) {ta : Int → Int} (hta : M 339 = ta) {fh : Int → Int} (hfh : M 338 = fh) {tn : Int} (htn : M 330 17 = tn) (hg0 : 0 ≤ tn ∧ tn ≤ 400) (hg1 : 3 < k) : ax_G E l d iX12_reads [.inr 330, .inl k] M (fun z0 M2 => z0 = some (.inl (f_ryb (f_rshp ta tn))) ∧ (∀ x0 i0 : Int, ¬ (x0 = 338 ∨ (x0 = 330 ∧ i0 = 16) ∨ (x0 = 330 ∧ i0 = 22) ∨ (x0 = 330 ∧ i0 = 23)) → M2 x0 i0 = M x0 i0) ∧ (f_hok fh (f_rshp ta tn) M2)) := by
  obtain ⟨d, rfl⟩ : ∃ d0, d = d0 + 1 := ⟨d - 1, by omega⟩
  refine ax_start rfl (Nat.le_of_ble_eq_true rfl) (ls := [some (.inr 330), some (.inl k)]) rfl (fun hav hcm => ?_)
  have hc1 : -2147483648 ≤ k ∧ k < 2147483648 := hav (.inl k) (by simp)
  clear hav
  refine ax_iload_n dX12_reads_0 rfl rfl (pc' := 1) rfl ?_
  refine ax_iconst dX12_reads_1 (by decide) (pc' := 2) rfl ?_
  refine ax_icmp_le (tgt := 10) dX12_reads_2 (by decide) (pc' := 5) rfl (fun h2 => ?_) (fun h2 => ?_)
  · exfalso
    omega
  · refine ax_aload_n dX12_reads_5 rfl rfl (pc' := 6) rfl ?_
    refine ax_invG [] [] dX12_reads_6 mlX12_304 sh_330 rfl rfl rfl (Nat.le_of_ble_eq_true rfl) (s_X12_readsShape E l _ (by omega) _ hta hfh htn (by first | omega | assumption)) (pc' := 9) rfl (fun vv M_6 hq co6 hcm6 => ?_)
    obtain ⟨rfl, frM_6, fa6_0⟩ := hq
    refine ax_reS (st2 := [.inl (f_ryb (f_rshp ta tn))]) rfl ?_
    have cc6 : -2147483648 ≤ f_ryb (f_rshp ta tn) ∧ f_ryb (f_rshp ta tn) < 2147483648 := co6 _ rfl
    refine ax_zret dX12_reads_9 rfl (f_ryb_01 _) ?_
    refine ⟨rfl, ?_, ?_, ?_⟩
    · rfl
    · intro x0 i0 hai
      exact ((frM_6 x0 i0 (fun h => h.elim (fun h => hai (Or.inl h)) (fun h => h.elim (fun h => hai (Or.inr (Or.inl h))) (fun h => h.elim (fun h => hai (Or.inr (Or.inr (Or.inl h)))) (fun h => hai (Or.inr (Or.inr (Or.inr h)))))))).trans rfl)
    · exact fa6_0
set_option maxRecDepth 20000 in
theorem s_text_bad (E : ax_Env) (l : Launch) (d : Nat) (hd : 43 ≤ d) (M : ax_Mem) (k : Int) (hg0 : ¬ (0 ≤ k ∧ k ≤ 7)) : ax_G E l d iX12_text [.inr 330, .inl k] M (fun z0 M2 => z0 = some (.inl (-1)) ∧ (∀ x0 i0 : Int, ¬ ((x0 = 330 ∧ i0 = 17) ∨ (x0 = 330 ∧ i0 = 24) ∨ (x0 = 330 ∧ i0 = 26)) → M2 x0 i0 = M x0 i0) ∧ M2 330 17 = 0 ∧ M2 330 24 = 0 ∧ M2 330 26 = -1) := by
  obtain ⟨d, rfl⟩ : ∃ d0, d = d0 + 1 := ⟨d - 1, by omega⟩
  refine ax_start rfl (Nat.le_of_ble_eq_true rfl) (ls := [some (.inr 330), some (.inl k), none]) rfl (fun hav hcm => ?_)
  have hc1 : -2147483648 ≤ k ∧ k < 2147483648 := hav (.inl k) (by simp)
  clear hav
  refine ax_aload_n dX12_text_0 rfl rfl (pc' := 1) rfl ?_
  refine ax_iconst dX12_text_1 (by decide) (pc' := 2) rfl ?_
  refine ax_puti dX12_text_2 flX12_313 (Or.inl rfl) sh_330 rfl (pc' := 5) rfl ?_
  refine ax_aload_n dX12_text_5 rfl rfl (pc' := 6) rfl ?_
  refine ax_iconst dX12_text_6 (by decide) (pc' := 7) rfl ?_
  refine ax_puti dX12_text_7 flX12_43 (Or.inl rfl) sh_330 rfl (pc' := 10) rfl ?_
  refine ax_iload_n dX12_text_10 rfl rfl (pc' := 11) rfl ?_
  refine ax_iconst dX12_text_11 (by decide) (pc' := 12) rfl ?_
  refine ax_bipush dX12_text_12 (by decide) (pc' := 14) rfl ?_
  refine ax_insG [.inl k, .inl 0, .inl 7] [] dX12_text_14 mlX12_74 rfl rfl (Nat.le_of_ble_eq_true rfl) (s_X12_isIn E l _ (by omega) _ k 0 7) (pc' := 17) rfl (fun vv M_14 hq co14 hcm14 => ?_)
  obtain ⟨rfl, rfl⟩ := hq
  refine ax_reS (st2 := [.inl (f_b (0 ≤ k ∧ k ≤ 7))]) rfl ?_
  refine ax_if_ne (tgt := 27) dX12_text_17 (by decide) (pc' := 20) rfl (fun h17 => ?_) (fun h17 => ?_)
  · replace h17 := f_b_1 h17
    exfalso
    exact hg0 h17
  · replace h17 := f_b_0 h17
    refine ax_aload_n dX12_text_20 rfl rfl (pc' := 21) rfl ?_
    refine ax_iconst dX12_text_21 (by decide) (pc' := 22) rfl ?_
    refine ax_puti dX12_text_22 flX12_120 (Or.inl rfl) sh_330 rfl (pc' := 25) rfl ?_
    refine ax_iconst dX12_text_25 (by decide) (pc' := 26) rfl ?_
    refine ax_iret dX12_text_26 rfl ?_
    refine ⟨rfl, ?_, ?_, ?_, ?_, ?_⟩
    · rfl
    · intro x0 i0 hai
      exact (ax_up_miss (fun h => hai (Or.inl h)) (ax_up_miss (fun h => hai (Or.inr (Or.inr h))) (ax_up_miss (fun h => hai (Or.inr (Or.inl h))) rfl)))
    · exact (ax_up_hit _ _ _ _)
    · exact (ax_up_miss (by decide) (ax_up_miss (by decide) (ax_up_hit _ _ _ _)))
    · exact (ax_up_miss (by decide) (ax_up_hit _ _ _ _))
set_option maxRecDepth 20000 in
theorem s_text_lw (E : ax_Env) (l : Launch) (d : Nat) (hd : 43 ≤ d) (M : ax_Mem) (k : Int) (L : List f_Tk) {w : Int → Int} (hw : M 331 = w) {ta : Int → Int} (hta : M 339 = ta) {fl : Int → Int} (hfl : M 335 = fl) {fs : Int → Int} (hfs : M 336 = fs) {tn : Int} (htn : M 330 17 = tn) {v0 : Int} (hv0 : M 330 21 = v0) {dp : Int} (hdp : M 330 25 = dp) (hg0 : 0 ≤ tn ∧ tn ≤ 400) (hg1 : f_tp ta tn) (hg2 : 0 ≤ v0 ∧ v0 ≤ 9999) (hg3 : f_lx ta tn k 0 v0 L) (hg4 : (L.length : Int) ≤ 405) (hg5 : 0 ≤ k ∧ k < 3) : ax_G E l d iX12_text [.inr 330, .inl k] M (fun z0 M2 => z0 = some (.inl (f_twr (f_laws L))) ∧ (∀ x0 i0 : Int, ¬ ((x0 = 330 ∧ i0 = 17) ∨ x0 = 331 ∨ x0 = 335 ∨ x0 = 336 ∨ (x0 = 330 ∧ i0 = 13) ∨ (x0 = 330 ∧ i0 = 14) ∨ (x0 = 330 ∧ i0 = 15) ∨ (x0 = 330 ∧ i0 = 16) ∨ (x0 = 330 ∧ i0 = 18) ∨ (x0 = 330 ∧ i0 = 19) ∨ (x0 = 330 ∧ i0 = 20) ∨ (x0 = 330 ∧ i0 = 21) ∨ (x0 = 330 ∧ i0 = 22) ∨ (x0 = 330 ∧ i0 = 23) ∨ (x0 = 330 ∧ i0 = 24) ∨ (x0 = 330 ∧ i0 = 25) ∨ (x0 = 330 ∧ i0 = 26) ∨ (x0 = 330 ∧ i0 = 27)) → M2 x0 i0 = M x0 i0) ∧ M2 330 17 = 0 ∧ (f_txL w k (f_laws L) M2) ∧ (0 ≤ M2 330 21 ∧ M2 330 21 ≤ 9999)) := by
  obtain ⟨d, rfl⟩ : ∃ d0, d = d0 + 1 := ⟨d - 1, by omega⟩
  refine ax_start rfl (Nat.le_of_ble_eq_true rfl) (ls := [some (.inr 330), some (.inl k), none]) rfl (fun hav hcm => ?_)
  have hc1 : -2147483648 ≤ k ∧ k < 2147483648 := hav (.inl k) (by simp)
  clear hav
  refine ax_aload_n dX12_text_0 rfl rfl (pc' := 1) rfl ?_
  refine ax_iconst dX12_text_1 (by decide) (pc' := 2) rfl ?_
  refine ax_puti dX12_text_2 flX12_313 (Or.inl rfl) sh_330 rfl (pc' := 5) rfl ?_
  refine ax_aload_n dX12_text_5 rfl rfl (pc' := 6) rfl ?_
  refine ax_iconst dX12_text_6 (by decide) (pc' := 7) rfl ?_
  refine ax_puti dX12_text_7 flX12_43 (Or.inl rfl) sh_330 rfl (pc' := 10) rfl ?_
  refine ax_iload_n dX12_text_10 rfl rfl (pc' := 11) rfl ?_
  refine ax_iconst dX12_text_11 (by decide) (pc' := 12) rfl ?_
  refine ax_bipush dX12_text_12 (by decide) (pc' := 14) rfl ?_
  refine ax_insG [.inl k, .inl 0, .inl 7] [] dX12_text_14 mlX12_74 rfl rfl (Nat.le_of_ble_eq_true rfl) (s_X12_isIn E l _ (by omega) _ k 0 7) (pc' := 17) rfl (fun vv M_14 hq co14 hcm14 => ?_)
  obtain ⟨rfl, rfl⟩ := hq
  refine ax_reS (st2 := [.inl (f_b (0 ≤ k ∧ k ≤ 7))]) rfl ?_
  refine ax_if_ne (tgt := 27) dX12_text_17 (by decide) (pc' := 20) rfl (fun h17 => ?_) (fun h17 => ?_)
  · replace h17 := f_b_1 h17
    refine ax_aload_n dX12_text_27 rfl rfl (pc' := 28) rfl ?_
    refine ax_iconst dX12_text_28 (by decide) (pc' := 29) rfl ?_
    refine ax_puti dX12_text_29 flX12_223 (Or.inl rfl) sh_330 rfl (pc' := 32) rfl ?_
    refine ax_aload_n dX12_text_32 rfl rfl (pc' := 33) rfl ?_
    refine ax_iconst dX12_text_33 (by decide) (pc' := 34) rfl ?_
    refine ax_puti dX12_text_34 flX12_123 (Or.inl rfl) sh_330 rfl (pc' := 37) rfl ?_
    refine ax_aload_n dX12_text_37 rfl rfl (pc' := 38) rfl ?_
    refine ax_iload_n dX12_text_38 rfl rfl (pc' := 39) rfl ?_
    refine ax_puti dX12_text_39 flX12_182 (Or.inl rfl) sh_330 rfl (pc' := 42) rfl ?_
    refine ax_aload_n dX12_text_42 rfl rfl (pc' := 43) rfl ?_
    refine ax_iload_n dX12_text_43 rfl rfl (pc' := 44) rfl ?_
    refine ax_invG [.inl k] [] dX12_text_44 mlX12_316 sh_330 rfl rfl rfl (Nat.le_of_ble_eq_true rfl) (s_reads_lw E l _ (by omega) _ k L (ax_up_rowmiss (by decide) (ax_up_rowmiss (by decide) (ax_up_rowmiss (by decide) (ax_up_rowmiss (by decide) (ax_up_rowmiss (by decide) hta))))) (ax_up_rowmiss (by decide) (ax_up_rowmiss (by decide) (ax_up_rowmiss (by decide) (ax_up_rowmiss (by decide) (ax_up_rowmiss (by decide) hfs))))) (ax_up_rowmiss (by decide) (ax_up_rowmiss (by decide) (ax_up_rowmiss (by decide) (ax_up_rowmiss (by decide) (ax_up_rowmiss (by decide) hfl))))) (ax_up_miss (by decide) (ax_up_hit _ _ _ _)) (ax_up_miss (by decide) (ax_up_miss (by decide) (ax_up_miss (by decide) (ax_up_miss (by decide) (ax_up_miss (by decide) htn))))) (ax_up_hit _ _ _ _) (ax_up_miss (by decide) (ax_up_miss (by decide) (ax_up_miss (by decide) (ax_up_miss (by decide) (ax_up_miss (by decide) hv0))))) (ax_up_miss (by decide) (ax_up_miss (by decide) (ax_up_miss (by decide) (ax_up_miss (by decide) (ax_up_miss (by decide) hdp))))) (by first | omega | assumption) (by first | omega | assumption) hg3 ⟨hg2.1, hg2.2, rfl⟩ (by first | omega | assumption) (by first | omega | assumption)) (pc' := 47) rfl (fun vv M_44 hq co44 hcm44 => ?_)
    obtain ⟨rfl, frM_44, fa44_0, fa44_1⟩ := hq
    refine ax_reS (st2 := [.inl (f_rwb (f_laws L))]) rfl ?_
    have cc44 : -2147483648 ≤ f_rwb (f_laws L) ∧ f_rwb (f_laws L) < 2147483648 := co44 _ rfl
    refine ax_istore_n dX12_text_47 rfl (by decide) (ls' := [some (.inr 330), some (.inl k), some (.inl (f_rwb (f_laws L)))]) rfl (pc' := 48) rfl ?_
    refine ax_aload_n dX12_text_48 rfl rfl (pc' := 49) rfl ?_
    refine ax_iconst dX12_text_49 (by decide) (pc' := 50) rfl ?_
    refine ax_puti dX12_text_50 flX12_120 (Or.inl rfl) sh_330 rfl (pc' := 53) rfl ?_
    refine ax_iload_n dX12_text_53 rfl rfl (pc' := 54) rfl ?_
    refine ax_if_eq (tgt := 92) dX12_text_54 (by decide) (pc' := 57) rfl (fun h54 => ?_) (fun h54 => ?_)
    · obtain ⟨kk2, ss2, qz⟩ := f_rwb_no h54
      rw [qz] at fa44_0
      refine ax_aload_n dX12_text_92 rfl rfl (pc' := 93) rfl ?_
      refine ax_aload_n dX12_text_93 rfl rfl (pc' := 94) rfl ?_
      refine ax_geti (v := M_44 330 22) dX12_text_94 flX12_223 rfl sh_330 (show (ax_up M_44 330 17 0) 330 22 = M_44 330 22 from (ax_up_miss (by decide) rfl)) rfl (pc' := 97) rfl ?_
      refine ax_puti dX12_text_97 flX12_313 (Or.inl rfl) sh_330 rfl (pc' := 100) rfl ?_
      refine ax_aload_n dX12_text_100 rfl rfl (pc' := 101) rfl ?_
      refine ax_aload_n dX12_text_101 rfl rfl (pc' := 102) rfl ?_
      refine ax_geti (v := M_44 330 23) dX12_text_102 flX12_226 rfl sh_330 (show (ax_up (ax_up M_44 330 17 0) 330 24 (M_44 330 22)) 330 23 = M_44 330 23 from (ax_up_miss (by decide) (ax_up_miss (by decide) rfl))) rfl (pc' := 105) rfl ?_
      refine ax_puti dX12_text_105 flX12_43 (Or.inl rfl) sh_330 rfl (pc' := 108) rfl ?_
      refine ax_iconst dX12_text_108 (by decide) (pc' := 109) rfl ?_
      refine ax_iret dX12_text_109 rfl ?_
      refine ⟨rfl, ?_, ?_, ?_, ?_, ?_⟩
      · refine congrArg (fun z => some (Sum.inl z)) ?_
        rw [qz]
        rfl
      · intro x0 i0 hai
        exact (ax_up_miss (fun h => hai (Or.inr (Or.inr (Or.inr (Or.inr (Or.inr (Or.inr (Or.inr (Or.inr (Or.inr (Or.inr (Or.inr (Or.inr (Or.inr (Or.inr (Or.inr (Or.inr (Or.inl h)))))))))))))))))) (ax_up_miss (fun h => hai (Or.inr (Or.inr (Or.inr (Or.inr (Or.inr (Or.inr (Or.inr (Or.inr (Or.inr (Or.inr (Or.inr (Or.inr (Or.inr (Or.inr (Or.inl h)))))))))))))))) (ax_up_miss (fun h => hai (Or.inl h)) ((frM_44 x0 i0 (fun h => h.elim (fun h => hai (Or.inr (Or.inr (Or.inr (Or.inl h))))) (fun h => h.elim (fun h => hai (Or.inr (Or.inr (Or.inr (Or.inr (Or.inr (Or.inr (Or.inl h)))))))) (fun h => h.elim (fun h => hai (Or.inr (Or.inr (Or.inr (Or.inr (Or.inr (Or.inr (Or.inr (Or.inr (Or.inl h)))))))))) (fun h => h.elim (fun h => hai (Or.inr (Or.inr (Or.inr (Or.inr (Or.inr (Or.inr (Or.inr (Or.inr (Or.inr (Or.inl h))))))))))) (fun h => h.elim (fun h => hai (Or.inr (Or.inr (Or.inr (Or.inr (Or.inr (Or.inr (Or.inr (Or.inr (Or.inr (Or.inr (Or.inl h)))))))))))) (fun h => h.elim (fun h => hai (Or.inr (Or.inr (Or.inr (Or.inr (Or.inr (Or.inr (Or.inr (Or.inr (Or.inr (Or.inr (Or.inr (Or.inl h))))))))))))) (fun h => h.elim (fun h => hai (Or.inr (Or.inr (Or.inr (Or.inr (Or.inr (Or.inr (Or.inr (Or.inr (Or.inr (Or.inr (Or.inr (Or.inr (Or.inl h)))))))))))))) (fun h => h.elim (fun h => hai (Or.inr (Or.inr (Or.inr (Or.inr (Or.inr (Or.inr (Or.inr (Or.inr (Or.inr (Or.inr (Or.inr (Or.inr (Or.inr (Or.inl h))))))))))))))) (fun h => h.elim (fun h => hai (Or.inr (Or.inr (Or.inl h)))) (fun h => h.elim (fun h => hai (Or.inr (Or.inr (Or.inr (Or.inr (Or.inr (Or.inr (Or.inr (Or.inr (Or.inr (Or.inr (Or.inr (Or.inr (Or.inr (Or.inr (Or.inr (Or.inl h))))))))))))))))) (fun h => hai (Or.inr (Or.inr (Or.inr (Or.inr (Or.inr (Or.inl h)))))))))))))))))).trans (ax_up_miss (fun h => hai (Or.inr (Or.inr (Or.inr (Or.inr (Or.inl h)))))) (ax_up_miss (fun h => hai (Or.inr (Or.inr (Or.inr (Or.inr (Or.inr (Or.inr (Or.inr (Or.inr (Or.inl h)))))))))) (ax_up_miss (fun h => hai (Or.inr (Or.inr (Or.inr (Or.inr (Or.inr (Or.inr (Or.inr (Or.inr (Or.inr (Or.inr (Or.inr (Or.inr (Or.inl h)))))))))))))) (ax_up_miss (fun h => hai (Or.inr (Or.inr (Or.inr (Or.inr (Or.inr (Or.inr (Or.inr (Or.inr (Or.inr (Or.inr (Or.inr (Or.inr (Or.inr (Or.inr (Or.inr (Or.inr (Or.inl h)))))))))))))))))) (ax_up_miss (fun h => hai (Or.inr (Or.inr (Or.inr (Or.inr (Or.inr (Or.inr (Or.inr (Or.inr (Or.inr (Or.inr (Or.inr (Or.inr (Or.inr (Or.inr (Or.inl h)))))))))))))))) rfl)))))))))
      · exact (ax_up_miss (by decide) (ax_up_miss (by decide) (ax_up_hit _ _ _ _)))
      · rw [qz]
        exact ⟨(ax_up_rowmiss (by decide) (ax_up_rowmiss (by decide) (ax_up_rowmiss (by decide) ((funext fun i0 => frM_44 331 i0 (fun h => h.elim (fun h => absurd h (by decide)) (fun h => h.elim (fun h => absurd h.1 (by decide)) (fun h => h.elim (fun h => absurd h.1 (by decide)) (fun h => h.elim (fun h => absurd h.1 (by decide)) (fun h => h.elim (fun h => absurd h.1 (by decide)) (fun h => h.elim (fun h => absurd h.1 (by decide)) (fun h => h.elim (fun h => absurd h.1 (by decide)) (fun h => h.elim (fun h => absurd h.1 (by decide)) (fun h => h.elim (fun h => absurd h (by decide)) (fun h => h.elim (fun h => absurd h.1 (by decide)) (fun h => absurd h.1 (by decide))))))))))))).trans (ax_up_rowmiss (by decide) (ax_up_rowmiss (by decide) (ax_up_rowmiss (by decide) (ax_up_rowmiss (by decide) (ax_up_rowmiss (by decide) hw))))))))), Eq.trans (ax_up_miss (by decide) (ax_up_hit _ _ _ _)) fa44_0.1, Eq.trans (ax_up_hit _ _ _ _) fa44_0.2⟩
      · have q9 : (ax_up (ax_up (ax_up M_44 330 17 0) 330 24 (M_44 330 22)) 330 26 (M_44 330 23)) 330 21 = M_44 330 21 := (ax_up_miss (by decide) (ax_up_miss (by decide) (ax_up_miss (by decide) rfl)))
        have q9b : 0 ≤ M_44 330 21 ∧ M_44 330 21 ≤ 9999 := by omega
        exact f_r9 q9 q9b
    · obtain ⟨ls, qz⟩ := f_rwb_ok h54
      rw [qz] at fa44_0
      obtain ⟨qm, ql, qn, qs⟩ := fa44_0
      have qk := f_law_ok _ 0 L ls qz (by decide)
      refine ax_iload_n dX12_text_57 rfl rfl (pc' := 58) rfl ?_
      refine ax_iconst dX12_text_58 (by decide) (pc' := 59) rfl ?_
      refine ax_icmp_ge (tgt := 70) dX12_text_59 (by decide) (pc' := 62) rfl (fun h59 => ?_) (fun h59 => ?_)
      · exfalso
        omega
      · refine ax_aload_n dX12_text_62 rfl rfl (pc' := 63) rfl ?_
        refine ax_iload_n dX12_text_63 rfl rfl (pc' := 64) rfl ?_
        refine ax_invG [.inl k] [] dX12_text_64 mlX12_319 sh_330 rfl rfl rfl (Nat.le_of_ble_eq_true rfl) (s_X12_putsLaw E l _ (by omega) _ k (ax_up_rowmiss (by decide) ((funext fun i0 => frM_44 331 i0 (fun h => h.elim (fun h => absurd h (by decide)) (fun h => h.elim (fun h => absurd h.1 (by decide)) (fun h => h.elim (fun h => absurd h.1 (by decide)) (fun h => h.elim (fun h => absurd h.1 (by decide)) (fun h => h.elim (fun h => absurd h.1 (by decide)) (fun h => h.elim (fun h => absurd h.1 (by decide)) (fun h => h.elim (fun h => absurd h.1 (by decide)) (fun h => h.elim (fun h => absurd h.1 (by decide)) (fun h => h.elim (fun h => absurd h (by decide)) (fun h => h.elim (fun h => absurd h.1 (by decide)) (fun h => absurd h.1 (by decide))))))))))))).trans (ax_up_rowmiss (by decide) (ax_up_rowmiss (by decide) (ax_up_rowmiss (by decide) (ax_up_rowmiss (by decide) (ax_up_rowmiss (by decide) hw))))))) (ax_up_rowmiss (by decide) rfl) (ax_up_rowmiss (by decide) rfl) (ax_up_miss (by decide) rfl) (ax_up_miss (by decide) rfl) (by first | omega | assumption) ⟨by omega, by omega⟩ ⟨by omega, by omega⟩) (pc' := 67) rfl (fun vv M_64 hq co64 hcm64 => ?_)
        obtain ⟨rfl, frM_64, fa64_0⟩ := hq
        refine ax_reS (st2 := [.inl (M_44 330 14)]) rfl ?_
        have cc64 : -2147483648 ≤ (M_44 330 14) ∧ (M_44 330 14) < 2147483648 := co64 _ rfl
        refine ax_goto dX12_text_67 (pc' := 91) (by decide) ?_
        refine ax_iret dX12_text_91 rfl ?_
        refine ⟨rfl, ?_, ?_, ?_, ?_, ?_⟩
        · refine congrArg (fun z => some (Sum.inl z)) ?_
          rw [qz]
          exact qn
        · intro x0 i0 hai
          exact ((frM_64 x0 i0 (fun h => hai (Or.inr (Or.inl h)))).trans (ax_up_miss (fun h => hai (Or.inl h)) ((frM_44 x0 i0 (fun h => h.elim (fun h => hai (Or.inr (Or.inr (Or.inr (Or.inl h))))) (fun h => h.elim (fun h => hai (Or.inr (Or.inr (Or.inr (Or.inr (Or.inr (Or.inr (Or.inl h)))))))) (fun h => h.elim (fun h => hai (Or.inr (Or.inr (Or.inr (Or.inr (Or.inr (Or.inr (Or.inr (Or.inr (Or.inl h)))))))))) (fun h => h.elim (fun h => hai (Or.inr (Or.inr (Or.inr (Or.inr (Or.inr (Or.inr (Or.inr (Or.inr (Or.inr (Or.inl h))))))))))) (fun h => h.elim (fun h => hai (Or.inr (Or.inr (Or.inr (Or.inr (Or.inr (Or.inr (Or.inr (Or.inr (Or.inr (Or.inr (Or.inl h)))))))))))) (fun h => h.elim (fun h => hai (Or.inr (Or.inr (Or.inr (Or.inr (Or.inr (Or.inr (Or.inr (Or.inr (Or.inr (Or.inr (Or.inr (Or.inl h))))))))))))) (fun h => h.elim (fun h => hai (Or.inr (Or.inr (Or.inr (Or.inr (Or.inr (Or.inr (Or.inr (Or.inr (Or.inr (Or.inr (Or.inr (Or.inr (Or.inl h)))))))))))))) (fun h => h.elim (fun h => hai (Or.inr (Or.inr (Or.inr (Or.inr (Or.inr (Or.inr (Or.inr (Or.inr (Or.inr (Or.inr (Or.inr (Or.inr (Or.inr (Or.inl h))))))))))))))) (fun h => h.elim (fun h => hai (Or.inr (Or.inr (Or.inl h)))) (fun h => h.elim (fun h => hai (Or.inr (Or.inr (Or.inr (Or.inr (Or.inr (Or.inr (Or.inr (Or.inr (Or.inr (Or.inr (Or.inr (Or.inr (Or.inr (Or.inr (Or.inr (Or.inl h))))))))))))))))) (fun h => hai (Or.inr (Or.inr (Or.inr (Or.inr (Or.inr (Or.inl h)))))))))))))))))).trans (ax_up_miss (fun h => hai (Or.inr (Or.inr (Or.inr (Or.inr (Or.inl h)))))) (ax_up_miss (fun h => hai (Or.inr (Or.inr (Or.inr (Or.inr (Or.inr (Or.inr (Or.inr (Or.inr (Or.inl h)))))))))) (ax_up_miss (fun h => hai (Or.inr (Or.inr (Or.inr (Or.inr (Or.inr (Or.inr (Or.inr (Or.inr (Or.inr (Or.inr (Or.inr (Or.inr (Or.inl h)))))))))))))) (ax_up_miss (fun h => hai (Or.inr (Or.inr (Or.inr (Or.inr (Or.inr (Or.inr (Or.inr (Or.inr (Or.inr (Or.inr (Or.inr (Or.inr (Or.inr (Or.inr (Or.inr (Or.inr (Or.inl h)))))))))))))))))) (ax_up_miss (fun h => hai (Or.inr (Or.inr (Or.inr (Or.inr (Or.inr (Or.inr (Or.inr (Or.inr (Or.inr (Or.inr (Or.inr (Or.inr (Or.inr (Or.inr (Or.inl h)))))))))))))))) rfl))))))))
        · exact ((frM_64 330 17 (fun h => absurd h (by decide))).trans (ax_up_hit _ _ _ _))
        · rw [qz]
          have qpl : f_plw w k (M_44 330 14) (M_44 330 15) (M_44 335) (M_44 336) (M_64 331) := fa64_0
          have qpn := qpl.2.1
          have qpo := qpl.1
          rw [qm, ql] at qpl
          exact ⟨f_plw_lns hg5 qn qs (by omega) (qk.2.2 k (f_lx_tkr hg5 hg1 ⟨Int.le_refl 0, hg0.1, hg2⟩ hg3)) qpl, by omega, qpo, ((frM_64 330 24 (fun h => absurd h (by decide))).trans (ax_up_miss (by decide) ((frM_44 330 24 (fun h => h.elim (fun h => absurd h (by decide)) (fun h => h.elim (fun h => absurd h.2 (by decide)) (fun h => h.elim (fun h => absurd h.2 (by decide)) (fun h => h.elim (fun h => absurd h.2 (by decide)) (fun h => h.elim (fun h => absurd h.2 (by decide)) (fun h => h.elim (fun h => absurd h.2 (by decide)) (fun h => h.elim (fun h => absurd h.2 (by decide)) (fun h => h.elim (fun h => absurd h.2 (by decide)) (fun h => h.elim (fun h => absurd h (by decide)) (fun h => h.elim (fun h => absurd h.2 (by decide)) (fun h => absurd h.2 (by decide))))))))))))).trans (ax_up_miss (by decide) (ax_up_miss (by decide) (ax_up_miss (by decide) (ax_up_miss (by decide) (ax_up_hit _ _ _ _)))))))), ((frM_64 330 26 (fun h => absurd h (by decide))).trans (ax_up_miss (by decide) ((frM_44 330 26 (fun h => h.elim (fun h => absurd h (by decide)) (fun h => h.elim (fun h => absurd h.2 (by decide)) (fun h => h.elim (fun h => absurd h.2 (by decide)) (fun h => h.elim (fun h => absurd h.2 (by decide)) (fun h => h.elim (fun h => absurd h.2 (by decide)) (fun h => h.elim (fun h => absurd h.2 (by decide)) (fun h => h.elim (fun h => absurd h.2 (by decide)) (fun h => h.elim (fun h => absurd h.2 (by decide)) (fun h => h.elim (fun h => absurd h (by decide)) (fun h => h.elim (fun h => absurd h.2 (by decide)) (fun h => absurd h.2 (by decide))))))))))))).trans (ax_up_miss (by decide) (ax_up_miss (by decide) (ax_up_miss (by decide) (ax_up_hit _ _ _ _)))))))⟩
        · have q9 : M_64 330 21 = M_44 330 21 := ((frM_64 330 21 (fun h => absurd h (by decide))).trans (ax_up_miss (by decide) rfl))
          have q9b : 0 ≤ M_44 330 21 ∧ M_44 330 21 ≤ 9999 := by omega
          exact f_r9 q9 q9b
  · replace h17 := f_b_0 h17
    exfalso
    exact h17 ⟨by omega, by omega⟩
set_option maxRecDepth 20000 in
theorem s_text_dr (E : ax_Env) (l : Launch) (d : Nat) (hd : 43 ≤ d) (M : ax_Mem) (k : Int) (L : List f_Tk) {w : Int → Int} (hw : M 331 = w) {ta : Int → Int} (hta : M 339 = ta) {fd : Int → Int} (hfd : M 337 = fd) {tn : Int} (htn : M 330 17 = tn) {v0 : Int} (hv0 : M 330 21 = v0) (hg0 : 0 ≤ tn ∧ tn ≤ 400) (hg1 : f_tp ta tn) (hg2 : 0 ≤ v0 ∧ v0 ≤ 9999) (hg3 : f_lx ta tn k 0 v0 L) (hg4 : (L.length : Int) ≤ 405) (hg5 : k = 3) : ax_G E l d iX12_text [.inr 330, .inl k] M (fun z0 M2 => z0 = some (.inl (f_tqr (f_drl L))) ∧ (∀ x0 i0 : Int, ¬ ((x0 = 330 ∧ i0 = 17) ∨ x0 = 331 ∨ x0 = 337 ∨ (x0 = 330 ∧ i0 = 13) ∨ (x0 = 330 ∧ i0 = 14) ∨ (x0 = 330 ∧ i0 = 15) ∨ (x0 = 330 ∧ i0 = 16) ∨ (x0 = 330 ∧ i0 = 18) ∨ (x0 = 330 ∧ i0 = 19) ∨ (x0 = 330 ∧ i0 = 20) ∨ (x0 = 330 ∧ i0 = 21) ∨ (x0 = 330 ∧ i0 = 22) ∨ (x0 = 330 ∧ i0 = 23) ∨ (x0 = 330 ∧ i0 = 24) ∨ (x0 = 330 ∧ i0 = 25) ∨ (x0 = 330 ∧ i0 = 26) ∨ (x0 = 330 ∧ i0 = 27)) → M2 x0 i0 = M x0 i0) ∧ M2 330 17 = 0 ∧ (f_txD w (f_drl L) M2) ∧ (0 ≤ M2 330 21 ∧ M2 330 21 ≤ 9999)) := by
  obtain ⟨d, rfl⟩ : ∃ d0, d = d0 + 1 := ⟨d - 1, by omega⟩
  refine ax_start rfl (Nat.le_of_ble_eq_true rfl) (ls := [some (.inr 330), some (.inl k), none]) rfl (fun hav hcm => ?_)
  have hc1 : -2147483648 ≤ k ∧ k < 2147483648 := hav (.inl k) (by simp)
  clear hav
  refine ax_aload_n dX12_text_0 rfl rfl (pc' := 1) rfl ?_
  refine ax_iconst dX12_text_1 (by decide) (pc' := 2) rfl ?_
  refine ax_puti dX12_text_2 flX12_313 (Or.inl rfl) sh_330 rfl (pc' := 5) rfl ?_
  refine ax_aload_n dX12_text_5 rfl rfl (pc' := 6) rfl ?_
  refine ax_iconst dX12_text_6 (by decide) (pc' := 7) rfl ?_
  refine ax_puti dX12_text_7 flX12_43 (Or.inl rfl) sh_330 rfl (pc' := 10) rfl ?_
  refine ax_iload_n dX12_text_10 rfl rfl (pc' := 11) rfl ?_
  refine ax_iconst dX12_text_11 (by decide) (pc' := 12) rfl ?_
  refine ax_bipush dX12_text_12 (by decide) (pc' := 14) rfl ?_
  refine ax_insG [.inl k, .inl 0, .inl 7] [] dX12_text_14 mlX12_74 rfl rfl (Nat.le_of_ble_eq_true rfl) (s_X12_isIn E l _ (by omega) _ k 0 7) (pc' := 17) rfl (fun vv M_14 hq co14 hcm14 => ?_)
  obtain ⟨rfl, rfl⟩ := hq
  refine ax_reS (st2 := [.inl (f_b (0 ≤ k ∧ k ≤ 7))]) rfl ?_
  refine ax_if_ne (tgt := 27) dX12_text_17 (by decide) (pc' := 20) rfl (fun h17 => ?_) (fun h17 => ?_)
  · replace h17 := f_b_1 h17
    refine ax_aload_n dX12_text_27 rfl rfl (pc' := 28) rfl ?_
    refine ax_iconst dX12_text_28 (by decide) (pc' := 29) rfl ?_
    refine ax_puti dX12_text_29 flX12_223 (Or.inl rfl) sh_330 rfl (pc' := 32) rfl ?_
    refine ax_aload_n dX12_text_32 rfl rfl (pc' := 33) rfl ?_
    refine ax_iconst dX12_text_33 (by decide) (pc' := 34) rfl ?_
    refine ax_puti dX12_text_34 flX12_123 (Or.inl rfl) sh_330 rfl (pc' := 37) rfl ?_
    refine ax_aload_n dX12_text_37 rfl rfl (pc' := 38) rfl ?_
    refine ax_iload_n dX12_text_38 rfl rfl (pc' := 39) rfl ?_
    refine ax_puti dX12_text_39 flX12_182 (Or.inl rfl) sh_330 rfl (pc' := 42) rfl ?_
    refine ax_aload_n dX12_text_42 rfl rfl (pc' := 43) rfl ?_
    refine ax_iload_n dX12_text_43 rfl rfl (pc' := 44) rfl ?_
    refine ax_invG [.inl k] [] dX12_text_44 mlX12_316 sh_330 rfl rfl rfl (Nat.le_of_ble_eq_true rfl) (s_reads_dr E l _ (by omega) _ k L (ax_up_rowmiss (by decide) (ax_up_rowmiss (by decide) (ax_up_rowmiss (by decide) (ax_up_rowmiss (by decide) (ax_up_rowmiss (by decide) hta))))) (ax_up_rowmiss (by decide) (ax_up_rowmiss (by decide) (ax_up_rowmiss (by decide) (ax_up_rowmiss (by decide) (ax_up_rowmiss (by decide) hfd))))) (ax_up_miss (by decide) (ax_up_hit _ _ _ _)) (ax_up_miss (by decide) (ax_up_miss (by decide) (ax_up_miss (by decide) (ax_up_miss (by decide) (ax_up_miss (by decide) htn))))) (ax_up_hit _ _ _ _) (ax_up_miss (by decide) (ax_up_miss (by decide) (ax_up_miss (by decide) (ax_up_miss (by decide) (ax_up_miss (by decide) hv0))))) (by first | omega | assumption) (by first | omega | assumption) hg3 ⟨hg2.1, hg2.2, rfl⟩ (by first | omega | assumption) (by first | omega | assumption)) (pc' := 47) rfl (fun vv M_44 hq co44 hcm44 => ?_)
    obtain ⟨rfl, frM_44, fa44_0, fa44_1⟩ := hq
    refine ax_reS (st2 := [.inl (f_rqb (f_drl L))]) rfl ?_
    have cc44 : -2147483648 ≤ f_rqb (f_drl L) ∧ f_rqb (f_drl L) < 2147483648 := co44 _ rfl
    refine ax_istore_n dX12_text_47 rfl (by decide) (ls' := [some (.inr 330), some (.inl k), some (.inl (f_rqb (f_drl L)))]) rfl (pc' := 48) rfl ?_
    refine ax_aload_n dX12_text_48 rfl rfl (pc' := 49) rfl ?_
    refine ax_iconst dX12_text_49 (by decide) (pc' := 50) rfl ?_
    refine ax_puti dX12_text_50 flX12_120 (Or.inl rfl) sh_330 rfl (pc' := 53) rfl ?_
    refine ax_iload_n dX12_text_53 rfl rfl (pc' := 54) rfl ?_
    refine ax_if_eq (tgt := 92) dX12_text_54 (by decide) (pc' := 57) rfl (fun h54 => ?_) (fun h54 => ?_)
    · obtain ⟨kk2, ss2, qz⟩ := f_rqb_no h54
      rw [qz] at fa44_0
      refine ax_aload_n dX12_text_92 rfl rfl (pc' := 93) rfl ?_
      refine ax_aload_n dX12_text_93 rfl rfl (pc' := 94) rfl ?_
      refine ax_geti (v := M_44 330 22) dX12_text_94 flX12_223 rfl sh_330 (show (ax_up M_44 330 17 0) 330 22 = M_44 330 22 from (ax_up_miss (by decide) rfl)) rfl (pc' := 97) rfl ?_
      refine ax_puti dX12_text_97 flX12_313 (Or.inl rfl) sh_330 rfl (pc' := 100) rfl ?_
      refine ax_aload_n dX12_text_100 rfl rfl (pc' := 101) rfl ?_
      refine ax_aload_n dX12_text_101 rfl rfl (pc' := 102) rfl ?_
      refine ax_geti (v := M_44 330 23) dX12_text_102 flX12_226 rfl sh_330 (show (ax_up (ax_up M_44 330 17 0) 330 24 (M_44 330 22)) 330 23 = M_44 330 23 from (ax_up_miss (by decide) (ax_up_miss (by decide) rfl))) rfl (pc' := 105) rfl ?_
      refine ax_puti dX12_text_105 flX12_43 (Or.inl rfl) sh_330 rfl (pc' := 108) rfl ?_
      refine ax_iconst dX12_text_108 (by decide) (pc' := 109) rfl ?_
      refine ax_iret dX12_text_109 rfl ?_
      refine ⟨rfl, ?_, ?_, ?_, ?_, ?_⟩
      · refine congrArg (fun z => some (Sum.inl z)) ?_
        rw [qz]
        rfl
      · intro x0 i0 hai
        exact (ax_up_miss (fun h => hai (Or.inr (Or.inr (Or.inr (Or.inr (Or.inr (Or.inr (Or.inr (Or.inr (Or.inr (Or.inr (Or.inr (Or.inr (Or.inr (Or.inr (Or.inr (Or.inl h))))))))))))))))) (ax_up_miss (fun h => hai (Or.inr (Or.inr (Or.inr (Or.inr (Or.inr (Or.inr (Or.inr (Or.inr (Or.inr (Or.inr (Or.inr (Or.inr (Or.inr (Or.inl h))))))))))))))) (ax_up_miss (fun h => hai (Or.inl h)) ((frM_44 x0 i0 (fun h => h.elim (fun h => hai (Or.inr (Or.inr (Or.inr (Or.inr (Or.inr (Or.inr (Or.inr (Or.inl h))))))))) (fun h => h.elim (fun h => hai (Or.inr (Or.inr (Or.inr (Or.inr (Or.inr (Or.inr (Or.inr (Or.inr (Or.inl h)))))))))) (fun h => h.elim (fun h => hai (Or.inr (Or.inr (Or.inr (Or.inr (Or.inr (Or.inr (Or.inr (Or.inr (Or.inr (Or.inl h))))))))))) (fun h => h.elim (fun h => hai (Or.inr (Or.inr (Or.inr (Or.inr (Or.inr (Or.inr (Or.inr (Or.inr (Or.inr (Or.inr (Or.inl h)))))))))))) (fun h => h.elim (fun h => hai (Or.inr (Or.inr (Or.inr (Or.inr (Or.inr (Or.inr (Or.inr (Or.inr (Or.inr (Or.inr (Or.inr (Or.inl h))))))))))))) (fun h => h.elim (fun h => hai (Or.inr (Or.inr (Or.inr (Or.inr (Or.inr (Or.inr (Or.inr (Or.inr (Or.inr (Or.inr (Or.inr (Or.inr (Or.inl h)))))))))))))) (fun h => h.elim (fun h => hai (Or.inr (Or.inr (Or.inl h)))) (fun h => h.elim (fun h => hai (Or.inr (Or.inr (Or.inr (Or.inr (Or.inr (Or.inr (Or.inl h)))))))) (fun h => hai (Or.inr (Or.inr (Or.inr (Or.inr (Or.inr (Or.inr (Or.inr (Or.inr (Or.inr (Or.inr (Or.inr (Or.inr (Or.inr (Or.inr (Or.inr (Or.inr h)))))))))))))))))))))))))).trans (ax_up_miss (fun h => hai (Or.inr (Or.inr (Or.inr (Or.inl h))))) (ax_up_miss (fun h => hai (Or.inr (Or.inr (Or.inr (Or.inr (Or.inr (Or.inr (Or.inr (Or.inl h))))))))) (ax_up_miss (fun h => hai (Or.inr (Or.inr (Or.inr (Or.inr (Or.inr (Or.inr (Or.inr (Or.inr (Or.inr (Or.inr (Or.inr (Or.inl h))))))))))))) (ax_up_miss (fun h => hai (Or.inr (Or.inr (Or.inr (Or.inr (Or.inr (Or.inr (Or.inr (Or.inr (Or.inr (Or.inr (Or.inr (Or.inr (Or.inr (Or.inr (Or.inr (Or.inl h))))))))))))))))) (ax_up_miss (fun h => hai (Or.inr (Or.inr (Or.inr (Or.inr (Or.inr (Or.inr (Or.inr (Or.inr (Or.inr (Or.inr (Or.inr (Or.inr (Or.inr (Or.inl h))))))))))))))) rfl)))))))))
      · exact (ax_up_miss (by decide) (ax_up_miss (by decide) (ax_up_hit _ _ _ _)))
      · rw [qz]
        exact ⟨(ax_up_rowmiss (by decide) (ax_up_rowmiss (by decide) (ax_up_rowmiss (by decide) ((funext fun i0 => frM_44 331 i0 (fun h => h.elim (fun h => absurd h.1 (by decide)) (fun h => h.elim (fun h => absurd h.1 (by decide)) (fun h => h.elim (fun h => absurd h.1 (by decide)) (fun h => h.elim (fun h => absurd h.1 (by decide)) (fun h => h.elim (fun h => absurd h.1 (by decide)) (fun h => h.elim (fun h => absurd h.1 (by decide)) (fun h => h.elim (fun h => absurd h (by decide)) (fun h => h.elim (fun h => absurd h.1 (by decide)) (fun h => absurd h.1 (by decide))))))))))).trans (ax_up_rowmiss (by decide) (ax_up_rowmiss (by decide) (ax_up_rowmiss (by decide) (ax_up_rowmiss (by decide) (ax_up_rowmiss (by decide) hw))))))))), Eq.trans (ax_up_miss (by decide) (ax_up_hit _ _ _ _)) fa44_0.1, Eq.trans (ax_up_hit _ _ _ _) fa44_0.2⟩
      · have q9 : (ax_up (ax_up (ax_up M_44 330 17 0) 330 24 (M_44 330 22)) 330 26 (M_44 330 23)) 330 21 = M_44 330 21 := (ax_up_miss (by decide) (ax_up_miss (by decide) (ax_up_miss (by decide) rfl)))
        have q9b : 0 ≤ M_44 330 21 ∧ M_44 330 21 ≤ 9999 := by omega
        exact f_r9 q9 q9b
    · obtain ⟨ls, qz⟩ := f_rqb_ok h54
      rw [qz] at fa44_0
      obtain ⟨qm, qn⟩ := fa44_0
      have qk := f_drl_ok qz
      refine ax_iload_n dX12_text_57 rfl rfl (pc' := 58) rfl ?_
      refine ax_iconst dX12_text_58 (by decide) (pc' := 59) rfl ?_
      refine ax_icmp_ge (tgt := 70) dX12_text_59 (by decide) (pc' := 62) rfl (fun h59 => ?_) (fun h59 => ?_)
      · refine ax_iload_n dX12_text_70 rfl rfl (pc' := 71) rfl ?_
        refine ax_iconst dX12_text_71 (by decide) (pc' := 72) rfl ?_
        refine ax_icmp_ne (tgt := 82) dX12_text_72 (by decide) (pc' := 75) rfl (fun h72 => ?_) (fun h72 => ?_)
        · exfalso
          omega
        · refine ax_aload_n dX12_text_75 rfl rfl (pc' := 76) rfl ?_
          refine ax_invG [] [] dX12_text_76 mlX12_322 sh_330 rfl rfl rfl (Nat.le_of_ble_eq_true rfl) (s_X12_putsDrill E l _ (by omega) _ (ax_up_rowmiss (by decide) ((funext fun i0 => frM_44 331 i0 (fun h => h.elim (fun h => absurd h.1 (by decide)) (fun h => h.elim (fun h => absurd h.1 (by decide)) (fun h => h.elim (fun h => absurd h.1 (by decide)) (fun h => h.elim (fun h => absurd h.1 (by decide)) (fun h => h.elim (fun h => absurd h.1 (by decide)) (fun h => h.elim (fun h => absurd h.1 (by decide)) (fun h => h.elim (fun h => absurd h (by decide)) (fun h => h.elim (fun h => absurd h.1 (by decide)) (fun h => absurd h.1 (by decide))))))))))).trans (ax_up_rowmiss (by decide) (ax_up_rowmiss (by decide) (ax_up_rowmiss (by decide) (ax_up_rowmiss (by decide) (ax_up_rowmiss (by decide) hw))))))) (ax_up_rowmiss (by decide) rfl) (ax_up_miss (by decide) rfl) ⟨by omega, by omega⟩) (pc' := 79) rfl (fun vv M_76 hq co76 hcm76 => ?_)
          obtain ⟨rfl, frM_76, fa76_0⟩ := hq
          refine ax_reS (st2 := [.inl (M_44 330 16)]) rfl ?_
          have cc76 : -2147483648 ≤ (M_44 330 16) ∧ (M_44 330 16) < 2147483648 := co76 _ rfl
          refine ax_goto dX12_text_79 (pc' := 91) (by decide) ?_
          refine ax_iret dX12_text_91 rfl ?_
          refine ⟨rfl, ?_, ?_, ?_, ?_, ?_⟩
          · refine congrArg (fun z => some (Sum.inl z)) ?_
            rw [qz]
            exact qn
          · intro x0 i0 hai
            exact ((frM_76 x0 i0 (fun h => hai (Or.inr (Or.inl h)))).trans (ax_up_miss (fun h => hai (Or.inl h)) ((frM_44 x0 i0 (fun h => h.elim (fun h => hai (Or.inr (Or.inr (Or.inr (Or.inr (Or.inr (Or.inr (Or.inr (Or.inl h))))))))) (fun h => h.elim (fun h => hai (Or.inr (Or.inr (Or.inr (Or.inr (Or.inr (Or.inr (Or.inr (Or.inr (Or.inl h)))))))))) (fun h => h.elim (fun h => hai (Or.inr (Or.inr (Or.inr (Or.inr (Or.inr (Or.inr (Or.inr (Or.inr (Or.inr (Or.inl h))))))))))) (fun h => h.elim (fun h => hai (Or.inr (Or.inr (Or.inr (Or.inr (Or.inr (Or.inr (Or.inr (Or.inr (Or.inr (Or.inr (Or.inl h)))))))))))) (fun h => h.elim (fun h => hai (Or.inr (Or.inr (Or.inr (Or.inr (Or.inr (Or.inr (Or.inr (Or.inr (Or.inr (Or.inr (Or.inr (Or.inl h))))))))))))) (fun h => h.elim (fun h => hai (Or.inr (Or.inr (Or.inr (Or.inr (Or.inr (Or.inr (Or.inr (Or.inr (Or.inr (Or.inr (Or.inr (Or.inr (Or.inl h)))))))))))))) (fun h => h.elim (fun h => hai (Or.inr (Or.inr (Or.inl h)))) (fun h => h.elim (fun h => hai (Or.inr (Or.inr (Or.inr (Or.inr (Or.inr (Or.inr (Or.inl h)))))))) (fun h => hai (Or.inr (Or.inr (Or.inr (Or.inr (Or.inr (Or.inr (Or.inr (Or.inr (Or.inr (Or.inr (Or.inr (Or.inr (Or.inr (Or.inr (Or.inr (Or.inr h)))))))))))))))))))))))))).trans (ax_up_miss (fun h => hai (Or.inr (Or.inr (Or.inr (Or.inl h))))) (ax_up_miss (fun h => hai (Or.inr (Or.inr (Or.inr (Or.inr (Or.inr (Or.inr (Or.inr (Or.inl h))))))))) (ax_up_miss (fun h => hai (Or.inr (Or.inr (Or.inr (Or.inr (Or.inr (Or.inr (Or.inr (Or.inr (Or.inr (Or.inr (Or.inr (Or.inl h))))))))))))) (ax_up_miss (fun h => hai (Or.inr (Or.inr (Or.inr (Or.inr (Or.inr (Or.inr (Or.inr (Or.inr (Or.inr (Or.inr (Or.inr (Or.inr (Or.inr (Or.inr (Or.inr (Or.inl h))))))))))))))))) (ax_up_miss (fun h => hai (Or.inr (Or.inr (Or.inr (Or.inr (Or.inr (Or.inr (Or.inr (Or.inr (Or.inr (Or.inr (Or.inr (Or.inr (Or.inr (Or.inl h))))))))))))))) rfl))))))))
          · exact ((frM_76 330 17 (fun h => absurd h (by decide))).trans (ax_up_hit _ _ _ _))
          · rw [qz]
            have qpl : f_pdr w (M_44 330 16) (M_44 337) (M_76 331) := fa76_0
            rw [qm, qn] at qpl
            exact ⟨⟨fd, qpl⟩, ((frM_76 330 24 (fun h => absurd h (by decide))).trans (ax_up_miss (by decide) ((frM_44 330 24 (fun h => h.elim (fun h => absurd h.2 (by decide)) (fun h => h.elim (fun h => absurd h.2 (by decide)) (fun h => h.elim (fun h => absurd h.2 (by decide)) (fun h => h.elim (fun h => absurd h.2 (by decide)) (fun h => h.elim (fun h => absurd h.2 (by decide)) (fun h => h.elim (fun h => absurd h.2 (by decide)) (fun h => h.elim (fun h => absurd h (by decide)) (fun h => h.elim (fun h => absurd h.2 (by decide)) (fun h => absurd h.2 (by decide))))))))))).trans (ax_up_miss (by decide) (ax_up_miss (by decide) (ax_up_miss (by decide) (ax_up_miss (by decide) (ax_up_hit _ _ _ _)))))))), ((frM_76 330 26 (fun h => absurd h (by decide))).trans (ax_up_miss (by decide) ((frM_44 330 26 (fun h => h.elim (fun h => absurd h.2 (by decide)) (fun h => h.elim (fun h => absurd h.2 (by decide)) (fun h => h.elim (fun h => absurd h.2 (by decide)) (fun h => h.elim (fun h => absurd h.2 (by decide)) (fun h => h.elim (fun h => absurd h.2 (by decide)) (fun h => h.elim (fun h => absurd h.2 (by decide)) (fun h => h.elim (fun h => absurd h (by decide)) (fun h => h.elim (fun h => absurd h.2 (by decide)) (fun h => absurd h.2 (by decide))))))))))).trans (ax_up_miss (by decide) (ax_up_miss (by decide) (ax_up_miss (by decide) (ax_up_hit _ _ _ _)))))))⟩
          · have q9 : M_76 330 21 = M_44 330 21 := ((frM_76 330 21 (fun h => absurd h (by decide))).trans (ax_up_miss (by decide) rfl))
            have q9b : 0 ≤ M_44 330 21 ∧ M_44 330 21 ≤ 9999 := by omega
            exact f_r9 q9 q9b
      · exfalso
        omega
  · replace h17 := f_b_0 h17
    exfalso
    exact h17 ⟨by omega, by omega⟩
set_option maxRecDepth 20000 in
theorem s_text_sh (E : ax_Env) (l : Launch) (d : Nat) (hd : 43 ≤ d) (M : ax_Mem) (k : Int) {w : Int → Int} (hw : M 331 = w) {ta : Int → Int} (hta : M 339 = ta) {fh : Int → Int} (hfh : M 338 = fh) {tn : Int} (htn : M 330 17 = tn) (hg0 : 0 ≤ tn ∧ tn ≤ 400) (hg1 : 3 < k ∧ k ≤ 7) : ax_G E l d iX12_text [.inr 330, .inl k] M (fun z0 M2 => z0 = some (.inl (f_thr (f_rshp ta tn))) ∧ (∀ x0 i0 : Int, ¬ ((x0 = 330 ∧ i0 = 17) ∨ x0 = 331 ∨ x0 = 338 ∨ (x0 = 330 ∧ i0 = 13) ∨ (x0 = 330 ∧ i0 = 14) ∨ (x0 = 330 ∧ i0 = 15) ∨ (x0 = 330 ∧ i0 = 16) ∨ (x0 = 330 ∧ i0 = 18) ∨ (x0 = 330 ∧ i0 = 19) ∨ (x0 = 330 ∧ i0 = 20) ∨ (x0 = 330 ∧ i0 = 22) ∨ (x0 = 330 ∧ i0 = 23) ∨ (x0 = 330 ∧ i0 = 24) ∨ (x0 = 330 ∧ i0 = 25) ∨ (x0 = 330 ∧ i0 = 26) ∨ (x0 = 330 ∧ i0 = 27)) → M2 x0 i0 = M x0 i0) ∧ M2 330 17 = 0 ∧ (f_txS w (k - 3 - 1) (f_rshp ta tn) M2)) := by
  obtain ⟨d, rfl⟩ : ∃ d0, d = d0 + 1 := ⟨d - 1, by omega⟩
  refine ax_start rfl (Nat.le_of_ble_eq_true rfl) (ls := [some (.inr 330), some (.inl k), none]) rfl (fun hav hcm => ?_)
  have hc1 : -2147483648 ≤ k ∧ k < 2147483648 := hav (.inl k) (by simp)
  clear hav
  refine ax_aload_n dX12_text_0 rfl rfl (pc' := 1) rfl ?_
  refine ax_iconst dX12_text_1 (by decide) (pc' := 2) rfl ?_
  refine ax_puti dX12_text_2 flX12_313 (Or.inl rfl) sh_330 rfl (pc' := 5) rfl ?_
  refine ax_aload_n dX12_text_5 rfl rfl (pc' := 6) rfl ?_
  refine ax_iconst dX12_text_6 (by decide) (pc' := 7) rfl ?_
  refine ax_puti dX12_text_7 flX12_43 (Or.inl rfl) sh_330 rfl (pc' := 10) rfl ?_
  refine ax_iload_n dX12_text_10 rfl rfl (pc' := 11) rfl ?_
  refine ax_iconst dX12_text_11 (by decide) (pc' := 12) rfl ?_
  refine ax_bipush dX12_text_12 (by decide) (pc' := 14) rfl ?_
  refine ax_insG [.inl k, .inl 0, .inl 7] [] dX12_text_14 mlX12_74 rfl rfl (Nat.le_of_ble_eq_true rfl) (s_X12_isIn E l _ (by omega) _ k 0 7) (pc' := 17) rfl (fun vv M_14 hq co14 hcm14 => ?_)
  obtain ⟨rfl, rfl⟩ := hq
  refine ax_reS (st2 := [.inl (f_b (0 ≤ k ∧ k ≤ 7))]) rfl ?_
  refine ax_if_ne (tgt := 27) dX12_text_17 (by decide) (pc' := 20) rfl (fun h17 => ?_) (fun h17 => ?_)
  · replace h17 := f_b_1 h17
    refine ax_aload_n dX12_text_27 rfl rfl (pc' := 28) rfl ?_
    refine ax_iconst dX12_text_28 (by decide) (pc' := 29) rfl ?_
    refine ax_puti dX12_text_29 flX12_223 (Or.inl rfl) sh_330 rfl (pc' := 32) rfl ?_
    refine ax_aload_n dX12_text_32 rfl rfl (pc' := 33) rfl ?_
    refine ax_iconst dX12_text_33 (by decide) (pc' := 34) rfl ?_
    refine ax_puti dX12_text_34 flX12_123 (Or.inl rfl) sh_330 rfl (pc' := 37) rfl ?_
    refine ax_aload_n dX12_text_37 rfl rfl (pc' := 38) rfl ?_
    refine ax_iload_n dX12_text_38 rfl rfl (pc' := 39) rfl ?_
    refine ax_puti dX12_text_39 flX12_182 (Or.inl rfl) sh_330 rfl (pc' := 42) rfl ?_
    refine ax_aload_n dX12_text_42 rfl rfl (pc' := 43) rfl ?_
    refine ax_iload_n dX12_text_43 rfl rfl (pc' := 44) rfl ?_
    refine ax_invG [.inl k] [] dX12_text_44 mlX12_316 sh_330 rfl rfl rfl (Nat.le_of_ble_eq_true rfl) (s_reads_sh E l _ (by omega) _ k (ax_up_rowmiss (by decide) (ax_up_rowmiss (by decide) (ax_up_rowmiss (by decide) (ax_up_rowmiss (by decide) (ax_up_rowmiss (by decide) hta))))) (ax_up_rowmiss (by decide) (ax_up_rowmiss (by decide) (ax_up_rowmiss (by decide) (ax_up_rowmiss (by decide) (ax_up_rowmiss (by decide) hfh))))) (ax_up_miss (by decide) (ax_up_miss (by decide) (ax_up_miss (by decide) (ax_up_miss (by decide) (ax_up_miss (by decide) htn))))) (by first | omega | assumption) (by first | omega | assumption)) (pc' := 47) rfl (fun vv M_44 hq co44 hcm44 => ?_)
    obtain ⟨rfl, frM_44, fa44_0⟩ := hq
    refine ax_reS (st2 := [.inl (f_ryb (f_rshp ta tn))]) rfl ?_
    have cc44 : -2147483648 ≤ f_ryb (f_rshp ta tn) ∧ f_ryb (f_rshp ta tn) < 2147483648 := co44 _ rfl
    refine ax_istore_n dX12_text_47 rfl (by decide) (ls' := [some (.inr 330), some (.inl k), some (.inl (f_ryb (f_rshp ta tn)))]) rfl (pc' := 48) rfl ?_
    refine ax_aload_n dX12_text_48 rfl rfl (pc' := 49) rfl ?_
    refine ax_iconst dX12_text_49 (by decide) (pc' := 50) rfl ?_
    refine ax_puti dX12_text_50 flX12_120 (Or.inl rfl) sh_330 rfl (pc' := 53) rfl ?_
    refine ax_iload_n dX12_text_53 rfl rfl (pc' := 54) rfl ?_
    refine ax_if_eq (tgt := 92) dX12_text_54 (by decide) (pc' := 57) rfl (fun h54 => ?_) (fun h54 => ?_)
    · obtain ⟨kk2, ss2, qz⟩ := f_ryb_no h54
      rw [qz] at fa44_0
      refine ax_aload_n dX12_text_92 rfl rfl (pc' := 93) rfl ?_
      refine ax_aload_n dX12_text_93 rfl rfl (pc' := 94) rfl ?_
      refine ax_geti (v := M_44 330 22) dX12_text_94 flX12_223 rfl sh_330 (show (ax_up M_44 330 17 0) 330 22 = M_44 330 22 from (ax_up_miss (by decide) rfl)) rfl (pc' := 97) rfl ?_
      refine ax_puti dX12_text_97 flX12_313 (Or.inl rfl) sh_330 rfl (pc' := 100) rfl ?_
      refine ax_aload_n dX12_text_100 rfl rfl (pc' := 101) rfl ?_
      refine ax_aload_n dX12_text_101 rfl rfl (pc' := 102) rfl ?_
      refine ax_geti (v := M_44 330 23) dX12_text_102 flX12_226 rfl sh_330 (show (ax_up (ax_up M_44 330 17 0) 330 24 (M_44 330 22)) 330 23 = M_44 330 23 from (ax_up_miss (by decide) (ax_up_miss (by decide) rfl))) rfl (pc' := 105) rfl ?_
      refine ax_puti dX12_text_105 flX12_43 (Or.inl rfl) sh_330 rfl (pc' := 108) rfl ?_
      refine ax_iconst dX12_text_108 (by decide) (pc' := 109) rfl ?_
      refine ax_iret dX12_text_109 rfl ?_
      refine ⟨rfl, ?_, ?_, ?_, ?_⟩
      · refine congrArg (fun z => some (Sum.inl z)) ?_
        rw [qz]
        rfl
      · intro x0 i0 hai
        exact (ax_up_miss (fun h => hai (Or.inr (Or.inr (Or.inr (Or.inr (Or.inr (Or.inr (Or.inr (Or.inr (Or.inr (Or.inr (Or.inr (Or.inr (Or.inr (Or.inr (Or.inl h)))))))))))))))) (ax_up_miss (fun h => hai (Or.inr (Or.inr (Or.inr (Or.inr (Or.inr (Or.inr (Or.inr (Or.inr (Or.inr (Or.inr (Or.inr (Or.inr (Or.inl h)))))))))))))) (ax_up_miss (fun h => hai (Or.inl h)) ((frM_44 x0 i0 (fun h => h.elim (fun h => hai (Or.inr (Or.inr (Or.inl h)))) (fun h => h.elim (fun h => hai (Or.inr (Or.inr (Or.inr (Or.inr (Or.inr (Or.inr (Or.inl h)))))))) (fun h => h.elim (fun h => hai (Or.inr (Or.inr (Or.inr (Or.inr (Or.inr (Or.inr (Or.inr (Or.inr (Or.inr (Or.inr (Or.inl h)))))))))))) (fun h => hai (Or.inr (Or.inr (Or.inr (Or.inr (Or.inr (Or.inr (Or.inr (Or.inr (Or.inr (Or.inr (Or.inr (Or.inl h))))))))))))))))).trans (ax_up_miss (fun h => hai (Or.inr (Or.inr (Or.inr (Or.inl h))))) (ax_up_miss (fun h => hai (Or.inr (Or.inr (Or.inr (Or.inr (Or.inr (Or.inr (Or.inr (Or.inl h))))))))) (ax_up_miss (fun h => hai (Or.inr (Or.inr (Or.inr (Or.inr (Or.inr (Or.inr (Or.inr (Or.inr (Or.inr (Or.inr (Or.inl h)))))))))))) (ax_up_miss (fun h => hai (Or.inr (Or.inr (Or.inr (Or.inr (Or.inr (Or.inr (Or.inr (Or.inr (Or.inr (Or.inr (Or.inr (Or.inr (Or.inr (Or.inr (Or.inl h)))))))))))))))) (ax_up_miss (fun h => hai (Or.inr (Or.inr (Or.inr (Or.inr (Or.inr (Or.inr (Or.inr (Or.inr (Or.inr (Or.inr (Or.inr (Or.inr (Or.inl h)))))))))))))) rfl)))))))))
      · exact (ax_up_miss (by decide) (ax_up_miss (by decide) (ax_up_hit _ _ _ _)))
      · rw [qz]
        exact ⟨(ax_up_rowmiss (by decide) (ax_up_rowmiss (by decide) (ax_up_rowmiss (by decide) ((funext fun i0 => frM_44 331 i0 (fun h => h.elim (fun h => absurd h (by decide)) (fun h => h.elim (fun h => absurd h.1 (by decide)) (fun h => h.elim (fun h => absurd h.1 (by decide)) (fun h => absurd h.1 (by decide)))))).trans (ax_up_rowmiss (by decide) (ax_up_rowmiss (by decide) (ax_up_rowmiss (by decide) (ax_up_rowmiss (by decide) (ax_up_rowmiss (by decide) hw))))))))), Eq.trans (ax_up_miss (by decide) (ax_up_hit _ _ _ _)) fa44_0.1, Eq.trans (ax_up_hit _ _ _ _) fa44_0.2⟩
    · obtain ⟨ls, qz⟩ := f_ryb_ok h54
      rw [qz] at fa44_0
      obtain ⟨qm, qn, qk⟩ := fa44_0
      refine ax_iload_n dX12_text_57 rfl rfl (pc' := 58) rfl ?_
      refine ax_iconst dX12_text_58 (by decide) (pc' := 59) rfl ?_
      refine ax_icmp_ge (tgt := 70) dX12_text_59 (by decide) (pc' := 62) rfl (fun h59 => ?_) (fun h59 => ?_)
      · refine ax_iload_n dX12_text_70 rfl rfl (pc' := 71) rfl ?_
        refine ax_iconst dX12_text_71 (by decide) (pc' := 72) rfl ?_
        refine ax_icmp_ne (tgt := 82) dX12_text_72 (by decide) (pc' := 75) rfl (fun h72 => ?_) (fun h72 => ?_)
        · refine ax_aload_n dX12_text_82 rfl rfl (pc' := 83) rfl ?_
          refine ax_iload_n dX12_text_83 rfl rfl (pc' := 84) rfl ?_
          refine ax_iconst dX12_text_84 (by decide) (pc' := 85) rfl ?_
          refine ax_isub dX12_text_85 (by omega) (pc' := 86) rfl ?_
          refine ax_iconst dX12_text_86 (by decide) (pc' := 87) rfl ?_
          refine ax_isub dX12_text_87 (by omega) (pc' := 88) rfl ?_
          refine ax_invG [.inl (k - 3 - 1)] [] dX12_text_88 mlX12_325 sh_330 rfl rfl rfl (Nat.le_of_ble_eq_true rfl) (s_X12_putsShape E l _ (by omega) _ (k - 3 - 1) (ax_up_rowmiss (by decide) ((funext fun i0 => frM_44 331 i0 (fun h => h.elim (fun h => absurd h (by decide)) (fun h => h.elim (fun h => absurd h.1 (by decide)) (fun h => h.elim (fun h => absurd h.1 (by decide)) (fun h => absurd h.1 (by decide)))))).trans (ax_up_rowmiss (by decide) (ax_up_rowmiss (by decide) (ax_up_rowmiss (by decide) (ax_up_rowmiss (by decide) (ax_up_rowmiss (by decide) hw))))))) (ax_up_rowmiss (by decide) rfl) (ax_up_miss (by decide) rfl) ⟨by omega, by omega⟩ ⟨by omega, by omega⟩) (pc' := 91) rfl (fun vv M_88 hq co88 hcm88 => ?_)
          obtain ⟨rfl, frM_88, fa88_0⟩ := hq
          refine ax_reS (st2 := [.inl (M_44 330 16)]) rfl ?_
          have cc88 : -2147483648 ≤ (M_44 330 16) ∧ (M_44 330 16) < 2147483648 := co88 _ rfl
          refine ax_iret dX12_text_91 rfl ?_
          refine ⟨rfl, ?_, ?_, ?_, ?_⟩
          · refine congrArg (fun z => some (Sum.inl z)) ?_
            rw [qz]
            exact qn
          · intro x0 i0 hai
            exact ((frM_88 x0 i0 (fun h => hai (Or.inr (Or.inl h)))).trans (ax_up_miss (fun h => hai (Or.inl h)) ((frM_44 x0 i0 (fun h => h.elim (fun h => hai (Or.inr (Or.inr (Or.inl h)))) (fun h => h.elim (fun h => hai (Or.inr (Or.inr (Or.inr (Or.inr (Or.inr (Or.inr (Or.inl h)))))))) (fun h => h.elim (fun h => hai (Or.inr (Or.inr (Or.inr (Or.inr (Or.inr (Or.inr (Or.inr (Or.inr (Or.inr (Or.inr (Or.inl h)))))))))))) (fun h => hai (Or.inr (Or.inr (Or.inr (Or.inr (Or.inr (Or.inr (Or.inr (Or.inr (Or.inr (Or.inr (Or.inr (Or.inl h))))))))))))))))).trans (ax_up_miss (fun h => hai (Or.inr (Or.inr (Or.inr (Or.inl h))))) (ax_up_miss (fun h => hai (Or.inr (Or.inr (Or.inr (Or.inr (Or.inr (Or.inr (Or.inr (Or.inl h))))))))) (ax_up_miss (fun h => hai (Or.inr (Or.inr (Or.inr (Or.inr (Or.inr (Or.inr (Or.inr (Or.inr (Or.inr (Or.inr (Or.inl h)))))))))))) (ax_up_miss (fun h => hai (Or.inr (Or.inr (Or.inr (Or.inr (Or.inr (Or.inr (Or.inr (Or.inr (Or.inr (Or.inr (Or.inr (Or.inr (Or.inr (Or.inr (Or.inl h)))))))))))))))) (ax_up_miss (fun h => hai (Or.inr (Or.inr (Or.inr (Or.inr (Or.inr (Or.inr (Or.inr (Or.inr (Or.inr (Or.inr (Or.inr (Or.inr (Or.inl h)))))))))))))) rfl))))))))
          · exact ((frM_88 330 17 (fun h => absurd h (by decide))).trans (ax_up_hit _ _ _ _))
          · rw [qz]
            have qpl : f_psh w (k - 3 - 1) (M_44 330 16) (M_44 338) (M_88 331) := fa88_0
            rw [qm, qn] at qpl
            exact ⟨⟨fh, qpl⟩, ((frM_88 330 24 (fun h => absurd h (by decide))).trans (ax_up_miss (by decide) ((frM_44 330 24 (fun h => h.elim (fun h => absurd h (by decide)) (fun h => h.elim (fun h => absurd h.2 (by decide)) (fun h => h.elim (fun h => absurd h.2 (by decide)) (fun h => absurd h.2 (by decide)))))).trans (ax_up_miss (by decide) (ax_up_miss (by decide) (ax_up_miss (by decide) (ax_up_miss (by decide) (ax_up_hit _ _ _ _)))))))), ((frM_88 330 26 (fun h => absurd h (by decide))).trans (ax_up_miss (by decide) ((frM_44 330 26 (fun h => h.elim (fun h => absurd h (by decide)) (fun h => h.elim (fun h => absurd h.2 (by decide)) (fun h => h.elim (fun h => absurd h.2 (by decide)) (fun h => absurd h.2 (by decide)))))).trans (ax_up_miss (by decide) (ax_up_miss (by decide) (ax_up_miss (by decide) (ax_up_hit _ _ _ _)))))))⟩
        · exfalso
          omega
      · exfalso
        omega
  · replace h17 := f_b_0 h17
    exfalso
    exact h17 ⟨by omega, by omega⟩
