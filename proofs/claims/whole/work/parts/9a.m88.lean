/-! what holds behind a text -/
theorem f_cd_rg {w v : Int → Int} {lo hi : Int} (h : ∀ i, lo ≤ i → i < hi → v i = w i) : ∀ {ops : List f_Op} {x : Int}, lo ≤ x → x + 2 * (ops.length : Int) ≤ hi → f_cd w x ops → f_cd v x ops
  | [], _, _, _, _ => trivial
  | o :: tl, x, h1, h2, hc => by
    rw [List.length_cons] at h2
    exact ⟨(h x h1 (by omega)).trans hc.1, (h (x + 1) (by omega) (by omega)).trans hc.2.1, f_cd_rg h (by omega) (by omega) hc.2.2⟩
theorem f_lns_rg {w v : Int → Int} {k : Int} (hk : 0 ≤ k ∧ k < 3) (h : ∀ i, (i = 2634 + k ∨ (3840 + 16 * k ≤ i ∧ i < 3856 + 16 * k) ∨ (3888 + 16 * k ≤ i ∧ i < 3904 + 16 * k) ∨ (3936 + 16 * k ≤ i ∧ i < 3952 + 16 * k) ∨ (4434 + 820 * k ≤ i ∧ i < 5254 + 820 * k)) → v i = w i) (hn : w (2634 + k) ≤ 16) : ∀ {L : List f_Ln} {x : Int}, 16 * k ≤ x → f_lns w k x L → f_lns v k x L
  | [], x, _, hs => by
    have e : x = 16 * k + w (2634 + k) := hs
    show x = 16 * k + v (2634 + k)
    rw [h (2634 + k) (by omega)]
    exact e
  | ln :: tl, x, hx, hs => by
    have hl := f_lns_len hs
    rw [List.length_cons] at hl
    refine ⟨hs.1, ?_, f_lns_rg hk h hn (by omega) hs.2.2⟩
    have h1 := hs.2.1
    unfold f_sl at h1 ⊢
    rw [h (3840 + x) (by omega), h (3888 + x) (by omega), h (3936 + x) (by omega)]
    exact ⟨h1.1, h1.2.1, h1.2.2.1, h1.2.2.2.1, f_cd_rg (lo := 4434 + 820 * k) (hi := 5254 + 820 * k) (fun i a b => h i (by omega)) (by omega) (by omega) h1.2.2.2.2.1, f_cd_rg (lo := 4434 + 820 * k) (hi := 5254 + 820 * k) (fun i a b => h i (by omega)) (by omega) (by omega) h1.2.2.2.2.2⟩
theorem f_tp_0 {ta : Int → Int} : f_tp ta 0 := fun k a b => by omega
theorem f_IV_txl {M N N2 : ax_Mem} {Ls Lk : Int → List f_Ln} {w kp bk ta : Int → Int} {m im tn fk fp k : Int} {r : f_Rw} (h : f_IV M Ls Lk w kp bk ta m im tn fk fp) (hk : 0 ≤ k ∧ k < 3) (hf : ∀ x i, ¬ ((x = 58 ∨ (60 ≤ x ∧ x ≤ 64)) ∨ x = 53 + 2 * k ∨ (x = 52 + 2 * k ∧ (i = 0 ∨ i = 1))) → N x i = M x i) (hc : f_tcL M k r N) (hr : f_txL w k r N2) (hn : N 58 1 = 0) : ∃ Ls2, f_IV N Ls2 Lk (N2 331) kp bk ta m im 0 (N2 330 24) (N2 330 26) := by
  have hh := h
  obtain ⟨⟨a1, a2, a3⟩, ⟨b1, b2⟩, c, -⟩ := hh
  match r, hc, hr with
  | .inl (a, s), hc, hr =>
    obtain ⟨⟨c1, c2⟩, c3, c4, c5⟩ := hc
    obtain ⟨r1, r2, r3⟩ := hr
    rw [r1, r2, r3]
    refine ⟨Ls, f_IV_lo h (fun x i hx => hf x i (by unfold f_re at hx; omega)) (fun i _ => rfl) a2.2.2 a3 (f_lor_fr (fun x i hx => ?_) c) ⟨hn, by decide, f_tp_0⟩ ⟨c1, c2⟩⟩
    by_cases e1 : x = 53 + 2 * k
    · rw [e1, c5]
    · by_cases e2 : x = 52 + 2 * k ∧ (i = 0 ∨ i = 1)
      · obtain ⟨rfl, rfl | rfl⟩ := e2
        · exact c3
        · exact c4
      · exact hf x i (by omega)
  | .inr ls, hc, hr =>
    obtain ⟨⟨c1, c2⟩, c3, c4, c5, c6⟩ := hc
    obtain ⟨r1, r2, r3, r4, r5⟩ := hr
    rw [r4, r5]
    have ho : ∀ i, ¬ f_oL k i → N2 331 i = w i := r3
    have hdr : ∀ i, i = 2600 ∨ (3984 ≤ i ∧ i < 4434) → N2 331 i = w i := fun i hi => ho i (by unfold f_oL; omega)
    have hlt : ∀ i, 2577 ≤ i → i < 2634 → N2 331 i = w i := fun i x1 x2 => ho i (by unfold f_oL; omega)
    refine ⟨fun j => if j = k then ls else Ls j, f_IV_lo h (fun x i hx => hf x i (by unfold f_re at hx; omega)) (fun i hi => ho i (by unfold f_oL; omega)) (fun j j1 j2 => ?_) ?_ ⟨fun j j1 j2 => ?_, ?_, ?_, ?_, ?_⟩ ⟨hn, by decide, f_tp_0⟩ ⟨c1, c2⟩⟩
    · by_cases e : j = k
      · rw [e]
        show _ ∧ f_lns _ k (16 * k) (if k = k then ls else Ls k)
        rw [if_pos rfl]
        exact ⟨r2, r1⟩
      · show _ ∧ f_lns _ j (16 * j) (if j = k then ls else Ls j)
        rw [if_neg e]
        have hw := a2.2.2 j j1 j2
        have hag : ∀ i, (i = 2634 + j ∨ (3840 + 16 * j ≤ i ∧ i < 3856 + 16 * j) ∨ (3888 + 16 * j ≤ i ∧ i < 3904 + 16 * j) ∨ (3936 + 16 * j ≤ i ∧ i < 3952 + 16 * j) ∨ (4434 + 820 * j ≤ i ∧ i < 5254 + 820 * j)) → N2 331 i = w i := fun i hi => ho i (by unfold f_oL; omega)
        rw [hag (2634 + j) (by omega)]
        exact ⟨hw.1, f_lns_rg ⟨j1, j2⟩ hag hw.1.2 (Int.le_refl _) hw.2⟩
    · obtain ⟨q1, q2, q3, q4, q5, q6⟩ := a3
      refine ⟨f_dr_a hdr q1, f_dr2_a hdr q1 q2, f_shp_a (fun i x1 x2 => hlt i (by omega) x2) q3, ?_, ?_, ?_⟩
      · rw [hlt 2577 (by decide) (by decide)]; exact q4
      · rw [hlt 2578 (by decide) (by decide)]; exact q5
      · rw [hlt 2578 (by decide) (by decide)]
        intro i x1 x2
        rw [hlt (2592 + i) (by omega) (by omega)]
        exact q6 i x1 x2
    · by_cases e : j = k
      · rw [e]
        show N (39 + 13 + 2 * k) 0 = (((if k = k then ls else Ls k) : List f_Ln).length : Int) ∧ N (39 + 13 + 2 * k) 1 = ((f_enLs k (if k = k then ls else Ls k)).length : Int) ∧ (f_enLs k (if k = k then ls else Ls k)).length ≤ 400 ∧ f_fwd (N (39 + 13 + 2 * k + 1)) 0 (f_enLs k (if k = k then ls else Ls k))
        rw [if_pos rfl, show (39 + 13 + 2 * k : Int) = 52 + 2 * k by omega, show (52 + 2 * k + 1 : Int) = 53 + 2 * k by omega]
        exact ⟨c3, c4, c5, c6⟩
      · have q := c.1 j j1 j2
        show N (39 + 13 + 2 * j) 0 = (((if j = k then ls else Ls j) : List f_Ln).length : Int) ∧ N (39 + 13 + 2 * j) 1 = ((f_enLs j (if j = k then ls else Ls j)).length : Int) ∧ (f_enLs j (if j = k then ls else Ls j)).length ≤ 400 ∧ f_fwd (N (39 + 13 + 2 * j + 1)) 0 (f_enLs j (if j = k then ls else Ls j))
        rw [if_neg e, hf (39 + 13 + 2 * j) 0 (by omega), hf (39 + 13 + 2 * j) 1 (by omega), show N (39 + 13 + 2 * j + 1) = M (39 + 13 + 2 * j + 1) from funext fun x => hf _ x (by omega)]
        exact q
    · exact f_dm_a hdr a3.1 (f_dm_fr (fun x i hx => hf x i (by omega)) c.2.1)
    · refine f_lt_a (fun i x1 x2 => hlt i (by omega) x2) a3.2.2.1 (fun j j1 j2 => ?_)
      have q := c.2.2.1 j j1 j2
      rw [hf (39 + 9) j (by omega)]
      refine ⟨q.1, fun i i1 i2 => ?_⟩
      rw [hf (39 + 8) _ (by omega)]
      exact q.2 i i1 i2
    · exact f_tl_a (fun i x1 x2 => hlt i x1 (by omega)) a3.2.2.2.1 (f_tl_fr (fun x i hx => hf x i (by omega)) c.2.2.2.1)
    · refine f_or_a (fun i hi => hlt i (by omega) (by omega)) a3.2.2.2.2.1 ⟨?_, fun i i1 i2 => ?_⟩
      · rw [hf 39 8 (by omega)]
        exact c.2.2.2.2.1
      · have q3 := a3.2.2.2.2.1
        rw [hf (39 + 12) i (by omega)]
        exact c.2.2.2.2.2 i i1 i2
theorem f_putD_all {ss : List f_Sp} {fd w2 : Int → Int} (hl : (ss.length : Int) ≤ 150) (h : ∀ j, 0 ≤ j → j < 3 * (ss.length : Int) → w2 (3984 + j) = f_putD fd 0 ss j) : ∀ i, 0 ≤ i → i < (ss.length : Int) → ∃ s, ss[i.toNat]? = some s ∧ w2 (3984 + 3 * i) = s.1 ∧ w2 (3984 + 3 * i + 1) = s.2.1 ∧ w2 (3984 + 3 * i + 2) = s.2.2 := by
  intro i i1 i2
  obtain ⟨s, hs⟩ : ∃ s, ss[i.toNat]? = some s := ⟨_, List.getElem?_eq_getElem (by omega)⟩
  have q := f_putD_get ss fd 0 i.toNat s hs (by omega)
  rw [show 0 + ((i.toNat : Nat) : Int) = i by omega] at q
  refine ⟨s, hs, ?_, ?_, ?_⟩
  · rw [h (3 * i) (by omega) (by omega)]
    exact q.1
  · rw [show 3984 + 3 * i + 1 = 3984 + (3 * i + 1) by omega, h (3 * i + 1) (by omega) (by omega)]
    exact q.2.1
  · rw [show 3984 + 3 * i + 2 = 3984 + (3 * i + 2) by omega, h (3 * i + 2) (by omega) (by omega)]
    exact q.2.2
theorem f_IV_txd {M N N2 : ax_Mem} {Ls Lk : Int → List f_Ln} {w kp bk ta : Int → Int} {m im tn fk fp : Int} {L : List f_Tk} (h : f_IV M Ls Lk w kp bk ta m im tn fk fp) (hf : ∀ x i, ¬ ((x = 58 ∨ (60 ≤ x ∧ x ≤ 70)) ∨ (42 ≤ x ∧ x ≤ 44) ∨ (x = 41 ∧ i = 0)) → N x i = M x i) (hc : f_tcD M (f_drl L) N) (hr : f_txD w (f_drl L) N2) (hn : N 58 1 = 0) : f_IV N Ls Lk (N2 331) kp bk ta m im 0 (N2 330 24) (N2 330 26) := by
  have hh := h
  obtain ⟨⟨a1, a2, a3⟩, ⟨b1, b2⟩, c, -⟩ := hh
  match e : f_drl L, hc, hr with
  | .inl (a, s), hc, hr =>
    obtain ⟨⟨c1, c2⟩, c3, c4, c5, c6⟩ := hc
    obtain ⟨r1, r2, r3⟩ := hr
    rw [r1, r2, r3]
    refine f_IV_lo h (fun x i hx => hf x i (by unfold f_re at hx; omega)) (fun i _ => rfl) a2.2.2 a3 (f_lor_fr (fun x i hx => ?_) c) ⟨hn, by decide, f_tp_0⟩ ⟨c1, c2⟩
    by_cases e1 : x = 42
    · rw [e1, c4]
    · by_cases e2 : x = 43
      · rw [e2, c5]
      · by_cases e3 : x = 44
        · rw [e3, c6]
        · by_cases e4 : x = 41 ∧ i = 0
          · obtain ⟨rfl, rfl⟩ := e4
            exact c3
          · exact hf x i (by omega)
  | .inr ss, hc, hr =>
    obtain ⟨⟨c1, c2⟩, c3, c4⟩ := hc
    obtain ⟨⟨fd, p1, p2, p3⟩, r4, r5⟩ := hr
    rw [r4, r5]
    obtain ⟨o1, o2⟩ := f_drl_ok e
    have hall := f_putD_all o1 p3
    have hlt : ∀ i, ¬ (i = 2600 ∨ (3984 ≤ i ∧ i < 4434)) → N2 331 i = w i := p1
    obtain ⟨q1, q2, q3, q4, q5, q6⟩ := a3
    refine f_IV_lo h (fun x i hx => hf x i (by unfold f_re at hx; omega)) (fun i hi => hlt i (by omega)) ?_ ⟨?_, ?_, f_shp_a (fun i x1 x2 => hlt i (by omega)) q3, ?_, ?_, ?_⟩ ⟨f_lrn_fr (fun x i hx => hf x i (by omega)) c.1, ⟨?_, fun i i1 i2 => ?_⟩, ?_, ?_, ?_⟩ ⟨hn, by decide, f_tp_0⟩ ⟨c1, c2⟩
    · intro j j1 j2
      have hw := a2.2.2 j j1 j2
      have hag : ∀ i, (i = 2634 + j ∨ (3840 + 16 * j ≤ i ∧ i < 3856 + 16 * j) ∨ (3888 + 16 * j ≤ i ∧ i < 3904 + 16 * j) ∨ (3936 + 16 * j ≤ i ∧ i < 3952 + 16 * j) ∨ (4434 + 820 * j ≤ i ∧ i < 5254 + 820 * j)) → N2 331 i = w i := fun i hi => hlt i (by omega)
      rw [hag (2634 + j) (by omega)]
      exact ⟨hw.1, f_lns_rg ⟨j1, j2⟩ hag hw.1.2 (Int.le_refl _) hw.2⟩
    · unfold f_dr
      rw [p2]
      refine ⟨⟨by omega, o1⟩, fun x x1 x2 => ?_⟩
      obtain ⟨s, s1, s2, s3, s4⟩ := hall x x1 x2
      have so := o2 s (List.mem_of_getElem? s1)
      rw [s2, s3]
      unfold f_sok at so
      have g := so.2.1
      refine ⟨so.1, fun hk => ?_, fun hk => ?_, fun hk => ?_⟩
      · rw [hk] at g
        exact g
      · rw [hk] at g
        exact g
      · rw [hk] at g
        exact g
    · unfold f_dr2
      rw [p2]
      intro x x1 x2 hk
      obtain ⟨s, s1, s2, s3, s4⟩ := hall x x1 x2
      have so := o2 s (List.mem_of_getElem? s1)
      unfold f_sok at so
      have g := so.2.1
      rw [s2] at hk
      rw [hk] at g
      rw [s3]
      exact g
    · rw [hlt 2577 (by decide)]; exact q4
    · rw [hlt 2578 (by decide)]; exact q5
    · rw [hlt 2578 (by decide)]
      intro i x1 x2
      rw [hlt (2592 + i) (by omega)]
      exact q6 i x1 x2
    · rw [p2]
      exact c3
    · rw [p2] at i2
      obtain ⟨s, s1, s2, s3, s4⟩ := hall i i1 i2
      have q := c4 i.toNat s s1
      rw [show ((i.toNat : Nat) : Int) = i by omega] at q
      rw [s2, s3, s4]
      exact q
    · refine f_lt_a (fun i x1 x2 => hlt i (by omega)) q3 (fun j j1 j2 => ?_)
      have q := c.2.2.1 j j1 j2
      rw [hf (39 + 9) j (by omega)]
      refine ⟨q.1, fun i i1 i2 => ?_⟩
      rw [hf (39 + 8) _ (by omega)]
      exact q.2 i i1 i2
    · refine f_tl_a (fun i x1 x2 => hlt i (by omega)) q4 ⟨?_, fun i i1 i2 => ?_⟩
      · rw [hf 39 6 (by omega)]
        exact c.2.2.2.1.1
      · rw [hf (39 + 10) i (by omega), hf (39 + 11) i (by omega)]
        exact c.2.2.2.1.2 i i1 i2
    · refine f_or_a (fun i hi => hlt i (by omega)) q5 ⟨?_, fun i i1 i2 => ?_⟩
      · rw [hf 39 8 (by omega)]
        exact c.2.2.2.2.1
      · rw [hf (39 + 12) i (by omega)]
        exact c.2.2.2.2.2 i i1 i2
theorem f_rsh_ok {ta : Int → Int} : ∀ (n : Nat) (i : Int) (ls o : List Int), (∀ x ∈ ls, 0 ≤ x ∧ x ≤ 2) → f_rsh ta n i ls = .inr o → ∀ x ∈ o, 0 ≤ x ∧ x ≤ 2
  | 0, i, ls, o, h, e => by
    cases e
    exact h
  | n + 1, i, ls, o, h, e => by
    have e1 : (if f_blk (ta i) then f_rsh ta n (i + 1) ls else if f_ltr (ta i) = -1 then .inl (1, i) else if (ls.length : Int) = 7 then .inl (3, i) else f_rsh ta n (i + 1) (ls ++ [f_ltr (ta i)])) = .inr o := e
    split at e1
    · exact f_rsh_ok n (i + 1) ls o h e1
    · split at e1
      · cases e1
      · split at e1
        · cases e1
        · rename_i q1 q2 q3
          refine f_rsh_ok n (i + 1) _ o (fun x hx => ?_) e1
          rcases List.mem_append.mp hx with hx | hx
          · exact h x hx
          · rw [List.mem_singleton.mp hx]
            unfold f_ltr at q2 ⊢
            repeat' split
            all_goals first | omega | (exfalso; simp_all)
theorem f_putS_lt : ∀ (ls : List Int) (fh : Int → Int) (n i : Int), i < n → f_putS fh n ls i = fh i
  | [], _, _, _, _ => rfl
  | x :: tl, fh, n, i, h => by
    show f_putS (f_up fh n x) (n + 1) tl i = fh i
    rw [f_putS_lt tl _ (n + 1) i (by omega)]
    exact f_up_o (by omega)
theorem f_putS_gt : ∀ (ls : List Int) (fh : Int → Int) (n i : Int), n + (ls.length : Int) ≤ i → f_putS fh n ls i = fh i
  | [], _, _, _, _ => rfl
  | x :: tl, fh, n, i, h => by
    rw [List.length_cons] at h
    show f_putS (f_up fh n x) (n + 1) tl i = fh i
    rw [f_putS_gt tl _ (n + 1) i (by omega)]
    exact f_up_o (by omega)
theorem f_putS_at : ∀ (ls : List Int) (fh : Int → Int) (n : Int) (i : Nat) (x : Int), ls[i]? = some x → f_putS fh n ls (n + (i : Int)) = x
  | [], _, _, _, _, h => by cases h
  | y :: tl, fh, n, 0, x, h => by
    cases h
    show f_putS (f_up fh n y) (n + 1) tl (n + 0) = y
    rw [Int.add_zero, f_putS_lt tl _ (n + 1) n (by omega)]
    exact f_up_same _ _ _
  | y :: tl, fh, n, i + 1, x, h => by
    show f_putS (f_up fh n y) (n + 1) tl (n + ((i + 1 : Nat) : Int)) = x
    rw [show n + ((i + 1 : Nat) : Int) = n + 1 + (i : Int) by omega]
    exact f_putS_at tl _ (n + 1) i x h
theorem f_IV_txs {M N N2 : ax_Mem} {Ls Lk : Int → List f_Ln} {w kp bk ta t0 : Int → Int} {m im tn fk fp k n0 : Int} (h : f_IV M Ls Lk w kp bk ta m im tn fk fp) (hk : 0 ≤ k ∧ k < 4) (hf : ∀ x i, ¬ (x = 47 ∨ x = 48 ∨ x = 58) → N x i = M x i) (hc : f_tcS M k (f_rshp t0 n0) N) (hr : f_txS w k (f_rshp t0 n0) N2) (hn : N 58 1 = 0) : f_IV N Ls Lk (N2 331) kp bk ta m im 0 (N2 330 24) (N2 330 26) := by
  have hh := h
  obtain ⟨⟨a1, a2, a3⟩, ⟨b1, b2⟩, c, -⟩ := hh
  match e : f_rshp t0 n0, hc, hr with
  | .inl (a, s), hc, hr =>
    obtain ⟨⟨c1, c2⟩, c3, c4⟩ := hc
    obtain ⟨r1, r2, r3⟩ := hr
    rw [r1, r2, r3]
    refine f_IV_lo h (fun x i hx => hf x i (by unfold f_re at hx; omega)) (fun i _ => rfl) a2.2.2 a3 (f_lor_fr (fun x i hx => ?_) c) ⟨hn, by decide, f_tp_0⟩ ⟨c1, c2⟩
    by_cases e1 : x = 47
    · rw [e1, c3]
    · by_cases e2 : x = 48
      · rw [e2, c4]
      · exact hf x i (by omega)
  | .inr ls, hc, hr =>
    obtain ⟨⟨c1, c2⟩, c3, c4, c5⟩ := hc
    obtain ⟨⟨fh, p1, p2, p3⟩, r4, r5⟩ := hr
    rw [r4, r5]
    have hls : ∀ x ∈ ls, 0 ≤ x ∧ x ≤ 2 := f_rsh_ok _ _ [] ls (fun x hx => absurd hx List.not_mem_nil) e
    have hlt : ∀ i, ¬ (i = 2601 + k ∨ (2606 + 7 * k ≤ i ∧ i < 2613 + 7 * k)) → N2 331 i = w i := p1
    have hat : ∀ i, 0 ≤ i → i < (ls.length : Int) → ∃ x, ls[i.toNat]? = some x ∧ N2 331 (2606 + 7 * k + i) = x := by
      intro i i1 i2
      obtain ⟨x, hx⟩ : ∃ x, ls[i.toNat]? = some x := ⟨_, List.getElem?_eq_getElem (by omega)⟩
      refine ⟨x, hx, ?_⟩
      rw [p3 i i1 i2]
      have q := f_putS_at ls fh 0 i.toNat x hx
      rw [show 0 + ((i.toNat : Nat) : Int) = i by omega] at q
      exact q
    obtain ⟨q1, q2, q3, q4, q5, q6⟩ := a3
    refine f_IV_lo h (fun x i hx => hf x i (by unfold f_re at hx; omega)) (fun i hi => hlt i (by omega)) ?_ ⟨f_dr_a (fun i hi => hlt i (by omega)) q1, f_dr2_a (fun i hi => hlt i (by omega)) q1 q2, fun j j1 j2 => ?_, ?_, ?_, ?_⟩ ⟨f_lrn_fr (fun x i hx => hf x i (by omega)) c.1, f_dm_a (fun i hi => hlt i (by omega)) q1 (f_dm_fr (fun x i hx => hf x i (by omega)) c.2.1), fun j j1 j2 => ?_, ?_, ?_⟩ ⟨hn, by decide, f_tp_0⟩ ⟨c1, c2⟩
    · intro j j1 j2
      have hw := a2.2.2 j j1 j2
      have hag : ∀ i, (i = 2634 + j ∨ (3840 + 16 * j ≤ i ∧ i < 3856 + 16 * j) ∨ (3888 + 16 * j ≤ i ∧ i < 3904 + 16 * j) ∨ (3936 + 16 * j ≤ i ∧ i < 3952 + 16 * j) ∨ (4434 + 820 * j ≤ i ∧ i < 5254 + 820 * j)) → N2 331 i = w i := fun i hi => hlt i (by omega)
      rw [hag (2634 + j) (by omega)]
      exact ⟨hw.1, f_lns_rg ⟨j1, j2⟩ hag hw.1.2 (Int.le_refl _) hw.2⟩
    · by_cases e1 : j = k
      · rw [e1, p2]
        refine ⟨⟨by omega, by omega⟩, fun x x1 x2 => ?_⟩
        obtain ⟨y, y1, y2⟩ := hat x x1 x2
        rw [y2]
        exact hls y (List.mem_of_getElem? y1)
      · have q := q3 j j1 j2
        rw [hlt (2601 + j) (by omega)]
        refine ⟨q.1, fun x x1 x2 => ?_⟩
        rw [hlt (2606 + 7 * j + x) (by omega)]
        exact q.2 x x1 x2
    · rw [hlt 2577 (by omega)]; exact q4
    · rw [hlt 2578 (by omega)]; exact q5
    · rw [hlt 2578 (by omega)]
      intro i x1 x2
      rw [hlt (2592 + i) (by omega)]
      exact q6 i x1 x2
    · show N 48 j = _ ∧ ∀ i, 0 ≤ i → i < N2 331 (2601 + j) → N 47 (j * 7 + i) = _
      by_cases e1 : j = k
      · rw [e1, p2, c4, f_up_same]
        refine ⟨rfl, fun i i1 i2 => ?_⟩
        obtain ⟨y, y1, y2⟩ := hat i i1 i2
        rw [y2, c3]
        have q := f_putS_at ls (M 47) (k * 7) i.toNat y y1
        rw [show k * 7 + ((i.toNat : Nat) : Int) = k * 7 + i by omega] at q
        exact q
      · have q := c.2.2.1 j j1 j2
        have q7 := q3 j j1 j2
        rw [hlt (2601 + j) (by omega), c4, f_up_o e1]
        refine ⟨q.1, fun i i1 i2 => ?_⟩
        rw [hlt (2606 + 7 * j + i) (by omega), c3]
        rw [← q.2 i i1 i2]
        rcases (by omega : j < k ∨ k < j) with e2 | e2
        · exact f_putS_lt ls _ _ _ (by omega)
        · exact f_putS_gt ls _ _ _ (by omega)
    · refine f_tl_a (fun i x1 x2 => hlt i (by omega)) q4 ⟨?_, fun i i1 i2 => ?_⟩
      · rw [hf 39 6 (by omega)]
        exact c.2.2.2.1.1
      · rw [hf (39 + 10) i (by omega), hf (39 + 11) i (by omega)]
        exact c.2.2.2.1.2 i i1 i2
    · refine f_or_a (fun i hi => hlt i (by omega)) q5 ⟨?_, fun i i1 i2 => ?_⟩
      · rw [hf 39 8 (by omega)]
        exact c.2.2.2.2.1
      · rw [hf (39 + 12) i (by omega)]
        exact c.2.2.2.2.2 i i1 i2
theorem f_IV_txb {M N : ax_Mem} {Ls Lk : Int → List f_Ln} {w kp bk ta : Int → Int} {m im tn fk fp : Int} (h : f_IV M Ls Lk w kp bk ta m im tn fk fp) (hf : ∀ x i, ¬ (x = 58) → N x i = M x i) (h1 : N 58 1 = 0) (h2 : N 58 2 = 0) (h3 : N 58 3 = -1) : f_IV N Ls Lk w kp bk ta m im 0 0 (-1) := by
  have hh := h
  obtain ⟨⟨a1, a2, a3⟩, ⟨b1, b2⟩, c, -⟩ := hh
  exact f_IV_lo h (fun x i hx => hf x i (by unfold f_re at hx; omega)) (fun i _ => rfl) a2.2.2 a3 (f_lor_fr (fun x i hx => hf x i (by omega)) c) ⟨h1, by decide, f_tp_0⟩ ⟨h2, h3⟩
