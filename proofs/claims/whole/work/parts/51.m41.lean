/-! laws as the class writes them -/
def f_ix (k s : Int) : Int := if k = 2 then (if s = 9 then 0 else if s = 5 then 1 else if s = 10 then 2 else if s = 11 then 3 else if s = 3 then 4 else if s = 12 then 5 else if s = 6 then 6 else 7) else s - 1
def f_sg (s : Int) : Int := if s = 23 then -11 else if s = 24 then -12 else if s = 25 then -13 else if s = 27 then -15 else if s = 28 then -16 else if s = 29 then -17 else if s = 30 then -18 else if s = 31 then -19 else -20
def f_enO (k : Int) (o : f_Op) : List Int := if o.1 < 23 then [if o.1 = 0 then o.2 else -(1 + f_ix k o.1)] else if o.1 = 26 then [o.2, -14] else [f_sg o.1]
def f_en (k : Int) : List f_Op → List Int
  | [] => []
  | o :: tl => f_enO k o ++ f_en k tl
def f_enL (k : Int) (ln : f_Ln) : List Int := f_en k ln.1 ++ (if ln.2 = [] then [-21] else f_en k ln.2 ++ [-22])
def f_enLs (k : Int) : List f_Ln → List Int
  | [] => []
  | ln :: tl => f_enL k ln ++ f_enLs k tl
theorem f_en_app (k : Int) : ∀ (a b : List f_Op), f_en k (a ++ b) = f_en k a ++ f_en k b
  | [], b => rfl
  | o :: tl, b => by
    show f_enO k o ++ f_en k (tl ++ b) = f_enO k o ++ f_en k tl ++ f_en k b
    rw [f_en_app k tl b, List.append_assoc]
theorem f_enLs_app (k : Int) : ∀ (a b : List f_Ln), f_enLs k (a ++ b) = f_enLs k a ++ f_enLs k b
  | [], b => rfl
  | o :: tl, b => by
    show f_enL k o ++ f_enLs k (tl ++ b) = f_enL k o ++ f_enLs k tl ++ f_enLs k b
    rw [f_enLs_app k tl b, List.append_assoc]
theorem f_en_wt (k : Int) : ∀ (a : List f_Op), (f_en k a).length = f_wt a
  | [] => rfl
  | o :: tl => by
    show (f_enO k o ++ f_en k tl).length = (if o.1 = 26 then 2 else 1) + f_wt tl
    rw [List.length_append, f_en_wt k tl]
    unfold f_enO
    by_cases h1 : o.1 < 23
    · rw [if_pos h1]
      show 1 + f_wt tl = _
      rw [if_neg (by omega)]
    · rw [if_neg h1]
      by_cases h2 : o.1 = 26
      · rw [if_pos h2, if_pos h2]
        rfl
      · rw [if_neg h2, if_neg h2]
        rfl
theorem f_ix_rg {k s : Int} (h : f_al k s) : 0 ≤ f_ix k s ∧ f_ix k s ≤ 7 := by
  unfold f_al at h
  unfold f_ix
  repeat' split
  all_goals omega
theorem f_mt_run {F : Int → Int} : ∀ {ops : List f_Op} {st : List Int} {ts t2 : List Bool}, f_tys ops ts = some t2 → f_mt st ts → f_mt (f_run F ops st) t2
  | [], st, ts, t2, h, hm => by
    cases h
    exact hm
  | o :: tl, st, ts, t2, h, hm => by
    obtain ⟨z, h1, h2⟩ : ∃ z, f_ty o ts = some z ∧ f_tys tl z = some t2 := Option.bind_eq_some_iff.mp h
    exact f_mt_run (ops := tl) h2 (f_mt_op h1 hm)
theorem f_crun_c {A : Int → Int} {c : Int} {tl st : List Int} {wo : Int} (h1 : c ≠ -21) (h2 : c ≠ -22) : f_crun A (c :: tl) st wo = f_crun A tl (f_cst A c st) wo := by
  show (if c = -21 then _ else if c = -22 ∧ _ then _ else f_crun A tl (f_cst A c st) wo) = _
  rw [if_neg h1, if_neg (fun h => h2 h.1)]
theorem f_cst_bin {A : Int → Int} {c x y : Int} {s : List Int} (h1 : c < -8) (h2 : c ≠ -18) (h3 : c ≠ -22) : f_cst A c (y :: x :: s) = f_cbin c x y :: s := by
  unfold f_cst
  rw [if_neg (by omega)]
  show (if c = -18 then _ else if c = -22 then s else f_cbin c x y :: s) = _
  rw [if_neg h2, if_neg h3]
theorem f_sg_rg (s : Int) : -20 ≤ f_sg s ∧ f_sg s ≤ -11 ∧ (s ≠ 30 → f_sg s ≠ -18) ∧ f_sg s ≠ -14 := by
  unfold f_sg
  repeat' split
  all_goals omega
theorem f_cbin_both {s x y : Int} (h : s = 23 ∨ s = 24 ∨ s = 25 ∨ s = 27 ∨ s = 28 ∨ s = 29 ∨ s = 31 ∨ s = 32) : f_cbin (f_sg s) x y = f_both s x y := by
  rcases h with rfl | rfl | rfl | rfl | rfl | rfl | rfl | rfl <;> rfl
theorem f_crun_en {k : Int} {A F : Int → Int} (hA : ∀ i, f_al k i → A (f_ix k i) = F i) : ∀ (ops : List f_Op) (st : List Int) (ts t2 : List Bool) (base tl : List Int) (wo : Int), f_tys ops ts = some t2 → f_mt st ts → f_us k ops → f_crun A (f_en k ops ++ tl) (st ++ base) wo = f_crun A tl (f_run F ops st ++ base) wo
  | [], st, ts, t2, base, tl, wo, _, _, _ => rfl
  | o :: op, st, ts, t2, base, tl, wo, h, hm, hu => by
    obtain ⟨z, h1, h2⟩ : ∃ z, f_ty o ts = some z ∧ f_tys op z = some t2 := Option.bind_eq_some_iff.mp h
    have ih := f_crun_en hA op (f_op F o st) z t2 base tl wo h2 (f_mt_op h1 hm) (fun q hq => hu q (List.mem_cons_of_mem _ hq))
    show f_crun A (f_enO k o ++ f_en k op ++ tl) (st ++ base) wo = f_crun A tl (f_run F op (f_op F o st) ++ base) wo
    rw [← ih, List.append_assoc]
    unfold f_enO
    by_cases hp : o.1 < 23
    · obtain ⟨hh, -⟩ := f_ty_psh hp h1
      rw [if_pos hp, f_op_psh hp]
      by_cases h0 : o.1 = 0
      · rw [if_pos h0, if_pos h0]
        show f_crun A (o.2 :: (f_en k op ++ tl)) (st ++ base) wo = _
        rw [f_crun_c (by omega) (by omega)]
        unfold f_cst
        rw [if_pos (by omega), if_pos (by omega)]
        rfl
      · rw [if_neg h0, if_neg h0]
        have hal := (hu o (List.mem_cons_self) hp).resolve_left h0
        have hr := f_ix_rg hal
        show f_crun A (-(1 + f_ix k o.1) :: (f_en k op ++ tl)) (st ++ base) wo = _
        rw [f_crun_c (by omega) (by omega)]
        unfold f_cst
        rw [if_pos (by omega), if_neg (by omega), show -1 - -(1 + f_ix k o.1) = f_ix k o.1 by omega, hA _ hal]
        rfl
    · rw [if_neg hp]
      by_cases h26 : o.1 = 26
      · obtain ⟨t0, rfl, -, h3, h4⟩ := f_ty_prt h26 h1
        obtain ⟨x, s0, rfl, -, -⟩ := f_mt_cons hm
        rw [if_pos h26, f_op_prt h26]
        show f_crun A (o.2 :: -14 :: (f_en k op ++ tl)) (x :: (s0 ++ base)) wo = f_crun A (f_en k op ++ tl) (ax_div x o.2 :: (s0 ++ base)) wo
        rw [f_crun_c (by omega) (by omega)]
        have e1 : f_cst A o.2 (x :: (s0 ++ base)) = o.2 :: x :: (s0 ++ base) := by
          unfold f_cst
          rw [if_pos (by omega), if_pos (by omega)]
        rw [e1, f_crun_c (by decide) (by decide), f_cst_bin (by decide) (by decide) (by decide)]
        have e2 : f_cbin (-14) x o.2 = ax_div x o.2 := by
          show (if o.2 ≠ 0 then ax_div x o.2 else 0) = _
          rw [if_pos (by omega)]
        rw [e2]
      · rw [if_neg h26]
        have hs := f_sg_rg o.1
        show f_crun A (f_sg o.1 :: (f_en k op ++ tl)) (st ++ base) wo = _
        rw [f_crun_c (by omega) (by omega)]
        by_cases h30 : o.1 = 30
        · obtain ⟨t0, rfl, -⟩ := f_ty_not h30 h1
          obtain ⟨x, s0, rfl, -, -⟩ := f_mt_cons hm
          rw [f_op_not h30, h30]
          rfl
        · obtain ⟨tx, ty, tz, t0, rfl, -, hk⟩ := f_ty_bin hp h26 h30 h1
          obtain ⟨x, s0, rfl, -, hm2⟩ := f_mt_cons hm
          obtain ⟨y, s1, rfl, -, -⟩ := f_mt_cons hm2
          rw [f_op_bin hp h26 h30]
          show f_crun A _ (f_cst A (f_sg o.1) (x :: y :: (s1 ++ base))) wo = f_crun A _ (f_both o.1 y x :: (s1 ++ base)) wo
          rw [f_cst_bin (by omega) (hs.2.2.1 h30) (by omega), f_cbin_both (by omega)]
theorem f_ty_len {o : f_Op} {ts t2 : List Bool} (h : f_ty o ts = some t2) (hl : ts.length ≤ 40) : t2.length ≤ 40 := by
  by_cases hp : o.1 < 23
  · obtain ⟨hh, rfl⟩ := f_ty_psh hp h
    simp only [List.length_cons]
    omega
  · by_cases h26 : o.1 = 26
    · obtain ⟨t0, rfl, rfl, -⟩ := f_ty_prt h26 h
      exact hl
    · by_cases h30 : o.1 = 30
      · obtain ⟨t0, rfl, rfl⟩ := f_ty_not h30 h
        exact hl
      · obtain ⟨tx, ty, tz, t0, rfl, rfl, -⟩ := f_ty_bin hp h26 h30 h
        simp only [List.length_cons] at hl ⊢
        omega
theorem f_cht_en {k : Int} : ∀ (ops : List f_Op) (ts t2 : List Bool) (b : Nat) (tl : List Int), f_tys ops ts = some t2 → f_us k ops → ts.length ≤ 40 → b ≤ 2 → f_cht tl (t2.length + b) → f_cht (f_en k ops ++ tl) (ts.length + b)
  | [], ts, t2, b, tl, h, _, _, _, hc => by
    cases h
    exact hc
  | o :: op, ts, t2, b, tl, h, hu, hl, hb, hc => by
    obtain ⟨z, h1, h2⟩ : ∃ z, f_ty o ts = some z ∧ f_tys op z = some t2 := Option.bind_eq_some_iff.mp h
    have ih := f_cht_en op z t2 b tl h2 (fun q hq => hu q (List.mem_cons_of_mem _ hq)) (f_ty_len h1 hl) hb hc
    show f_cht (f_enO k o ++ f_en k op ++ tl) (ts.length + b)
    rw [List.append_assoc]
    unfold f_enO
    by_cases hp : o.1 < 23
    · obtain ⟨hh, rfl⟩ := f_ty_psh hp h1
      have hz : -8 ≤ (if o.1 = 0 then o.2 else -(1 + f_ix k o.1)) := by
        by_cases h0 : o.1 = 0
        · rw [if_pos h0]
          omega
        · rw [if_neg h0]
          have hr := f_ix_rg ((hu o (List.mem_cons_self) hp).resolve_left h0)
          omega
      rw [if_pos hp]
      refine ⟨by omega, ?_⟩
      rw [if_pos hz]
      simp only [List.length_cons] at ih
      rw [show ts.length + b + 1 = ts.length + 1 + b by omega]
      exact ih
    · rw [if_neg hp]
      by_cases h26 : o.1 = 26
      · obtain ⟨t0, rfl, rfl, h3, h4⟩ := f_ty_prt h26 h1
        rw [if_pos h26]
        simp only [List.length_cons] at hl ih ⊢
        refine ⟨by omega, ?_⟩
        rw [if_pos (by omega)]
        refine ⟨by omega, ?_⟩
        rw [if_neg (by decide), if_neg (by decide), if_neg (by decide), if_neg (by decide)]
        exact ⟨by decide, by omega, ih⟩
      · rw [if_neg h26]
        have hs := f_sg_rg o.1
        by_cases h30 : o.1 = 30
        · obtain ⟨t0, rfl, rfl⟩ := f_ty_not h30 h1
          refine ⟨by omega, ?_⟩
          rw [h30, if_neg (by decide), if_pos (by decide)]
          simp only [List.length_cons] at ih ⊢
          exact ⟨by omega, ih⟩
        · obtain ⟨tx, ty, tz, t0, rfl, rfl, hk⟩ := f_ty_bin hp h26 h30 h1
          refine ⟨by omega, ?_⟩
          rw [if_neg (by omega), if_neg (hs.2.2.1 h30), if_neg (by omega), if_neg (by omega)]
          simp only [List.length_cons] at ih ⊢
          refine ⟨by omega, by omega, ?_⟩
          rw [show t0.length + 1 + 1 + b - 1 = t0.length + 1 + b by omega]
          exact ih
theorem f_mt_1 {st : List Int} {t : Bool} (h : f_mt st [t]) : ∃ x, st = [x] ∧ (t = true → x = 0 ∨ x = 1) := by
  obtain ⟨x, s0, rfl, h1, h2⟩ := f_mt_cons h
  cases s0 with
  | nil => exact ⟨x, rfl, h1⟩
  | cons y z => exact False.elim h2
theorem f_crun_ls {k : Int} {A F : Int → Int} (hA : ∀ i, f_al k i → A (f_ix k i) = F i) : ∀ (ls : List f_Ln) (wo : Int), (∀ ln ∈ ls, f_gl k ln) → f_crun A (f_enLs k ls) [] wo = f_pick F ls wo
  | [], wo, _ => rfl
  | ln :: tl, wo, hg => by
    have ih := f_crun_ls hA tl wo (fun q hq => hg q (List.mem_cons_of_mem _ hq))
    obtain ⟨g1, g2, g3, g4⟩ := hg ln (List.mem_cons_self)
    have e1 := f_crun_en hA ln.1 [] [] [false] [] ((if ln.2 = [] then [-21] else f_en k ln.2 ++ [-22]) ++ f_enLs k tl) wo g1 trivial g3
    obtain ⟨x, ex, -⟩ := f_mt_1 (f_mt_run (F := F) (st := []) g1 trivial)
    have vx : f_val F ln.1 = x := by
      unfold f_val
      rw [ex]
      rfl
    show f_crun A (f_en k ln.1 ++ (if ln.2 = [] then [-21] else f_en k ln.2 ++ [-22]) ++ f_enLs k tl) [] wo = if ln.2 = [] ∨ f_val F ln.2 = 1 then f_val F ln.1 else f_pick F tl wo
    rw [List.append_assoc]
    refine e1.trans ?_
    rw [ex, vx]
    by_cases h2 : ln.2 = []
    · rw [if_pos h2, if_pos (Or.inl h2)]
      rfl
    · rw [if_neg h2]
      have t2 := g2.resolve_left h2
      have e2 := f_crun_en hA ln.2 [] [] [true] [x] ([-22] ++ f_enLs k tl) wo t2 trivial g4
      obtain ⟨y, ey, hy⟩ := f_mt_1 (f_mt_run (F := F) (st := []) t2 trivial)
      have vy : f_val F ln.2 = y := by
        unfold f_val
        rw [ey]
        rfl
      rw [List.append_assoc]
      refine e2.trans ?_
      rw [ey, vy]
      show (if (-22 : Int) = -21 then _ else if (-22 : Int) = -22 ∧ y ≠ 0 then x else f_crun A (f_enLs k tl) [] wo) = _
      rw [if_neg (by decide)]
      rcases hy rfl with h0 | h0
      · rw [if_neg (by omega), if_neg (fun z => z.elim h2 (fun z2 => by omega))]
        exact ih
      · rw [if_pos ⟨rfl, by omega⟩, if_pos (Or.inr h0)]
theorem f_cht_ls {k : Int} : ∀ (ls : List f_Ln), (∀ ln ∈ ls, f_gl k ln) → f_cht (f_enLs k ls) 0
  | [], _ => trivial
  | ln :: tl, hg => by
    have ih := f_cht_ls tl (fun q hq => hg q (List.mem_cons_of_mem _ hq))
    obtain ⟨g1, g2, g3, g4⟩ := hg ln (List.mem_cons_self)
    show f_cht (f_en k ln.1 ++ (if ln.2 = [] then [-21] else f_en k ln.2 ++ [-22]) ++ f_enLs k tl) 0
    rw [List.append_assoc]
    refine f_cht_en ln.1 [] [false] 0 _ g1 g3 (by decide) (by decide) ?_
    by_cases h2 : ln.2 = []
    · rw [if_pos h2]
      exact ⟨by decide, Nat.le_refl 1⟩
    · rw [if_neg h2, List.append_assoc]
      refine f_cht_en ln.2 [] [true] 1 _ (g2.resolve_left h2) g4 (by decide) (by decide) ?_
      exact ⟨by decide, by decide, ih⟩
/-! the judge -/
def f_lrn (M : ax_Mem) (b : Int) (Ls : Int → List f_Ln) : Prop := ∀ k, 0 ≤ k → k < 3 → M (b + 2 * k) 0 = ((Ls k).length : Int) ∧ M (b + 2 * k) 1 = ((f_enLs k (Ls k)).length : Int) ∧ (f_enLs k (Ls k)).length ≤ 400 ∧ f_fwd (M (b + 2 * k + 1)) 0 (f_enLs k (Ls k))
def f_hm (M : ax_Mem) (w : Int → Int) : Prop := M 1 0 = w 0 ∧ ∀ k, 0 ≤ k → k < 6 → M 2 k = w (2564 + k) ∧ M 3 k = w (2570 + k)
theorem f_lns_gl {w : Int → Int} {k : Int} : ∀ {L : List f_Ln} {x : Int}, f_lns w k x L → ∀ ln ∈ L, f_gl k ln
  | [], _, _ => fun ln h => absurd h (List.not_mem_nil)
  | l0 :: tl, x, h => by
    intro ln hl
    rcases List.mem_cons.mp hl with e | e
    · rw [e]
      exact h.1
    · exact f_lns_gl (L := tl) (x := x + 1) h.2.2 ln e
theorem f_lw_gl {Ls : Int → List f_Ln} {w : Int → Int} {k : Int} (h : f_lw Ls w) (hk : 0 ≤ k ∧ k < 3) : ∀ ln ∈ Ls k, f_gl k ln := f_lns_gl (h k hk.1 hk.2).2
set_option maxRecDepth 100000 in
theorem f_lp_0 : f_lp 52 ∧ f_lp 54 ∧ f_lp 56 := ⟨⟨sh_52, sh_53⟩, ⟨sh_54, sh_55⟩, ⟨sh_56, sh_57⟩⟩
set_option maxRecDepth 20000 in
theorem s_X2_askHabit (E : ax_Env) (l : Launch) (d : Nat) (hd : 0 ≤ d) (M : ax_Mem) (a p k : Int) (Ls : Int → List f_Ln) (w : Int → Int) (r : Int) {A : Int → Int} (hA : M 72 = A) (hg0 : f_rp a) (hg1 : f_rm M a w r) (hg2 : f_jv Ls w) (hg3 : 0 ≤ r ∧ r < 8) (hg4 : f_hm M w) (hg5 : f_lrn M 52 Ls) (hg6 : 4 < a ∧ a < 37 ∨ a = 78) (hg7 : 0 ≤ p ∧ p < f_R w r 1) (hg8 : 0 ≤ k ∧ k < 6) (hg9 : f_P w r p (1 + k) ≠ 0) : ax_G E l d iX2_askHabit [.inr 71, .inr 1, .inr a, .inl p, .inl k] M (fun z0 M2 => z0 = none ∧ (∀ x0 i0 : Int, ¬ (x0 = 72) → M2 x0 i0 = M x0 i0) ∧ M2 72 = f_up (f_up (f_up (f_up (f_up (f_up A 0 (f_P w r p (1 + k))) 1 (w 0 - f_P w r p (7 + k))) 2 p) 3 k) 4 (w (2564 + k))) 5 (f_R w r 4)) := by
  refine ax_start rfl (Nat.le_of_ble_eq_true rfl) (ls := [some (.inr 71), some (.inr 1), some (.inr a), some (.inl p), some (.inl k), none]) rfl (fun hav hcm => ?_)
  have hc3 : -2147483648 ≤ p ∧ p < 2147483648 := hav (.inl p) (by simp)
  have hc4 : -2147483648 ≤ k ∧ k < 2147483648 := hav (.inl k) (by simp)
  clear hav
  have ql : M a 1 = f_R w r 1 := hg1.1
  have qlr := (hg2.1.1 r hg3.1 hg3.2).2
  have qp := hg1.2.2.2.2
  have qw4 : M a 4 = f_R w r 4 := hg1.2.2.2.1
  have q1 := (qp p (by omega) (by omega)).2 k (by omega) (by omega)
  have q1r := f_rg_h hg2.1 hg3 (p := p) (k := k) ⟨by omega, by omega⟩ hg8
  have qti := (hg4.2 k (by omega) (by omega)).1
  have qd := hg4.1
  have qdl := hg2.1.2.2.1
  have q3 := q1.2 hg9
  refine ax_iload_n dX2_askHabit_0 rfl rfl (pc' := 1) rfl ?_
  refine ax_bipush dX2_askHabit_1 (by decide) (pc' := 3) rfl ?_
  refine ax_imul dX2_askHabit_3 (by omega) (pc' := 4) rfl ?_
  refine ax_iload dX2_askHabit_4 rfl (pc' := 6) rfl ?_
  refine ax_iadd dX2_askHabit_6 (by omega) (pc' := 7) rfl ?_
  refine ax_istore dX2_askHabit_7 (by decide) (ls' := [some (.inr 71), some (.inr 1), some (.inr a), some (.inl p), some (.inl k), some (.inl (p * 6 + k))]) rfl (pc' := 9) rfl ?_
  refine ax_aload_n dX2_askHabit_9 rfl rfl (pc' := 10) rfl ?_
  refine ax_getr (v := 72) dX2_askHabit_10 flX2_11 rfl sh_71 rfl (pc' := 13) rfl ?_
  refine ax_iconst dX2_askHabit_13 (by decide) (pc' := 14) rfl ?_
  refine ax_aload_n dX2_askHabit_14 rfl rfl (pc' := 15) rfl ?_
  refine ax_getr (v := a + 2) dX2_askHabit_15 flX2_27 rfl hg0.1 rfl (pc' := 18) rfl ?_
  refine ax_iload dX2_askHabit_18 rfl (pc' := 20) rfl ?_
  refine ax_iald (v := (M (a + 2)) (p * 6 + k)) dX2_askHabit_20 hg0.2.2.1 rfl (by omega) (by omega) ((congrFun rfl (p * 6 + k)).trans rfl) (pc' := 21) rfl ?_
  refine ax_iast dX2_askHabit_21 sh_72 rfl (by omega) (by omega) (pc' := 22) rfl ?_
  refine ax_aload_n dX2_askHabit_22 rfl rfl (pc' := 23) rfl ?_
  refine ax_getr (v := 72) dX2_askHabit_23 flX2_11 rfl sh_71 rfl (pc' := 26) rfl ?_
  refine ax_iconst dX2_askHabit_26 (by decide) (pc' := 27) rfl ?_
  refine ax_aload_n dX2_askHabit_27 rfl rfl (pc' := 28) rfl ?_
  refine ax_geti (v := M 1 0) dX2_askHabit_28 flX2_32 rfl sh_1 (show (ax_up M 72 0 ((M (a + 2)) (p * 6 + k))) 1 0 = M 1 0 from (ax_up_miss (fun h => absurd h.1 (by decide)) rfl)) rfl (pc' := 31) rfl ?_
  refine ax_aload_n dX2_askHabit_31 rfl rfl (pc' := 32) rfl ?_
  refine ax_getr (v := a + 3) dX2_askHabit_32 flX2_38 rfl hg0.1 rfl (pc' := 35) rfl ?_
  refine ax_iload dX2_askHabit_35 rfl (pc' := 37) rfl ?_
  refine ax_iald (v := (M (a + 3)) (p * 6 + k)) dX2_askHabit_37 hg0.2.2.2 rfl (by omega) (by omega) ((congrFun (ax_up_rowmiss (by omega) rfl) (p * 6 + k)).trans rfl) (pc' := 38) rfl ?_
  refine ax_isub dX2_askHabit_38 (by omega) (pc' := 39) rfl ?_
  refine ax_iast dX2_askHabit_39 sh_72 rfl (by omega) (by omega) (pc' := 40) rfl ?_
  refine ax_aload_n dX2_askHabit_40 rfl rfl (pc' := 41) rfl ?_
  refine ax_getr (v := 72) dX2_askHabit_41 flX2_11 rfl sh_71 rfl (pc' := 44) rfl ?_
  refine ax_iconst dX2_askHabit_44 (by decide) (pc' := 45) rfl ?_
  refine ax_iload_n dX2_askHabit_45 rfl rfl (pc' := 46) rfl ?_
  refine ax_iast dX2_askHabit_46 sh_72 rfl (by omega) (by omega) (pc' := 47) rfl ?_
  refine ax_aload_n dX2_askHabit_47 rfl rfl (pc' := 48) rfl ?_
  refine ax_getr (v := 72) dX2_askHabit_48 flX2_11 rfl sh_71 rfl (pc' := 51) rfl ?_
  refine ax_iconst dX2_askHabit_51 (by decide) (pc' := 52) rfl ?_
  refine ax_iload dX2_askHabit_52 rfl (pc' := 54) rfl ?_
  refine ax_iast dX2_askHabit_54 sh_72 rfl (by omega) (by omega) (pc' := 55) rfl ?_
  refine ax_aload_n dX2_askHabit_55 rfl rfl (pc' := 56) rfl ?_
  refine ax_getr (v := 72) dX2_askHabit_56 flX2_11 rfl sh_71 rfl (pc' := 59) rfl ?_
  refine ax_iconst dX2_askHabit_59 (by decide) (pc' := 60) rfl ?_
  refine ax_aload_n dX2_askHabit_60 rfl rfl (pc' := 61) rfl ?_
  refine ax_getr (v := 2) dX2_askHabit_61 flX2_41 rfl sh_1 rfl (pc' := 64) rfl ?_
  refine ax_iload dX2_askHabit_64 rfl (pc' := 66) rfl ?_
  refine ax_iald (v := (M 2) k) dX2_askHabit_66 sh_2 rfl (by omega) (by omega) ((congrFun (ax_up_rowmiss (by decide) (ax_up_rowmiss (by decide) (ax_up_rowmiss (by decide) (ax_up_rowmiss (by decide) rfl)))) k).trans rfl) (pc' := 67) rfl ?_
  refine ax_iast dX2_askHabit_67 sh_72 rfl (by omega) (by omega) (pc' := 68) rfl ?_
  refine ax_aload_n dX2_askHabit_68 rfl rfl (pc' := 69) rfl ?_
  refine ax_getr (v := 72) dX2_askHabit_69 flX2_11 rfl sh_71 rfl (pc' := 72) rfl ?_
  refine ax_iconst dX2_askHabit_72 (by decide) (pc' := 73) rfl ?_
  refine ax_aload_n dX2_askHabit_73 rfl rfl (pc' := 74) rfl ?_
  refine ax_geti (v := M a 4) dX2_askHabit_74 flX2_44 rfl hg0.1 (show (ax_up (ax_up (ax_up (ax_up (ax_up M 72 0 ((M (a + 2)) (p * 6 + k))) 72 1 (M 1 0 - ((M (a + 3)) (p * 6 + k)))) 72 2 p) 72 3 k) 72 4 ((M 2) k)) a 4 = M a 4 from (ax_up_miss (by omega) (ax_up_miss (by omega) (ax_up_miss (by omega) (ax_up_miss (by omega) (ax_up_miss (by omega) rfl)))))) rfl (pc' := 77) rfl ?_
  refine ax_iast dX2_askHabit_77 sh_72 rfl (by omega) (by omega) (pc' := 78) rfl ?_
  refine ax_vret dX2_askHabit_78 rfl ?_
  refine ⟨rfl, rfl, ?_, ?_⟩
  · intro x0 i0 hai
    exact (ax_up_miss (fun h => hai h.1) (ax_up_miss (fun h => hai h.1) (ax_up_miss (fun h => hai h.1) (ax_up_miss (fun h => hai h.1) (ax_up_miss (fun h => hai h.1) (ax_up_miss (fun h => hai h.1) rfl))))))
  · refine Eq.trans (ax_up_rowhit (ax_up_rowhit (ax_up_rowhit (ax_up_rowhit (ax_up_rowhit (ax_up_rowhit hA)))))) ?_
    rw [q1.1, q3, qd, qti, qw4]
set_option maxRecDepth 20000 in
theorem s_X2_needOf (E : ax_Env) (l : Launch) (d : Nat) (hd : 2 ≤ d) (M : ax_Mem) (a p k : Int) (Ls : Int → List f_Ln) (w : Int → Int) (r : Int) (hg0 : f_rp a) (hg1 : f_rm M a w r) (hg2 : f_jv Ls w) (hg3 : 0 ≤ r ∧ r < 8) (hg4 : f_hm M w) (hg5 : f_lrn M 52 Ls) (hg6 : 4 < a ∧ a < 37 ∨ a = 78) (hg7 : 0 ≤ p ∧ p < f_R w r 1) (hg8 : 0 ≤ k ∧ k < 6) (hg9 : f_P w r p (1 + k) ≠ 0) : ax_G E l d iX2_needOf [.inr 71, .inr 1, .inr a, .inl p, .inl k] M (fun z0 M2 => z0 = some (.inl (f_need Ls w r p k)) ∧ (∀ x0 i0 : Int, ¬ (x0 = 72 ∨ x0 = 73) → M2 x0 i0 = M x0 i0)) := by
  obtain ⟨d, rfl⟩ : ∃ d0, d = d0 + 1 := ⟨d - 1, by omega⟩
  refine ax_start rfl (Nat.le_of_ble_eq_true rfl) (ls := [some (.inr 71), some (.inr 1), some (.inr a), some (.inl p), some (.inl k)]) rfl (fun hav hcm => ?_)
  have hc3 : -2147483648 ≤ p ∧ p < 2147483648 := hav (.inl p) (by simp)
  have hc4 : -2147483648 ≤ k ∧ k < 2147483648 := hav (.inl k) (by simp)
  clear hav
  have ql : M a 1 = f_R w r 1 := hg1.1
  have qlr := (hg2.1.1 r hg3.1 hg3.2).2
  have qp := hg1.2.2.2.2
  have qw4 : M a 4 = f_R w r 4 := hg1.2.2.2.1
  have q1 := (qp p (by omega) (by omega)).2 k (by omega) (by omega)
  have q1r := f_rg_h hg2.1 hg3 (p := p) (k := k) ⟨by omega, by omega⟩ hg8
  have qti := (hg4.2 k (by omega) (by omega)).1
  have qd := hg4.1
  have qdl := hg2.1.2.2.1
  have q3 := q1.2 hg9
  refine ax_aload_n dX2_needOf_0 rfl rfl (pc' := 1) rfl ?_
  refine ax_aload_n dX2_needOf_1 rfl rfl (pc' := 2) rfl ?_
  refine ax_aload_n dX2_needOf_2 rfl rfl (pc' := 3) rfl ?_
  refine ax_iload_n dX2_needOf_3 rfl rfl (pc' := 4) rfl ?_
  refine ax_iload dX2_needOf_4 rfl (pc' := 6) rfl ?_
  refine ax_invG [.inr 1, .inr a, .inl p, .inl k] [] dX2_needOf_6 mlX2_47 sh_71 rfl rfl rfl (Nat.le_of_ble_eq_true rfl) (s_X2_askHabit E l _ (by omega) _ a p k Ls w r rfl (by first | omega | assumption) (by first | omega | assumption) (by first | omega | assumption) (by first | omega | assumption) (by first | omega | assumption) (by first | omega | assumption) (by first | omega | assumption) (by first | omega | assumption) (by first | omega | assumption) (by first | omega | assumption)) (pc' := 9) rfl (fun vv M_6 hq co6 hcm6 => ?_)
  obtain ⟨rfl, frM_6, mrM_6_0⟩ := hq
  refine ax_reS (st2 := []) rfl ?_
  refine ax_aload_n dX2_needOf_9 rfl rfl (pc' := 10) rfl ?_
  refine ax_getr (v := 72) dX2_needOf_10 flX2_11 rfl sh_71 rfl (pc' := 13) rfl ?_
  refine ax_bipush dX2_needOf_13 (by decide) (pc' := 15) rfl ?_
  refine ax_aload_n dX2_needOf_15 rfl rfl (pc' := 16) rfl ?_
  refine ax_iload_n dX2_needOf_16 rfl rfl (pc' := 17) rfl ?_
  refine ax_invG [.inl p] [.inl 6, .inr 72] dX2_needOf_17 mlX2_51 hg0.1 rfl rfl rfl (Nat.le_of_ble_eq_true rfl) (s_X7_tiesBeside E l _ (by omega) _ a p w r hg0 (f_rm_fr (M := M) (fun x0 i0 hx => ((frM_6 x0 i0 (by omega)).trans rfl)) hg1) hg2.1 hg3 hg7) (pc' := 20) rfl (fun vv M_17 hq co17 hcm17 => ?_)
  obtain ⟨rfl, rfl⟩ := hq
  refine ax_reS (st2 := [.inl (f_besd w r p), .inl 6, .inr 72]) rfl ?_
  refine ax_iast dX2_needOf_20 sh_72 rfl (by omega) (by omega) (pc' := 21) rfl ?_
  refine ax_aload_n dX2_needOf_21 rfl rfl (pc' := 22) rfl ?_
  refine ax_getr (v := 72) dX2_needOf_22 flX2_11 rfl sh_71 rfl (pc' := 25) rfl ?_
  refine ax_bipush dX2_needOf_25 (by decide) (pc' := 27) rfl ?_
  refine ax_aload_n dX2_needOf_27 rfl rfl (pc' := 28) rfl ?_
  refine ax_invG [] [.inl 7, .inr 72] dX2_needOf_28 mlX2_55 hg0.1 rfl rfl rfl (Nat.le_of_ble_eq_true rfl) (s_X7_tiesInAll E l _ (by omega) _ a w r hg0 (f_rm_fr (M := M) (fun x0 i0 hx => (ax_up_miss (by omega) ((frM_6 x0 i0 (by omega)).trans rfl))) hg1) hg2.1 hg3) (pc' := 31) rfl (fun vv M_28 hq co28 hcm28 => ?_)
  obtain ⟨rfl, rfl⟩ := hq
  refine ax_reS (st2 := [.inl (f_tied w r), .inl 7, .inr 72]) rfl ?_
  have cc28 : -2147483648 ≤ f_tied w r ∧ f_tied w r < 2147483648 := co28 _ rfl
  refine ax_iast dX2_needOf_31 sh_72 rfl (by omega) (by omega) (pc' := 32) rfl ?_
  refine ax_aload_n dX2_needOf_32 rfl rfl (pc' := 33) rfl ?_
  refine ax_getr (v := 39) dX2_needOf_33 flX2_23 rfl sh_71 rfl (pc' := 36) rfl ?_
  refine ax_getr (v := 40) dX2_needOf_36 flX2_59 rfl sh_39 rfl (pc' := 39) rfl ?_
  refine ax_iconst dX2_needOf_39 (by decide) (pc' := 40) rfl ?_
  refine ax_aald (v := 52) dX2_needOf_40 sh_40 (by decide) (by decide) (by decide) rfl (pc' := 41) rfl ?_
  refine ax_aload_n dX2_needOf_41 rfl rfl (pc' := 42) rfl ?_
  refine ax_getr (v := 72) dX2_needOf_42 flX2_11 rfl sh_71 rfl (pc' := 45) rfl ?_
  refine ax_aload_n dX2_needOf_45 rfl rfl (pc' := 46) rfl ?_
  refine ax_getr (v := 73) dX2_needOf_46 flX2_17 rfl sh_71 rfl (pc' := 49) rfl ?_
  refine ax_bipush dX2_needOf_49 (by decide) (pc' := 51) rfl ?_
  refine ax_aload_n dX2_needOf_51 rfl rfl (pc' := 52) rfl ?_
  refine ax_getr (v := 72) dX2_needOf_52 flX2_11 rfl sh_71 rfl (pc' := 55) rfl ?_
  refine ax_iconst dX2_needOf_55 (by decide) (pc' := 56) rfl ?_
  refine ax_iald (v := (f_up (f_up (f_up (f_up (f_up (f_up (M 72) 0 (f_P w r p (1 + k))) 1 (w 0 - f_P w r p (7 + k))) 2 p) 3 k) 4 (w (2564 + k))) 5 (f_R w r 4)) 0) dX2_needOf_56 sh_72 rfl (by omega) (by omega) ((congrFun (ax_up_rowhit (ax_up_rowhit mrM_6_0)) 0).trans (f_up_ne (by decide) (f_up_ne (by decide) rfl))) (pc' := 57) rfl ?_
  refine ax_reS (st2 := [.inl (f_P w r p (1 + k)), .inl 100, .inr 73, .inr 72, .inr 52]) (congrArg (fun z => Sum.inl z :: _) (by simp [f_up])) ?_
  refine ax_isub dX2_needOf_57 (by omega) (pc' := 58) rfl ?_
  have qA : ∀ i, f_al 0 i → (f_up (f_up (f_up (f_up (f_up (f_up (f_up (f_up (M 72) 0 (f_P w r p (1 + k))) 1 (w 0 - f_P w r p (7 + k))) 2 p) 3 k) 4 (w (2564 + k))) 5 (f_R w r 4)) 6 (f_besd w r p)) 7 (f_tied w r)) (f_ix 0 i) = f_Fh w r p k (f_P w r p (1 + k)) (w 0 - f_P w r p (7 + k)) i := by
    intro i hi
    unfold f_al at hi
    rcases (by omega : i = 1 ∨ i = 2 ∨ i = 3 ∨ i = 4 ∨ i = 5 ∨ i = 6 ∨ i = 7 ∨ i = 8) with rfl | rfl | rfl | rfl | rfl | rfl | rfl | rfl
    · exact by simp [f_up, f_ix, f_Fh]
    · exact by simp [f_up, f_ix, f_Fh]
    · exact by simp [f_up, f_ix, f_Fh]
    · exact by simp [f_up, f_ix, f_Fh]
    · exact by simp [f_up, f_ix, f_Fh]
    · exact by simp [f_up, f_ix, f_Fh]
    · exact by simp [f_up, f_ix, f_Fh]
    · exact by simp [f_up, f_ix, f_Fh]
  refine ax_invG [.inr 72, .inr 73, .inl (100 - (f_P w r p (1 + k)))] [] dX2_needOf_58 mlX2_65 sh_52 rfl rfl rfl (Nat.le_of_ble_eq_true rfl) (s_X3_answer E l _ (by omega) _ 52 (100 - (f_P w r p (1 + k))) (f_enLs 0 (Ls 0)) (ax_up_rowhit (ax_up_rowhit mrM_6_0)) f_lp_0.1 ⟨Eq.trans (ax_up_miss (fun h => absurd h.1 (by decide)) (ax_up_miss (fun h => absurd h.1 (by decide)) ((frM_6 52 1 (fun h => absurd h (by decide))).trans rfl))) (hg5 0 (by decide) (by decide)).2.1, (hg5 0 (by decide) (by decide)).2.2.1⟩ ((show (ax_up (ax_up M_6 72 6 (f_besd w r p)) 72 7 (f_tied w r)) 53 = M 53 from (ax_up_rowmiss (by decide) (ax_up_rowmiss (by decide) ((funext fun i0 => frM_6 53 i0 (fun h => absurd h (by decide))).trans rfl)))) ▸ (hg5 0 (by decide) (by decide)).2.2.2) (f_cht_ls _ (f_lw_gl hg2.2.2 ⟨by decide, by decide⟩)) (by decide)) (pc' := 61) rfl (fun vv M_58 hq co58 hcm58 => ?_)
  obtain ⟨rfl, frM_58⟩ := hq
  refine ax_reS (st2 := [.inl (f_crun (f_up (f_up (f_up (f_up (f_up (f_up (f_up (f_up (M 72) 0 (f_P w r p (1 + k))) 1 (w 0 - f_P w r p (7 + k))) 2 p) 3 k) 4 (w (2564 + k))) 5 (f_R w r 4)) 6 (f_besd w r p)) 7 (f_tied w r)) (f_enLs 0 (Ls 0)) [] (100 - (f_P w r p (1 + k))))]) rfl ?_
  have cc58 : -2147483648 ≤ f_crun (f_up (f_up (f_up (f_up (f_up (f_up (f_up (f_up (M 72) 0 (f_P w r p (1 + k))) 1 (w 0 - f_P w r p (7 + k))) 2 p) 3 k) 4 (w (2564 + k))) 5 (f_R w r 4)) 6 (f_besd w r p)) 7 (f_tied w r)) (f_enLs 0 (Ls 0)) [] (100 - (f_P w r p (1 + k))) ∧ f_crun (f_up (f_up (f_up (f_up (f_up (f_up (f_up (f_up (M 72) 0 (f_P w r p (1 + k))) 1 (w 0 - f_P w r p (7 + k))) 2 p) 3 k) 4 (w (2564 + k))) 5 (f_R w r 4)) 6 (f_besd w r p)) 7 (f_tied w r)) (f_enLs 0 (Ls 0)) [] (100 - (f_P w r p (1 + k))) < 2147483648 := co58 _ rfl
  refine ax_sipush dX2_needOf_61 (by decide) (pc' := 64) rfl ?_
  refine ax_insG [.inl (f_crun (f_up (f_up (f_up (f_up (f_up (f_up (f_up (f_up (M 72) 0 (f_P w r p (1 + k))) 1 (w 0 - f_P w r p (7 + k))) 2 p) 3 k) 4 (w (2564 + k))) 5 (f_R w r 4)) 6 (f_besd w r p)) 7 (f_tied w r)) (f_enLs 0 (Ls 0)) [] (100 - (f_P w r p (1 + k)))), .inl 999] [] dX2_needOf_64 mlX2_69 rfl rfl (Nat.le_of_ble_eq_true rfl) (s_X2_held E l _ (by omega) _ (f_crun (f_up (f_up (f_up (f_up (f_up (f_up (f_up (f_up (M 72) 0 (f_P w r p (1 + k))) 1 (w 0 - f_P w r p (7 + k))) 2 p) 3 k) 4 (w (2564 + k))) 5 (f_R w r 4)) 6 (f_besd w r p)) 7 (f_tied w r)) (f_enLs 0 (Ls 0)) [] (100 - (f_P w r p (1 + k)))) 999 (by decide)) (pc' := 67) rfl (fun vv M_64 hq co64 hcm64 => ?_)
  obtain ⟨rfl, rfl⟩ := hq
  refine ax_reS (st2 := [.inl (max 0 (min 999 (f_crun (f_up (f_up (f_up (f_up (f_up (f_up (f_up (f_up (M 72) 0 (f_P w r p (1 + k))) 1 (w 0 - f_P w r p (7 + k))) 2 p) 3 k) 4 (w (2564 + k))) 5 (f_R w r 4)) 6 (f_besd w r p)) 7 (f_tied w r)) (f_enLs 0 (Ls 0)) [] (100 - (f_P w r p (1 + k))))))]) rfl ?_
  have cc64 : -2147483648 ≤ max 0 (min 999 (f_crun (f_up (f_up (f_up (f_up (f_up (f_up (f_up (f_up (M 72) 0 (f_P w r p (1 + k))) 1 (w 0 - f_P w r p (7 + k))) 2 p) 3 k) 4 (w (2564 + k))) 5 (f_R w r 4)) 6 (f_besd w r p)) 7 (f_tied w r)) (f_enLs 0 (Ls 0)) [] (100 - (f_P w r p (1 + k))))) ∧ max 0 (min 999 (f_crun (f_up (f_up (f_up (f_up (f_up (f_up (f_up (f_up (M 72) 0 (f_P w r p (1 + k))) 1 (w 0 - f_P w r p (7 + k))) 2 p) 3 k) 4 (w (2564 + k))) 5 (f_R w r 4)) 6 (f_besd w r p)) 7 (f_tied w r)) (f_enLs 0 (Ls 0)) [] (100 - (f_P w r p (1 + k))))) < 2147483648 := co64 _ rfl
  refine ax_iret dX2_needOf_67 rfl ?_
  refine ⟨rfl, ?_, ?_⟩
  · refine congrArg (fun z => some (Sum.inl z)) ?_
    unfold f_need f_needW
    rw [← f_crun_ls qA (Ls 0) _ (f_lw_gl hg2.2.2 ⟨by decide, by decide⟩)]
  · intro x0 i0 hai
    exact ((frM_58 x0 i0 (fun h => hai (Or.inr h))).trans (ax_up_miss (fun h => hai (Or.inl h.1)) (ax_up_miss (fun h => hai (Or.inl h.1)) ((frM_6 x0 i0 (fun h => hai (Or.inl h))).trans rfl))))
set_option maxRecDepth 20000 in
theorem s_X2_lossOf (E : ax_Env) (l : Launch) (d : Nat) (hd : 1 ≤ d) (M : ax_Mem) (a p k : Int) (Ls : Int → List f_Ln) (w : Int → Int) (r : Int) (hg0 : f_rp a) (hg1 : f_rm M a w r) (hg2 : f_jv Ls w) (hg3 : 0 ≤ r ∧ r < 8) (hg4 : f_hm M w) (hg5 : f_lrn M 52 Ls) (hg6 : 4 < a ∧ a < 37 ∨ a = 78) (hg7 : 0 ≤ p ∧ p < f_R w r 1) (hg8 : 0 ≤ k ∧ k < 6) (hg9 : f_P w r p (1 + k) ≠ 0) : ax_G E l d iX2_lossOf [.inr 71, .inr 1, .inr a, .inl p, .inl k] M (fun z0 M2 => z0 = some (.inl (f_loss Ls w r p k)) ∧ (∀ x0 i0 : Int, ¬ (x0 = 72 ∨ x0 = 73) → M2 x0 i0 = M x0 i0)) := by
  obtain ⟨d, rfl⟩ : ∃ d0, d = d0 + 1 := ⟨d - 1, by omega⟩
  refine ax_start rfl (Nat.le_of_ble_eq_true rfl) (ls := [some (.inr 71), some (.inr 1), some (.inr a), some (.inl p), some (.inl k)]) rfl (fun hav hcm => ?_)
  have hc3 : -2147483648 ≤ p ∧ p < 2147483648 := hav (.inl p) (by simp)
  have hc4 : -2147483648 ≤ k ∧ k < 2147483648 := hav (.inl k) (by simp)
  clear hav
  have ql : M a 1 = f_R w r 1 := hg1.1
  have qlr := (hg2.1.1 r hg3.1 hg3.2).2
  have qp := hg1.2.2.2.2
  have qw4 : M a 4 = f_R w r 4 := hg1.2.2.2.1
  have q1 := (qp p (by omega) (by omega)).2 k (by omega) (by omega)
  have q1r := f_rg_h hg2.1 hg3 (p := p) (k := k) ⟨by omega, by omega⟩ hg8
  have qti := (hg4.2 k (by omega) (by omega)).1
  have qd := hg4.1
  have qdl := hg2.1.2.2.1
  have q3 := q1.2 hg9
  refine ax_aload_n dX2_lossOf_0 rfl rfl (pc' := 1) rfl ?_
  refine ax_aload_n dX2_lossOf_1 rfl rfl (pc' := 2) rfl ?_
  refine ax_aload_n dX2_lossOf_2 rfl rfl (pc' := 3) rfl ?_
  refine ax_iload_n dX2_lossOf_3 rfl rfl (pc' := 4) rfl ?_
  refine ax_iload dX2_lossOf_4 rfl (pc' := 6) rfl ?_
  refine ax_invG [.inr 1, .inr a, .inl p, .inl k] [] dX2_lossOf_6 mlX2_47 sh_71 rfl rfl rfl (Nat.le_of_ble_eq_true rfl) (s_X2_askHabit E l _ (by omega) _ a p k Ls w r rfl (by first | omega | assumption) (by first | omega | assumption) (by first | omega | assumption) (by first | omega | assumption) (by first | omega | assumption) (by first | omega | assumption) (by first | omega | assumption) (by first | omega | assumption) (by first | omega | assumption) (by first | omega | assumption)) (pc' := 9) rfl (fun vv M_6 hq co6 hcm6 => ?_)
  obtain ⟨rfl, frM_6, mrM_6_0⟩ := hq
  refine ax_reS (st2 := []) rfl ?_
  refine ax_aload_n dX2_lossOf_9 rfl rfl (pc' := 10) rfl ?_
  refine ax_getr (v := 39) dX2_lossOf_10 flX2_23 rfl sh_71 rfl (pc' := 13) rfl ?_
  refine ax_getr (v := 40) dX2_lossOf_13 flX2_59 rfl sh_39 rfl (pc' := 16) rfl ?_
  refine ax_iconst dX2_lossOf_16 (by decide) (pc' := 17) rfl ?_
  refine ax_aald (v := 54) dX2_lossOf_17 sh_40 (by decide) (by decide) (by decide) rfl (pc' := 18) rfl ?_
  refine ax_aload_n dX2_lossOf_18 rfl rfl (pc' := 19) rfl ?_
  refine ax_getr (v := 72) dX2_lossOf_19 flX2_11 rfl sh_71 rfl (pc' := 22) rfl ?_
  refine ax_aload_n dX2_lossOf_22 rfl rfl (pc' := 23) rfl ?_
  refine ax_getr (v := 73) dX2_lossOf_23 flX2_17 rfl sh_71 rfl (pc' := 26) rfl ?_
  refine ax_iconst dX2_lossOf_26 (by decide) (pc' := 27) rfl ?_
  have qA : ∀ i, f_al 1 i → (f_up (f_up (f_up (f_up (f_up (f_up (M 72) 0 (f_P w r p (1 + k))) 1 (w 0 - f_P w r p (7 + k))) 2 p) 3 k) 4 (w (2564 + k))) 5 (f_R w r 4)) (f_ix 1 i) = f_Fh w r p k (f_P w r p (1 + k)) (w 0 - f_P w r p (7 + k)) i := by
    intro i hi
    unfold f_al at hi
    rcases (by omega : i = 1 ∨ i = 2 ∨ i = 3 ∨ i = 4 ∨ i = 5 ∨ i = 6) with rfl | rfl | rfl | rfl | rfl | rfl
    · exact by simp [f_up, f_ix, f_Fh]
    · exact by simp [f_up, f_ix, f_Fh]
    · exact by simp [f_up, f_ix, f_Fh]
    · exact by simp [f_up, f_ix, f_Fh]
    · exact by simp [f_up, f_ix, f_Fh]
    · exact by simp [f_up, f_ix, f_Fh]
  refine ax_invG [.inr 72, .inr 73, .inl 1] [] dX2_lossOf_27 mlX2_65 sh_54 rfl rfl rfl (Nat.le_of_ble_eq_true rfl) (s_X3_answer E l _ (by omega) _ 54 1 (f_enLs 1 (Ls 1)) mrM_6_0 f_lp_0.2.1 ⟨Eq.trans ((frM_6 54 1 (fun h => absurd h (by decide))).trans rfl) (hg5 1 (by decide) (by decide)).2.1, (hg5 1 (by decide) (by decide)).2.2.1⟩ ((show M_6 55 = M 55 from ((funext fun i0 => frM_6 55 i0 (fun h => absurd h (by decide))).trans rfl)) ▸ (hg5 1 (by decide) (by decide)).2.2.2) (f_cht_ls _ (f_lw_gl hg2.2.2 ⟨by decide, by decide⟩)) (by decide)) (pc' := 30) rfl (fun vv M_27 hq co27 hcm27 => ?_)
  obtain ⟨rfl, frM_27⟩ := hq
  refine ax_reS (st2 := [.inl (f_crun (f_up (f_up (f_up (f_up (f_up (f_up (M 72) 0 (f_P w r p (1 + k))) 1 (w 0 - f_P w r p (7 + k))) 2 p) 3 k) 4 (w (2564 + k))) 5 (f_R w r 4)) (f_enLs 1 (Ls 1)) [] 1)]) rfl ?_
  have cc27 : -2147483648 ≤ f_crun (f_up (f_up (f_up (f_up (f_up (f_up (M 72) 0 (f_P w r p (1 + k))) 1 (w 0 - f_P w r p (7 + k))) 2 p) 3 k) 4 (w (2564 + k))) 5 (f_R w r 4)) (f_enLs 1 (Ls 1)) [] 1 ∧ f_crun (f_up (f_up (f_up (f_up (f_up (f_up (M 72) 0 (f_P w r p (1 + k))) 1 (w 0 - f_P w r p (7 + k))) 2 p) 3 k) 4 (w (2564 + k))) 5 (f_R w r 4)) (f_enLs 1 (Ls 1)) [] 1 < 2147483648 := co27 _ rfl
  refine ax_bipush dX2_lossOf_30 (by decide) (pc' := 32) rfl ?_
  refine ax_insG [.inl (f_crun (f_up (f_up (f_up (f_up (f_up (f_up (M 72) 0 (f_P w r p (1 + k))) 1 (w 0 - f_P w r p (7 + k))) 2 p) 3 k) 4 (w (2564 + k))) 5 (f_R w r 4)) (f_enLs 1 (Ls 1)) [] 1), .inl 99] [] dX2_lossOf_32 mlX2_69 rfl rfl (Nat.le_of_ble_eq_true rfl) (s_X2_held E l _ (by omega) _ (f_crun (f_up (f_up (f_up (f_up (f_up (f_up (M 72) 0 (f_P w r p (1 + k))) 1 (w 0 - f_P w r p (7 + k))) 2 p) 3 k) 4 (w (2564 + k))) 5 (f_R w r 4)) (f_enLs 1 (Ls 1)) [] 1) 99 (by decide)) (pc' := 35) rfl (fun vv M_32 hq co32 hcm32 => ?_)
  obtain ⟨rfl, rfl⟩ := hq
  refine ax_reS (st2 := [.inl (max 0 (min 99 (f_crun (f_up (f_up (f_up (f_up (f_up (f_up (M 72) 0 (f_P w r p (1 + k))) 1 (w 0 - f_P w r p (7 + k))) 2 p) 3 k) 4 (w (2564 + k))) 5 (f_R w r 4)) (f_enLs 1 (Ls 1)) [] 1)))]) rfl ?_
  have cc32 : -2147483648 ≤ max 0 (min 99 (f_crun (f_up (f_up (f_up (f_up (f_up (f_up (M 72) 0 (f_P w r p (1 + k))) 1 (w 0 - f_P w r p (7 + k))) 2 p) 3 k) 4 (w (2564 + k))) 5 (f_R w r 4)) (f_enLs 1 (Ls 1)) [] 1)) ∧ max 0 (min 99 (f_crun (f_up (f_up (f_up (f_up (f_up (f_up (M 72) 0 (f_P w r p (1 + k))) 1 (w 0 - f_P w r p (7 + k))) 2 p) 3 k) 4 (w (2564 + k))) 5 (f_R w r 4)) (f_enLs 1 (Ls 1)) [] 1)) < 2147483648 := co32 _ rfl
  refine ax_iret dX2_lossOf_35 rfl ?_
  refine ⟨rfl, ?_, ?_⟩
  · refine congrArg (fun z => some (Sum.inl z)) ?_
    unfold f_loss
    rw [← f_crun_ls qA (Ls 1) _ (f_lw_gl hg2.2.2 ⟨by decide, by decide⟩)]
  · intro x0 i0 hai
    exact ((frM_27 x0 i0 (fun h => hai (Or.inr h))).trans ((frM_6 x0 i0 (fun h => hai (Or.inl h))).trans rfl))
