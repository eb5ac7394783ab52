/-! laws, told in lines -/
abbrev f_Ln : Type := List f_Op × List f_Op
def f_al (k i : Int) : Prop := k = 0 ∧ 1 ≤ i ∧ i ≤ 8 ∨ k = 1 ∧ 1 ≤ i ∧ i ≤ 6 ∨ k = 2 ∧ (i = 3 ∨ i = 5 ∨ i = 6 ∨ 9 ≤ i ∧ i ≤ 13)
def f_us (k : Int) (ops : List f_Op) : Prop := ∀ o ∈ ops, o.1 < 23 → o.1 = 0 ∨ f_al k o.1
def f_gl (k : Int) (ln : f_Ln) : Prop := f_tys ln.1 [] = some [false] ∧ (ln.2 = [] ∨ f_tys ln.2 [] = some [true]) ∧ f_us k ln.1 ∧ f_us k ln.2
def f_sl (w : Int → Int) (k x : Int) (ln : f_Ln) : Prop := 0 ≤ w (3840 + x) ∧ w (3840 + x) + (ln.1.length : Int) = w (3888 + x) ∧ w (3888 + x) + (ln.2.length : Int) = w (3936 + x) ∧ w (3936 + x) ≤ 410 ∧ f_cd w (4434 + 820 * k + 2 * w (3840 + x)) ln.1 ∧ f_cd w (4434 + 820 * k + 2 * w (3888 + x)) ln.2
def f_lns (w : Int → Int) (k : Int) : Int → List f_Ln → Prop
  | x, [] => x = 16 * k + w (2634 + k)
  | x, ln :: tl => f_gl k ln ∧ f_sl w k x ln ∧ f_lns w k (x + 1) tl
def f_lw (Ls : Int → List f_Ln) (w : Int → Int) : Prop := ∀ k, 0 ≤ k → k < 3 → (0 ≤ w (2634 + k) ∧ w (2634 + k) ≤ 16) ∧ f_lns w k (16 * k) (Ls k)
theorem f_lns_len {w : Int → Int} {k : Int} : ∀ {L : List f_Ln} {x : Int}, f_lns w k x L → x + (L.length : Int) = 16 * k + w (2634 + k)
  | [], x, h => by
    have e : x = 16 * k + w (2634 + k) := h
    simp only [List.length_nil]
    omega
  | ln :: tl, x, h => by
    have e := f_lns_len (L := tl) (x := x + 1) h.2.2
    simp only [List.length_cons]
    omega
theorem f_lns_us {w : Int → Int} {k : Int} : ∀ {L : List f_Ln} {x : Int}, f_lns w k x L → ∀ ln ∈ L, f_us k ln.1 ∧ f_us k ln.2
  | [], _, _ => fun ln h => absurd h (List.not_mem_nil)
  | l0 :: tl, x, h => by
    intro ln hl
    rcases List.mem_cons.mp hl with e | e
    · rw [e]
      exact h.1.2.2
    · exact f_lns_us (L := tl) (x := x + 1) h.2.2 ln e
def f_pick (F : Int → Int) : List f_Ln → Int → Int
  | [], wo => wo
  | ln :: tl, wo => if ln.2 = [] ∨ f_val F ln.2 = 1 then f_val F ln.1 else f_pick F tl wo
theorem f_run_congr {F G : Int → Int} : ∀ {ops : List f_Op} {st : List Int}, (∀ o ∈ ops, o.1 < 23 → o.1 = 0 ∨ F o.1 = G o.1) → f_run F ops st = f_run G ops st
  | [], _, _ => rfl
  | o :: tl, st, h => by
    have e : f_op F o st = f_op G o st := by
      unfold f_op
      by_cases h1 : o.1 < 23
      · rw [if_pos h1, if_pos h1]
        rcases h o (List.mem_cons_self) h1 with h2 | h2
        · rw [if_pos h2, if_pos h2]
        · rw [h2]
      · rw [if_neg h1, if_neg h1]
    show f_run F tl (f_op F o st) = f_run G tl (f_op G o st)
    rw [e]
    exact f_run_congr (fun q hq => h q (List.mem_cons_of_mem _ hq))
theorem f_val_congr {k : Int} {F G : Int → Int} {ops : List f_Op} (h : ∀ i, f_al k i → F i = G i) (hu : f_us k ops) : f_val F ops = f_val G ops := by
  unfold f_val
  rw [f_run_congr (F := F) (G := G) (fun o ho h1 => (hu o ho h1).imp id (h o.1))]
theorem f_pick_congr {k : Int} {F G : Int → Int} (h : ∀ i, f_al k i → F i = G i) : ∀ {L : List f_Ln} {wo : Int}, (∀ ln ∈ L, f_us k ln.1 ∧ f_us k ln.2) → f_pick F L wo = f_pick G L wo
  | [], _, _ => rfl
  | ln :: tl, wo, hu => by
    have h1 := hu ln (List.mem_cons_self)
    show (if ln.2 = [] ∨ f_val F ln.2 = 1 then f_val F ln.1 else f_pick F tl wo) = (if ln.2 = [] ∨ f_val G ln.2 = 1 then f_val G ln.1 else f_pick G tl wo)
    rw [f_val_congr h h1.1, f_val_congr h h1.2, f_pick_congr h (fun q hq => hu q (List.mem_cons_of_mem _ hq))]
theorem f_cd_of {w w' : Int → Int} (h : ∀ i, 3840 ≤ i → w' i = w i) : ∀ {ops : List f_Op} {x : Int}, 3840 ≤ x → f_cd w x ops → f_cd w' x ops
  | [], _, _, _ => trivial
  | o :: tl, x, hx, hc => ⟨(h x hx).trans hc.1, (h (x + 1) (by omega)).trans hc.2.1, f_cd_of h (by omega) hc.2.2⟩
theorem f_sl_of {w w' : Int → Int} {k x : Int} {ln : f_Ln} (h : ∀ i, 3840 ≤ i → w' i = w i) (hk : 0 ≤ k) (hx : 0 ≤ x) (hs : f_sl w k x ln) : f_sl w' k x ln := by
  unfold f_sl at hs ⊢
  rw [h (3840 + x) (by omega), h (3888 + x) (by omega), h (3936 + x) (by omega)]
  exact ⟨hs.1, hs.2.1, hs.2.2.1, hs.2.2.2.1, f_cd_of h (by omega) hs.2.2.2.2.1, f_cd_of h (by omega) hs.2.2.2.2.2⟩
theorem f_lns_of {w w' : Int → Int} {k : Int} (h : ∀ i, 3840 ≤ i → w' i = w i) (hk : 0 ≤ k) (hn : w' (2634 + k) = w (2634 + k)) : ∀ {L : List f_Ln} {x : Int}, 0 ≤ x → f_lns w k x L → f_lns w' k x L
  | [], x, _, hs => by
    have e : x = 16 * k + w (2634 + k) := hs
    show x = 16 * k + w' (2634 + k)
    rw [hn]
    exact e
  | ln :: tl, x, hx, hs => ⟨hs.1, f_sl_of h hk hx hs.2.1, f_lns_of h hk hn (by omega) hs.2.2⟩
/-- what no act of a rope changes -/
def f_ag (w w' : Int → Int) : Prop := ∀ i, 2564 ≤ i → (i < 2640 ∨ 3840 ≤ i) → w' i = w i
theorem f_lw_of {Ls : Int → List f_Ln} {w w' : Int → Int} (h : f_ag w w') (hw : f_lw Ls w) : f_lw Ls w' := by
  intro k h1 h2
  have e := h (2634 + k) (by omega) (by omega)
  rw [e]
  exact ⟨(hw k h1 h2).1, f_lns_of (fun i hi => h i (by omega) (by omega)) h1 e (by omega) (hw k h1 h2).2⟩
def f_Fh (w : Int → Int) (r p k h a i : Int) : Int := if i = 1 then h else if i = 2 then a else if i = 3 then p else if i = 4 then k else if i = 5 then w (2564 + k) else if i = 6 then f_R w r 4 else if i = 7 then f_besd w r p else f_tied w r
def f_Fs (w : Int → Int) (r p i : Int) : Int := if i = 3 then p else if i = 5 then (if f_P w r p 0 = -1 then 0 else w (2564 + f_P w r p 0)) else if i = 6 then f_R w r 4 else if i = 9 then (if f_P w r p 0 = -1 then 0 else 1) else if i = 10 then (if f_P w r p 0 = -1 then 0 else w (2570 + f_P w r p 0)) else if i = 11 then ax_div (ax_wr (w 0 - f_R w r 3)) 365 else if i = 12 then f_R w r 1 else f_habs w r p
def f_hf (w F : Int → Int) (r p k h a : Int) : Int → Int := f_up (f_up (f_up (f_up (f_up (f_up F 1 h) 2 a) 3 p) 4 k) 5 (w (2564 + k))) 6 (f_R w r 4)
def f_needW (Ls : Int → List f_Ln) (w : Int → Int) (r p k h a : Int) : Int := max 0 (min 999 (f_pick (f_Fh w r p k h a) (Ls 0) (100 - h)))
def f_need (Ls : Int → List f_Ln) (w : Int → Int) (r p k : Int) : Int := f_needW Ls w r p k (f_P w r p (1 + k)) (w 0 - f_P w r p (7 + k))
def f_loss (Ls : Int → List f_Ln) (w : Int → Int) (r p k : Int) : Int := max 0 (min 99 (f_pick (f_Fh w r p k (f_P w r p (1 + k)) (w 0 - f_P w r p (7 + k))) (Ls 1) 1))
def f_str (Ls : Int → List f_Ln) (w : Int → Int) (r p : Int) : Int := max 0 (min 999 (f_pick (f_Fs w r p) (Ls 2) 90))
def f_wkS (Ls : Int → List f_Ln) (w : Int → Int) (r p best : Int) : Int := if f_str Ls w r p < f_str Ls w r best then p else best
def f_wk (Ls : Int → List f_Ln) (w : Int → Int) (r : Int) : Int := f_loop (f_wkS Ls w r) 1 (f_R w r 1) 0
theorem f_wk_rg {Ls : Int → List f_Ln} {w : Int → Int} {r : Int} : 0 ≤ f_wk Ls w r ∧ (1 ≤ f_R w r 1 → f_wk Ls w r < f_R w r 1) ∧ (f_wk Ls w r = 0 ∨ f_wk Ls w r < f_R w r 1) := by
  have h : f_wk Ls w r = 0 ∨ 1 ≤ f_wk Ls w r ∧ f_wk Ls w r < f_R w r 1 := by
    refine f_loop_inv (P := fun b => b = 0 ∨ 1 ≤ b ∧ b < f_R w r 1) (Or.inl rfl) (fun i x h1 h2 hx => ?_)
    unfold f_wkS
    split
    · exact Or.inr ⟨h1, h2⟩
    · exact hx
  omega
def F_at (Ls : Int → List f_Ln) (w : Int → Int) (r p what : Int) : Int := if ¬ f_isP w r p then -2 else if what = 0 then f_P w r p 0 else if what = 1 then (if f_P w r p 0 = -1 then f_call w r p else -1) else if what = 2 then (if f_P w r p 0 = -1 ∧ f_call w r p ≠ -1 then f_need Ls w r p (f_call w r p) else -1) else if what = 3 then f_str Ls w r p else -2
def F_habit (Ls : Int → List f_Ln) (w : Int → Int) (r p k what : Int) : Int := if ¬ (f_isP w r p ∧ (0 ≤ k ∧ k ≤ 5) ∧ 0 ≤ what ∧ what ≤ 2) then -2 else if what = 0 then f_P w r p (1 + k) else if f_P w r p (1 + k) = 0 then (if what = 1 then -1 else 0) else if what = 1 then f_P w r p (7 + k) else f_loss Ls w r p k
def F_weak (Ls : Int → List f_Ln) (w : Int → Int) (r what : Int) : Int := if ¬ (f_isR w r ∧ 0 ≤ what ∧ what ≤ 1) then -1 else if what = 0 then f_str Ls w r (f_wk Ls w r) else f_wk Ls w r
def f_ldS (Ls : Int → List f_Ln) (w : Int → Int) (n r best : Int) : Int := if f_isR w r ∧ n ≤ f_R w r 1 ∧ (best = -1 ∨ F_weak Ls w best 0 < F_weak Ls w r 0) then r else best
def F_ladder (Ls : Int → List f_Ln) (w : Int → Int) (n : Int) : Int := f_loop (f_ldS Ls w n) 0 8 (-1)
set_option maxRecDepth 20000 in
theorem s_X12_lawSays (E : ax_Env) (l : Launch) (d : Nat) (hd : 2 ≤ d) (M : ax_Mem) (k wo hi : Int) (L : List f_Ln) {w : Int → Int} (hw : M 331 = w) {pl : Int → Int} (hpl : M 340 = pl) {F : Int → Int} (hF : M 341 = F) (hg0 : 0 ≤ k ∧ k < 3) (hg1 : 0 ≤ w (2634 + k) ∧ w (2634 + k) ≤ 16) (hg2 : f_lns w k (16 * k) L) : ax_G E l d iX12_lawSays [.inr 330, .inl k, .inl wo, .inl hi] M (fun z0 M2 => z0 = some (.inl (max 0 (min hi (f_pick F L wo)))) ∧ (∀ x0 i0 : Int, ¬ (x0 = 340) → M2 x0 i0 = M x0 i0)) := by
  obtain ⟨d, rfl⟩ : ∃ d0, d = d0 + 1 := ⟨d - 1, by omega⟩
  refine ax_start rfl (Nat.le_of_ble_eq_true rfl) (ls := [some (.inr 330), some (.inl k), some (.inl wo), some (.inl hi), none]) rfl (fun hav hcm => ?_)
  have hc1 : -2147483648 ≤ k ∧ k < 2147483648 := hav (.inl k) (by simp)
  have hc2 : -2147483648 ≤ wo ∧ wo < 2147483648 := hav (.inl wo) (by simp)
  have hc3 : -2147483648 ≤ hi ∧ hi < 2147483648 := hav (.inl hi) (by simp)
  clear hav
  refine ax_bipush dX12_lawSays_0 (by decide) (pc' := 2) rfl ?_
  refine ax_iload_n dX12_lawSays_2 rfl rfl (pc' := 3) rfl ?_
  refine ax_imul dX12_lawSays_3 (by omega) (pc' := 4) rfl ?_
  refine ax_istore dX12_lawSays_4 (by decide) (ls' := [some (.inr 330), some (.inl k), some (.inl wo), some (.inl hi), some (.inl (16 * k))]) rfl (pc' := 6) rfl ?_
  have LP1 : ∀ (kq2 : Nat) (x : Int) (rem : List f_Ln) (M1 : ax_Mem) (hm1 : 16 * k + w (2634 + k) - x < (kq2 : Nat)) (fr1 : ∀ x0 i0 : Int, ¬ (x0 = 340) → M1 x0 i0 = M x0 i0) (iv1_0 : 16 * k ≤ x ∧ x ≤ 16 * k + w (2634 + k)) (iv1_1 : f_lns w k x rem) (iv1_2 : f_pick F rem wo = f_pick F L wo), ax_W E l (d + 1) 0 0 iX12_lawSays 6 [some (.inr 330), some (.inl k), some (.inl wo), some (.inl hi), some (.inl x)] [] SH M1 (ax_P (fun z0 M2 => z0 = some (.inl (max 0 (min hi (f_pick F L wo)))) ∧ (∀ x0 i0 : Int, ¬ (x0 = 340) → M2 x0 i0 = M x0 i0))) := by
    intro kq2
    induction kq2 with
    | zero =>
      intro x rem M1 hm1 fr1 iv1_0 iv1_1 iv1_2
      exfalso
      omega
    | succ kq2 ih3 =>
      intro x rem M1 hm1 fr1 iv1_0 iv1_1 iv1_2
      refine ax_iload dX12_lawSays_6 rfl (pc' := 8) rfl ?_
      refine ax_bipush dX12_lawSays_8 (by decide) (pc' := 10) rfl ?_
      refine ax_iload_n dX12_lawSays_10 rfl rfl (pc' := 11) rfl ?_
      refine ax_imul dX12_lawSays_11 (by omega) (pc' := 12) rfl ?_
      refine ax_aload_n dX12_lawSays_12 rfl rfl (pc' := 13) rfl ?_
      refine ax_getr (v := 331) dX12_lawSays_13 flX12_7 rfl sh_330 rfl (pc' := 16) rfl ?_
      refine ax_sipush dX12_lawSays_16 (by decide) (pc' := 19) rfl ?_
      refine ax_iload_n dX12_lawSays_19 rfl rfl (pc' := 20) rfl ?_
      refine ax_iadd dX12_lawSays_20 (by omega) (pc' := 21) rfl ?_
      refine ax_iald (v := w (2634 + k)) dX12_lawSays_21 sh_331 rfl (by omega) (by omega) ((congrFun ((funext fun i0 => fr1 331 i0 (by omega)).trans hw) (2634 + k)).trans rfl) (pc' := 22) rfl ?_
      refine ax_iadd dX12_lawSays_22 (by omega) (pc' := 23) rfl ?_
      refine ax_icmp_ge (tgt := 124) dX12_lawSays_23 (by decide) (pc' := 26) rfl (fun h23 => ?_) (fun h23 => ?_)
      · obtain rfl : rem = [] := by
          have e := f_lns_len iv1_1
          cases rem with
          | nil => rfl
          | cons x0 y0 => simp only [List.length_cons] at e; omega
        refine ax_iconst dX12_lawSays_124 (by decide) (pc' := 125) rfl ?_
        refine ax_iload_n dX12_lawSays_125 rfl rfl (pc' := 126) rfl ?_
        refine ax_iload_n dX12_lawSays_126 rfl rfl (pc' := 127) rfl ?_
        refine ax_insG [.inl hi, .inl wo] [.inl 0] dX12_lawSays_127 mlX12_334 rfl rfl (Nat.le_of_ble_eq_true rfl) (s_X12_lesser E l _ (by omega) _ hi wo) (pc' := 130) rfl (fun vv M_127 hq co127 hcm127 => ?_)
        obtain ⟨rfl, rfl⟩ := hq
        refine ax_reS (st2 := [.inl (min hi wo), .inl 0]) rfl ?_
        have cc127 : -2147483648 ≤ min hi wo ∧ min hi wo < 2147483648 := co127 _ rfl
        refine ax_insG [.inl 0, .inl (min hi wo)] [] dX12_lawSays_130 mlX12_337 rfl rfl (Nat.le_of_ble_eq_true rfl) (s_X12_greater E l _ (by omega) _ 0 (min hi wo)) (pc' := 133) rfl (fun vv M_130 hq co130 hcm130 => ?_)
        obtain ⟨rfl, rfl⟩ := hq
        refine ax_reS (st2 := [.inl (max 0 (min hi wo))]) rfl ?_
        have cc130 : -2147483648 ≤ max 0 (min hi wo) ∧ max 0 (min hi wo) < 2147483648 := co130 _ rfl
        refine ax_iret dX12_lawSays_133 rfl ?_
        refine ⟨rfl, ?_, ?_⟩
        · refine congrArg (fun z => some (Sum.inl z)) ?_
          rw [← iv1_2]
          rfl
        · intro x0 i0 hai
          exact ((fr1 x0 i0 (by omega)).trans rfl)
      · obtain ⟨ln, rem2, rfl⟩ : ∃ x0 y0, rem = x0 :: y0 := by
          cases rem with
          | nil =>
            have e : x = 16 * k + w (2634 + k) := iv1_1
            omega
          | cons x0 y0 => exact ⟨x0, y0, rfl⟩
        have qg := iv1_1.1
        have qs := iv1_1.2.1
        obtain ⟨qs1, qs2, qs3, qs4, qs5, qs6⟩ := qs
        refine ax_aload_n dX12_lawSays_26 rfl rfl (pc' := 27) rfl ?_
        refine ax_getr (v := 331) dX12_lawSays_27 flX12_7 rfl sh_330 rfl (pc' := 30) rfl ?_
        refine ax_sipush dX12_lawSays_30 (by decide) (pc' := 33) rfl ?_
        refine ax_iload dX12_lawSays_33 rfl (pc' := 35) rfl ?_
        refine ax_iadd dX12_lawSays_35 (by omega) (pc' := 36) rfl ?_
        refine ax_iald (v := w (3936 + x)) dX12_lawSays_36 sh_331 rfl (by omega) (by omega) ((congrFun ((funext fun i0 => fr1 331 i0 (by omega)).trans hw) (3936 + x)).trans rfl) (pc' := 37) rfl ?_
        refine ax_aload_n dX12_lawSays_37 rfl rfl (pc' := 38) rfl ?_
        refine ax_getr (v := 331) dX12_lawSays_38 flX12_7 rfl sh_330 rfl (pc' := 41) rfl ?_
        refine ax_sipush dX12_lawSays_41 (by decide) (pc' := 44) rfl ?_
        refine ax_iload dX12_lawSays_44 rfl (pc' := 46) rfl ?_
        refine ax_iadd dX12_lawSays_46 (by omega) (pc' := 47) rfl ?_
        refine ax_iald (v := w (3888 + x)) dX12_lawSays_47 sh_331 rfl (by omega) (by omega) ((congrFun ((funext fun i0 => fr1 331 i0 (by omega)).trans hw) (3888 + x)).trans rfl) (pc' := 48) rfl ?_
        refine ax_icmp_eq (tgt := 82) dX12_lawSays_48 (by decide) (pc' := 51) rfl (fun h48 => ?_) (fun h48 => ?_)
        · have qpk : f_pick F (ln :: rem2) wo = f_val F ln.1 := if_pos (Or.inl (List.eq_nil_of_length_eq_zero (by omega)))
          refine ax_iconst dX12_lawSays_82 (by decide) (pc' := 83) rfl ?_
          refine ax_iload_n dX12_lawSays_83 rfl rfl (pc' := 84) rfl ?_
          refine ax_aload_n dX12_lawSays_84 rfl rfl (pc' := 85) rfl ?_
          refine ax_iload_n dX12_lawSays_85 rfl rfl (pc' := 86) rfl ?_
          refine ax_aload_n dX12_lawSays_86 rfl rfl (pc' := 87) rfl ?_
          refine ax_getr (v := 331) dX12_lawSays_87 flX12_7 rfl sh_330 rfl (pc' := 90) rfl ?_
          refine ax_sipush dX12_lawSays_90 (by decide) (pc' := 93) rfl ?_
          refine ax_iload dX12_lawSays_93 rfl (pc' := 95) rfl ?_
          refine ax_iadd dX12_lawSays_95 (by omega) (pc' := 96) rfl ?_
          refine ax_iald (v := w (3840 + x)) dX12_lawSays_96 sh_331 rfl (by omega) (by omega) ((congrFun ((funext fun i0 => fr1 331 i0 (by omega)).trans hw) (3840 + x)).trans rfl) (pc' := 97) rfl ?_
          refine ax_aload_n dX12_lawSays_97 rfl rfl (pc' := 98) rfl ?_
          refine ax_getr (v := 331) dX12_lawSays_98 flX12_7 rfl sh_330 rfl (pc' := 101) rfl ?_
          refine ax_sipush dX12_lawSays_101 (by decide) (pc' := 104) rfl ?_
          refine ax_iload dX12_lawSays_104 rfl (pc' := 106) rfl ?_
          refine ax_iadd dX12_lawSays_106 (by omega) (pc' := 107) rfl ?_
          refine ax_iald (v := w (3888 + x)) dX12_lawSays_107 sh_331 rfl (by omega) (by omega) ((congrFun ((funext fun i0 => fr1 331 i0 (by omega)).trans hw) (3888 + x)).trans rfl) (pc' := 108) rfl ?_
          refine ax_invG [.inl k, .inl (w (3840 + x)), .inl (w (3888 + x))] [.inl hi, .inl 0] dX12_lawSays_108 mlX12_331 sh_330 rfl rfl rfl (Nat.le_of_ble_eq_true rfl) (s_X12_comesTo E l _ (by omega) _ k (w (3840 + x)) (w (3888 + x)) ln.1 false ((funext fun i0 => fr1 331 i0 (by omega)).trans hw) rfl ((funext fun i0 => fr1 341 i0 (by omega)).trans hF) hg0 (by omega) qs5 qg.1) (pc' := 111) rfl (fun vv M_108 hq co108 hcm108 => ?_)
          obtain ⟨rfl, frM_108, fa108_0⟩ := hq
          refine ax_reS (st2 := [.inl (f_val F ln.1), .inl hi, .inl 0]) rfl ?_
          have cc108 : -2147483648 ≤ f_val F ln.1 ∧ f_val F ln.1 < 2147483648 := co108 _ rfl
          refine ax_insG [.inl hi, .inl (f_val F ln.1)] [.inl 0] dX12_lawSays_111 mlX12_334 rfl rfl (Nat.le_of_ble_eq_true rfl) (s_X12_lesser E l _ (by omega) _ hi (f_val F ln.1)) (pc' := 114) rfl (fun vv M_111 hq co111 hcm111 => ?_)
          obtain ⟨rfl, rfl⟩ := hq
          refine ax_reS (st2 := [.inl (min hi (f_val F ln.1)), .inl 0]) rfl ?_
          have cc111 : -2147483648 ≤ min hi (f_val F ln.1) ∧ min hi (f_val F ln.1) < 2147483648 := co111 _ rfl
          refine ax_insG [.inl 0, .inl (min hi (f_val F ln.1))] [] dX12_lawSays_114 mlX12_337 rfl rfl (Nat.le_of_ble_eq_true rfl) (s_X12_greater E l _ (by omega) _ 0 (min hi (f_val F ln.1))) (pc' := 117) rfl (fun vv M_114 hq co114 hcm114 => ?_)
          obtain ⟨rfl, rfl⟩ := hq
          refine ax_reS (st2 := [.inl (max 0 (min hi (f_val F ln.1)))]) rfl ?_
          have cc114 : -2147483648 ≤ max 0 (min hi (f_val F ln.1)) ∧ max 0 (min hi (f_val F ln.1)) < 2147483648 := co114 _ rfl
          refine ax_iret dX12_lawSays_117 rfl ?_
          refine ⟨rfl, ?_, ?_⟩
          · refine congrArg (fun z => some (Sum.inl z)) ?_
            rw [← iv1_2, qpk]
          · intro x0 i0 hai
            exact ((frM_108 x0 i0 (by omega)).trans ((fr1 x0 i0 (by omega)).trans rfl))
        · have qz : f_tys ln.2 [] = some [true] := by
            rcases qg.2.1 with e | e
            · exfalso
              rw [e] at qs3
              simp only [List.length_nil] at qs3
              omega
            · exact e
          refine ax_aload_n dX12_lawSays_51 rfl rfl (pc' := 52) rfl ?_
          refine ax_iload_n dX12_lawSays_52 rfl rfl (pc' := 53) rfl ?_
          refine ax_aload_n dX12_lawSays_53 rfl rfl (pc' := 54) rfl ?_
          refine ax_getr (v := 331) dX12_lawSays_54 flX12_7 rfl sh_330 rfl (pc' := 57) rfl ?_
          refine ax_sipush dX12_lawSays_57 (by decide) (pc' := 60) rfl ?_
          refine ax_iload dX12_lawSays_60 rfl (pc' := 62) rfl ?_
          refine ax_iadd dX12_lawSays_62 (by omega) (pc' := 63) rfl ?_
          refine ax_iald (v := w (3888 + x)) dX12_lawSays_63 sh_331 rfl (by omega) (by omega) ((congrFun ((funext fun i0 => fr1 331 i0 (by omega)).trans hw) (3888 + x)).trans rfl) (pc' := 64) rfl ?_
          refine ax_aload_n dX12_lawSays_64 rfl rfl (pc' := 65) rfl ?_
          refine ax_getr (v := 331) dX12_lawSays_65 flX12_7 rfl sh_330 rfl (pc' := 68) rfl ?_
          refine ax_sipush dX12_lawSays_68 (by decide) (pc' := 71) rfl ?_
          refine ax_iload dX12_lawSays_71 rfl (pc' := 73) rfl ?_
          refine ax_iadd dX12_lawSays_73 (by omega) (pc' := 74) rfl ?_
          refine ax_iald (v := w (3936 + x)) dX12_lawSays_74 sh_331 rfl (by omega) (by omega) ((congrFun ((funext fun i0 => fr1 331 i0 (by omega)).trans hw) (3936 + x)).trans rfl) (pc' := 75) rfl ?_
          refine ax_invG [.inl k, .inl (w (3888 + x)), .inl (w (3936 + x))] [] dX12_lawSays_75 mlX12_331 sh_330 rfl rfl rfl (Nat.le_of_ble_eq_true rfl) (s_X12_comesTo E l _ (by omega) _ k (w (3888 + x)) (w (3936 + x)) ln.2 true ((funext fun i0 => fr1 331 i0 (by omega)).trans hw) rfl ((funext fun i0 => fr1 341 i0 (by omega)).trans hF) hg0 (by omega) qs6 qz) (pc' := 78) rfl (fun vv M_75 hq co75 hcm75 => ?_)
          obtain ⟨rfl, frM_75, fa75_0⟩ := hq
          refine ax_reS (st2 := [.inl (f_val F ln.2)]) rfl ?_
          have cc75 : -2147483648 ≤ f_val F ln.2 ∧ f_val F ln.2 < 2147483648 := co75 _ rfl
          refine ax_iconst dX12_lawSays_78 (by decide) (pc' := 79) rfl ?_
          refine ax_icmp_ne (tgt := 118) dX12_lawSays_79 (by decide) (pc' := 82) rfl (fun h79 => ?_) (fun h79 => ?_)
          · have qpk : f_pick F (ln :: rem2) wo = f_pick F rem2 wo := if_neg (fun e => e.elim (fun e => by rw [e] at qz; cases qz) h79)
            refine ax_iinc dX12_lawSays_118 rfl (by decide) (by omega) (ls' := [some (.inr 330), some (.inl k), some (.inl wo), some (.inl hi), some (.inl (x + 1))]) rfl (pc' := 121) rfl ?_
            refine ax_goto dX12_lawSays_121 (pc' := 6) (by decide) ?_
            refine ih3 (x + 1) rem2 M_75 ?_ ?_ ?_ ?_ ?_
            · omega
            · intro x0 i0 hai
              exact ((frM_75 x0 i0 (by omega)).trans ((fr1 x0 i0 (by omega)).trans rfl))
            · omega
            · exact iv1_1.2.2
            · exact qpk.symm.trans iv1_2
          · have qpk : f_pick F (ln :: rem2) wo = f_val F ln.1 := if_pos (Or.inr h79)
            refine ax_iconst dX12_lawSays_82 (by decide) (pc' := 83) rfl ?_
            refine ax_iload_n dX12_lawSays_83 rfl rfl (pc' := 84) rfl ?_
            refine ax_aload_n dX12_lawSays_84 rfl rfl (pc' := 85) rfl ?_
            refine ax_iload_n dX12_lawSays_85 rfl rfl (pc' := 86) rfl ?_
            refine ax_aload_n dX12_lawSays_86 rfl rfl (pc' := 87) rfl ?_
            refine ax_getr (v := 331) dX12_lawSays_87 flX12_7 rfl sh_330 rfl (pc' := 90) rfl ?_
            refine ax_sipush dX12_lawSays_90 (by decide) (pc' := 93) rfl ?_
            refine ax_iload dX12_lawSays_93 rfl (pc' := 95) rfl ?_
            refine ax_iadd dX12_lawSays_95 (by omega) (pc' := 96) rfl ?_
            refine ax_iald (v := w (3840 + x)) dX12_lawSays_96 sh_331 rfl (by omega) (by omega) ((congrFun ((funext fun i0 => frM_75 331 i0 (by omega)).trans ((funext fun i0 => fr1 331 i0 (by omega)).trans hw)) (3840 + x)).trans rfl) (pc' := 97) rfl ?_
            refine ax_aload_n dX12_lawSays_97 rfl rfl (pc' := 98) rfl ?_
            refine ax_getr (v := 331) dX12_lawSays_98 flX12_7 rfl sh_330 rfl (pc' := 101) rfl ?_
            refine ax_sipush dX12_lawSays_101 (by decide) (pc' := 104) rfl ?_
            refine ax_iload dX12_lawSays_104 rfl (pc' := 106) rfl ?_
            refine ax_iadd dX12_lawSays_106 (by omega) (pc' := 107) rfl ?_
            refine ax_iald (v := w (3888 + x)) dX12_lawSays_107 sh_331 rfl (by omega) (by omega) ((congrFun ((funext fun i0 => frM_75 331 i0 (by omega)).trans ((funext fun i0 => fr1 331 i0 (by omega)).trans hw)) (3888 + x)).trans rfl) (pc' := 108) rfl ?_
            refine ax_invG [.inl k, .inl (w (3840 + x)), .inl (w (3888 + x))] [.inl hi, .inl 0] dX12_lawSays_108 mlX12_331 sh_330 rfl rfl rfl (Nat.le_of_ble_eq_true rfl) (s_X12_comesTo E l _ (by omega) _ k (w (3840 + x)) (w (3888 + x)) ln.1 false ((funext fun i0 => frM_75 331 i0 (by omega)).trans ((funext fun i0 => fr1 331 i0 (by omega)).trans hw)) rfl ((funext fun i0 => frM_75 341 i0 (by omega)).trans ((funext fun i0 => fr1 341 i0 (by omega)).trans hF)) hg0 (by omega) qs5 qg.1) (pc' := 111) rfl (fun vv M_108 hq co108 hcm108 => ?_)
            obtain ⟨rfl, frM_108, fa108_0⟩ := hq
            refine ax_reS (st2 := [.inl (f_val F ln.1), .inl hi, .inl 0]) rfl ?_
            have cc108 : -2147483648 ≤ f_val F ln.1 ∧ f_val F ln.1 < 2147483648 := co108 _ rfl
            refine ax_insG [.inl hi, .inl (f_val F ln.1)] [.inl 0] dX12_lawSays_111 mlX12_334 rfl rfl (Nat.le_of_ble_eq_true rfl) (s_X12_lesser E l _ (by omega) _ hi (f_val F ln.1)) (pc' := 114) rfl (fun vv M_111 hq co111 hcm111 => ?_)
            obtain ⟨rfl, rfl⟩ := hq
            refine ax_reS (st2 := [.inl (min hi (f_val F ln.1)), .inl 0]) rfl ?_
            have cc111 : -2147483648 ≤ min hi (f_val F ln.1) ∧ min hi (f_val F ln.1) < 2147483648 := co111 _ rfl
            refine ax_insG [.inl 0, .inl (min hi (f_val F ln.1))] [] dX12_lawSays_114 mlX12_337 rfl rfl (Nat.le_of_ble_eq_true rfl) (s_X12_greater E l _ (by omega) _ 0 (min hi (f_val F ln.1))) (pc' := 117) rfl (fun vv M_114 hq co114 hcm114 => ?_)
            obtain ⟨rfl, rfl⟩ := hq
            refine ax_reS (st2 := [.inl (max 0 (min hi (f_val F ln.1)))]) rfl ?_
            have cc114 : -2147483648 ≤ max 0 (min hi (f_val F ln.1)) ∧ max 0 (min hi (f_val F ln.1)) < 2147483648 := co114 _ rfl
            refine ax_iret dX12_lawSays_117 rfl ?_
            refine ⟨rfl, ?_, ?_⟩
            · refine congrArg (fun z => some (Sum.inl z)) ?_
              rw [← iv1_2, qpk]
            · intro x0 i0 hai
              exact ((frM_108 x0 i0 (by omega)).trans ((frM_75 x0 i0 (by omega)).trans ((fr1 x0 i0 (by omega)).trans rfl)))
  refine LP1 (16 * k + w (2634 + k) - (16 * k) : Int).toNat.succ (16 * k) L M ?_ ?_ ?_ ?_ ?_
  · omega
  · exact fun a i _ => rfl
  · omega
  · exact hg2
  · rfl
set_option maxRecDepth 20000 in
theorem s_X12_habitFacts (E : ax_Env) (l : Launch) (d : Nat) (hd : 1 ≤ d) (M : ax_Mem) (r p k h a : Int) {w : Int → Int} (hw : M 331 = w) {F : Int → Int} (hF : M 341 = F) (hg0 : 0 ≤ r ∧ r < 8) (hg1 : 0 ≤ k ∧ k < 6) : ax_G E l d iX12_habitFacts [.inr 330, .inl r, .inl p, .inl k, .inl h, .inl a] M (fun z0 M2 => z0 = none ∧ (∀ x0 i0 : Int, ¬ (x0 = 341) → M2 x0 i0 = M x0 i0) ∧ M2 341 = f_hf w F r p k h a) := by
  obtain ⟨d, rfl⟩ : ∃ d0, d = d0 + 1 := ⟨d - 1, by omega⟩
  refine ax_start rfl (Nat.le_of_ble_eq_true rfl) (ls := [some (.inr 330), some (.inl r), some (.inl p), some (.inl k), some (.inl h), some (.inl a)]) rfl (fun hav hcm => ?_)
  have hc1 : -2147483648 ≤ r ∧ r < 2147483648 := hav (.inl r) (by simp)
  have hc2 : -2147483648 ≤ p ∧ p < 2147483648 := hav (.inl p) (by simp)
  have hc3 : -2147483648 ≤ k ∧ k < 2147483648 := hav (.inl k) (by simp)
  have hc4 : -2147483648 ≤ h ∧ h < 2147483648 := hav (.inl h) (by simp)
  have hc5 : -2147483648 ≤ a ∧ a < 2147483648 := hav (.inl a) (by simp)
  clear hav
  refine ax_aload_n dX12_habitFacts_0 rfl rfl (pc' := 1) rfl ?_
  refine ax_getr (v := 341) dX12_habitFacts_1 flX12_40 rfl sh_330 rfl (pc' := 4) rfl ?_
  refine ax_iconst dX12_habitFacts_4 (by decide) (pc' := 5) rfl ?_
  refine ax_iload dX12_habitFacts_5 rfl (pc' := 7) rfl ?_
  refine ax_iast dX12_habitFacts_7 sh_341 rfl (by omega) (by omega) (pc' := 8) rfl ?_
  refine ax_aload_n dX12_habitFacts_8 rfl rfl (pc' := 9) rfl ?_
  refine ax_getr (v := 341) dX12_habitFacts_9 flX12_40 rfl sh_330 rfl (pc' := 12) rfl ?_
  refine ax_iconst dX12_habitFacts_12 (by decide) (pc' := 13) rfl ?_
  refine ax_iload dX12_habitFacts_13 rfl (pc' := 15) rfl ?_
  refine ax_iast dX12_habitFacts_15 sh_341 rfl (by omega) (by omega) (pc' := 16) rfl ?_
  refine ax_aload_n dX12_habitFacts_16 rfl rfl (pc' := 17) rfl ?_
  refine ax_getr (v := 341) dX12_habitFacts_17 flX12_40 rfl sh_330 rfl (pc' := 20) rfl ?_
  refine ax_iconst dX12_habitFacts_20 (by decide) (pc' := 21) rfl ?_
  refine ax_iload_n dX12_habitFacts_21 rfl rfl (pc' := 22) rfl ?_
  refine ax_iast dX12_habitFacts_22 sh_341 rfl (by omega) (by omega) (pc' := 23) rfl ?_
  refine ax_aload_n dX12_habitFacts_23 rfl rfl (pc' := 24) rfl ?_
  refine ax_getr (v := 341) dX12_habitFacts_24 flX12_40 rfl sh_330 rfl (pc' := 27) rfl ?_
  refine ax_iconst dX12_habitFacts_27 (by decide) (pc' := 28) rfl ?_
  refine ax_iload_n dX12_habitFacts_28 rfl rfl (pc' := 29) rfl ?_
  refine ax_iast dX12_habitFacts_29 sh_341 rfl (by omega) (by omega) (pc' := 30) rfl ?_
  refine ax_aload_n dX12_habitFacts_30 rfl rfl (pc' := 31) rfl ?_
  refine ax_getr (v := 341) dX12_habitFacts_31 flX12_40 rfl sh_330 rfl (pc' := 34) rfl ?_
  refine ax_iconst dX12_habitFacts_34 (by decide) (pc' := 35) rfl ?_
  refine ax_aload_n dX12_habitFacts_35 rfl rfl (pc' := 36) rfl ?_
  refine ax_getr (v := 331) dX12_habitFacts_36 flX12_7 rfl sh_330 rfl (pc' := 39) rfl ?_
  refine ax_sipush dX12_habitFacts_39 (by decide) (pc' := 42) rfl ?_
  refine ax_iload_n dX12_habitFacts_42 rfl rfl (pc' := 43) rfl ?_
  refine ax_iadd dX12_habitFacts_43 (by omega) (pc' := 44) rfl ?_
  refine ax_iald (v := w (2564 + k)) dX12_habitFacts_44 sh_331 rfl (by omega) (by omega) ((congrFun (ax_up_rowmiss (by decide) (ax_up_rowmiss (by decide) (ax_up_rowmiss (by decide) (ax_up_rowmiss (by decide) hw)))) (2564 + k)).trans rfl) (pc' := 45) rfl ?_
  refine ax_iast dX12_habitFacts_45 sh_341 rfl (by omega) (by omega) (pc' := 46) rfl ?_
  refine ax_aload_n dX12_habitFacts_46 rfl rfl (pc' := 47) rfl ?_
  refine ax_getr (v := 341) dX12_habitFacts_47 flX12_40 rfl sh_330 rfl (pc' := 50) rfl ?_
  refine ax_bipush dX12_habitFacts_50 (by decide) (pc' := 52) rfl ?_
  refine ax_aload_n dX12_habitFacts_52 rfl rfl (pc' := 53) rfl ?_
  refine ax_iload_n dX12_habitFacts_53 rfl rfl (pc' := 54) rfl ?_
  refine ax_iconst dX12_habitFacts_54 (by decide) (pc' := 55) rfl ?_
  refine ax_invG [.inl r, .inl 4] [.inl 6, .inr 341] dX12_habitFacts_55 mlX12_78 sh_330 rfl rfl rfl (Nat.le_of_ble_eq_true rfl) (s_X12_ofRope E l _ (by omega) _ r 4 (ax_up_rowmiss (by decide) (ax_up_rowmiss (by decide) (ax_up_rowmiss (by decide) (ax_up_rowmiss (by decide) (ax_up_rowmiss (by decide) hw))))) (by first | omega | assumption) (by first | omega | assumption)) (pc' := 58) rfl (fun vv M_55 hq co55 hcm55 => ?_)
  obtain ⟨rfl, rfl⟩ := hq
  refine ax_reS (st2 := [.inl (f_R w r 4), .inl 6, .inr 341]) rfl ?_
  have cc55 : -2147483648 ≤ f_R w r 4 ∧ f_R w r 4 < 2147483648 := co55 _ rfl
  refine ax_iast dX12_habitFacts_58 sh_341 rfl (by omega) (by omega) (pc' := 59) rfl ?_
  refine ax_vret dX12_habitFacts_59 rfl ?_
  refine ⟨rfl, rfl, ?_, ?_⟩
  · intro x0 i0 hai
    exact (ax_up_miss (by omega) (ax_up_miss (by omega) (ax_up_miss (by omega) (ax_up_miss (by omega) (ax_up_miss (by omega) (ax_up_miss (by omega) rfl))))))
  · exact (ax_up_rowhit (ax_up_rowhit (ax_up_rowhit (ax_up_rowhit (ax_up_rowhit (ax_up_rowhit hF))))))
set_option maxRecDepth 20000 in
theorem s_X12_needWith (E : ax_Env) (l : Launch) (d : Nat) (hd : 3 ≤ d) (M : ax_Mem) (r p k h a : Int) (Ls : Int → List f_Ln) {w : Int → Int} (hw : M 331 = w) {pl : Int → Int} (hpl : M 340 = pl) {F : Int → Int} (hF : M 341 = F) (hg0 : 0 ≤ r ∧ r < 8) (hg1 : f_iv w) (hg2 : 0 ≤ p ∧ p < f_R w r 1) (hg3 : 0 ≤ k ∧ k < 6) (hg4 : 0 ≤ h ∧ h ≤ 99) (hg5 : f_lw Ls w) : ax_G E l d iX12_needWith [.inr 330, .inl r, .inl p, .inl k, .inl h, .inl a] M (fun z0 M2 => z0 = some (.inl (f_needW Ls w r p k h a)) ∧ (∀ x0 i0 : Int, ¬ (x0 = 340 ∨ x0 = 341) → M2 x0 i0 = M x0 i0)) := by
  obtain ⟨d, rfl⟩ : ∃ d0, d = d0 + 1 := ⟨d - 1, by omega⟩
  refine ax_start rfl (Nat.le_of_ble_eq_true rfl) (ls := [some (.inr 330), some (.inl r), some (.inl p), some (.inl k), some (.inl h), some (.inl a)]) rfl (fun hav hcm => ?_)
  have hc1 : -2147483648 ≤ r ∧ r < 2147483648 := hav (.inl r) (by simp)
  have hc2 : -2147483648 ≤ p ∧ p < 2147483648 := hav (.inl p) (by simp)
  have hc3 : -2147483648 ≤ k ∧ k < 2147483648 := hav (.inl k) (by simp)
  have hc4 : -2147483648 ≤ h ∧ h < 2147483648 := hav (.inl h) (by simp)
  have hc5 : -2147483648 ≤ a ∧ a < 2147483648 := hav (.inl a) (by simp)
  clear hav
  have qa1 := hg1.1 r (by omega) (by omega)
  have qa2 := hg1.1
  have qa3 := hg5 0 (by omega) (by omega)
  refine ax_aload_n dX12_needWith_0 rfl rfl (pc' := 1) rfl ?_
  refine ax_iload_n dX12_needWith_1 rfl rfl (pc' := 2) rfl ?_
  refine ax_iload_n dX12_needWith_2 rfl rfl (pc' := 3) rfl ?_
  refine ax_iload_n dX12_needWith_3 rfl rfl (pc' := 4) rfl ?_
  refine ax_iload dX12_needWith_4 rfl (pc' := 6) rfl ?_
  refine ax_iload dX12_needWith_6 rfl (pc' := 8) rfl ?_
  refine ax_invG [.inl r, .inl p, .inl k, .inl h, .inl a] [] dX12_needWith_8 mlX12_343 sh_330 rfl rfl rfl (Nat.le_of_ble_eq_true rfl) (s_X12_habitFacts E l _ (by omega) _ r p k h a hw hF (by first | omega | assumption) (by first | omega | assumption)) (pc' := 11) rfl (fun vv M_8 hq co8 hcm8 => ?_)
  obtain ⟨rfl, frM_8, mrM_8_0⟩ := hq
  refine ax_reS (st2 := []) rfl ?_
  refine ax_aload_n dX12_needWith_11 rfl rfl (pc' := 12) rfl ?_
  refine ax_getr (v := 341) dX12_needWith_12 flX12_40 rfl sh_330 rfl (pc' := 15) rfl ?_
  refine ax_bipush dX12_needWith_15 (by decide) (pc' := 17) rfl ?_
  refine ax_aload_n dX12_needWith_17 rfl rfl (pc' := 18) rfl ?_
  refine ax_iload_n dX12_needWith_18 rfl rfl (pc' := 19) rfl ?_
  refine ax_iload_n dX12_needWith_19 rfl rfl (pc' := 20) rfl ?_
  refine ax_invG [.inl r, .inl p] [.inl 7, .inr 341] dX12_needWith_20 mlX12_346 sh_330 rfl rfl rfl (Nat.le_of_ble_eq_true rfl) (s_X12_beside E l _ (by omega) _ r p ((funext fun i0 => frM_8 331 i0 (by omega)).trans hw) (by first | omega | assumption) (by first | omega | assumption) (by first | omega | assumption)) (pc' := 23) rfl (fun vv M_20 hq co20 hcm20 => ?_)
  obtain ⟨rfl, rfl⟩ := hq
  refine ax_reS (st2 := [.inl (f_besd w r p), .inl 7, .inr 341]) rfl ?_
  refine ax_iast dX12_needWith_23 sh_341 rfl (by omega) (by omega) (pc' := 24) rfl ?_
  refine ax_aload_n dX12_needWith_24 rfl rfl (pc' := 25) rfl ?_
  refine ax_getr (v := 341) dX12_needWith_25 flX12_40 rfl sh_330 rfl (pc' := 28) rfl ?_
  refine ax_bipush dX12_needWith_28 (by decide) (pc' := 30) rfl ?_
  refine ax_aload_n dX12_needWith_30 rfl rfl (pc' := 31) rfl ?_
  refine ax_iload_n dX12_needWith_31 rfl rfl (pc' := 32) rfl ?_
  refine ax_invG [.inl r] [.inl 8, .inr 341] dX12_needWith_32 mlX12_348 sh_330 rfl rfl rfl (Nat.le_of_ble_eq_true rfl) (s_X12_tiedMany E l _ (by omega) _ r (ax_up_rowmiss (by decide) ((funext fun i0 => frM_8 331 i0 (by omega)).trans hw)) (by first | omega | assumption) (by first | omega | assumption)) (pc' := 35) rfl (fun vv M_32 hq co32 hcm32 => ?_)
  obtain ⟨rfl, rfl⟩ := hq
  refine ax_reS (st2 := [.inl (f_tied w r), .inl 8, .inr 341]) rfl ?_
  have cc32 : -2147483648 ≤ f_tied w r ∧ f_tied w r < 2147483648 := co32 _ rfl
  refine ax_iast dX12_needWith_35 sh_341 rfl (by omega) (by omega) (pc' := 36) rfl ?_
  refine ax_aload_n dX12_needWith_36 rfl rfl (pc' := 37) rfl ?_
  refine ax_iconst dX12_needWith_37 (by decide) (pc' := 38) rfl ?_
  refine ax_bipush dX12_needWith_38 (by decide) (pc' := 40) rfl ?_
  refine ax_iload dX12_needWith_40 rfl (pc' := 42) rfl ?_
  refine ax_isub dX12_needWith_42 (by omega) (pc' := 43) rfl ?_
  refine ax_sipush dX12_needWith_43 (by decide) (pc' := 46) rfl ?_
  refine ax_invG [.inl 0, .inl (100 - h), .inl 999] [] dX12_needWith_46 mlX12_351 sh_330 rfl rfl rfl (Nat.le_of_ble_eq_true rfl) (s_X12_lawSays E l _ (by omega) _ 0 (100 - h) 999 (Ls 0) (ax_up_rowmiss (by decide) (ax_up_rowmiss (by decide) ((funext fun i0 => frM_8 331 i0 (by omega)).trans hw))) (ax_up_rowmiss (by decide) (ax_up_rowmiss (by decide) ((funext fun i0 => frM_8 340 i0 (by omega)).trans hpl))) (ax_up_rowhit (ax_up_rowhit mrM_8_0)) (by omega) qa3.1 qa3.2) (pc' := 49) rfl (fun vv M_46 hq co46 hcm46 => ?_)
  obtain ⟨rfl, frM_46⟩ := hq
  refine ax_reS (st2 := [.inl (max 0 (min 999 (f_pick (f_up (f_up (f_hf w F r p k h a) 7 (f_besd w r p)) 8 (f_tied w r)) (Ls 0) (100 - h))))]) rfl ?_
  have cc46 : -2147483648 ≤ max 0 (min 999 (f_pick (f_up (f_up (f_hf w F r p k h a) 7 (f_besd w r p)) 8 (f_tied w r)) (Ls 0) (100 - h))) ∧ max 0 (min 999 (f_pick (f_up (f_up (f_hf w F r p k h a) 7 (f_besd w r p)) 8 (f_tied w r)) (Ls 0) (100 - h))) < 2147483648 := co46 _ rfl
  refine ax_iret dX12_needWith_49 rfl ?_
  refine ⟨rfl, ?_, ?_⟩
  · refine congrArg (fun z => some (Sum.inl z)) ?_
    unfold f_needW
    refine congrArg (fun z => max 0 (min 999 z)) (f_pick_congr (k := 0) ?_ (f_lns_us qa3.2))
    intro j hj
    have hj2 : j = 1 ∨ j = 2 ∨ j = 3 ∨ j = 4 ∨ j = 5 ∨ j = 6 ∨ j = 7 ∨ j = 8 := by unfold f_al at hj; omega
    rcases hj2 with rfl | rfl | rfl | rfl | rfl | rfl | rfl | rfl <;> simp [f_up, f_Fh, f_hf]
  · intro x0 i0 hai
    exact ((frM_46 x0 i0 (by omega)).trans (ax_up_miss (by omega) (ax_up_miss (by omega) ((frM_8 x0 i0 (by omega)).trans rfl))))
set_option maxRecDepth 20000 in
theorem s_X12_needOf (E : ax_Env) (l : Launch) (d : Nat) (hd : 4 ≤ d) (M : ax_Mem) (r p k : Int) (Ls : Int → List f_Ln) {w : Int → Int} (hw : M 331 = w) {pl : Int → Int} (hpl : M 340 = pl) {F : Int → Int} (hF : M 341 = F) (hg0 : 0 ≤ r ∧ r < 8) (hg1 : f_iv w) (hg2 : 0 ≤ p ∧ p < f_R w r 1) (hg3 : 0 ≤ k ∧ k < 6) (hg4 : f_lw Ls w) : ax_G E l d iX12_needOf [.inr 330, .inl r, .inl p, .inl k] M (fun z0 M2 => z0 = some (.inl (f_need Ls w r p k)) ∧ (∀ x0 i0 : Int, ¬ (x0 = 340 ∨ x0 = 341) → M2 x0 i0 = M x0 i0)) := by
  obtain ⟨d, rfl⟩ : ∃ d0, d = d0 + 1 := ⟨d - 1, by omega⟩
  refine ax_start rfl (Nat.le_of_ble_eq_true rfl) (ls := [some (.inr 330), some (.inl r), some (.inl p), some (.inl k)]) rfl (fun hav hcm => ?_)
  have hc1 : -2147483648 ≤ r ∧ r < 2147483648 := hav (.inl r) (by simp)
  have hc2 : -2147483648 ≤ p ∧ p < 2147483648 := hav (.inl p) (by simp)
  have hc3 : -2147483648 ≤ k ∧ k < 2147483648 := hav (.inl k) (by simp)
  clear hav
  have qa1 := hg1.1 r (by omega) (by omega)
  have qa2 := f_rgH hg1.2.1 hg0 (by omega : 0 ≤ p ∧ p < 24) hg3
  have qa3 := f_rgS hg1.2.1 hg0 (by omega : 0 ≤ p ∧ p < 24) hg3
  have qa4 := hg1.2.2.1
  refine ax_aload_n dX12_needOf_0 rfl rfl (pc' := 1) rfl ?_
  refine ax_iload_n dX12_needOf_1 rfl rfl (pc' := 2) rfl ?_
  refine ax_iload_n dX12_needOf_2 rfl rfl (pc' := 3) rfl ?_
  refine ax_iload_n dX12_needOf_3 rfl rfl (pc' := 4) rfl ?_
  refine ax_aload_n dX12_needOf_4 rfl rfl (pc' := 5) rfl ?_
  refine ax_iload_n dX12_needOf_5 rfl rfl (pc' := 6) rfl ?_
  refine ax_iload_n dX12_needOf_6 rfl rfl (pc' := 7) rfl ?_
  refine ax_iload_n dX12_needOf_7 rfl rfl (pc' := 8) rfl ?_
  refine ax_invG [.inl r, .inl p, .inl k] [.inl k, .inl p, .inl r, .inr 330] dX12_needOf_8 mlX12_354 sh_330 rfl rfl rfl (Nat.le_of_ble_eq_true rfl) (s_X12_habitOf E l _ (by omega) _ r p k hw (by first | omega | assumption) (by first | omega | assumption) (by first | omega | assumption)) (pc' := 11) rfl (fun vv M_8 hq co8 hcm8 => ?_)
  obtain ⟨rfl, rfl⟩ := hq
  refine ax_reS (st2 := [.inl (f_P w r p (1 + k)), .inl k, .inl p, .inl r, .inr 330]) rfl ?_
  have cc8 : -2147483648 ≤ f_P w r p (1 + k) ∧ f_P w r p (1 + k) < 2147483648 := co8 _ rfl
  refine ax_aload_n dX12_needOf_11 rfl rfl (pc' := 12) rfl ?_
  refine ax_getr (v := 331) dX12_needOf_12 flX12_7 rfl sh_330 rfl (pc' := 15) rfl ?_
  refine ax_iconst dX12_needOf_15 (by decide) (pc' := 16) rfl ?_
  refine ax_iald (v := w 0) dX12_needOf_16 sh_331 rfl (by omega) (by omega) ((congrFun hw 0).trans rfl) (pc' := 17) rfl ?_
  refine ax_aload_n dX12_needOf_17 rfl rfl (pc' := 18) rfl ?_
  refine ax_iload_n dX12_needOf_18 rfl rfl (pc' := 19) rfl ?_
  refine ax_iload_n dX12_needOf_19 rfl rfl (pc' := 20) rfl ?_
  refine ax_bipush dX12_needOf_20 (by decide) (pc' := 22) rfl ?_
  refine ax_iload_n dX12_needOf_22 rfl rfl (pc' := 23) rfl ?_
  refine ax_iadd dX12_needOf_23 (by omega) (pc' := 24) rfl ?_
  refine ax_invG [.inl r, .inl p, .inl (7 + k)] [.inl (w 0), .inl (f_P w r p (1 + k)), .inl k, .inl p, .inl r, .inr 330] dX12_needOf_24 mlX12_86 sh_330 rfl rfl rfl (Nat.le_of_ble_eq_true rfl) (s_X12_ofPlace E l _ (by omega) _ r p (7 + k) hw (by first | omega | assumption) (by first | omega | assumption) (by first | omega | assumption)) (pc' := 27) rfl (fun vv M_24 hq co24 hcm24 => ?_)
  obtain ⟨rfl, rfl⟩ := hq
  refine ax_reS (st2 := [.inl (f_P w r p (7 + k)), .inl (w 0), .inl (f_P w r p (1 + k)), .inl k, .inl p, .inl r, .inr 330]) rfl ?_
  have cc24 : -2147483648 ≤ f_P w r p (7 + k) ∧ f_P w r p (7 + k) < 2147483648 := co24 _ rfl
  refine ax_isub dX12_needOf_27 (by omega) (pc' := 28) rfl ?_
  refine ax_invG [.inl r, .inl p, .inl k, .inl (f_P w r p (1 + k)), .inl (w 0 - (f_P w r p (7 + k)))] [] dX12_needOf_28 mlX12_357 sh_330 rfl rfl rfl (Nat.le_of_ble_eq_true rfl) (s_X12_needWith E l _ (by omega) _ r p k (f_P w r p (1 + k)) (w 0 - (f_P w r p (7 + k))) Ls hw hpl hF (by first | omega | assumption) (by first | omega | assumption) (by first | omega | assumption) (by first | omega | assumption) (by first | omega | assumption) (by first | omega | assumption)) (pc' := 31) rfl (fun vv M_28 hq co28 hcm28 => ?_)
  obtain ⟨rfl, frM_28⟩ := hq
  refine ax_reS (st2 := [.inl (f_needW Ls w r p k (f_P w r p (1 + k)) (w 0 - (f_P w r p (7 + k))))]) rfl ?_
  have cc28 : -2147483648 ≤ f_needW Ls w r p k (f_P w r p (1 + k)) (w 0 - (f_P w r p (7 + k))) ∧ f_needW Ls w r p k (f_P w r p (1 + k)) (w 0 - (f_P w r p (7 + k))) < 2147483648 := co28 _ rfl
  refine ax_iret dX12_needOf_31 rfl ?_
  refine ⟨rfl, ?_, ?_⟩
  · rfl
  · intro x0 i0 hai
    exact ((frM_28 x0 i0 (by omega)).trans rfl)
set_option maxRecDepth 20000 in
theorem s_X12_lossOf (E : ax_Env) (l : Launch) (d : Nat) (hd : 3 ≤ d) (M : ax_Mem) (r p k : Int) (Ls : Int → List f_Ln) {w : Int → Int} (hw : M 331 = w) {pl : Int → Int} (hpl : M 340 = pl) {F : Int → Int} (hF : M 341 = F) (hg0 : 0 ≤ r ∧ r < 8) (hg1 : f_iv w) (hg2 : 0 ≤ p ∧ p < 24) (hg3 : 0 ≤ k ∧ k < 6) (hg4 : f_lw Ls w) : ax_G E l d iX12_lossOf [.inr 330, .inl r, .inl p, .inl k] M (fun z0 M2 => z0 = some (.inl (f_loss Ls w r p k)) ∧ (∀ x0 i0 : Int, ¬ (x0 = 340 ∨ x0 = 341) → M2 x0 i0 = M x0 i0)) := by
  obtain ⟨d, rfl⟩ : ∃ d0, d = d0 + 1 := ⟨d - 1, by omega⟩
  refine ax_start rfl (Nat.le_of_ble_eq_true rfl) (ls := [some (.inr 330), some (.inl r), some (.inl p), some (.inl k)]) rfl (fun hav hcm => ?_)
  have hc1 : -2147483648 ≤ r ∧ r < 2147483648 := hav (.inl r) (by simp)
  have hc2 : -2147483648 ≤ p ∧ p < 2147483648 := hav (.inl p) (by simp)
  have hc3 : -2147483648 ≤ k ∧ k < 2147483648 := hav (.inl k) (by simp)
  clear hav
  have qa2 := f_rgH hg1.2.1 hg0 hg2 hg3
  have qa3 := f_rgS hg1.2.1 hg0 hg2 hg3
  have qa4 := hg1.2.2.1
  have qa5 := hg4 1 (by omega) (by omega)
  refine ax_aload_n dX12_lossOf_0 rfl rfl (pc' := 1) rfl ?_
  refine ax_iload_n dX12_lossOf_1 rfl rfl (pc' := 2) rfl ?_
  refine ax_iload_n dX12_lossOf_2 rfl rfl (pc' := 3) rfl ?_
  refine ax_iload_n dX12_lossOf_3 rfl rfl (pc' := 4) rfl ?_
  refine ax_aload_n dX12_lossOf_4 rfl rfl (pc' := 5) rfl ?_
  refine ax_iload_n dX12_lossOf_5 rfl rfl (pc' := 6) rfl ?_
  refine ax_iload_n dX12_lossOf_6 rfl rfl (pc' := 7) rfl ?_
  refine ax_iload_n dX12_lossOf_7 rfl rfl (pc' := 8) rfl ?_
  refine ax_invG [.inl r, .inl p, .inl k] [.inl k, .inl p, .inl r, .inr 330] dX12_lossOf_8 mlX12_354 sh_330 rfl rfl rfl (Nat.le_of_ble_eq_true rfl) (s_X12_habitOf E l _ (by omega) _ r p k hw (by first | omega | assumption) (by first | omega | assumption) (by first | omega | assumption)) (pc' := 11) rfl (fun vv M_8 hq co8 hcm8 => ?_)
  obtain ⟨rfl, rfl⟩ := hq
  refine ax_reS (st2 := [.inl (f_P w r p (1 + k)), .inl k, .inl p, .inl r, .inr 330]) rfl ?_
  have cc8 : -2147483648 ≤ f_P w r p (1 + k) ∧ f_P w r p (1 + k) < 2147483648 := co8 _ rfl
  refine ax_aload_n dX12_lossOf_11 rfl rfl (pc' := 12) rfl ?_
  refine ax_getr (v := 331) dX12_lossOf_12 flX12_7 rfl sh_330 rfl (pc' := 15) rfl ?_
  refine ax_iconst dX12_lossOf_15 (by decide) (pc' := 16) rfl ?_
  refine ax_iald (v := w 0) dX12_lossOf_16 sh_331 rfl (by omega) (by omega) ((congrFun hw 0).trans rfl) (pc' := 17) rfl ?_
  refine ax_aload_n dX12_lossOf_17 rfl rfl (pc' := 18) rfl ?_
  refine ax_iload_n dX12_lossOf_18 rfl rfl (pc' := 19) rfl ?_
  refine ax_iload_n dX12_lossOf_19 rfl rfl (pc' := 20) rfl ?_
  refine ax_bipush dX12_lossOf_20 (by decide) (pc' := 22) rfl ?_
  refine ax_iload_n dX12_lossOf_22 rfl rfl (pc' := 23) rfl ?_
  refine ax_iadd dX12_lossOf_23 (by omega) (pc' := 24) rfl ?_
  refine ax_invG [.inl r, .inl p, .inl (7 + k)] [.inl (w 0), .inl (f_P w r p (1 + k)), .inl k, .inl p, .inl r, .inr 330] dX12_lossOf_24 mlX12_86 sh_330 rfl rfl rfl (Nat.le_of_ble_eq_true rfl) (s_X12_ofPlace E l _ (by omega) _ r p (7 + k) hw (by first | omega | assumption) (by first | omega | assumption) (by first | omega | assumption)) (pc' := 27) rfl (fun vv M_24 hq co24 hcm24 => ?_)
  obtain ⟨rfl, rfl⟩ := hq
  refine ax_reS (st2 := [.inl (f_P w r p (7 + k)), .inl (w 0), .inl (f_P w r p (1 + k)), .inl k, .inl p, .inl r, .inr 330]) rfl ?_
  have cc24 : -2147483648 ≤ f_P w r p (7 + k) ∧ f_P w r p (7 + k) < 2147483648 := co24 _ rfl
  refine ax_isub dX12_lossOf_27 (by omega) (pc' := 28) rfl ?_
  refine ax_invG [.inl r, .inl p, .inl k, .inl (f_P w r p (1 + k)), .inl (w 0 - (f_P w r p (7 + k)))] [] dX12_lossOf_28 mlX12_343 sh_330 rfl rfl rfl (Nat.le_of_ble_eq_true rfl) (s_X12_habitFacts E l _ (by omega) _ r p k (f_P w r p (1 + k)) (w 0 - (f_P w r p (7 + k))) hw hF (by first | omega | assumption) (by first | omega | assumption)) (pc' := 31) rfl (fun vv M_28 hq co28 hcm28 => ?_)
  obtain ⟨rfl, frM_28, mrM_28_0⟩ := hq
  refine ax_reS (st2 := []) rfl ?_
  refine ax_aload_n dX12_lossOf_31 rfl rfl (pc' := 32) rfl ?_
  refine ax_iconst dX12_lossOf_32 (by decide) (pc' := 33) rfl ?_
  refine ax_iconst dX12_lossOf_33 (by decide) (pc' := 34) rfl ?_
  refine ax_bipush dX12_lossOf_34 (by decide) (pc' := 36) rfl ?_
  refine ax_invG [.inl 1, .inl 1, .inl 99] [] dX12_lossOf_36 mlX12_351 sh_330 rfl rfl rfl (Nat.le_of_ble_eq_true rfl) (s_X12_lawSays E l _ (by omega) _ 1 1 99 (Ls 1) ((funext fun i0 => frM_28 331 i0 (by omega)).trans hw) ((funext fun i0 => frM_28 340 i0 (by omega)).trans hpl) mrM_28_0 (by omega) qa5.1 qa5.2) (pc' := 39) rfl (fun vv M_36 hq co36 hcm36 => ?_)
  obtain ⟨rfl, frM_36⟩ := hq
  refine ax_reS (st2 := [.inl (max 0 (min 99 (f_pick (f_hf w F r p k (f_P w r p (1 + k)) (w 0 - (f_P w r p (7 + k)))) (Ls 1) 1)))]) rfl ?_
  have cc36 : -2147483648 ≤ max 0 (min 99 (f_pick (f_hf w F r p k (f_P w r p (1 + k)) (w 0 - (f_P w r p (7 + k)))) (Ls 1) 1)) ∧ max 0 (min 99 (f_pick (f_hf w F r p k (f_P w r p (1 + k)) (w 0 - (f_P w r p (7 + k)))) (Ls 1) 1)) < 2147483648 := co36 _ rfl
  refine ax_iret dX12_lossOf_39 rfl ?_
  refine ⟨rfl, ?_, ?_⟩
  · refine congrArg (fun z => some (Sum.inl z)) ?_
    unfold f_loss
    refine congrArg (fun z => max 0 (min 99 z)) (f_pick_congr (k := 1) ?_ (f_lns_us qa5.2))
    intro j hj
    have hj2 : j = 1 ∨ j = 2 ∨ j = 3 ∨ j = 4 ∨ j = 5 ∨ j = 6 := by unfold f_al at hj; omega
    rcases hj2 with rfl | rfl | rfl | rfl | rfl | rfl <;> simp [f_up, f_Fh, f_hf]
  · intro x0 i0 hai
    exact ((frM_36 x0 i0 (by omega)).trans ((frM_28 x0 i0 (by omega)).trans rfl))
set_option maxRecDepth 20000 in
theorem s_X12_strength (E : ax_Env) (l : Launch) (d : Nat) (hd : 3 ≤ d) (M : ax_Mem) (r p : Int) (Ls : Int → List f_Ln) {w : Int → Int} (hw : M 331 = w) {pl : Int → Int} (hpl : M 340 = pl) {F : Int → Int} (hF : M 341 = F) (hg0 : 0 ≤ r ∧ r < 8) (hg1 : f_iv w) (hg2 : 0 ≤ p ∧ p < 24) (hg3 : f_lw Ls w) : ax_G E l d iX12_strength [.inr 330, .inl r, .inl p] M (fun z0 M2 => z0 = some (.inl (f_str Ls w r p)) ∧ (∀ x0 i0 : Int, ¬ (x0 = 340 ∨ x0 = 341) → M2 x0 i0 = M x0 i0)) := by
  obtain ⟨d, rfl⟩ : ∃ d0, d = d0 + 1 := ⟨d - 1, by omega⟩
  refine ax_start rfl (Nat.le_of_ble_eq_true rfl) (ls := [some (.inr 330), some (.inl r), some (.inl p), none]) rfl (fun hav hcm => ?_)
  have hc1 : -2147483648 ≤ r ∧ r < 2147483648 := hav (.inl r) (by simp)
  have hc2 : -2147483648 ≤ p ∧ p < 2147483648 := hav (.inl p) (by simp)
  clear hav
  have qa1 := f_rgT hg1.2.1 hg0 hg2
  have qa2 := hg1.2.1
  have qa5 := hg3 2 (by omega) (by omega)
  refine ax_aload_n dX12_strength_0 rfl rfl (pc' := 1) rfl ?_
  refine ax_iload_n dX12_strength_1 rfl rfl (pc' := 2) rfl ?_
  refine ax_iload_n dX12_strength_2 rfl rfl (pc' := 3) rfl ?_
  refine ax_iconst dX12_strength_3 (by decide) (pc' := 4) rfl ?_
  refine ax_invG [.inl r, .inl p, .inl 0] [] dX12_strength_4 mlX12_86 sh_330 rfl rfl rfl (Nat.le_of_ble_eq_true rfl) (s_X12_ofPlace E l _ (by omega) _ r p 0 hw (by first | omega | assumption) (by first | omega | assumption) (by first | omega | assumption)) (pc' := 7) rfl (fun vv M_4 hq co4 hcm4 => ?_)
  obtain ⟨rfl, rfl⟩ := hq
  refine ax_reS (st2 := [.inl (f_P w r p 0)]) rfl ?_
  have cc4 : -2147483648 ≤ f_P w r p 0 ∧ f_P w r p 0 < 2147483648 := co4 _ rfl
  refine ax_istore_n dX12_strength_7 rfl (by decide) (ls' := [some (.inr 330), some (.inl r), some (.inl p), some (.inl (f_P w r p 0))]) rfl (pc' := 8) rfl ?_
  refine ax_aload_n dX12_strength_8 rfl rfl (pc' := 9) rfl ?_
  refine ax_getr (v := 341) dX12_strength_9 flX12_40 rfl sh_330 rfl (pc' := 12) rfl ?_
  refine ax_bipush dX12_strength_12 (by decide) (pc' := 14) rfl ?_
  refine ax_iload_n dX12_strength_14 rfl rfl (pc' := 15) rfl ?_
  refine ax_iconst dX12_strength_15 (by decide) (pc' := 16) rfl ?_
  refine ax_icmp_ne (tgt := 23) dX12_strength_16 (by decide) (pc' := 19) rfl (fun h16 => ?_) (fun h16 => ?_)
  · refine ax_iconst dX12_strength_23 (by decide) (pc' := 24) rfl ?_
    refine ax_iast dX12_strength_24 sh_341 rfl (by omega) (by omega) (pc' := 25) rfl ?_
    refine ax_aload_n dX12_strength_25 rfl rfl (pc' := 26) rfl ?_
    refine ax_getr (v := 341) dX12_strength_26 flX12_40 rfl sh_330 rfl (pc' := 29) rfl ?_
    refine ax_iconst dX12_strength_29 (by decide) (pc' := 30) rfl ?_
    refine ax_iload_n dX12_strength_30 rfl rfl (pc' := 31) rfl ?_
    refine ax_iconst dX12_strength_31 (by decide) (pc' := 32) rfl ?_
    refine ax_icmp_ne (tgt := 39) dX12_strength_32 (by decide) (pc' := 35) rfl (fun h32 => ?_) (fun h32 => ?_)
    · refine ax_aload_n dX12_strength_39 rfl rfl (pc' := 40) rfl ?_
      refine ax_getr (v := 331) dX12_strength_40 flX12_7 rfl sh_330 rfl (pc' := 43) rfl ?_
      refine ax_sipush dX12_strength_43 (by decide) (pc' := 46) rfl ?_
      refine ax_iload_n dX12_strength_46 rfl rfl (pc' := 47) rfl ?_
      refine ax_iadd dX12_strength_47 (by omega) (pc' := 48) rfl ?_
      refine ax_iald (v := w (2564 + (f_P w r p 0))) dX12_strength_48 sh_331 rfl (by omega) (by omega) ((congrFun (ax_up_rowmiss (by decide) hw) (2564 + (f_P w r p 0))).trans rfl) (pc' := 49) rfl ?_
      refine ax_iast dX12_strength_49 sh_341 rfl (by omega) (by omega) (pc' := 50) rfl ?_
      refine ax_aload_n dX12_strength_50 rfl rfl (pc' := 51) rfl ?_
      refine ax_getr (v := 341) dX12_strength_51 flX12_40 rfl sh_330 rfl (pc' := 54) rfl ?_
      refine ax_bipush dX12_strength_54 (by decide) (pc' := 56) rfl ?_
      refine ax_iload_n dX12_strength_56 rfl rfl (pc' := 57) rfl ?_
      refine ax_iconst dX12_strength_57 (by decide) (pc' := 58) rfl ?_
      refine ax_icmp_ne (tgt := 65) dX12_strength_58 (by decide) (pc' := 61) rfl (fun h58 => ?_) (fun h58 => ?_)
      · refine ax_aload_n dX12_strength_65 rfl rfl (pc' := 66) rfl ?_
        refine ax_getr (v := 331) dX12_strength_66 flX12_7 rfl sh_330 rfl (pc' := 69) rfl ?_
        refine ax_sipush dX12_strength_69 (by decide) (pc' := 72) rfl ?_
        refine ax_iload_n dX12_strength_72 rfl rfl (pc' := 73) rfl ?_
        refine ax_iadd dX12_strength_73 (by omega) (pc' := 74) rfl ?_
        refine ax_iald (v := w (2570 + (f_P w r p 0))) dX12_strength_74 sh_331 rfl (by omega) (by omega) ((congrFun (ax_up_rowmiss (by decide) (ax_up_rowmiss (by decide) hw)) (2570 + (f_P w r p 0))).trans rfl) (pc' := 75) rfl ?_
        refine ax_iast dX12_strength_75 sh_341 rfl (by omega) (by omega) (pc' := 76) rfl ?_
        refine ax_aload_n dX12_strength_76 rfl rfl (pc' := 77) rfl ?_
        refine ax_getr (v := 341) dX12_strength_77 flX12_40 rfl sh_330 rfl (pc' := 80) rfl ?_
        refine ax_bipush dX12_strength_80 (by decide) (pc' := 82) rfl ?_
        refine ax_aload_n dX12_strength_82 rfl rfl (pc' := 83) rfl ?_
        refine ax_getr (v := 331) dX12_strength_83 flX12_7 rfl sh_330 rfl (pc' := 86) rfl ?_
        refine ax_iconst dX12_strength_86 (by decide) (pc' := 87) rfl ?_
        refine ax_iald (v := w 0) dX12_strength_87 sh_331 rfl (by omega) (by omega) ((congrFun (ax_up_rowmiss (by decide) (ax_up_rowmiss (by decide) (ax_up_rowmiss (by decide) hw))) 0).trans rfl) (pc' := 88) rfl ?_
        refine ax_aload_n dX12_strength_88 rfl rfl (pc' := 89) rfl ?_
        refine ax_iload_n dX12_strength_89 rfl rfl (pc' := 90) rfl ?_
        refine ax_iconst dX12_strength_90 (by decide) (pc' := 91) rfl ?_
        refine ax_invG [.inl r, .inl 3] [.inl (w 0), .inl 11, .inr 341] dX12_strength_91 mlX12_78 sh_330 rfl rfl rfl (Nat.le_of_ble_eq_true rfl) (s_X12_ofRope E l _ (by omega) _ r 3 (ax_up_rowmiss (by decide) (ax_up_rowmiss (by decide) (ax_up_rowmiss (by decide) hw))) (by first | omega | assumption) (by first | omega | assumption)) (pc' := 94) rfl (fun vv M_91 hq co91 hcm91 => ?_)
        obtain ⟨rfl, rfl⟩ := hq
        refine ax_reS (st2 := [.inl (f_R w r 3), .inl (w 0), .inl 11, .inr 341]) rfl ?_
        have cc91 : -2147483648 ≤ f_R w r 3 ∧ f_R w r 3 < 2147483648 := co91 _ rfl
        refine ax_isubw dX12_strength_94 (pc' := 95) rfl ?_
        refine ax_sipush dX12_strength_95 (by decide) (pc' := 98) rfl ?_
        refine ax_idivw dX12_strength_98 (by omega) (pc' := 99) rfl ?_
        refine ax_iast dX12_strength_99 sh_341 rfl (by omega) (by omega) (pc' := 100) rfl ?_
        refine ax_aload_n dX12_strength_100 rfl rfl (pc' := 101) rfl ?_
        refine ax_getr (v := 341) dX12_strength_101 flX12_40 rfl sh_330 rfl (pc' := 104) rfl ?_
        refine ax_iconst dX12_strength_104 (by decide) (pc' := 105) rfl ?_
        refine ax_iload_n dX12_strength_105 rfl rfl (pc' := 106) rfl ?_
        refine ax_iast dX12_strength_106 sh_341 rfl (by omega) (by omega) (pc' := 107) rfl ?_
        refine ax_aload_n dX12_strength_107 rfl rfl (pc' := 108) rfl ?_
        refine ax_getr (v := 341) dX12_strength_108 flX12_40 rfl sh_330 rfl (pc' := 111) rfl ?_
        refine ax_bipush dX12_strength_111 (by decide) (pc' := 113) rfl ?_
        refine ax_aload_n dX12_strength_113 rfl rfl (pc' := 114) rfl ?_
        refine ax_iload_n dX12_strength_114 rfl rfl (pc' := 115) rfl ?_
        refine ax_iconst dX12_strength_115 (by decide) (pc' := 116) rfl ?_
        refine ax_invG [.inl r, .inl 1] [.inl 12, .inr 341] dX12_strength_116 mlX12_78 sh_330 rfl rfl rfl (Nat.le_of_ble_eq_true rfl) (s_X12_ofRope E l _ (by omega) _ r 1 (ax_up_rowmiss (by decide) (ax_up_rowmiss (by decide) (ax_up_rowmiss (by decide) (ax_up_rowmiss (by decide) (ax_up_rowmiss (by decide) hw))))) (by first | omega | assumption) (by first | omega | assumption)) (pc' := 119) rfl (fun vv M_116 hq co116 hcm116 => ?_)
        obtain ⟨rfl, rfl⟩ := hq
        refine ax_reS (st2 := [.inl (f_R w r 1), .inl 12, .inr 341]) rfl ?_
        have cc116 : -2147483648 ≤ f_R w r 1 ∧ f_R w r 1 < 2147483648 := co116 _ rfl
        refine ax_iast dX12_strength_119 sh_341 rfl (by omega) (by omega) (pc' := 120) rfl ?_
        refine ax_aload_n dX12_strength_120 rfl rfl (pc' := 121) rfl ?_
        refine ax_getr (v := 341) dX12_strength_121 flX12_40 rfl sh_330 rfl (pc' := 124) rfl ?_
        refine ax_bipush dX12_strength_124 (by decide) (pc' := 126) rfl ?_
        refine ax_aload_n dX12_strength_126 rfl rfl (pc' := 127) rfl ?_
        refine ax_iload_n dX12_strength_127 rfl rfl (pc' := 128) rfl ?_
        refine ax_iconst dX12_strength_128 (by decide) (pc' := 129) rfl ?_
        refine ax_invG [.inl r, .inl 4] [.inl 6, .inr 341] dX12_strength_129 mlX12_78 sh_330 rfl rfl rfl (Nat.le_of_ble_eq_true rfl) (s_X12_ofRope E l _ (by omega) _ r 4 (ax_up_rowmiss (by decide) (ax_up_rowmiss (by decide) (ax_up_rowmiss (by decide) (ax_up_rowmiss (by decide) (ax_up_rowmiss (by decide) (ax_up_rowmiss (by decide) hw)))))) (by first | omega | assumption) (by first | omega | assumption)) (pc' := 132) rfl (fun vv M_129 hq co129 hcm129 => ?_)
        obtain ⟨rfl, rfl⟩ := hq
        refine ax_reS (st2 := [.inl (f_R w r 4), .inl 6, .inr 341]) rfl ?_
        have cc129 : -2147483648 ≤ f_R w r 4 ∧ f_R w r 4 < 2147483648 := co129 _ rfl
        refine ax_iast dX12_strength_132 sh_341 rfl (by omega) (by omega) (pc' := 133) rfl ?_
        refine ax_aload_n dX12_strength_133 rfl rfl (pc' := 134) rfl ?_
        refine ax_getr (v := 341) dX12_strength_134 flX12_40 rfl sh_330 rfl (pc' := 137) rfl ?_
        refine ax_bipush dX12_strength_137 (by decide) (pc' := 139) rfl ?_
        refine ax_aload_n dX12_strength_139 rfl rfl (pc' := 140) rfl ?_
        refine ax_iload_n dX12_strength_140 rfl rfl (pc' := 141) rfl ?_
        refine ax_iload_n dX12_strength_141 rfl rfl (pc' := 142) rfl ?_
        refine ax_invG [.inl r, .inl p] [.inl 13, .inr 341] dX12_strength_142 mlX12_361 sh_330 rfl rfl rfl (Nat.le_of_ble_eq_true rfl) (s_X12_habitsAt E l _ (by omega) _ r p (ax_up_rowmiss (by decide) (ax_up_rowmiss (by decide) (ax_up_rowmiss (by decide) (ax_up_rowmiss (by decide) (ax_up_rowmiss (by decide) (ax_up_rowmiss (by decide) (ax_up_rowmiss (by decide) hw))))))) (by first | omega | assumption) (by first | omega | assumption) (by first | omega | assumption)) (pc' := 145) rfl (fun vv M_142 hq co142 hcm142 => ?_)
        obtain ⟨rfl, rfl⟩ := hq
        refine ax_reS (st2 := [.inl (f_habs w r p), .inl 13, .inr 341]) rfl ?_
        have cc142 : -2147483648 ≤ f_habs w r p ∧ f_habs w r p < 2147483648 := co142 _ rfl
        refine ax_iast dX12_strength_145 sh_341 rfl (by omega) (by omega) (pc' := 146) rfl ?_
        refine ax_aload_n dX12_strength_146 rfl rfl (pc' := 147) rfl ?_
        refine ax_iconst dX12_strength_147 (by decide) (pc' := 148) rfl ?_
        refine ax_bipush dX12_strength_148 (by decide) (pc' := 150) rfl ?_
        refine ax_sipush dX12_strength_150 (by decide) (pc' := 153) rfl ?_
        refine ax_invG [.inl 2, .inl 90, .inl 999] [] dX12_strength_153 mlX12_351 sh_330 rfl rfl rfl (Nat.le_of_ble_eq_true rfl) (s_X12_lawSays E l _ (by omega) _ 2 90 999 (Ls 2) (ax_up_rowmiss (by decide) (ax_up_rowmiss (by decide) (ax_up_rowmiss (by decide) (ax_up_rowmiss (by decide) (ax_up_rowmiss (by decide) (ax_up_rowmiss (by decide) (ax_up_rowmiss (by decide) (ax_up_rowmiss (by decide) hw)))))))) (ax_up_rowmiss (by decide) (ax_up_rowmiss (by decide) (ax_up_rowmiss (by decide) (ax_up_rowmiss (by decide) (ax_up_rowmiss (by decide) (ax_up_rowmiss (by decide) (ax_up_rowmiss (by decide) (ax_up_rowmiss (by decide) hpl)))))))) (ax_up_rowhit (ax_up_rowhit (ax_up_rowhit (ax_up_rowhit (ax_up_rowhit (ax_up_rowhit (ax_up_rowhit (ax_up_rowhit hF)))))))) (by omega) qa5.1 qa5.2) (pc' := 156) rfl (fun vv M_153 hq co153 hcm153 => ?_)
        obtain ⟨rfl, frM_153⟩ := hq
        refine ax_reS (st2 := [.inl (max 0 (min 999 (f_pick (f_up (f_up (f_up (f_up (f_up (f_up (f_up (f_up F 9 1) 5 (w (2564 + (f_P w r p 0)))) 10 (w (2570 + (f_P w r p 0)))) 11 (ax_div (ax_wr ((w 0) - (f_R w r 3))) 365)) 3 p) 12 (f_R w r 1)) 6 (f_R w r 4)) 13 (f_habs w r p)) (Ls 2) 90)))]) rfl ?_
        have cc153 : -2147483648 ≤ max 0 (min 999 (f_pick (f_up (f_up (f_up (f_up (f_up (f_up (f_up (f_up F 9 1) 5 (w (2564 + (f_P w r p 0)))) 10 (w (2570 + (f_P w r p 0)))) 11 (ax_div (ax_wr ((w 0) - (f_R w r 3))) 365)) 3 p) 12 (f_R w r 1)) 6 (f_R w r 4)) 13 (f_habs w r p)) (Ls 2) 90)) ∧ max 0 (min 999 (f_pick (f_up (f_up (f_up (f_up (f_up (f_up (f_up (f_up F 9 1) 5 (w (2564 + (f_P w r p 0)))) 10 (w (2570 + (f_P w r p 0)))) 11 (ax_div (ax_wr ((w 0) - (f_R w r 3))) 365)) 3 p) 12 (f_R w r 1)) 6 (f_R w r 4)) 13 (f_habs w r p)) (Ls 2) 90)) < 2147483648 := co153 _ rfl
        refine ax_iret dX12_strength_156 rfl ?_
        refine ⟨rfl, ?_, ?_⟩
        · refine congrArg (fun z => some (Sum.inl z)) ?_
          first
            | (exfalso; omega)
            | (unfold f_str
               refine congrArg (fun z => max 0 (min 999 z)) (f_pick_congr (k := 2) ?_ (f_lns_us qa5.2))
               intro j hj
               have hj2 : j = 3 ∨ j = 5 ∨ j = 6 ∨ j = 9 ∨ j = 10 ∨ j = 11 ∨ j = 12 ∨ j = 13 := by unfold f_al at hj; omega
               rcases hj2 with rfl | rfl | rfl | rfl | rfl | rfl | rfl | rfl <;> simp [f_up, f_Fs, h16])
        · intro x0 i0 hai
          exact ((frM_153 x0 i0 (by omega)).trans (ax_up_miss (by omega) (ax_up_miss (by omega) (ax_up_miss (by omega) (ax_up_miss (by omega) (ax_up_miss (by omega) (ax_up_miss (by omega) (ax_up_miss (by omega) (ax_up_miss (by omega) rfl)))))))))
      · refine ax_iconst dX12_strength_61 (by decide) (pc' := 62) rfl ?_
        refine ax_goto dX12_strength_62 (pc' := 75) (by decide) ?_
        refine ax_iast dX12_strength_75 sh_341 rfl (by omega) (by omega) (pc' := 76) rfl ?_
        refine ax_aload_n dX12_strength_76 rfl rfl (pc' := 77) rfl ?_
        refine ax_getr (v := 341) dX12_strength_77 flX12_40 rfl sh_330 rfl (pc' := 80) rfl ?_
        refine ax_bipush dX12_strength_80 (by decide) (pc' := 82) rfl ?_
        refine ax_aload_n dX12_strength_82 rfl rfl (pc' := 83) rfl ?_
        refine ax_getr (v := 331) dX12_strength_83 flX12_7 rfl sh_330 rfl (pc' := 86) rfl ?_
        refine ax_iconst dX12_strength_86 (by decide) (pc' := 87) rfl ?_
        refine ax_iald (v := w 0) dX12_strength_87 sh_331 rfl (by omega) (by omega) ((congrFun (ax_up_rowmiss (by decide) (ax_up_rowmiss (by decide) (ax_up_rowmiss (by decide) hw))) 0).trans rfl) (pc' := 88) rfl ?_
        refine ax_aload_n dX12_strength_88 rfl rfl (pc' := 89) rfl ?_
        refine ax_iload_n dX12_strength_89 rfl rfl (pc' := 90) rfl ?_
        refine ax_iconst dX12_strength_90 (by decide) (pc' := 91) rfl ?_
        refine ax_invG [.inl r, .inl 3] [.inl (w 0), .inl 11, .inr 341] dX12_strength_91 mlX12_78 sh_330 rfl rfl rfl (Nat.le_of_ble_eq_true rfl) (s_X12_ofRope E l _ (by omega) _ r 3 (ax_up_rowmiss (by decide) (ax_up_rowmiss (by decide) (ax_up_rowmiss (by decide) hw))) (by first | omega | assumption) (by first | omega | assumption)) (pc' := 94) rfl (fun vv M_91 hq co91 hcm91 => ?_)
        obtain ⟨rfl, rfl⟩ := hq
        refine ax_reS (st2 := [.inl (f_R w r 3), .inl (w 0), .inl 11, .inr 341]) rfl ?_
        have cc91 : -2147483648 ≤ f_R w r 3 ∧ f_R w r 3 < 2147483648 := co91 _ rfl
        refine ax_isubw dX12_strength_94 (pc' := 95) rfl ?_
        refine ax_sipush dX12_strength_95 (by decide) (pc' := 98) rfl ?_
        refine ax_idivw dX12_strength_98 (by omega) (pc' := 99) rfl ?_
        refine ax_iast dX12_strength_99 sh_341 rfl (by omega) (by omega) (pc' := 100) rfl ?_
        refine ax_aload_n dX12_strength_100 rfl rfl (pc' := 101) rfl ?_
        refine ax_getr (v := 341) dX12_strength_101 flX12_40 rfl sh_330 rfl (pc' := 104) rfl ?_
        refine ax_iconst dX12_strength_104 (by decide) (pc' := 105) rfl ?_
        refine ax_iload_n dX12_strength_105 rfl rfl (pc' := 106) rfl ?_
        refine ax_iast dX12_strength_106 sh_341 rfl (by omega) (by omega) (pc' := 107) rfl ?_
        refine ax_aload_n dX12_strength_107 rfl rfl (pc' := 108) rfl ?_
        refine ax_getr (v := 341) dX12_strength_108 flX12_40 rfl sh_330 rfl (pc' := 111) rfl ?_
        refine ax_bipush dX12_strength_111 (by decide) (pc' := 113) rfl ?_
        refine ax_aload_n dX12_strength_113 rfl rfl (pc' := 114) rfl ?_
        refine ax_iload_n dX12_strength_114 rfl rfl (pc' := 115) rfl ?_
        refine ax_iconst dX12_strength_115 (by decide) (pc' := 116) rfl ?_
        refine ax_invG [.inl r, .inl 1] [.inl 12, .inr 341] dX12_strength_116 mlX12_78 sh_330 rfl rfl rfl (Nat.le_of_ble_eq_true rfl) (s_X12_ofRope E l _ (by omega) _ r 1 (ax_up_rowmiss (by decide) (ax_up_rowmiss (by decide) (ax_up_rowmiss (by decide) (ax_up_rowmiss (by decide) (ax_up_rowmiss (by decide) hw))))) (by first | omega | assumption) (by first | omega | assumption)) (pc' := 119) rfl (fun vv M_116 hq co116 hcm116 => ?_)
        obtain ⟨rfl, rfl⟩ := hq
        refine ax_reS (st2 := [.inl (f_R w r 1), .inl 12, .inr 341]) rfl ?_
        have cc116 : -2147483648 ≤ f_R w r 1 ∧ f_R w r 1 < 2147483648 := co116 _ rfl
        refine ax_iast dX12_strength_119 sh_341 rfl (by omega) (by omega) (pc' := 120) rfl ?_
        refine ax_aload_n dX12_strength_120 rfl rfl (pc' := 121) rfl ?_
        refine ax_getr (v := 341) dX12_strength_121 flX12_40 rfl sh_330 rfl (pc' := 124) rfl ?_
        refine ax_bipush dX12_strength_124 (by decide) (pc' := 126) rfl ?_
        refine ax_aload_n dX12_strength_126 rfl rfl (pc' := 127) rfl ?_
        refine ax_iload_n dX12_strength_127 rfl rfl (pc' := 128) rfl ?_
        refine ax_iconst dX12_strength_128 (by decide) (pc' := 129) rfl ?_
        refine ax_invG [.inl r, .inl 4] [.inl 6, .inr 341] dX12_strength_129 mlX12_78 sh_330 rfl rfl rfl (Nat.le_of_ble_eq_true rfl) (s_X12_ofRope E l _ (by omega) _ r 4 (ax_up_rowmiss (by decide) (ax_up_rowmiss (by decide) (ax_up_rowmiss (by decide) (ax_up_rowmiss (by decide) (ax_up_rowmiss (by decide) (ax_up_rowmiss (by decide) hw)))))) (by first | omega | assumption) (by first | omega | assumption)) (pc' := 132) rfl (fun vv M_129 hq co129 hcm129 => ?_)
        obtain ⟨rfl, rfl⟩ := hq
        refine ax_reS (st2 := [.inl (f_R w r 4), .inl 6, .inr 341]) rfl ?_
        have cc129 : -2147483648 ≤ f_R w r 4 ∧ f_R w r 4 < 2147483648 := co129 _ rfl
        refine ax_iast dX12_strength_132 sh_341 rfl (by omega) (by omega) (pc' := 133) rfl ?_
        refine ax_aload_n dX12_strength_133 rfl rfl (pc' := 134) rfl ?_
        refine ax_getr (v := 341) dX12_strength_134 flX12_40 rfl sh_330 rfl (pc' := 137) rfl ?_
        refine ax_bipush dX12_strength_137 (by decide) (pc' := 139) rfl ?_
        refine ax_aload_n dX12_strength_139 rfl rfl (pc' := 140) rfl ?_
        refine ax_iload_n dX12_strength_140 rfl rfl (pc' := 141) rfl ?_
        refine ax_iload_n dX12_strength_141 rfl rfl (pc' := 142) rfl ?_
        refine ax_invG [.inl r, .inl p] [.inl 13, .inr 341] dX12_strength_142 mlX12_361 sh_330 rfl rfl rfl (Nat.le_of_ble_eq_true rfl) (s_X12_habitsAt E l _ (by omega) _ r p (ax_up_rowmiss (by decide) (ax_up_rowmiss (by decide) (ax_up_rowmiss (by decide) (ax_up_rowmiss (by decide) (ax_up_rowmiss (by decide) (ax_up_rowmiss (by decide) (ax_up_rowmiss (by decide) hw))))))) (by first | omega | assumption) (by first | omega | assumption) (by first | omega | assumption)) (pc' := 145) rfl (fun vv M_142 hq co142 hcm142 => ?_)
        obtain ⟨rfl, rfl⟩ := hq
        refine ax_reS (st2 := [.inl (f_habs w r p), .inl 13, .inr 341]) rfl ?_
        have cc142 : -2147483648 ≤ f_habs w r p ∧ f_habs w r p < 2147483648 := co142 _ rfl
        refine ax_iast dX12_strength_145 sh_341 rfl (by omega) (by omega) (pc' := 146) rfl ?_
        refine ax_aload_n dX12_strength_146 rfl rfl (pc' := 147) rfl ?_
        refine ax_iconst dX12_strength_147 (by decide) (pc' := 148) rfl ?_
        refine ax_bipush dX12_strength_148 (by decide) (pc' := 150) rfl ?_
        refine ax_sipush dX12_strength_150 (by decide) (pc' := 153) rfl ?_
        refine ax_invG [.inl 2, .inl 90, .inl 999] [] dX12_strength_153 mlX12_351 sh_330 rfl rfl rfl (Nat.le_of_ble_eq_true rfl) (s_X12_lawSays E l _ (by omega) _ 2 90 999 (Ls 2) (ax_up_rowmiss (by decide) (ax_up_rowmiss (by decide) (ax_up_rowmiss (by decide) (ax_up_rowmiss (by decide) (ax_up_rowmiss (by decide) (ax_up_rowmiss (by decide) (ax_up_rowmiss (by decide) (ax_up_rowmiss (by decide) hw)))))))) (ax_up_rowmiss (by decide) (ax_up_rowmiss (by decide) (ax_up_rowmiss (by decide) (ax_up_rowmiss (by decide) (ax_up_rowmiss (by decide) (ax_up_rowmiss (by decide) (ax_up_rowmiss (by decide) (ax_up_rowmiss (by decide) hpl)))))))) (ax_up_rowhit (ax_up_rowhit (ax_up_rowhit (ax_up_rowhit (ax_up_rowhit (ax_up_rowhit (ax_up_rowhit (ax_up_rowhit hF)))))))) (by omega) qa5.1 qa5.2) (pc' := 156) rfl (fun vv M_153 hq co153 hcm153 => ?_)
        obtain ⟨rfl, frM_153⟩ := hq
        refine ax_reS (st2 := [.inl (max 0 (min 999 (f_pick (f_up (f_up (f_up (f_up (f_up (f_up (f_up (f_up F 9 1) 5 (w (2564 + (f_P w r p 0)))) 10 0) 11 (ax_div (ax_wr ((w 0) - (f_R w r 3))) 365)) 3 p) 12 (f_R w r 1)) 6 (f_R w r 4)) 13 (f_habs w r p)) (Ls 2) 90)))]) rfl ?_
        have cc153 : -2147483648 ≤ max 0 (min 999 (f_pick (f_up (f_up (f_up (f_up (f_up (f_up (f_up (f_up F 9 1) 5 (w (2564 + (f_P w r p 0)))) 10 0) 11 (ax_div (ax_wr ((w 0) - (f_R w r 3))) 365)) 3 p) 12 (f_R w r 1)) 6 (f_R w r 4)) 13 (f_habs w r p)) (Ls 2) 90)) ∧ max 0 (min 999 (f_pick (f_up (f_up (f_up (f_up (f_up (f_up (f_up (f_up F 9 1) 5 (w (2564 + (f_P w r p 0)))) 10 0) 11 (ax_div (ax_wr ((w 0) - (f_R w r 3))) 365)) 3 p) 12 (f_R w r 1)) 6 (f_R w r 4)) 13 (f_habs w r p)) (Ls 2) 90)) < 2147483648 := co153 _ rfl
        refine ax_iret dX12_strength_156 rfl ?_
        refine ⟨rfl, ?_, ?_⟩
        · refine congrArg (fun z => some (Sum.inl z)) ?_
          first
            | (exfalso; omega)
            | (unfold f_str
               refine congrArg (fun z => max 0 (min 999 z)) (f_pick_congr (k := 2) ?_ (f_lns_us qa5.2))
               intro j hj
               have hj2 : j = 3 ∨ j = 5 ∨ j = 6 ∨ j = 9 ∨ j = 10 ∨ j = 11 ∨ j = 12 ∨ j = 13 := by unfold f_al at hj; omega
               rcases hj2 with rfl | rfl | rfl | rfl | rfl | rfl | rfl | rfl <;> simp [f_up, f_Fs, h16])
        · intro x0 i0 hai
          exact ((frM_153 x0 i0 (by omega)).trans (ax_up_miss (by omega) (ax_up_miss (by omega) (ax_up_miss (by omega) (ax_up_miss (by omega) (ax_up_miss (by omega) (ax_up_miss (by omega) (ax_up_miss (by omega) (ax_up_miss (by omega) rfl)))))))))
    · refine ax_iconst dX12_strength_35 (by decide) (pc' := 36) rfl ?_
      refine ax_goto dX12_strength_36 (pc' := 49) (by decide) ?_
      refine ax_iast dX12_strength_49 sh_341 rfl (by omega) (by omega) (pc' := 50) rfl ?_
      refine ax_aload_n dX12_strength_50 rfl rfl (pc' := 51) rfl ?_
      refine ax_getr (v := 341) dX12_strength_51 flX12_40 rfl sh_330 rfl (pc' := 54) rfl ?_
      refine ax_bipush dX12_strength_54 (by decide) (pc' := 56) rfl ?_
      refine ax_iload_n dX12_strength_56 rfl rfl (pc' := 57) rfl ?_
      refine ax_iconst dX12_strength_57 (by decide) (pc' := 58) rfl ?_
      refine ax_icmp_ne (tgt := 65) dX12_strength_58 (by decide) (pc' := 61) rfl (fun h58 => ?_) (fun h58 => ?_)
      · refine ax_aload_n dX12_strength_65 rfl rfl (pc' := 66) rfl ?_
        refine ax_getr (v := 331) dX12_strength_66 flX12_7 rfl sh_330 rfl (pc' := 69) rfl ?_
        refine ax_sipush dX12_strength_69 (by decide) (pc' := 72) rfl ?_
        refine ax_iload_n dX12_strength_72 rfl rfl (pc' := 73) rfl ?_
        refine ax_iadd dX12_strength_73 (by omega) (pc' := 74) rfl ?_
        refine ax_iald (v := w (2570 + (f_P w r p 0))) dX12_strength_74 sh_331 rfl (by omega) (by omega) ((congrFun (ax_up_rowmiss (by decide) (ax_up_rowmiss (by decide) hw)) (2570 + (f_P w r p 0))).trans rfl) (pc' := 75) rfl ?_
        refine ax_iast dX12_strength_75 sh_341 rfl (by omega) (by omega) (pc' := 76) rfl ?_
        refine ax_aload_n dX12_strength_76 rfl rfl (pc' := 77) rfl ?_
        refine ax_getr (v := 341) dX12_strength_77 flX12_40 rfl sh_330 rfl (pc' := 80) rfl ?_
        refine ax_bipush dX12_strength_80 (by decide) (pc' := 82) rfl ?_
        refine ax_aload_n dX12_strength_82 rfl rfl (pc' := 83) rfl ?_
        refine ax_getr (v := 331) dX12_strength_83 flX12_7 rfl sh_330 rfl (pc' := 86) rfl ?_
        refine ax_iconst dX12_strength_86 (by decide) (pc' := 87) rfl ?_
        refine ax_iald (v := w 0) dX12_strength_87 sh_331 rfl (by omega) (by omega) ((congrFun (ax_up_rowmiss (by decide) (ax_up_rowmiss (by decide) (ax_up_rowmiss (by decide) hw))) 0).trans rfl) (pc' := 88) rfl ?_
        refine ax_aload_n dX12_strength_88 rfl rfl (pc' := 89) rfl ?_
        refine ax_iload_n dX12_strength_89 rfl rfl (pc' := 90) rfl ?_
        refine ax_iconst dX12_strength_90 (by decide) (pc' := 91) rfl ?_
        refine ax_invG [.inl r, .inl 3] [.inl (w 0), .inl 11, .inr 341] dX12_strength_91 mlX12_78 sh_330 rfl rfl rfl (Nat.le_of_ble_eq_true rfl) (s_X12_ofRope E l _ (by omega) _ r 3 (ax_up_rowmiss (by decide) (ax_up_rowmiss (by decide) (ax_up_rowmiss (by decide) hw))) (by first | omega | assumption) (by first | omega | assumption)) (pc' := 94) rfl (fun vv M_91 hq co91 hcm91 => ?_)
        obtain ⟨rfl, rfl⟩ := hq
        refine ax_reS (st2 := [.inl (f_R w r 3), .inl (w 0), .inl 11, .inr 341]) rfl ?_
        have cc91 : -2147483648 ≤ f_R w r 3 ∧ f_R w r 3 < 2147483648 := co91 _ rfl
        refine ax_isubw dX12_strength_94 (pc' := 95) rfl ?_
        refine ax_sipush dX12_strength_95 (by decide) (pc' := 98) rfl ?_
        refine ax_idivw dX12_strength_98 (by omega) (pc' := 99) rfl ?_
        refine ax_iast dX12_strength_99 sh_341 rfl (by omega) (by omega) (pc' := 100) rfl ?_
        refine ax_aload_n dX12_strength_100 rfl rfl (pc' := 101) rfl ?_
        refine ax_getr (v := 341) dX12_strength_101 flX12_40 rfl sh_330 rfl (pc' := 104) rfl ?_
        refine ax_iconst dX12_strength_104 (by decide) (pc' := 105) rfl ?_
        refine ax_iload_n dX12_strength_105 rfl rfl (pc' := 106) rfl ?_
        refine ax_iast dX12_strength_106 sh_341 rfl (by omega) (by omega) (pc' := 107) rfl ?_
        refine ax_aload_n dX12_strength_107 rfl rfl (pc' := 108) rfl ?_
        refine ax_getr (v := 341) dX12_strength_108 flX12_40 rfl sh_330 rfl (pc' := 111) rfl ?_
        refine ax_bipush dX12_strength_111 (by decide) (pc' := 113) rfl ?_
        refine ax_aload_n dX12_strength_113 rfl rfl (pc' := 114) rfl ?_
        refine ax_iload_n dX12_strength_114 rfl rfl (pc' := 115) rfl ?_
        refine ax_iconst dX12_strength_115 (by decide) (pc' := 116) rfl ?_
        refine ax_invG [.inl r, .inl 1] [.inl 12, .inr 341] dX12_strength_116 mlX12_78 sh_330 rfl rfl rfl (Nat.le_of_ble_eq_true rfl) (s_X12_ofRope E l _ (by omega) _ r 1 (ax_up_rowmiss (by decide) (ax_up_rowmiss (by decide) (ax_up_rowmiss (by decide) (ax_up_rowmiss (by decide) (ax_up_rowmiss (by decide) hw))))) (by first | omega | assumption) (by first | omega | assumption)) (pc' := 119) rfl (fun vv M_116 hq co116 hcm116 => ?_)
        obtain ⟨rfl, rfl⟩ := hq
        refine ax_reS (st2 := [.inl (f_R w r 1), .inl 12, .inr 341]) rfl ?_
        have cc116 : -2147483648 ≤ f_R w r 1 ∧ f_R w r 1 < 2147483648 := co116 _ rfl
        refine ax_iast dX12_strength_119 sh_341 rfl (by omega) (by omega) (pc' := 120) rfl ?_
        refine ax_aload_n dX12_strength_120 rfl rfl (pc' := 121) rfl ?_
        refine ax_getr (v := 341) dX12_strength_121 flX12_40 rfl sh_330 rfl (pc' := 124) rfl ?_
        refine ax_bipush dX12_strength_124 (by decide) (pc' := 126) rfl ?_
        refine ax_aload_n dX12_strength_126 rfl rfl (pc' := 127) rfl ?_
        refine ax_iload_n dX12_strength_127 rfl rfl (pc' := 128) rfl ?_
        refine ax_iconst dX12_strength_128 (by decide) (pc' := 129) rfl ?_
        refine ax_invG [.inl r, .inl 4] [.inl 6, .inr 341] dX12_strength_129 mlX12_78 sh_330 rfl rfl rfl (Nat.le_of_ble_eq_true rfl) (s_X12_ofRope E l _ (by omega) _ r 4 (ax_up_rowmiss (by decide) (ax_up_rowmiss (by decide) (ax_up_rowmiss (by decide) (ax_up_rowmiss (by decide) (ax_up_rowmiss (by decide) (ax_up_rowmiss (by decide) hw)))))) (by first | omega | assumption) (by first | omega | assumption)) (pc' := 132) rfl (fun vv M_129 hq co129 hcm129 => ?_)
        obtain ⟨rfl, rfl⟩ := hq
        refine ax_reS (st2 := [.inl (f_R w r 4), .inl 6, .inr 341]) rfl ?_
        have cc129 : -2147483648 ≤ f_R w r 4 ∧ f_R w r 4 < 2147483648 := co129 _ rfl
        refine ax_iast dX12_strength_132 sh_341 rfl (by omega) (by omega) (pc' := 133) rfl ?_
        refine ax_aload_n dX12_strength_133 rfl rfl (pc' := 134) rfl ?_
        refine ax_getr (v := 341) dX12_strength_134 flX12_40 rfl sh_330 rfl (pc' := 137) rfl ?_
        refine ax_bipush dX12_strength_137 (by decide) (pc' := 139) rfl ?_
        refine ax_aload_n dX12_strength_139 rfl rfl (pc' := 140) rfl ?_
        refine ax_iload_n dX12_strength_140 rfl rfl (pc' := 141) rfl ?_
        refine ax_iload_n dX12_strength_141 rfl rfl (pc' := 142) rfl ?_
        refine ax_invG [.inl r, .inl p] [.inl 13, .inr 341] dX12_strength_142 mlX12_361 sh_330 rfl rfl rfl (Nat.le_of_ble_eq_true rfl) (s_X12_habitsAt E l _ (by omega) _ r p (ax_up_rowmiss (by decide) (ax_up_rowmiss (by decide) (ax_up_rowmiss (by decide) (ax_up_rowmiss (by decide) (ax_up_rowmiss (by decide) (ax_up_rowmiss (by decide) (ax_up_rowmiss (by decide) hw))))))) (by first | omega | assumption) (by first | omega | assumption) (by first | omega | assumption)) (pc' := 145) rfl (fun vv M_142 hq co142 hcm142 => ?_)
        obtain ⟨rfl, rfl⟩ := hq
        refine ax_reS (st2 := [.inl (f_habs w r p), .inl 13, .inr 341]) rfl ?_
        have cc142 : -2147483648 ≤ f_habs w r p ∧ f_habs w r p < 2147483648 := co142 _ rfl
        refine ax_iast dX12_strength_145 sh_341 rfl (by omega) (by omega) (pc' := 146) rfl ?_
        refine ax_aload_n dX12_strength_146 rfl rfl (pc' := 147) rfl ?_
        refine ax_iconst dX12_strength_147 (by decide) (pc' := 148) rfl ?_
        refine ax_bipush dX12_strength_148 (by decide) (pc' := 150) rfl ?_
        refine ax_sipush dX12_strength_150 (by decide) (pc' := 153) rfl ?_
        refine ax_invG [.inl 2, .inl 90, .inl 999] [] dX12_strength_153 mlX12_351 sh_330 rfl rfl rfl (Nat.le_of_ble_eq_true rfl) (s_X12_lawSays E l _ (by omega) _ 2 90 999 (Ls 2) (ax_up_rowmiss (by decide) (ax_up_rowmiss (by decide) (ax_up_rowmiss (by decide) (ax_up_rowmiss (by decide) (ax_up_rowmiss (by decide) (ax_up_rowmiss (by decide) (ax_up_rowmiss (by decide) (ax_up_rowmiss (by decide) hw)))))))) (ax_up_rowmiss (by decide) (ax_up_rowmiss (by decide) (ax_up_rowmiss (by decide) (ax_up_rowmiss (by decide) (ax_up_rowmiss (by decide) (ax_up_rowmiss (by decide) (ax_up_rowmiss (by decide) (ax_up_rowmiss (by decide) hpl)))))))) (ax_up_rowhit (ax_up_rowhit (ax_up_rowhit (ax_up_rowhit (ax_up_rowhit (ax_up_rowhit (ax_up_rowhit (ax_up_rowhit hF)))))))) (by omega) qa5.1 qa5.2) (pc' := 156) rfl (fun vv M_153 hq co153 hcm153 => ?_)
        obtain ⟨rfl, frM_153⟩ := hq
        refine ax_reS (st2 := [.inl (max 0 (min 999 (f_pick (f_up (f_up (f_up (f_up (f_up (f_up (f_up (f_up F 9 1) 5 0) 10 (w (2570 + (f_P w r p 0)))) 11 (ax_div (ax_wr ((w 0) - (f_R w r 3))) 365)) 3 p) 12 (f_R w r 1)) 6 (f_R w r 4)) 13 (f_habs w r p)) (Ls 2) 90)))]) rfl ?_
        have cc153 : -2147483648 ≤ max 0 (min 999 (f_pick (f_up (f_up (f_up (f_up (f_up (f_up (f_up (f_up F 9 1) 5 0) 10 (w (2570 + (f_P w r p 0)))) 11 (ax_div (ax_wr ((w 0) - (f_R w r 3))) 365)) 3 p) 12 (f_R w r 1)) 6 (f_R w r 4)) 13 (f_habs w r p)) (Ls 2) 90)) ∧ max 0 (min 999 (f_pick (f_up (f_up (f_up (f_up (f_up (f_up (f_up (f_up F 9 1) 5 0) 10 (w (2570 + (f_P w r p 0)))) 11 (ax_div (ax_wr ((w 0) - (f_R w r 3))) 365)) 3 p) 12 (f_R w r 1)) 6 (f_R w r 4)) 13 (f_habs w r p)) (Ls 2) 90)) < 2147483648 := co153 _ rfl
        refine ax_iret dX12_strength_156 rfl ?_
        refine ⟨rfl, ?_, ?_⟩
        · refine congrArg (fun z => some (Sum.inl z)) ?_
          first
            | (exfalso; omega)
            | (unfold f_str
               refine congrArg (fun z => max 0 (min 999 z)) (f_pick_congr (k := 2) ?_ (f_lns_us qa5.2))
               intro j hj
               have hj2 : j = 3 ∨ j = 5 ∨ j = 6 ∨ j = 9 ∨ j = 10 ∨ j = 11 ∨ j = 12 ∨ j = 13 := by unfold f_al at hj; omega
               rcases hj2 with rfl | rfl | rfl | rfl | rfl | rfl | rfl | rfl <;> simp [f_up, f_Fs, h16])
        · intro x0 i0 hai
          exact ((frM_153 x0 i0 (by omega)).trans (ax_up_miss (by omega) (ax_up_miss (by omega) (ax_up_miss (by omega) (ax_up_miss (by omega) (ax_up_miss (by omega) (ax_up_miss (by omega) (ax_up_miss (by omega) (ax_up_miss (by omega) rfl)))))))))
      · refine ax_iconst dX12_strength_61 (by decide) (pc' := 62) rfl ?_
        refine ax_goto dX12_strength_62 (pc' := 75) (by decide) ?_
        refine ax_iast dX12_strength_75 sh_341 rfl (by omega) (by omega) (pc' := 76) rfl ?_
        refine ax_aload_n dX12_strength_76 rfl rfl (pc' := 77) rfl ?_
        refine ax_getr (v := 341) dX12_strength_77 flX12_40 rfl sh_330 rfl (pc' := 80) rfl ?_
        refine ax_bipush dX12_strength_80 (by decide) (pc' := 82) rfl ?_
        refine ax_aload_n dX12_strength_82 rfl rfl (pc' := 83) rfl ?_
        refine ax_getr (v := 331) dX12_strength_83 flX12_7 rfl sh_330 rfl (pc' := 86) rfl ?_
        refine ax_iconst dX12_strength_86 (by decide) (pc' := 87) rfl ?_
        refine ax_iald (v := w 0) dX12_strength_87 sh_331 rfl (by omega) (by omega) ((congrFun (ax_up_rowmiss (by decide) (ax_up_rowmiss (by decide) (ax_up_rowmiss (by decide) hw))) 0).trans rfl) (pc' := 88) rfl ?_
        refine ax_aload_n dX12_strength_88 rfl rfl (pc' := 89) rfl ?_
        refine ax_iload_n dX12_strength_89 rfl rfl (pc' := 90) rfl ?_
        refine ax_iconst dX12_strength_90 (by decide) (pc' := 91) rfl ?_
        refine ax_invG [.inl r, .inl 3] [.inl (w 0), .inl 11, .inr 341] dX12_strength_91 mlX12_78 sh_330 rfl rfl rfl (Nat.le_of_ble_eq_true rfl) (s_X12_ofRope E l _ (by omega) _ r 3 (ax_up_rowmiss (by decide) (ax_up_rowmiss (by decide) (ax_up_rowmiss (by decide) hw))) (by first | omega | assumption) (by first | omega | assumption)) (pc' := 94) rfl (fun vv M_91 hq co91 hcm91 => ?_)
        obtain ⟨rfl, rfl⟩ := hq
        refine ax_reS (st2 := [.inl (f_R w r 3), .inl (w 0), .inl 11, .inr 341]) rfl ?_
        have cc91 : -2147483648 ≤ f_R w r 3 ∧ f_R w r 3 < 2147483648 := co91 _ rfl
        refine ax_isubw dX12_strength_94 (pc' := 95) rfl ?_
        refine ax_sipush dX12_strength_95 (by decide) (pc' := 98) rfl ?_
        refine ax_idivw dX12_strength_98 (by omega) (pc' := 99) rfl ?_
        refine ax_iast dX12_strength_99 sh_341 rfl (by omega) (by omega) (pc' := 100) rfl ?_
        refine ax_aload_n dX12_strength_100 rfl rfl (pc' := 101) rfl ?_
        refine ax_getr (v := 341) dX12_strength_101 flX12_40 rfl sh_330 rfl (pc' := 104) rfl ?_
        refine ax_iconst dX12_strength_104 (by decide) (pc' := 105) rfl ?_
        refine ax_iload_n dX12_strength_105 rfl rfl (pc' := 106) rfl ?_
        refine ax_iast dX12_strength_106 sh_341 rfl (by omega) (by omega) (pc' := 107) rfl ?_
        refine ax_aload_n dX12_strength_107 rfl rfl (pc' := 108) rfl ?_
        refine ax_getr (v := 341) dX12_strength_108 flX12_40 rfl sh_330 rfl (pc' := 111) rfl ?_
        refine ax_bipush dX12_strength_111 (by decide) (pc' := 113) rfl ?_
        refine ax_aload_n dX12_strength_113 rfl rfl (pc' := 114) rfl ?_
        refine ax_iload_n dX12_strength_114 rfl rfl (pc' := 115) rfl ?_
        refine ax_iconst dX12_strength_115 (by decide) (pc' := 116) rfl ?_
        refine ax_invG [.inl r, .inl 1] [.inl 12, .inr 341] dX12_strength_116 mlX12_78 sh_330 rfl rfl rfl (Nat.le_of_ble_eq_true rfl) (s_X12_ofRope E l _ (by omega) _ r 1 (ax_up_rowmiss (by decide) (ax_up_rowmiss (by decide) (ax_up_rowmiss (by decide) (ax_up_rowmiss (by decide) (ax_up_rowmiss (by decide) hw))))) (by first | omega | assumption) (by first | omega | assumption)) (pc' := 119) rfl (fun vv M_116 hq co116 hcm116 => ?_)
        obtain ⟨rfl, rfl⟩ := hq
        refine ax_reS (st2 := [.inl (f_R w r 1), .inl 12, .inr 341]) rfl ?_
        have cc116 : -2147483648 ≤ f_R w r 1 ∧ f_R w r 1 < 2147483648 := co116 _ rfl
        refine ax_iast dX12_strength_119 sh_341 rfl (by omega) (by omega) (pc' := 120) rfl ?_
        refine ax_aload_n dX12_strength_120 rfl rfl (pc' := 121) rfl ?_
        refine ax_getr (v := 341) dX12_strength_121 flX12_40 rfl sh_330 rfl (pc' := 124) rfl ?_
        refine ax_bipush dX12_strength_124 (by decide) (pc' := 126) rfl ?_
        refine ax_aload_n dX12_strength_126 rfl rfl (pc' := 127) rfl ?_
        refine ax_iload_n dX12_strength_127 rfl rfl (pc' := 128) rfl ?_
        refine ax_iconst dX12_strength_128 (by decide) (pc' := 129) rfl ?_
        refine ax_invG [.inl r, .inl 4] [.inl 6, .inr 341] dX12_strength_129 mlX12_78 sh_330 rfl rfl rfl (Nat.le_of_ble_eq_true rfl) (s_X12_ofRope E l _ (by omega) _ r 4 (ax_up_rowmiss (by decide) (ax_up_rowmiss (by decide) (ax_up_rowmiss (by decide) (ax_up_rowmiss (by decide) (ax_up_rowmiss (by decide) (ax_up_rowmiss (by decide) hw)))))) (by first | omega | assumption) (by first | omega | assumption)) (pc' := 132) rfl (fun vv M_129 hq co129 hcm129 => ?_)
        obtain ⟨rfl, rfl⟩ := hq
        refine ax_reS (st2 := [.inl (f_R w r 4), .inl 6, .inr 341]) rfl ?_
        have cc129 : -2147483648 ≤ f_R w r 4 ∧ f_R w r 4 < 2147483648 := co129 _ rfl
        refine ax_iast dX12_strength_132 sh_341 rfl (by omega) (by omega) (pc' := 133) rfl ?_
        refine ax_aload_n dX12_strength_133 rfl rfl (pc' := 134) rfl ?_
        refine ax_getr (v := 341) dX12_strength_134 flX12_40 rfl sh_330 rfl (pc' := 137) rfl ?_
        refine ax_bipush dX12_strength_137 (by decide) (pc' := 139) rfl ?_
        refine ax_aload_n dX12_strength_139 rfl rfl (pc' := 140) rfl ?_
        refine ax_iload_n dX12_strength_140 rfl rfl (pc' := 141) rfl ?_
        refine ax_iload_n dX12_strength_141 rfl rfl (pc' := 142) rfl ?_
        refine ax_invG [.inl r, .inl p] [.inl 13, .inr 341] dX12_strength_142 mlX12_361 sh_330 rfl rfl rfl (Nat.le_of_ble_eq_true rfl) (s_X12_habitsAt E l _ (by omega) _ r p (ax_up_rowmiss (by decide) (ax_up_rowmiss (by decide) (ax_up_rowmiss (by decide) (ax_up_rowmiss (by decide) (ax_up_rowmiss (by decide) (ax_up_rowmiss (by decide) (ax_up_rowmiss (by decide) hw))))))) (by first | omega | assumption) (by first | omega | assumption) (by first | omega | assumption)) (pc' := 145) rfl (fun vv M_142 hq co142 hcm142 => ?_)
        obtain ⟨rfl, rfl⟩ := hq
        refine ax_reS (st2 := [.inl (f_habs w r p), .inl 13, .inr 341]) rfl ?_
        have cc142 : -2147483648 ≤ f_habs w r p ∧ f_habs w r p < 2147483648 := co142 _ rfl
        refine ax_iast dX12_strength_145 sh_341 rfl (by omega) (by omega) (pc' := 146) rfl ?_
        refine ax_aload_n dX12_strength_146 rfl rfl (pc' := 147) rfl ?_
        refine ax_iconst dX12_strength_147 (by decide) (pc' := 148) rfl ?_
        refine ax_bipush dX12_strength_148 (by decide) (pc' := 150) rfl ?_
        refine ax_sipush dX12_strength_150 (by decide) (pc' := 153) rfl ?_
        refine ax_invG [.inl 2, .inl 90, .inl 999] [] dX12_strength_153 mlX12_351 sh_330 rfl rfl rfl (Nat.le_of_ble_eq_true rfl) (s_X12_lawSays E l _ (by omega) _ 2 90 999 (Ls 2) (ax_up_rowmiss (by decide) (ax_up_rowmiss (by decide) (ax_up_rowmiss (by decide) (ax_up_rowmiss (by decide) (ax_up_rowmiss (by decide) (ax_up_rowmiss (by decide) (ax_up_rowmiss (by decide) (ax_up_rowmiss (by decide) hw)))))))) (ax_up_rowmiss (by decide) (ax_up_rowmiss (by decide) (ax_up_rowmiss (by decide) (ax_up_rowmiss (by decide) (ax_up_rowmiss (by decide) (ax_up_rowmiss (by decide) (ax_up_rowmiss (by decide) (ax_up_rowmiss (by decide) hpl)))))))) (ax_up_rowhit (ax_up_rowhit (ax_up_rowhit (ax_up_rowhit (ax_up_rowhit (ax_up_rowhit (ax_up_rowhit (ax_up_rowhit hF)))))))) (by omega) qa5.1 qa5.2) (pc' := 156) rfl (fun vv M_153 hq co153 hcm153 => ?_)
        obtain ⟨rfl, frM_153⟩ := hq
        refine ax_reS (st2 := [.inl (max 0 (min 999 (f_pick (f_up (f_up (f_up (f_up (f_up (f_up (f_up (f_up F 9 1) 5 0) 10 0) 11 (ax_div (ax_wr ((w 0) - (f_R w r 3))) 365)) 3 p) 12 (f_R w r 1)) 6 (f_R w r 4)) 13 (f_habs w r p)) (Ls 2) 90)))]) rfl ?_
        have cc153 : -2147483648 ≤ max 0 (min 999 (f_pick (f_up (f_up (f_up (f_up (f_up (f_up (f_up (f_up F 9 1) 5 0) 10 0) 11 (ax_div (ax_wr ((w 0) - (f_R w r 3))) 365)) 3 p) 12 (f_R w r 1)) 6 (f_R w r 4)) 13 (f_habs w r p)) (Ls 2) 90)) ∧ max 0 (min 999 (f_pick (f_up (f_up (f_up (f_up (f_up (f_up (f_up (f_up F 9 1) 5 0) 10 0) 11 (ax_div (ax_wr ((w 0) - (f_R w r 3))) 365)) 3 p) 12 (f_R w r 1)) 6 (f_R w r 4)) 13 (f_habs w r p)) (Ls 2) 90)) < 2147483648 := co153 _ rfl
        refine ax_iret dX12_strength_156 rfl ?_
        refine ⟨rfl, ?_, ?_⟩
        · refine congrArg (fun z => some (Sum.inl z)) ?_
          first
            | (exfalso; omega)
            | (unfold f_str
               refine congrArg (fun z => max 0 (min 999 z)) (f_pick_congr (k := 2) ?_ (f_lns_us qa5.2))
               intro j hj
               have hj2 : j = 3 ∨ j = 5 ∨ j = 6 ∨ j = 9 ∨ j = 10 ∨ j = 11 ∨ j = 12 ∨ j = 13 := by unfold f_al at hj; omega
               rcases hj2 with rfl | rfl | rfl | rfl | rfl | rfl | rfl | rfl <;> simp [f_up, f_Fs, h16])
        · intro x0 i0 hai
          exact ((frM_153 x0 i0 (by omega)).trans (ax_up_miss (by omega) (ax_up_miss (by omega) (ax_up_miss (by omega) (ax_up_miss (by omega) (ax_up_miss (by omega) (ax_up_miss (by omega) (ax_up_miss (by omega) (ax_up_miss (by omega) rfl)))))))))
  · refine ax_iconst dX12_strength_19 (by decide) (pc' := 20) rfl ?_
    refine ax_goto dX12_strength_20 (pc' := 24) (by decide) ?_
    refine ax_iast dX12_strength_24 sh_341 rfl (by omega) (by omega) (pc' := 25) rfl ?_
    refine ax_aload_n dX12_strength_25 rfl rfl (pc' := 26) rfl ?_
    refine ax_getr (v := 341) dX12_strength_26 flX12_40 rfl sh_330 rfl (pc' := 29) rfl ?_
    refine ax_iconst dX12_strength_29 (by decide) (pc' := 30) rfl ?_
    refine ax_iload_n dX12_strength_30 rfl rfl (pc' := 31) rfl ?_
    refine ax_iconst dX12_strength_31 (by decide) (pc' := 32) rfl ?_
    refine ax_icmp_ne (tgt := 39) dX12_strength_32 (by decide) (pc' := 35) rfl (fun h32 => ?_) (fun h32 => ?_)
    · refine ax_aload_n dX12_strength_39 rfl rfl (pc' := 40) rfl ?_
      refine ax_getr (v := 331) dX12_strength_40 flX12_7 rfl sh_330 rfl (pc' := 43) rfl ?_
      refine ax_sipush dX12_strength_43 (by decide) (pc' := 46) rfl ?_
      refine ax_iload_n dX12_strength_46 rfl rfl (pc' := 47) rfl ?_
      refine ax_iadd dX12_strength_47 (by omega) (pc' := 48) rfl ?_
      refine ax_iald (v := w (2564 + (f_P w r p 0))) dX12_strength_48 sh_331 rfl (by omega) (by omega) ((congrFun (ax_up_rowmiss (by decide) hw) (2564 + (f_P w r p 0))).trans rfl) (pc' := 49) rfl ?_
      refine ax_iast dX12_strength_49 sh_341 rfl (by omega) (by omega) (pc' := 50) rfl ?_
      refine ax_aload_n dX12_strength_50 rfl rfl (pc' := 51) rfl ?_
      refine ax_getr (v := 341) dX12_strength_51 flX12_40 rfl sh_330 rfl (pc' := 54) rfl ?_
      refine ax_bipush dX12_strength_54 (by decide) (pc' := 56) rfl ?_
      refine ax_iload_n dX12_strength_56 rfl rfl (pc' := 57) rfl ?_
      refine ax_iconst dX12_strength_57 (by decide) (pc' := 58) rfl ?_
      refine ax_icmp_ne (tgt := 65) dX12_strength_58 (by decide) (pc' := 61) rfl (fun h58 => ?_) (fun h58 => ?_)
      · refine ax_aload_n dX12_strength_65 rfl rfl (pc' := 66) rfl ?_
        refine ax_getr (v := 331) dX12_strength_66 flX12_7 rfl sh_330 rfl (pc' := 69) rfl ?_
        refine ax_sipush dX12_strength_69 (by decide) (pc' := 72) rfl ?_
        refine ax_iload_n dX12_strength_72 rfl rfl (pc' := 73) rfl ?_
        refine ax_iadd dX12_strength_73 (by omega) (pc' := 74) rfl ?_
        refine ax_iald (v := w (2570 + (f_P w r p 0))) dX12_strength_74 sh_331 rfl (by omega) (by omega) ((congrFun (ax_up_rowmiss (by decide) (ax_up_rowmiss (by decide) hw)) (2570 + (f_P w r p 0))).trans rfl) (pc' := 75) rfl ?_
        refine ax_iast dX12_strength_75 sh_341 rfl (by omega) (by omega) (pc' := 76) rfl ?_
        refine ax_aload_n dX12_strength_76 rfl rfl (pc' := 77) rfl ?_
        refine ax_getr (v := 341) dX12_strength_77 flX12_40 rfl sh_330 rfl (pc' := 80) rfl ?_
        refine ax_bipush dX12_strength_80 (by decide) (pc' := 82) rfl ?_
        refine ax_aload_n dX12_strength_82 rfl rfl (pc' := 83) rfl ?_
        refine ax_getr (v := 331) dX12_strength_83 flX12_7 rfl sh_330 rfl (pc' := 86) rfl ?_
        refine ax_iconst dX12_strength_86 (by decide) (pc' := 87) rfl ?_
        refine ax_iald (v := w 0) dX12_strength_87 sh_331 rfl (by omega) (by omega) ((congrFun (ax_up_rowmiss (by decide) (ax_up_rowmiss (by decide) (ax_up_rowmiss (by decide) hw))) 0).trans rfl) (pc' := 88) rfl ?_
        refine ax_aload_n dX12_strength_88 rfl rfl (pc' := 89) rfl ?_
        refine ax_iload_n dX12_strength_89 rfl rfl (pc' := 90) rfl ?_
        refine ax_iconst dX12_strength_90 (by decide) (pc' := 91) rfl ?_
        refine ax_invG [.inl r, .inl 3] [.inl (w 0), .inl 11, .inr 341] dX12_strength_91 mlX12_78 sh_330 rfl rfl rfl (Nat.le_of_ble_eq_true rfl) (s_X12_ofRope E l _ (by omega) _ r 3 (ax_up_rowmiss (by decide) (ax_up_rowmiss (by decide) (ax_up_rowmiss (by decide) hw))) (by first | omega | assumption) (by first | omega | assumption)) (pc' := 94) rfl (fun vv M_91 hq co91 hcm91 => ?_)
        obtain ⟨rfl, rfl⟩ := hq
        refine ax_reS (st2 := [.inl (f_R w r 3), .inl (w 0), .inl 11, .inr 341]) rfl ?_
        have cc91 : -2147483648 ≤ f_R w r 3 ∧ f_R w r 3 < 2147483648 := co91 _ rfl
        refine ax_isubw dX12_strength_94 (pc' := 95) rfl ?_
        refine ax_sipush dX12_strength_95 (by decide) (pc' := 98) rfl ?_
        refine ax_idivw dX12_strength_98 (by omega) (pc' := 99) rfl ?_
        refine ax_iast dX12_strength_99 sh_341 rfl (by omega) (by omega) (pc' := 100) rfl ?_
        refine ax_aload_n dX12_strength_100 rfl rfl (pc' := 101) rfl ?_
        refine ax_getr (v := 341) dX12_strength_101 flX12_40 rfl sh_330 rfl (pc' := 104) rfl ?_
        refine ax_iconst dX12_strength_104 (by decide) (pc' := 105) rfl ?_
        refine ax_iload_n dX12_strength_105 rfl rfl (pc' := 106) rfl ?_
        refine ax_iast dX12_strength_106 sh_341 rfl (by omega) (by omega) (pc' := 107) rfl ?_
        refine ax_aload_n dX12_strength_107 rfl rfl (pc' := 108) rfl ?_
        refine ax_getr (v := 341) dX12_strength_108 flX12_40 rfl sh_330 rfl (pc' := 111) rfl ?_
        refine ax_bipush dX12_strength_111 (by decide) (pc' := 113) rfl ?_
        refine ax_aload_n dX12_strength_113 rfl rfl (pc' := 114) rfl ?_
        refine ax_iload_n dX12_strength_114 rfl rfl (pc' := 115) rfl ?_
        refine ax_iconst dX12_strength_115 (by decide) (pc' := 116) rfl ?_
        refine ax_invG [.inl r, .inl 1] [.inl 12, .inr 341] dX12_strength_116 mlX12_78 sh_330 rfl rfl rfl (Nat.le_of_ble_eq_true rfl) (s_X12_ofRope E l _ (by omega) _ r 1 (ax_up_rowmiss (by decide) (ax_up_rowmiss (by decide) (ax_up_rowmiss (by decide) (ax_up_rowmiss (by decide) (ax_up_rowmiss (by decide) hw))))) (by first | omega | assumption) (by first | omega | assumption)) (pc' := 119) rfl (fun vv M_116 hq co116 hcm116 => ?_)
        obtain ⟨rfl, rfl⟩ := hq
        refine ax_reS (st2 := [.inl (f_R w r 1), .inl 12, .inr 341]) rfl ?_
        have cc116 : -2147483648 ≤ f_R w r 1 ∧ f_R w r 1 < 2147483648 := co116 _ rfl
        refine ax_iast dX12_strength_119 sh_341 rfl (by omega) (by omega) (pc' := 120) rfl ?_
        refine ax_aload_n dX12_strength_120 rfl rfl (pc' := 121) rfl ?_
        refine ax_getr (v := 341) dX12_strength_121 flX12_40 rfl sh_330 rfl (pc' := 124) rfl ?_
        refine ax_bipush dX12_strength_124 (by decide) (pc' := 126) rfl ?_
        refine ax_aload_n dX12_strength_126 rfl rfl (pc' := 127) rfl ?_
        refine ax_iload_n dX12_strength_127 rfl rfl (pc' := 128) rfl ?_
        refine ax_iconst dX12_strength_128 (by decide) (pc' := 129) rfl ?_
        refine ax_invG [.inl r, .inl 4] [.inl 6, .inr 341] dX12_strength_129 mlX12_78 sh_330 rfl rfl rfl (Nat.le_of_ble_eq_true rfl) (s_X12_ofRope E l _ (by omega) _ r 4 (ax_up_rowmiss (by decide) (ax_up_rowmiss (by decide) (ax_up_rowmiss (by decide) (ax_up_rowmiss (by decide) (ax_up_rowmiss (by decide) (ax_up_rowmiss (by decide) hw)))))) (by first | omega | assumption) (by first | omega | assumption)) (pc' := 132) rfl (fun vv M_129 hq co129 hcm129 => ?_)
        obtain ⟨rfl, rfl⟩ := hq
        refine ax_reS (st2 := [.inl (f_R w r 4), .inl 6, .inr 341]) rfl ?_
        have cc129 : -2147483648 ≤ f_R w r 4 ∧ f_R w r 4 < 2147483648 := co129 _ rfl
        refine ax_iast dX12_strength_132 sh_341 rfl (by omega) (by omega) (pc' := 133) rfl ?_
        refine ax_aload_n dX12_strength_133 rfl rfl (pc' := 134) rfl ?_
        refine ax_getr (v := 341) dX12_strength_134 flX12_40 rfl sh_330 rfl (pc' := 137) rfl ?_
        refine ax_bipush dX12_strength_137 (by decide) (pc' := 139) rfl ?_
        refine ax_aload_n dX12_strength_139 rfl rfl (pc' := 140) rfl ?_
        refine ax_iload_n dX12_strength_140 rfl rfl (pc' := 141) rfl ?_
        refine ax_iload_n dX12_strength_141 rfl rfl (pc' := 142) rfl ?_
        refine ax_invG [.inl r, .inl p] [.inl 13, .inr 341] dX12_strength_142 mlX12_361 sh_330 rfl rfl rfl (Nat.le_of_ble_eq_true rfl) (s_X12_habitsAt E l _ (by omega) _ r p (ax_up_rowmiss (by decide) (ax_up_rowmiss (by decide) (ax_up_rowmiss (by decide) (ax_up_rowmiss (by decide) (ax_up_rowmiss (by decide) (ax_up_rowmiss (by decide) (ax_up_rowmiss (by decide) hw))))))) (by first | omega | assumption) (by first | omega | assumption) (by first | omega | assumption)) (pc' := 145) rfl (fun vv M_142 hq co142 hcm142 => ?_)
        obtain ⟨rfl, rfl⟩ := hq
        refine ax_reS (st2 := [.inl (f_habs w r p), .inl 13, .inr 341]) rfl ?_
        have cc142 : -2147483648 ≤ f_habs w r p ∧ f_habs w r p < 2147483648 := co142 _ rfl
        refine ax_iast dX12_strength_145 sh_341 rfl (by omega) (by omega) (pc' := 146) rfl ?_
        refine ax_aload_n dX12_strength_146 rfl rfl (pc' := 147) rfl ?_
        refine ax_iconst dX12_strength_147 (by decide) (pc' := 148) rfl ?_
        refine ax_bipush dX12_strength_148 (by decide) (pc' := 150) rfl ?_
        refine ax_sipush dX12_strength_150 (by decide) (pc' := 153) rfl ?_
        refine ax_invG [.inl 2, .inl 90, .inl 999] [] dX12_strength_153 mlX12_351 sh_330 rfl rfl rfl (Nat.le_of_ble_eq_true rfl) (s_X12_lawSays E l _ (by omega) _ 2 90 999 (Ls 2) (ax_up_rowmiss (by decide) (ax_up_rowmiss (by decide) (ax_up_rowmiss (by decide) (ax_up_rowmiss (by decide) (ax_up_rowmiss (by decide) (ax_up_rowmiss (by decide) (ax_up_rowmiss (by decide) (ax_up_rowmiss (by decide) hw)))))))) (ax_up_rowmiss (by decide) (ax_up_rowmiss (by decide) (ax_up_rowmiss (by decide) (ax_up_rowmiss (by decide) (ax_up_rowmiss (by decide) (ax_up_rowmiss (by decide) (ax_up_rowmiss (by decide) (ax_up_rowmiss (by decide) hpl)))))))) (ax_up_rowhit (ax_up_rowhit (ax_up_rowhit (ax_up_rowhit (ax_up_rowhit (ax_up_rowhit (ax_up_rowhit (ax_up_rowhit hF)))))))) (by omega) qa5.1 qa5.2) (pc' := 156) rfl (fun vv M_153 hq co153 hcm153 => ?_)
        obtain ⟨rfl, frM_153⟩ := hq
        refine ax_reS (st2 := [.inl (max 0 (min 999 (f_pick (f_up (f_up (f_up (f_up (f_up (f_up (f_up (f_up F 9 0) 5 (w (2564 + (f_P w r p 0)))) 10 (w (2570 + (f_P w r p 0)))) 11 (ax_div (ax_wr ((w 0) - (f_R w r 3))) 365)) 3 p) 12 (f_R w r 1)) 6 (f_R w r 4)) 13 (f_habs w r p)) (Ls 2) 90)))]) rfl ?_
        have cc153 : -2147483648 ≤ max 0 (min 999 (f_pick (f_up (f_up (f_up (f_up (f_up (f_up (f_up (f_up F 9 0) 5 (w (2564 + (f_P w r p 0)))) 10 (w (2570 + (f_P w r p 0)))) 11 (ax_div (ax_wr ((w 0) - (f_R w r 3))) 365)) 3 p) 12 (f_R w r 1)) 6 (f_R w r 4)) 13 (f_habs w r p)) (Ls 2) 90)) ∧ max 0 (min 999 (f_pick (f_up (f_up (f_up (f_up (f_up (f_up (f_up (f_up F 9 0) 5 (w (2564 + (f_P w r p 0)))) 10 (w (2570 + (f_P w r p 0)))) 11 (ax_div (ax_wr ((w 0) - (f_R w r 3))) 365)) 3 p) 12 (f_R w r 1)) 6 (f_R w r 4)) 13 (f_habs w r p)) (Ls 2) 90)) < 2147483648 := co153 _ rfl
        refine ax_iret dX12_strength_156 rfl ?_
        refine ⟨rfl, ?_, ?_⟩
        · refine congrArg (fun z => some (Sum.inl z)) ?_
          first
            | (exfalso; omega)
            | (unfold f_str
               refine congrArg (fun z => max 0 (min 999 z)) (f_pick_congr (k := 2) ?_ (f_lns_us qa5.2))
               intro j hj
               have hj2 : j = 3 ∨ j = 5 ∨ j = 6 ∨ j = 9 ∨ j = 10 ∨ j = 11 ∨ j = 12 ∨ j = 13 := by unfold f_al at hj; omega
               rcases hj2 with rfl | rfl | rfl | rfl | rfl | rfl | rfl | rfl <;> simp [f_up, f_Fs, h16])
        · intro x0 i0 hai
          exact ((frM_153 x0 i0 (by omega)).trans (ax_up_miss (by omega) (ax_up_miss (by omega) (ax_up_miss (by omega) (ax_up_miss (by omega) (ax_up_miss (by omega) (ax_up_miss (by omega) (ax_up_miss (by omega) (ax_up_miss (by omega) rfl)))))))))
      · refine ax_iconst dX12_strength_61 (by decide) (pc' := 62) rfl ?_
        refine ax_goto dX12_strength_62 (pc' := 75) (by decide) ?_
        refine ax_iast dX12_strength_75 sh_341 rfl (by omega) (by omega) (pc' := 76) rfl ?_
        refine ax_aload_n dX12_strength_76 rfl rfl (pc' := 77) rfl ?_
        refine ax_getr (v := 341) dX12_strength_77 flX12_40 rfl sh_330 rfl (pc' := 80) rfl ?_
        refine ax_bipush dX12_strength_80 (by decide) (pc' := 82) rfl ?_
        refine ax_aload_n dX12_strength_82 rfl rfl (pc' := 83) rfl ?_
        refine ax_getr (v := 331) dX12_strength_83 flX12_7 rfl sh_330 rfl (pc' := 86) rfl ?_
        refine ax_iconst dX12_strength_86 (by decide) (pc' := 87) rfl ?_
        refine ax_iald (v := w 0) dX12_strength_87 sh_331 rfl (by omega) (by omega) ((congrFun (ax_up_rowmiss (by decide) (ax_up_rowmiss (by decide) (ax_up_rowmiss (by decide) hw))) 0).trans rfl) (pc' := 88) rfl ?_
        refine ax_aload_n dX12_strength_88 rfl rfl (pc' := 89) rfl ?_
        refine ax_iload_n dX12_strength_89 rfl rfl (pc' := 90) rfl ?_
        refine ax_iconst dX12_strength_90 (by decide) (pc' := 91) rfl ?_
        refine ax_invG [.inl r, .inl 3] [.inl (w 0), .inl 11, .inr 341] dX12_strength_91 mlX12_78 sh_330 rfl rfl rfl (Nat.le_of_ble_eq_true rfl) (s_X12_ofRope E l _ (by omega) _ r 3 (ax_up_rowmiss (by decide) (ax_up_rowmiss (by decide) (ax_up_rowmiss (by decide) hw))) (by first | omega | assumption) (by first | omega | assumption)) (pc' := 94) rfl (fun vv M_91 hq co91 hcm91 => ?_)
        obtain ⟨rfl, rfl⟩ := hq
        refine ax_reS (st2 := [.inl (f_R w r 3), .inl (w 0), .inl 11, .inr 341]) rfl ?_
        have cc91 : -2147483648 ≤ f_R w r 3 ∧ f_R w r 3 < 2147483648 := co91 _ rfl
        refine ax_isubw dX12_strength_94 (pc' := 95) rfl ?_
        refine ax_sipush dX12_strength_95 (by decide) (pc' := 98) rfl ?_
        refine ax_idivw dX12_strength_98 (by omega) (pc' := 99) rfl ?_
        refine ax_iast dX12_strength_99 sh_341 rfl (by omega) (by omega) (pc' := 100) rfl ?_
        refine ax_aload_n dX12_strength_100 rfl rfl (pc' := 101) rfl ?_
        refine ax_getr (v := 341) dX12_strength_101 flX12_40 rfl sh_330 rfl (pc' := 104) rfl ?_
        refine ax_iconst dX12_strength_104 (by decide) (pc' := 105) rfl ?_
        refine ax_iload_n dX12_strength_105 rfl rfl (pc' := 106) rfl ?_
        refine ax_iast dX12_strength_106 sh_341 rfl (by omega) (by omega) (pc' := 107) rfl ?_
        refine ax_aload_n dX12_strength_107 rfl rfl (pc' := 108) rfl ?_
        refine ax_getr (v := 341) dX12_strength_108 flX12_40 rfl sh_330 rfl (pc' := 111) rfl ?_
        refine ax_bipush dX12_strength_111 (by decide) (pc' := 113) rfl ?_
        refine ax_aload_n dX12_strength_113 rfl rfl (pc' := 114) rfl ?_
        refine ax_iload_n dX12_strength_114 rfl rfl (pc' := 115) rfl ?_
        refine ax_iconst dX12_strength_115 (by decide) (pc' := 116) rfl ?_
        refine ax_invG [.inl r, .inl 1] [.inl 12, .inr 341] dX12_strength_116 mlX12_78 sh_330 rfl rfl rfl (Nat.le_of_ble_eq_true rfl) (s_X12_ofRope E l _ (by omega) _ r 1 (ax_up_rowmiss (by decide) (ax_up_rowmiss (by decide) (ax_up_rowmiss (by decide) (ax_up_rowmiss (by decide) (ax_up_rowmiss (by decide) hw))))) (by first | omega | assumption) (by first | omega | assumption)) (pc' := 119) rfl (fun vv M_116 hq co116 hcm116 => ?_)
        obtain ⟨rfl, rfl⟩ := hq
        refine ax_reS (st2 := [.inl (f_R w r 1), .inl 12, .inr 341]) rfl ?_
        have cc116 : -2147483648 ≤ f_R w r 1 ∧ f_R w r 1 < 2147483648 := co116 _ rfl
        refine ax_iast dX12_strength_119 sh_341 rfl (by omega) (by omega) (pc' := 120) rfl ?_
        refine ax_aload_n dX12_strength_120 rfl rfl (pc' := 121) rfl ?_
        refine ax_getr (v := 341) dX12_strength_121 flX12_40 rfl sh_330 rfl (pc' := 124) rfl ?_
        refine ax_bipush dX12_strength_124 (by decide) (pc' := 126) rfl ?_
        refine ax_aload_n dX12_strength_126 rfl rfl (pc' := 127) rfl ?_
        refine ax_iload_n dX12_strength_127 rfl rfl (pc' := 128) rfl ?_
        refine ax_iconst dX12_strength_128 (by decide) (pc' := 129) rfl ?_
        refine ax_invG [.inl r, .inl 4] [.inl 6, .inr 341] dX12_strength_129 mlX12_78 sh_330 rfl rfl rfl (Nat.le_of_ble_eq_true rfl) (s_X12_ofRope E l _ (by omega) _ r 4 (ax_up_rowmiss (by decide) (ax_up_rowmiss (by decide) (ax_up_rowmiss (by decide) (ax_up_rowmiss (by decide) (ax_up_rowmiss (by decide) (ax_up_rowmiss (by decide) hw)))))) (by first | omega | assumption) (by first | omega | assumption)) (pc' := 132) rfl (fun vv M_129 hq co129 hcm129 => ?_)
        obtain ⟨rfl, rfl⟩ := hq
        refine ax_reS (st2 := [.inl (f_R w r 4), .inl 6, .inr 341]) rfl ?_
        have cc129 : -2147483648 ≤ f_R w r 4 ∧ f_R w r 4 < 2147483648 := co129 _ rfl
        refine ax_iast dX12_strength_132 sh_341 rfl (by omega) (by omega) (pc' := 133) rfl ?_
        refine ax_aload_n dX12_strength_133 rfl rfl (pc' := 134) rfl ?_
        refine ax_getr (v := 341) dX12_strength_134 flX12_40 rfl sh_330 rfl (pc' := 137) rfl ?_
        refine ax_bipush dX12_strength_137 (by decide) (pc' := 139) rfl ?_
        refine ax_aload_n dX12_strength_139 rfl rfl (pc' := 140) rfl ?_
        refine ax_iload_n dX12_strength_140 rfl rfl (pc' := 141) rfl ?_
        refine ax_iload_n dX12_strength_141 rfl rfl (pc' := 142) rfl ?_
        refine ax_invG [.inl r, .inl p] [.inl 13, .inr 341] dX12_strength_142 mlX12_361 sh_330 rfl rfl rfl (Nat.le_of_ble_eq_true rfl) (s_X12_habitsAt E l _ (by omega) _ r p (ax_up_rowmiss (by decide) (ax_up_rowmiss (by decide) (ax_up_rowmiss (by decide) (ax_up_rowmiss (by decide) (ax_up_rowmiss (by decide) (ax_up_rowmiss (by decide) (ax_up_rowmiss (by decide) hw))))))) (by first | omega | assumption) (by first | omega | assumption) (by first | omega | assumption)) (pc' := 145) rfl (fun vv M_142 hq co142 hcm142 => ?_)
        obtain ⟨rfl, rfl⟩ := hq
        refine ax_reS (st2 := [.inl (f_habs w r p), .inl 13, .inr 341]) rfl ?_
        have cc142 : -2147483648 ≤ f_habs w r p ∧ f_habs w r p < 2147483648 := co142 _ rfl
        refine ax_iast dX12_strength_145 sh_341 rfl (by omega) (by omega) (pc' := 146) rfl ?_
        refine ax_aload_n dX12_strength_146 rfl rfl (pc' := 147) rfl ?_
        refine ax_iconst dX12_strength_147 (by decide) (pc' := 148) rfl ?_
        refine ax_bipush dX12_strength_148 (by decide) (pc' := 150) rfl ?_
        refine ax_sipush dX12_strength_150 (by decide) (pc' := 153) rfl ?_
        refine ax_invG [.inl 2, .inl 90, .inl 999] [] dX12_strength_153 mlX12_351 sh_330 rfl rfl rfl (Nat.le_of_ble_eq_true rfl) (s_X12_lawSays E l _ (by omega) _ 2 90 999 (Ls 2) (ax_up_rowmiss (by decide) (ax_up_rowmiss (by decide) (ax_up_rowmiss (by decide) (ax_up_rowmiss (by decide) (ax_up_rowmiss (by decide) (ax_up_rowmiss (by decide) (ax_up_rowmiss (by decide) (ax_up_rowmiss (by decide) hw)))))))) (ax_up_rowmiss (by decide) (ax_up_rowmiss (by decide) (ax_up_rowmiss (by decide) (ax_up_rowmiss (by decide) (ax_up_rowmiss (by decide) (ax_up_rowmiss (by decide) (ax_up_rowmiss (by decide) (ax_up_rowmiss (by decide) hpl)))))))) (ax_up_rowhit (ax_up_rowhit (ax_up_rowhit (ax_up_rowhit (ax_up_rowhit (ax_up_rowhit (ax_up_rowhit (ax_up_rowhit hF)))))))) (by omega) qa5.1 qa5.2) (pc' := 156) rfl (fun vv M_153 hq co153 hcm153 => ?_)
        obtain ⟨rfl, frM_153⟩ := hq
        refine ax_reS (st2 := [.inl (max 0 (min 999 (f_pick (f_up (f_up (f_up (f_up (f_up (f_up (f_up (f_up F 9 0) 5 (w (2564 + (f_P w r p 0)))) 10 0) 11 (ax_div (ax_wr ((w 0) - (f_R w r 3))) 365)) 3 p) 12 (f_R w r 1)) 6 (f_R w r 4)) 13 (f_habs w r p)) (Ls 2) 90)))]) rfl ?_
        have cc153 : -2147483648 ≤ max 0 (min 999 (f_pick (f_up (f_up (f_up (f_up (f_up (f_up (f_up (f_up F 9 0) 5 (w (2564 + (f_P w r p 0)))) 10 0) 11 (ax_div (ax_wr ((w 0) - (f_R w r 3))) 365)) 3 p) 12 (f_R w r 1)) 6 (f_R w r 4)) 13 (f_habs w r p)) (Ls 2) 90)) ∧ max 0 (min 999 (f_pick (f_up (f_up (f_up (f_up (f_up (f_up (f_up (f_up F 9 0) 5 (w (2564 + (f_P w r p 0)))) 10 0) 11 (ax_div (ax_wr ((w 0) - (f_R w r 3))) 365)) 3 p) 12 (f_R w r 1)) 6 (f_R w r 4)) 13 (f_habs w r p)) (Ls 2) 90)) < 2147483648 := co153 _ rfl
        refine ax_iret dX12_strength_156 rfl ?_
        refine ⟨rfl, ?_, ?_⟩
        · refine congrArg (fun z => some (Sum.inl z)) ?_
          first
            | (exfalso; omega)
            | (unfold f_str
               refine congrArg (fun z => max 0 (min 999 z)) (f_pick_congr (k := 2) ?_ (f_lns_us qa5.2))
               intro j hj
               have hj2 : j = 3 ∨ j = 5 ∨ j = 6 ∨ j = 9 ∨ j = 10 ∨ j = 11 ∨ j = 12 ∨ j = 13 := by unfold f_al at hj; omega
               rcases hj2 with rfl | rfl | rfl | rfl | rfl | rfl | rfl | rfl <;> simp [f_up, f_Fs, h16])
        · intro x0 i0 hai
          exact ((frM_153 x0 i0 (by omega)).trans (ax_up_miss (by omega) (ax_up_miss (by omega) (ax_up_miss (by omega) (ax_up_miss (by omega) (ax_up_miss (by omega) (ax_up_miss (by omega) (ax_up_miss (by omega) (ax_up_miss (by omega) rfl)))))))))
    · refine ax_iconst dX12_strength_35 (by decide) (pc' := 36) rfl ?_
      refine ax_goto dX12_strength_36 (pc' := 49) (by decide) ?_
      refine ax_iast dX12_strength_49 sh_341 rfl (by omega) (by omega) (pc' := 50) rfl ?_
      refine ax_aload_n dX12_strength_50 rfl rfl (pc' := 51) rfl ?_
      refine ax_getr (v := 341) dX12_strength_51 flX12_40 rfl sh_330 rfl (pc' := 54) rfl ?_
      refine ax_bipush dX12_strength_54 (by decide) (pc' := 56) rfl ?_
      refine ax_iload_n dX12_strength_56 rfl rfl (pc' := 57) rfl ?_
      refine ax_iconst dX12_strength_57 (by decide) (pc' := 58) rfl ?_
      refine ax_icmp_ne (tgt := 65) dX12_strength_58 (by decide) (pc' := 61) rfl (fun h58 => ?_) (fun h58 => ?_)
      · refine ax_aload_n dX12_strength_65 rfl rfl (pc' := 66) rfl ?_
        refine ax_getr (v := 331) dX12_strength_66 flX12_7 rfl sh_330 rfl (pc' := 69) rfl ?_
        refine ax_sipush dX12_strength_69 (by decide) (pc' := 72) rfl ?_
        refine ax_iload_n dX12_strength_72 rfl rfl (pc' := 73) rfl ?_
        refine ax_iadd dX12_strength_73 (by omega) (pc' := 74) rfl ?_
        refine ax_iald (v := w (2570 + (f_P w r p 0))) dX12_strength_74 sh_331 rfl (by omega) (by omega) ((congrFun (ax_up_rowmiss (by decide) (ax_up_rowmiss (by decide) hw)) (2570 + (f_P w r p 0))).trans rfl) (pc' := 75) rfl ?_
        refine ax_iast dX12_strength_75 sh_341 rfl (by omega) (by omega) (pc' := 76) rfl ?_
        refine ax_aload_n dX12_strength_76 rfl rfl (pc' := 77) rfl ?_
        refine ax_getr (v := 341) dX12_strength_77 flX12_40 rfl sh_330 rfl (pc' := 80) rfl ?_
        refine ax_bipush dX12_strength_80 (by decide) (pc' := 82) rfl ?_
        refine ax_aload_n dX12_strength_82 rfl rfl (pc' := 83) rfl ?_
        refine ax_getr (v := 331) dX12_strength_83 flX12_7 rfl sh_330 rfl (pc' := 86) rfl ?_
        refine ax_iconst dX12_strength_86 (by decide) (pc' := 87) rfl ?_
        refine ax_iald (v := w 0) dX12_strength_87 sh_331 rfl (by omega) (by omega) ((congrFun (ax_up_rowmiss (by decide) (ax_up_rowmiss (by decide) (ax_up_rowmiss (by decide) hw))) 0).trans rfl) (pc' := 88) rfl ?_
        refine ax_aload_n dX12_strength_88 rfl rfl (pc' := 89) rfl ?_
        refine ax_iload_n dX12_strength_89 rfl rfl (pc' := 90) rfl ?_
        refine ax_iconst dX12_strength_90 (by decide) (pc' := 91) rfl ?_
        refine ax_invG [.inl r, .inl 3] [.inl (w 0), .inl 11, .inr 341] dX12_strength_91 mlX12_78 sh_330 rfl rfl rfl (Nat.le_of_ble_eq_true rfl) (s_X12_ofRope E l _ (by omega) _ r 3 (ax_up_rowmiss (by decide) (ax_up_rowmiss (by decide) (ax_up_rowmiss (by decide) hw))) (by first | omega | assumption) (by first | omega | assumption)) (pc' := 94) rfl (fun vv M_91 hq co91 hcm91 => ?_)
        obtain ⟨rfl, rfl⟩ := hq
        refine ax_reS (st2 := [.inl (f_R w r 3), .inl (w 0), .inl 11, .inr 341]) rfl ?_
        have cc91 : -2147483648 ≤ f_R w r 3 ∧ f_R w r 3 < 2147483648 := co91 _ rfl
        refine ax_isubw dX12_strength_94 (pc' := 95) rfl ?_
        refine ax_sipush dX12_strength_95 (by decide) (pc' := 98) rfl ?_
        refine ax_idivw dX12_strength_98 (by omega) (pc' := 99) rfl ?_
        refine ax_iast dX12_strength_99 sh_341 rfl (by omega) (by omega) (pc' := 100) rfl ?_
        refine ax_aload_n dX12_strength_100 rfl rfl (pc' := 101) rfl ?_
        refine ax_getr (v := 341) dX12_strength_101 flX12_40 rfl sh_330 rfl (pc' := 104) rfl ?_
        refine ax_iconst dX12_strength_104 (by decide) (pc' := 105) rfl ?_
        refine ax_iload_n dX12_strength_105 rfl rfl (pc' := 106) rfl ?_
        refine ax_iast dX12_strength_106 sh_341 rfl (by omega) (by omega) (pc' := 107) rfl ?_
        refine ax_aload_n dX12_strength_107 rfl rfl (pc' := 108) rfl ?_
        refine ax_getr (v := 341) dX12_strength_108 flX12_40 rfl sh_330 rfl (pc' := 111) rfl ?_
        refine ax_bipush dX12_strength_111 (by decide) (pc' := 113) rfl ?_
        refine ax_aload_n dX12_strength_113 rfl rfl (pc' := 114) rfl ?_
        refine ax_iload_n dX12_strength_114 rfl rfl (pc' := 115) rfl ?_
        refine ax_iconst dX12_strength_115 (by decide) (pc' := 116) rfl ?_
        refine ax_invG [.inl r, .inl 1] [.inl 12, .inr 341] dX12_strength_116 mlX12_78 sh_330 rfl rfl rfl (Nat.le_of_ble_eq_true rfl) (s_X12_ofRope E l _ (by omega) _ r 1 (ax_up_rowmiss (by decide) (ax_up_rowmiss (by decide) (ax_up_rowmiss (by decide) (ax_up_rowmiss (by decide) (ax_up_rowmiss (by decide) hw))))) (by first | omega | assumption) (by first | omega | assumption)) (pc' := 119) rfl (fun vv M_116 hq co116 hcm116 => ?_)
        obtain ⟨rfl, rfl⟩ := hq
        refine ax_reS (st2 := [.inl (f_R w r 1), .inl 12, .inr 341]) rfl ?_
        have cc116 : -2147483648 ≤ f_R w r 1 ∧ f_R w r 1 < 2147483648 := co116 _ rfl
        refine ax_iast dX12_strength_119 sh_341 rfl (by omega) (by omega) (pc' := 120) rfl ?_
        refine ax_aload_n dX12_strength_120 rfl rfl (pc' := 121) rfl ?_
        refine ax_getr (v := 341) dX12_strength_121 flX12_40 rfl sh_330 rfl (pc' := 124) rfl ?_
        refine ax_bipush dX12_strength_124 (by decide) (pc' := 126) rfl ?_
        refine ax_aload_n dX12_strength_126 rfl rfl (pc' := 127) rfl ?_
        refine ax_iload_n dX12_strength_127 rfl rfl (pc' := 128) rfl ?_
        refine ax_iconst dX12_strength_128 (by decide) (pc' := 129) rfl ?_
        refine ax_invG [.inl r, .inl 4] [.inl 6, .inr 341] dX12_strength_129 mlX12_78 sh_330 rfl rfl rfl (Nat.le_of_ble_eq_true rfl) (s_X12_ofRope E l _ (by omega) _ r 4 (ax_up_rowmiss (by decide) (ax_up_rowmiss (by decide) (ax_up_rowmiss (by decide) (ax_up_rowmiss (by decide) (ax_up_rowmiss (by decide) (ax_up_rowmiss (by decide) hw)))))) (by first | omega | assumption) (by first | omega | assumption)) (pc' := 132) rfl (fun vv M_129 hq co129 hcm129 => ?_)
        obtain ⟨rfl, rfl⟩ := hq
        refine ax_reS (st2 := [.inl (f_R w r 4), .inl 6, .inr 341]) rfl ?_
        have cc129 : -2147483648 ≤ f_R w r 4 ∧ f_R w r 4 < 2147483648 := co129 _ rfl
        refine ax_iast dX12_strength_132 sh_341 rfl (by omega) (by omega) (pc' := 133) rfl ?_
        refine ax_aload_n dX12_strength_133 rfl rfl (pc' := 134) rfl ?_
        refine ax_getr (v := 341) dX12_strength_134 flX12_40 rfl sh_330 rfl (pc' := 137) rfl ?_
        refine ax_bipush dX12_strength_137 (by decide) (pc' := 139) rfl ?_
        refine ax_aload_n dX12_strength_139 rfl rfl (pc' := 140) rfl ?_
        refine ax_iload_n dX12_strength_140 rfl rfl (pc' := 141) rfl ?_
        refine ax_iload_n dX12_strength_141 rfl rfl (pc' := 142) rfl ?_
        refine ax_invG [.inl r, .inl p] [.inl 13, .inr 341] dX12_strength_142 mlX12_361 sh_330 rfl rfl rfl (Nat.le_of_ble_eq_true rfl) (s_X12_habitsAt E l _ (by omega) _ r p (ax_up_rowmiss (by decide) (ax_up_rowmiss (by decide) (ax_up_rowmiss (by decide) (ax_up_rowmiss (by decide) (ax_up_rowmiss (by decide) (ax_up_rowmiss (by decide) (ax_up_rowmiss (by decide) hw))))))) (by first | omega | assumption) (by first | omega | assumption) (by first | omega | assumption)) (pc' := 145) rfl (fun vv M_142 hq co142 hcm142 => ?_)
        obtain ⟨rfl, rfl⟩ := hq
        refine ax_reS (st2 := [.inl (f_habs w r p), .inl 13, .inr 341]) rfl ?_
        have cc142 : -2147483648 ≤ f_habs w r p ∧ f_habs w r p < 2147483648 := co142 _ rfl
        refine ax_iast dX12_strength_145 sh_341 rfl (by omega) (by omega) (pc' := 146) rfl ?_
        refine ax_aload_n dX12_strength_146 rfl rfl (pc' := 147) rfl ?_
        refine ax_iconst dX12_strength_147 (by decide) (pc' := 148) rfl ?_
        refine ax_bipush dX12_strength_148 (by decide) (pc' := 150) rfl ?_
        refine ax_sipush dX12_strength_150 (by decide) (pc' := 153) rfl ?_
        refine ax_invG [.inl 2, .inl 90, .inl 999] [] dX12_strength_153 mlX12_351 sh_330 rfl rfl rfl (Nat.le_of_ble_eq_true rfl) (s_X12_lawSays E l _ (by omega) _ 2 90 999 (Ls 2) (ax_up_rowmiss (by decide) (ax_up_rowmiss (by decide) (ax_up_rowmiss (by decide) (ax_up_rowmiss (by decide) (ax_up_rowmiss (by decide) (ax_up_rowmiss (by decide) (ax_up_rowmiss (by decide) (ax_up_rowmiss (by decide) hw)))))))) (ax_up_rowmiss (by decide) (ax_up_rowmiss (by decide) (ax_up_rowmiss (by decide) (ax_up_rowmiss (by decide) (ax_up_rowmiss (by decide) (ax_up_rowmiss (by decide) (ax_up_rowmiss (by decide) (ax_up_rowmiss (by decide) hpl)))))))) (ax_up_rowhit (ax_up_rowhit (ax_up_rowhit (ax_up_rowhit (ax_up_rowhit (ax_up_rowhit (ax_up_rowhit (ax_up_rowhit hF)))))))) (by omega) qa5.1 qa5.2) (pc' := 156) rfl (fun vv M_153 hq co153 hcm153 => ?_)
        obtain ⟨rfl, frM_153⟩ := hq
        refine ax_reS (st2 := [.inl (max 0 (min 999 (f_pick (f_up (f_up (f_up (f_up (f_up (f_up (f_up (f_up F 9 0) 5 0) 10 (w (2570 + (f_P w r p 0)))) 11 (ax_div (ax_wr ((w 0) - (f_R w r 3))) 365)) 3 p) 12 (f_R w r 1)) 6 (f_R w r 4)) 13 (f_habs w r p)) (Ls 2) 90)))]) rfl ?_
        have cc153 : -2147483648 ≤ max 0 (min 999 (f_pick (f_up (f_up (f_up (f_up (f_up (f_up (f_up (f_up F 9 0) 5 0) 10 (w (2570 + (f_P w r p 0)))) 11 (ax_div (ax_wr ((w 0) - (f_R w r 3))) 365)) 3 p) 12 (f_R w r 1)) 6 (f_R w r 4)) 13 (f_habs w r p)) (Ls 2) 90)) ∧ max 0 (min 999 (f_pick (f_up (f_up (f_up (f_up (f_up (f_up (f_up (f_up F 9 0) 5 0) 10 (w (2570 + (f_P w r p 0)))) 11 (ax_div (ax_wr ((w 0) - (f_R w r 3))) 365)) 3 p) 12 (f_R w r 1)) 6 (f_R w r 4)) 13 (f_habs w r p)) (Ls 2) 90)) < 2147483648 := co153 _ rfl
        refine ax_iret dX12_strength_156 rfl ?_
        refine ⟨rfl, ?_, ?_⟩
        · refine congrArg (fun z => some (Sum.inl z)) ?_
          first
            | (exfalso; omega)
            | (unfold f_str
               refine congrArg (fun z => max 0 (min 999 z)) (f_pick_congr (k := 2) ?_ (f_lns_us qa5.2))
               intro j hj
               have hj2 : j = 3 ∨ j = 5 ∨ j = 6 ∨ j = 9 ∨ j = 10 ∨ j = 11 ∨ j = 12 ∨ j = 13 := by unfold f_al at hj; omega
               rcases hj2 with rfl | rfl | rfl | rfl | rfl | rfl | rfl | rfl <;> simp [f_up, f_Fs, h16])
        · intro x0 i0 hai
          exact ((frM_153 x0 i0 (by omega)).trans (ax_up_miss (by omega) (ax_up_miss (by omega) (ax_up_miss (by omega) (ax_up_miss (by omega) (ax_up_miss (by omega) (ax_up_miss (by omega) (ax_up_miss (by omega) (ax_up_miss (by omega) rfl)))))))))
      · refine ax_iconst dX12_strength_61 (by decide) (pc' := 62) rfl ?_
        refine ax_goto dX12_strength_62 (pc' := 75) (by decide) ?_
        refine ax_iast dX12_strength_75 sh_341 rfl (by omega) (by omega) (pc' := 76) rfl ?_
        refine ax_aload_n dX12_strength_76 rfl rfl (pc' := 77) rfl ?_
        refine ax_getr (v := 341) dX12_strength_77 flX12_40 rfl sh_330 rfl (pc' := 80) rfl ?_
        refine ax_bipush dX12_strength_80 (by decide) (pc' := 82) rfl ?_
        refine ax_aload_n dX12_strength_82 rfl rfl (pc' := 83) rfl ?_
        refine ax_getr (v := 331) dX12_strength_83 flX12_7 rfl sh_330 rfl (pc' := 86) rfl ?_
        refine ax_iconst dX12_strength_86 (by decide) (pc' := 87) rfl ?_
        refine ax_iald (v := w 0) dX12_strength_87 sh_331 rfl (by omega) (by omega) ((congrFun (ax_up_rowmiss (by decide) (ax_up_rowmiss (by decide) (ax_up_rowmiss (by decide) hw))) 0).trans rfl) (pc' := 88) rfl ?_
        refine ax_aload_n dX12_strength_88 rfl rfl (pc' := 89) rfl ?_
        refine ax_iload_n dX12_strength_89 rfl rfl (pc' := 90) rfl ?_
        refine ax_iconst dX12_strength_90 (by decide) (pc' := 91) rfl ?_
        refine ax_invG [.inl r, .inl 3] [.inl (w 0), .inl 11, .inr 341] dX12_strength_91 mlX12_78 sh_330 rfl rfl rfl (Nat.le_of_ble_eq_true rfl) (s_X12_ofRope E l _ (by omega) _ r 3 (ax_up_rowmiss (by decide) (ax_up_rowmiss (by decide) (ax_up_rowmiss (by decide) hw))) (by first | omega | assumption) (by first | omega | assumption)) (pc' := 94) rfl (fun vv M_91 hq co91 hcm91 => ?_)
        obtain ⟨rfl, rfl⟩ := hq
        refine ax_reS (st2 := [.inl (f_R w r 3), .inl (w 0), .inl 11, .inr 341]) rfl ?_
        have cc91 : -2147483648 ≤ f_R w r 3 ∧ f_R w r 3 < 2147483648 := co91 _ rfl
        refine ax_isubw dX12_strength_94 (pc' := 95) rfl ?_
        refine ax_sipush dX12_strength_95 (by decide) (pc' := 98) rfl ?_
        refine ax_idivw dX12_strength_98 (by omega) (pc' := 99) rfl ?_
        refine ax_iast dX12_strength_99 sh_341 rfl (by omega) (by omega) (pc' := 100) rfl ?_
        refine ax_aload_n dX12_strength_100 rfl rfl (pc' := 101) rfl ?_
        refine ax_getr (v := 341) dX12_strength_101 flX12_40 rfl sh_330 rfl (pc' := 104) rfl ?_
        refine ax_iconst dX12_strength_104 (by decide) (pc' := 105) rfl ?_
        refine ax_iload_n dX12_strength_105 rfl rfl (pc' := 106) rfl ?_
        refine ax_iast dX12_strength_106 sh_341 rfl (by omega) (by omega) (pc' := 107) rfl ?_
        refine ax_aload_n dX12_strength_107 rfl rfl (pc' := 108) rfl ?_
        refine ax_getr (v := 341) dX12_strength_108 flX12_40 rfl sh_330 rfl (pc' := 111) rfl ?_
        refine ax_bipush dX12_strength_111 (by decide) (pc' := 113) rfl ?_
        refine ax_aload_n dX12_strength_113 rfl rfl (pc' := 114) rfl ?_
        refine ax_iload_n dX12_strength_114 rfl rfl (pc' := 115) rfl ?_
        refine ax_iconst dX12_strength_115 (by decide) (pc' := 116) rfl ?_
        refine ax_invG [.inl r, .inl 1] [.inl 12, .inr 341] dX12_strength_116 mlX12_78 sh_330 rfl rfl rfl (Nat.le_of_ble_eq_true rfl) (s_X12_ofRope E l _ (by omega) _ r 1 (ax_up_rowmiss (by decide) (ax_up_rowmiss (by decide) (ax_up_rowmiss (by decide) (ax_up_rowmiss (by decide) (ax_up_rowmiss (by decide) hw))))) (by first | omega | assumption) (by first | omega | assumption)) (pc' := 119) rfl (fun vv M_116 hq co116 hcm116 => ?_)
        obtain ⟨rfl, rfl⟩ := hq
        refine ax_reS (st2 := [.inl (f_R w r 1), .inl 12, .inr 341]) rfl ?_
        have cc116 : -2147483648 ≤ f_R w r 1 ∧ f_R w r 1 < 2147483648 := co116 _ rfl
        refine ax_iast dX12_strength_119 sh_341 rfl (by omega) (by omega) (pc' := 120) rfl ?_
        refine ax_aload_n dX12_strength_120 rfl rfl (pc' := 121) rfl ?_
        refine ax_getr (v := 341) dX12_strength_121 flX12_40 rfl sh_330 rfl (pc' := 124) rfl ?_
        refine ax_bipush dX12_strength_124 (by decide) (pc' := 126) rfl ?_
        refine ax_aload_n dX12_strength_126 rfl rfl (pc' := 127) rfl ?_
        refine ax_iload_n dX12_strength_127 rfl rfl (pc' := 128) rfl ?_
        refine ax_iconst dX12_strength_128 (by decide) (pc' := 129) rfl ?_
        refine ax_invG [.inl r, .inl 4] [.inl 6, .inr 341] dX12_strength_129 mlX12_78 sh_330 rfl rfl rfl (Nat.le_of_ble_eq_true rfl) (s_X12_ofRope E l _ (by omega) _ r 4 (ax_up_rowmiss (by decide) (ax_up_rowmiss (by decide) (ax_up_rowmiss (by decide) (ax_up_rowmiss (by decide) (ax_up_rowmiss (by decide) (ax_up_rowmiss (by decide) hw)))))) (by first | omega | assumption) (by first | omega | assumption)) (pc' := 132) rfl (fun vv M_129 hq co129 hcm129 => ?_)
        obtain ⟨rfl, rfl⟩ := hq
        refine ax_reS (st2 := [.inl (f_R w r 4), .inl 6, .inr 341]) rfl ?_
        have cc129 : -2147483648 ≤ f_R w r 4 ∧ f_R w r 4 < 2147483648 := co129 _ rfl
        refine ax_iast dX12_strength_132 sh_341 rfl (by omega) (by omega) (pc' := 133) rfl ?_
        refine ax_aload_n dX12_strength_133 rfl rfl (pc' := 134) rfl ?_
        refine ax_getr (v := 341) dX12_strength_134 flX12_40 rfl sh_330 rfl (pc' := 137) rfl ?_
        refine ax_bipush dX12_strength_137 (by decide) (pc' := 139) rfl ?_
        refine ax_aload_n dX12_strength_139 rfl rfl (pc' := 140) rfl ?_
        refine ax_iload_n dX12_strength_140 rfl rfl (pc' := 141) rfl ?_
        refine ax_iload_n dX12_strength_141 rfl rfl (pc' := 142) rfl ?_
        refine ax_invG [.inl r, .inl p] [.inl 13, .inr 341] dX12_strength_142 mlX12_361 sh_330 rfl rfl rfl (Nat.le_of_ble_eq_true rfl) (s_X12_habitsAt E l _ (by omega) _ r p (ax_up_rowmiss (by decide) (ax_up_rowmiss (by decide) (ax_up_rowmiss (by decide) (ax_up_rowmiss (by decide) (ax_up_rowmiss (by decide) (ax_up_rowmiss (by decide) (ax_up_rowmiss (by decide) hw))))))) (by first | omega | assumption) (by first | omega | assumption) (by first | omega | assumption)) (pc' := 145) rfl (fun vv M_142 hq co142 hcm142 => ?_)
        obtain ⟨rfl, rfl⟩ := hq
        refine ax_reS (st2 := [.inl (f_habs w r p), .inl 13, .inr 341]) rfl ?_
        have cc142 : -2147483648 ≤ f_habs w r p ∧ f_habs w r p < 2147483648 := co142 _ rfl
        refine ax_iast dX12_strength_145 sh_341 rfl (by omega) (by omega) (pc' := 146) rfl ?_
        refine ax_aload_n dX12_strength_146 rfl rfl (pc' := 147) rfl ?_
        refine ax_iconst dX12_strength_147 (by decide) (pc' := 148) rfl ?_
        refine ax_bipush dX12_strength_148 (by decide) (pc' := 150) rfl ?_
        refine ax_sipush dX12_strength_150 (by decide) (pc' := 153) rfl ?_
        refine ax_invG [.inl 2, .inl 90, .inl 999] [] dX12_strength_153 mlX12_351 sh_330 rfl rfl rfl (Nat.le_of_ble_eq_true rfl) (s_X12_lawSays E l _ (by omega) _ 2 90 999 (Ls 2) (ax_up_rowmiss (by decide) (ax_up_rowmiss (by decide) (ax_up_rowmiss (by decide) (ax_up_rowmiss (by decide) (ax_up_rowmiss (by decide) (ax_up_rowmiss (by decide) (ax_up_rowmiss (by decide) (ax_up_rowmiss (by decide) hw)))))))) (ax_up_rowmiss (by decide) (ax_up_rowmiss (by decide) (ax_up_rowmiss (by decide) (ax_up_rowmiss (by decide) (ax_up_rowmiss (by decide) (ax_up_rowmiss (by decide) (ax_up_rowmiss (by decide) (ax_up_rowmiss (by decide) hpl)))))))) (ax_up_rowhit (ax_up_rowhit (ax_up_rowhit (ax_up_rowhit (ax_up_rowhit (ax_up_rowhit (ax_up_rowhit (ax_up_rowhit hF)))))))) (by omega) qa5.1 qa5.2) (pc' := 156) rfl (fun vv M_153 hq co153 hcm153 => ?_)
        obtain ⟨rfl, frM_153⟩ := hq
        refine ax_reS (st2 := [.inl (max 0 (min 999 (f_pick (f_up (f_up (f_up (f_up (f_up (f_up (f_up (f_up F 9 0) 5 0) 10 0) 11 (ax_div (ax_wr ((w 0) - (f_R w r 3))) 365)) 3 p) 12 (f_R w r 1)) 6 (f_R w r 4)) 13 (f_habs w r p)) (Ls 2) 90)))]) rfl ?_
        have cc153 : -2147483648 ≤ max 0 (min 999 (f_pick (f_up (f_up (f_up (f_up (f_up (f_up (f_up (f_up F 9 0) 5 0) 10 0) 11 (ax_div (ax_wr ((w 0) - (f_R w r 3))) 365)) 3 p) 12 (f_R w r 1)) 6 (f_R w r 4)) 13 (f_habs w r p)) (Ls 2) 90)) ∧ max 0 (min 999 (f_pick (f_up (f_up (f_up (f_up (f_up (f_up (f_up (f_up F 9 0) 5 0) 10 0) 11 (ax_div (ax_wr ((w 0) - (f_R w r 3))) 365)) 3 p) 12 (f_R w r 1)) 6 (f_R w r 4)) 13 (f_habs w r p)) (Ls 2) 90)) < 2147483648 := co153 _ rfl
        refine ax_iret dX12_strength_156 rfl ?_
        refine ⟨rfl, ?_, ?_⟩
        · refine congrArg (fun z => some (Sum.inl z)) ?_
          first
            | (exfalso; omega)
            | (unfold f_str
               refine congrArg (fun z => max 0 (min 999 z)) (f_pick_congr (k := 2) ?_ (f_lns_us qa5.2))
               intro j hj
               have hj2 : j = 3 ∨ j = 5 ∨ j = 6 ∨ j = 9 ∨ j = 10 ∨ j = 11 ∨ j = 12 ∨ j = 13 := by unfold f_al at hj; omega
               rcases hj2 with rfl | rfl | rfl | rfl | rfl | rfl | rfl | rfl <;> simp [f_up, f_Fs, h16])
        · intro x0 i0 hai
          exact ((frM_153 x0 i0 (by omega)).trans (ax_up_miss (by omega) (ax_up_miss (by omega) (ax_up_miss (by omega) (ax_up_miss (by omega) (ax_up_miss (by omega) (ax_up_miss (by omega) (ax_up_miss (by omega) (ax_up_miss (by omega) rfl)))))))))
set_option maxRecDepth 20000 in
theorem s_X12_weakest (E : ax_Env) (l : Launch) (d : Nat) (hd : 4 ≤ d) (M : ax_Mem) (r : Int) (Ls : Int → List f_Ln) {w : Int → Int} (hw : M 331 = w) {pl : Int → Int} (hpl : M 340 = pl) {F : Int → Int} (hF : M 341 = F) (hg0 : 0 ≤ r ∧ r < 8) (hg1 : f_iv w) (hg2 : f_lw Ls w) : ax_G E l d iX12_weakest [.inr 330, .inl r] M (fun z0 M2 => z0 = some (.inl (f_wk Ls w r)) ∧ (∀ x0 i0 : Int, ¬ (x0 = 340 ∨ x0 = 341) → M2 x0 i0 = M x0 i0)) := by
  obtain ⟨d, rfl⟩ : ∃ d0, d = d0 + 1 := ⟨d - 1, by omega⟩
  refine ax_start rfl (Nat.le_of_ble_eq_true rfl) (ls := [some (.inr 330), some (.inl r), none, none]) rfl (fun hav hcm => ?_)
  have hc1 : -2147483648 ≤ r ∧ r < 2147483648 := hav (.inl r) (by simp)
  clear hav
  have qa1 := hg1.1 r (by omega) (by omega)
  refine ax_iconst dX12_weakest_0 (by decide) (pc' := 1) rfl ?_
  refine ax_istore_n dX12_weakest_1 rfl (by decide) (ls' := [some (.inr 330), some (.inl r), some (.inl 0), none]) rfl (pc' := 2) rfl ?_
  refine ax_iconst dX12_weakest_2 (by decide) (pc' := 3) rfl ?_
  refine ax_istore_n dX12_weakest_3 rfl (by decide) (ls' := [some (.inr 330), some (.inl r), some (.inl 0), some (.inl 1)]) rfl (pc' := 4) rfl ?_
  have LP1 : ∀ (kq2 : Nat) (p b : Int) (M1 : ax_Mem) (hm1 : 24 - p < (kq2 : Nat)) (fr1 : ∀ x0 i0 : Int, ¬ (x0 = 340 ∨ x0 = 341) → M1 x0 i0 = M x0 i0) (iv1_0 : 1 ≤ p ∧ p ≤ 24) (iv1_1 : f_loop (f_wkS Ls w r) p (f_R w r 1) b = f_wk Ls w r) (iv1_2 : 0 ≤ b ∧ b < 24), ax_W E l (d + 1) 0 0 iX12_weakest 4 [some (.inr 330), some (.inl r), some (.inl b), some (.inl p)] [] SH M1 (ax_P (fun z0 M2 => z0 = some (.inl (f_wk Ls w r)) ∧ (∀ x0 i0 : Int, ¬ (x0 = 340 ∨ x0 = 341) → M2 x0 i0 = M x0 i0))) := by
    intro kq2
    induction kq2 with
    | zero =>
      intro p b M1 hm1 fr1 iv1_0 iv1_1 iv1_2
      exfalso
      omega
    | succ kq2 ih3 =>
      intro p b M1 hm1 fr1 iv1_0 iv1_1 iv1_2
      refine ax_iload_n dX12_weakest_4 rfl rfl (pc' := 5) rfl ?_
      refine ax_aload_n dX12_weakest_5 rfl rfl (pc' := 6) rfl ?_
      refine ax_iload_n dX12_weakest_6 rfl rfl (pc' := 7) rfl ?_
      refine ax_iconst dX12_weakest_7 (by decide) (pc' := 8) rfl ?_
      refine ax_invG [.inl r, .inl 1] [.inl p] dX12_weakest_8 mlX12_78 sh_330 rfl rfl rfl (Nat.le_of_ble_eq_true rfl) (s_X12_ofRope E l _ (by omega) _ r 1 ((funext fun i0 => fr1 331 i0 (by omega)).trans hw) (by first | omega | assumption) (by first | omega | assumption)) (pc' := 11) rfl (fun vv M_8 hq co8 hcm8 => ?_)
      obtain ⟨rfl, rfl⟩ := hq
      refine ax_reS (st2 := [.inl (f_R w r 1), .inl p]) rfl ?_
      have cc8 : -2147483648 ≤ f_R w r 1 ∧ f_R w r 1 < 2147483648 := co8 _ rfl
      refine ax_icmp_ge (tgt := 37) dX12_weakest_11 (by decide) (pc' := 14) rfl (fun h11 => ?_) (fun h11 => ?_)
      · refine ax_iload_n dX12_weakest_37 rfl rfl (pc' := 38) rfl ?_
        refine ax_iret dX12_weakest_38 rfl ?_
        refine ⟨rfl, ?_, ?_⟩
        · refine congrArg (fun z => some (Sum.inl z)) ?_
          exact (f_loop_done (by omega)).symm.trans iv1_1
        · intro x0 i0 hai
          exact ((fr1 x0 i0 (by omega)).trans rfl)
      · refine ax_aload_n dX12_weakest_14 rfl rfl (pc' := 15) rfl ?_
        refine ax_iload_n dX12_weakest_15 rfl rfl (pc' := 16) rfl ?_
        refine ax_iload_n dX12_weakest_16 rfl rfl (pc' := 17) rfl ?_
        refine ax_invG [.inl r, .inl p] [] dX12_weakest_17 mlX12_364 sh_330 rfl rfl rfl (Nat.le_of_ble_eq_true rfl) (s_X12_strength E l _ (by omega) _ r p Ls ((funext fun i0 => fr1 331 i0 (by omega)).trans hw) rfl rfl (by first | omega | assumption) (by first | omega | assumption) (by first | omega | assumption) (by first | omega | assumption)) (pc' := 20) rfl (fun vv M_17 hq co17 hcm17 => ?_)
        obtain ⟨rfl, frM_17⟩ := hq
        refine ax_reS (st2 := [.inl (f_str Ls w r p)]) rfl ?_
        have cc17 : -2147483648 ≤ f_str Ls w r p ∧ f_str Ls w r p < 2147483648 := co17 _ rfl
        refine ax_aload_n dX12_weakest_20 rfl rfl (pc' := 21) rfl ?_
        refine ax_iload_n dX12_weakest_21 rfl rfl (pc' := 22) rfl ?_
        refine ax_iload_n dX12_weakest_22 rfl rfl (pc' := 23) rfl ?_
        refine ax_invG [.inl r, .inl b] [.inl (f_str Ls w r p)] dX12_weakest_23 mlX12_364 sh_330 rfl rfl rfl (Nat.le_of_ble_eq_true rfl) (s_X12_strength E l _ (by omega) _ r b Ls ((funext fun i0 => frM_17 331 i0 (by omega)).trans ((funext fun i0 => fr1 331 i0 (by omega)).trans hw)) rfl rfl (by first | omega | assumption) (by first | omega | assumption) (by first | omega | assumption) (by first | omega | assumption)) (pc' := 26) rfl (fun vv M_23 hq co23 hcm23 => ?_)
        obtain ⟨rfl, frM_23⟩ := hq
        refine ax_reS (st2 := [.inl (f_str Ls w r b), .inl (f_str Ls w r p)]) rfl ?_
        have cc23 : -2147483648 ≤ f_str Ls w r b ∧ f_str Ls w r b < 2147483648 := co23 _ rfl
        refine ax_icmp_ge (tgt := 31) dX12_weakest_26 (by decide) (pc' := 29) rfl (fun h26 => ?_) (fun h26 => ?_)
        · refine ax_iinc dX12_weakest_31 rfl (by decide) (by omega) (ls' := [some (.inr 330), some (.inl r), some (.inl b), some (.inl (p + 1))]) rfl (pc' := 34) rfl ?_
          refine ax_goto dX12_weakest_34 (pc' := 4) (by decide) ?_
          refine ih3 (p + 1) b M_23 ?_ ?_ ?_ ?_ ?_
          · omega
          · intro x0 i0 hai
            exact ((frM_23 x0 i0 (by omega)).trans ((frM_17 x0 i0 (by omega)).trans ((fr1 x0 i0 (by omega)).trans rfl)))
          · omega
          · refine f_loop_back (by omega) iv1_1 ?_
            unfold f_wkS
            first | rw [if_pos h26] | rw [if_neg (by omega)]
          · omega
        · refine ax_iload_n dX12_weakest_29 rfl rfl (pc' := 30) rfl ?_
          refine ax_istore_n dX12_weakest_30 rfl (by decide) (ls' := [some (.inr 330), some (.inl r), some (.inl p), some (.inl p)]) rfl (pc' := 31) rfl ?_
          refine ax_iinc dX12_weakest_31 rfl (by decide) (by omega) (ls' := [some (.inr 330), some (.inl r), some (.inl p), some (.inl (p + 1))]) rfl (pc' := 34) rfl ?_
          refine ax_goto dX12_weakest_34 (pc' := 4) (by decide) ?_
          refine ih3 (p + 1) p M_23 ?_ ?_ ?_ ?_ ?_
          · omega
          · intro x0 i0 hai
            exact ((frM_23 x0 i0 (by omega)).trans ((frM_17 x0 i0 (by omega)).trans ((fr1 x0 i0 (by omega)).trans rfl)))
          · omega
          · refine f_loop_back (by omega) iv1_1 ?_
            unfold f_wkS
            first | rw [if_pos h26] | rw [if_neg (by omega)]
          · omega
  refine LP1 (24 - 1 : Int).toNat.succ 1 0 M ?_ ?_ ?_ ?_ ?_
  · omega
  · exact fun a i _ => rfl
  · omega
  · rfl
  · omega
set_option maxRecDepth 20000 in
theorem s_X12_at (E : ax_Env) (l : Launch) (d : Nat) (hd : 5 ≤ d) (M : ax_Mem) (r p what : Int) (Ls : Int → List f_Ln) {w : Int → Int} (hw : M 331 = w) {pl : Int → Int} (hpl : M 340 = pl) {F : Int → Int} (hF : M 341 = F) (hg0 : f_iv w) (hg1 : f_lw Ls w) : ax_G E l d iX12_at [.inr 330, .inl r, .inl p, .inl what] M (fun z0 M2 => z0 = some (.inl (F_at Ls w r p what)) ∧ (∀ x0 i0 : Int, ¬ (x0 = 340 ∨ x0 = 341) → M2 x0 i0 = M x0 i0)) := by
  obtain ⟨d, rfl⟩ : ∃ d0, d = d0 + 1 := ⟨d - 1, by omega⟩
  refine ax_start rfl (Nat.le_of_ble_eq_true rfl) (ls := [some (.inr 330), some (.inl r), some (.inl p), some (.inl what), none]) rfl (fun hav hcm => ?_)
  have hc1 : -2147483648 ≤ r ∧ r < 2147483648 := hav (.inl r) (by simp)
  have hc2 : -2147483648 ≤ p ∧ p < 2147483648 := hav (.inl p) (by simp)
  have hc3 : -2147483648 ≤ what ∧ what < 2147483648 := hav (.inl what) (by simp)
  clear hav
  have qa1 := hg0.1
  refine ax_aload_n dX12_at_0 rfl rfl (pc' := 1) rfl ?_
  refine ax_iload_n dX12_at_1 rfl rfl (pc' := 2) rfl ?_
  refine ax_iload_n dX12_at_2 rfl rfl (pc' := 3) rfl ?_
  refine ax_invG [.inl r, .inl p] [] dX12_at_3 mlX12_367 sh_330 rfl rfl rfl (Nat.le_of_ble_eq_true rfl) (s_X12_isPlace E l _ (by omega) _ r p hw (by first | omega | assumption)) (pc' := 6) rfl (fun vv M_3 hq co3 hcm3 => ?_)
  obtain ⟨rfl, rfl⟩ := hq
  refine ax_reS (st2 := [.inl (f_b (f_isP w r p))]) rfl ?_
  refine ax_if_ne (tgt := 12) dX12_at_6 (by decide) (pc' := 9) rfl (fun h6 => ?_) (fun h6 => ?_)
  · replace h6 := f_b_1 h6
    have qa2 := hg0.1 r (by omega) (by omega)
    have qa3 := f_call_rg (w := w) (r := r) (p := p)
    refine ax_aload_n dX12_at_12 rfl rfl (pc' := 13) rfl ?_
    refine ax_iload_n dX12_at_13 rfl rfl (pc' := 14) rfl ?_
    refine ax_iload_n dX12_at_14 rfl rfl (pc' := 15) rfl ?_
    refine ax_invG [.inl r, .inl p] [] dX12_at_15 mlX12_340 sh_330 rfl rfl rfl (Nat.le_of_ble_eq_true rfl) (s_X12_isTied E l _ (by omega) _ r p hw (by first | omega | assumption) (by first | omega | assumption)) (pc' := 18) rfl (fun vv M_15 hq co15 hcm15 => ?_)
    obtain ⟨rfl, rfl⟩ := hq
    refine ax_reS (st2 := [.inl (f_b (f_P w r p 0 ≠ -1))]) rfl ?_
    refine ax_if_eq (tgt := 25) dX12_at_18 (by decide) (pc' := 21) rfl (fun h18 => ?_) (fun h18 => ?_)
    · replace h18 := f_b_0 h18
      refine ax_aload_n dX12_at_25 rfl rfl (pc' := 26) rfl ?_
      refine ax_iload_n dX12_at_26 rfl rfl (pc' := 27) rfl ?_
      refine ax_iload_n dX12_at_27 rfl rfl (pc' := 28) rfl ?_
      refine ax_invG [.inl r, .inl p] [] dX12_at_28 mlX12_384 sh_330 rfl rfl rfl (Nat.le_of_ble_eq_true rfl) (s_X12_callOf E l _ (by omega) _ r p hw (by first | omega | assumption) (by first | omega | assumption)) (pc' := 31) rfl (fun vv M_28 hq co28 hcm28 => ?_)
      obtain ⟨rfl, rfl, fa28_0⟩ := hq
      refine ax_reS (st2 := [.inl (f_call w r p)]) rfl ?_
      have cc28 : -2147483648 ≤ f_call w r p ∧ f_call w r p < 2147483648 := co28 _ rfl
      refine ax_istore dX12_at_31 (by decide) (ls' := [some (.inr 330), some (.inl r), some (.inl p), some (.inl what), some (.inl (f_call w r p))]) rfl (pc' := 33) rfl ?_
      refine ax_iload_n dX12_at_33 rfl rfl (pc' := 34) rfl ?_
      by_cases h34_0 : what = 0
      · refine ax_reS (st2 := [.inl 0]) (by rw [h34_0]) ?_
        refine ax_tabIn (tgt := 64) dX12_at_34 (by decide) (by decide) rfl (by decide) ?_
        refine ax_aload_n dX12_at_64 rfl rfl (pc' := 65) rfl ?_
        refine ax_iload_n dX12_at_65 rfl rfl (pc' := 66) rfl ?_
        refine ax_iload_n dX12_at_66 rfl rfl (pc' := 67) rfl ?_
        refine ax_iconst dX12_at_67 (by decide) (pc' := 68) rfl ?_
        refine ax_invG [.inl r, .inl p, .inl 0] [] dX12_at_68 mlX12_86 sh_330 rfl rfl rfl (Nat.le_of_ble_eq_true rfl) (s_X12_ofPlace E l _ (by omega) _ r p 0 hw (by first | omega | assumption) (by first | omega | assumption) (by first | omega | assumption)) (pc' := 71) rfl (fun vv M_68 hq co68 hcm68 => ?_)
        obtain ⟨rfl, rfl⟩ := hq
        refine ax_reS (st2 := [.inl (f_P w r p 0)]) rfl ?_
        have cc68 : -2147483648 ≤ f_P w r p 0 ∧ f_P w r p 0 < 2147483648 := co68 _ rfl
        refine ax_iret dX12_at_71 rfl ?_
        refine ⟨rfl, ?_, ?_⟩
        · refine congrArg (fun z => some (Sum.inl z)) ?_
          unfold F_at
          repeat' split
          all_goals first | rfl | omega | (exfalso; omega)
        · intro x0 i0 hai
          exact rfl
      by_cases h34_1 : what = 1
      · refine ax_reS (st2 := [.inl 1]) (by rw [h34_1]) ?_
        refine ax_tabIn (tgt := 72) dX12_at_34 (by decide) (by decide) rfl (by decide) ?_
        refine ax_iload dX12_at_72 rfl (pc' := 74) rfl ?_
        refine ax_iret dX12_at_74 rfl ?_
        refine ⟨rfl, ?_, ?_⟩
        · refine congrArg (fun z => some (Sum.inl z)) ?_
          unfold F_at
          repeat' split
          all_goals first | rfl | omega | (exfalso; omega)
        · intro x0 i0 hai
          exact rfl
      by_cases h34_2 : what = 2
      · refine ax_reS (st2 := [.inl 2]) (by rw [h34_2]) ?_
        refine ax_tabIn (tgt := 75) dX12_at_34 (by decide) (by decide) rfl (by decide) ?_
        refine ax_iload dX12_at_75 rfl (pc' := 77) rfl ?_
        refine ax_iconst dX12_at_77 (by decide) (pc' := 78) rfl ?_
        refine ax_icmp_ne (tgt := 85) dX12_at_78 (by decide) (pc' := 81) rfl (fun h78 => ?_) (fun h78 => ?_)
        · refine ax_aload_n dX12_at_85 rfl rfl (pc' := 86) rfl ?_
          refine ax_iload_n dX12_at_86 rfl rfl (pc' := 87) rfl ?_
          refine ax_iload_n dX12_at_87 rfl rfl (pc' := 88) rfl ?_
          refine ax_iload dX12_at_88 rfl (pc' := 90) rfl ?_
          refine ax_invG [.inl r, .inl p, .inl (f_call w r p)] [] dX12_at_90 mlX12_420 sh_330 rfl rfl rfl (Nat.le_of_ble_eq_true rfl) (s_X12_needOf E l _ (by omega) _ r p (f_call w r p) Ls hw hpl hF (by first | omega | assumption) (by first | omega | assumption) (by first | omega | assumption) (by first | omega | assumption) (by first | omega | assumption)) (pc' := 93) rfl (fun vv M_90 hq co90 hcm90 => ?_)
          obtain ⟨rfl, frM_90⟩ := hq
          refine ax_reS (st2 := [.inl (f_need Ls w r p (f_call w r p))]) rfl ?_
          have cc90 : -2147483648 ≤ f_need Ls w r p (f_call w r p) ∧ f_need Ls w r p (f_call w r p) < 2147483648 := co90 _ rfl
          refine ax_iret dX12_at_93 rfl ?_
          refine ⟨rfl, ?_, ?_⟩
          · refine congrArg (fun z => some (Sum.inl z)) ?_
            unfold F_at
            repeat' split
            all_goals first | rfl | omega | (exfalso; omega)
          · intro x0 i0 hai
            exact ((frM_90 x0 i0 (by omega)).trans rfl)
        · refine ax_iconst dX12_at_81 (by decide) (pc' := 82) rfl ?_
          refine ax_goto dX12_at_82 (pc' := 93) (by decide) ?_
          refine ax_iret dX12_at_93 rfl ?_
          refine ⟨rfl, ?_, ?_⟩
          · refine congrArg (fun z => some (Sum.inl z)) ?_
            unfold F_at
            repeat' split
            all_goals first | rfl | omega | (exfalso; omega)
          · intro x0 i0 hai
            exact rfl
      by_cases h34_3 : what = 3
      · refine ax_reS (st2 := [.inl 3]) (by rw [h34_3]) ?_
        refine ax_tabIn (tgt := 94) dX12_at_34 (by decide) (by decide) rfl (by decide) ?_
        refine ax_aload_n dX12_at_94 rfl rfl (pc' := 95) rfl ?_
        refine ax_iload_n dX12_at_95 rfl rfl (pc' := 96) rfl ?_
        refine ax_iload_n dX12_at_96 rfl rfl (pc' := 97) rfl ?_
        refine ax_invG [.inl r, .inl p] [] dX12_at_97 mlX12_364 sh_330 rfl rfl rfl (Nat.le_of_ble_eq_true rfl) (s_X12_strength E l _ (by omega) _ r p Ls hw hpl hF (by first | omega | assumption) (by first | omega | assumption) (by first | omega | assumption) (by first | omega | assumption)) (pc' := 100) rfl (fun vv M_97 hq co97 hcm97 => ?_)
        obtain ⟨rfl, frM_97⟩ := hq
        refine ax_reS (st2 := [.inl (f_str Ls w r p)]) rfl ?_
        have cc97 : -2147483648 ≤ f_str Ls w r p ∧ f_str Ls w r p < 2147483648 := co97 _ rfl
        refine ax_iret dX12_at_100 rfl ?_
        refine ⟨rfl, ?_, ?_⟩
        · refine congrArg (fun z => some (Sum.inl z)) ?_
          unfold F_at
          repeat' split
          all_goals first | rfl | omega | (exfalso; omega)
        · intro x0 i0 hai
          exact ((frM_97 x0 i0 (by omega)).trans rfl)
      refine ax_tabOut (tgt := 101) dX12_at_34 (by omega) (by decide) ?_
      refine ax_bipush dX12_at_101 (by decide) (pc' := 103) rfl ?_
      refine ax_iret dX12_at_103 rfl ?_
      refine ⟨rfl, ?_, ?_⟩
      · refine congrArg (fun z => some (Sum.inl z)) ?_
        unfold F_at
        repeat' split
        all_goals first | rfl | omega | (exfalso; omega)
      · intro x0 i0 hai
        exact rfl
    · replace h18 := f_b_1 h18
      refine ax_iconst dX12_at_21 (by decide) (pc' := 22) rfl ?_
      refine ax_goto dX12_at_22 (pc' := 31) (by decide) ?_
      refine ax_istore dX12_at_31 (by decide) (ls' := [some (.inr 330), some (.inl r), some (.inl p), some (.inl what), some (.inl (-1))]) rfl (pc' := 33) rfl ?_
      refine ax_iload_n dX12_at_33 rfl rfl (pc' := 34) rfl ?_
      by_cases h34_0 : what = 0
      · refine ax_reS (st2 := [.inl 0]) (by rw [h34_0]) ?_
        refine ax_tabIn (tgt := 64) dX12_at_34 (by decide) (by decide) rfl (by decide) ?_
        refine ax_aload_n dX12_at_64 rfl rfl (pc' := 65) rfl ?_
        refine ax_iload_n dX12_at_65 rfl rfl (pc' := 66) rfl ?_
        refine ax_iload_n dX12_at_66 rfl rfl (pc' := 67) rfl ?_
        refine ax_iconst dX12_at_67 (by decide) (pc' := 68) rfl ?_
        refine ax_invG [.inl r, .inl p, .inl 0] [] dX12_at_68 mlX12_86 sh_330 rfl rfl rfl (Nat.le_of_ble_eq_true rfl) (s_X12_ofPlace E l _ (by omega) _ r p 0 hw (by first | omega | assumption) (by first | omega | assumption) (by first | omega | assumption)) (pc' := 71) rfl (fun vv M_68 hq co68 hcm68 => ?_)
        obtain ⟨rfl, rfl⟩ := hq
        refine ax_reS (st2 := [.inl (f_P w r p 0)]) rfl ?_
        have cc68 : -2147483648 ≤ f_P w r p 0 ∧ f_P w r p 0 < 2147483648 := co68 _ rfl
        refine ax_iret dX12_at_71 rfl ?_
        refine ⟨rfl, ?_, ?_⟩
        · refine congrArg (fun z => some (Sum.inl z)) ?_
          unfold F_at
          repeat' split
          all_goals first | rfl | omega | (exfalso; omega)
        · intro x0 i0 hai
          exact rfl
      by_cases h34_1 : what = 1
      · refine ax_reS (st2 := [.inl 1]) (by rw [h34_1]) ?_
        refine ax_tabIn (tgt := 72) dX12_at_34 (by decide) (by decide) rfl (by decide) ?_
        refine ax_iload dX12_at_72 rfl (pc' := 74) rfl ?_
        refine ax_iret dX12_at_74 rfl ?_
        refine ⟨rfl, ?_, ?_⟩
        · refine congrArg (fun z => some (Sum.inl z)) ?_
          unfold F_at
          repeat' split
          all_goals first | rfl | omega | (exfalso; omega)
        · intro x0 i0 hai
          exact rfl
      by_cases h34_2 : what = 2
      · refine ax_reS (st2 := [.inl 2]) (by rw [h34_2]) ?_
        refine ax_tabIn (tgt := 75) dX12_at_34 (by decide) (by decide) rfl (by decide) ?_
        refine ax_iload dX12_at_75 rfl (pc' := 77) rfl ?_
        refine ax_iconst dX12_at_77 (by decide) (pc' := 78) rfl ?_
        refine ax_icmp_ne (tgt := 85) dX12_at_78 (by decide) (pc' := 81) rfl (fun h78 => ?_) (fun h78 => ?_)
        · exfalso
          omega
        · refine ax_iconst dX12_at_81 (by decide) (pc' := 82) rfl ?_
          refine ax_goto dX12_at_82 (pc' := 93) (by decide) ?_
          refine ax_iret dX12_at_93 rfl ?_
          refine ⟨rfl, ?_, ?_⟩
          · refine congrArg (fun z => some (Sum.inl z)) ?_
            unfold F_at
            repeat' split
            all_goals first | rfl | omega | (exfalso; omega)
          · intro x0 i0 hai
            exact rfl
      by_cases h34_3 : what = 3
      · refine ax_reS (st2 := [.inl 3]) (by rw [h34_3]) ?_
        refine ax_tabIn (tgt := 94) dX12_at_34 (by decide) (by decide) rfl (by decide) ?_
        refine ax_aload_n dX12_at_94 rfl rfl (pc' := 95) rfl ?_
        refine ax_iload_n dX12_at_95 rfl rfl (pc' := 96) rfl ?_
        refine ax_iload_n dX12_at_96 rfl rfl (pc' := 97) rfl ?_
        refine ax_invG [.inl r, .inl p] [] dX12_at_97 mlX12_364 sh_330 rfl rfl rfl (Nat.le_of_ble_eq_true rfl) (s_X12_strength E l _ (by omega) _ r p Ls hw hpl hF (by first | omega | assumption) (by first | omega | assumption) (by first | omega | assumption) (by first | omega | assumption)) (pc' := 100) rfl (fun vv M_97 hq co97 hcm97 => ?_)
        obtain ⟨rfl, frM_97⟩ := hq
        refine ax_reS (st2 := [.inl (f_str Ls w r p)]) rfl ?_
        have cc97 : -2147483648 ≤ f_str Ls w r p ∧ f_str Ls w r p < 2147483648 := co97 _ rfl
        refine ax_iret dX12_at_100 rfl ?_
        refine ⟨rfl, ?_, ?_⟩
        · refine congrArg (fun z => some (Sum.inl z)) ?_
          unfold F_at
          repeat' split
          all_goals first | rfl | omega | (exfalso; omega)
        · intro x0 i0 hai
          exact ((frM_97 x0 i0 (by omega)).trans rfl)
      refine ax_tabOut (tgt := 101) dX12_at_34 (by omega) (by decide) ?_
      refine ax_bipush dX12_at_101 (by decide) (pc' := 103) rfl ?_
      refine ax_iret dX12_at_103 rfl ?_
      refine ⟨rfl, ?_, ?_⟩
      · refine congrArg (fun z => some (Sum.inl z)) ?_
        unfold F_at
        repeat' split
        all_goals first | rfl | omega | (exfalso; omega)
      · intro x0 i0 hai
        exact rfl
  · replace h6 := f_b_0 h6
    refine ax_bipush dX12_at_9 (by decide) (pc' := 11) rfl ?_
    refine ax_iret dX12_at_11 rfl ?_
    refine ⟨rfl, ?_, ?_⟩
    · refine congrArg (fun z => some (Sum.inl z)) ?_
      unfold F_at
      repeat' split
      all_goals first | rfl | omega | (exfalso; omega)
    · intro x0 i0 hai
      exact rfl
set_option maxRecDepth 20000 in
theorem s_X12_habit (E : ax_Env) (l : Launch) (d : Nat) (hd : 4 ≤ d) (M : ax_Mem) (r p k what : Int) (Ls : Int → List f_Ln) {w : Int → Int} (hw : M 331 = w) {pl : Int → Int} (hpl : M 340 = pl) {F : Int → Int} (hF : M 341 = F) (hg0 : f_iv w) (hg1 : f_lw Ls w) : ax_G E l d iX12_habit [.inr 330, .inl r, .inl p, .inl k, .inl what] M (fun z0 M2 => z0 = some (.inl (F_habit Ls w r p k what)) ∧ (∀ x0 i0 : Int, ¬ (x0 = 340 ∨ x0 = 341) → M2 x0 i0 = M x0 i0)) := by
  obtain ⟨d, rfl⟩ : ∃ d0, d = d0 + 1 := ⟨d - 1, by omega⟩
  refine ax_start rfl (Nat.le_of_ble_eq_true rfl) (ls := [some (.inr 330), some (.inl r), some (.inl p), some (.inl k), some (.inl what), none]) rfl (fun hav hcm => ?_)
  have hc1 : -2147483648 ≤ r ∧ r < 2147483648 := hav (.inl r) (by simp)
  have hc2 : -2147483648 ≤ p ∧ p < 2147483648 := hav (.inl p) (by simp)
  have hc3 : -2147483648 ≤ k ∧ k < 2147483648 := hav (.inl k) (by simp)
  have hc4 : -2147483648 ≤ what ∧ what < 2147483648 := hav (.inl what) (by simp)
  clear hav
  have qa1 := hg0.1
  refine ax_aload_n dX12_habit_0 rfl rfl (pc' := 1) rfl ?_
  refine ax_iload_n dX12_habit_1 rfl rfl (pc' := 2) rfl ?_
  refine ax_iload_n dX12_habit_2 rfl rfl (pc' := 3) rfl ?_
  refine ax_invG [.inl r, .inl p] [] dX12_habit_3 mlX12_367 sh_330 rfl rfl rfl (Nat.le_of_ble_eq_true rfl) (s_X12_isPlace E l _ (by omega) _ r p hw (by first | omega | assumption)) (pc' := 6) rfl (fun vv M_3 hq co3 hcm3 => ?_)
  obtain ⟨rfl, rfl⟩ := hq
  refine ax_reS (st2 := [.inl (f_b (f_isP w r p))]) rfl ?_
  refine ax_if_eq (tgt := 26) dX12_habit_6 (by decide) (pc' := 9) rfl (fun h6 => ?_) (fun h6 => ?_)
  · replace h6 := f_b_0 h6
    refine ax_bipush dX12_habit_26 (by decide) (pc' := 28) rfl ?_
    refine ax_iret dX12_habit_28 rfl ?_
    refine ⟨rfl, ?_, ?_⟩
    · refine congrArg (fun z => some (Sum.inl z)) ?_
      unfold F_habit
      repeat' split
      all_goals first | rfl | omega | (exfalso; omega)
    · intro x0 i0 hai
      exact rfl
  · replace h6 := f_b_1 h6
    have qa2 := hg0.1 r (by omega) (by omega)
    refine ax_iload_n dX12_habit_9 rfl rfl (pc' := 10) rfl ?_
    refine ax_insG [.inl k] [] dX12_habit_10 mlX12_117 rfl rfl (Nat.le_of_ble_eq_true rfl) (s_X12_isKnot E l _ (by omega) _ k) (pc' := 13) rfl (fun vv M_10 hq co10 hcm10 => ?_)
    obtain ⟨rfl, rfl⟩ := hq
    refine ax_reS (st2 := [.inl (f_b (0 ≤ k ∧ k ≤ 5))]) rfl ?_
    refine ax_if_eq (tgt := 26) dX12_habit_13 (by decide) (pc' := 16) rfl (fun h13 => ?_) (fun h13 => ?_)
    · replace h13 := f_b_0 h13
      refine ax_bipush dX12_habit_26 (by decide) (pc' := 28) rfl ?_
      refine ax_iret dX12_habit_28 rfl ?_
      refine ⟨rfl, ?_, ?_⟩
      · refine congrArg (fun z => some (Sum.inl z)) ?_
        unfold F_habit
        repeat' split
        all_goals first | rfl | omega | (exfalso; omega)
      · intro x0 i0 hai
        exact rfl
    · replace h13 := f_b_1 h13
      refine ax_iload dX12_habit_16 rfl (pc' := 18) rfl ?_
      refine ax_iconst dX12_habit_18 (by decide) (pc' := 19) rfl ?_
      refine ax_iconst dX12_habit_19 (by decide) (pc' := 20) rfl ?_
      refine ax_insG [.inl what, .inl 0, .inl 2] [] dX12_habit_20 mlX12_74 rfl rfl (Nat.le_of_ble_eq_true rfl) (s_X12_isIn E l _ (by omega) _ what 0 2) (pc' := 23) rfl (fun vv M_20 hq co20 hcm20 => ?_)
      obtain ⟨rfl, rfl⟩ := hq
      refine ax_reS (st2 := [.inl (f_b (0 ≤ what ∧ what ≤ 2))]) rfl ?_
      refine ax_if_ne (tgt := 29) dX12_habit_23 (by decide) (pc' := 26) rfl (fun h23 => ?_) (fun h23 => ?_)
      · replace h23 := f_b_1 h23
        refine ax_aload_n dX12_habit_29 rfl rfl (pc' := 30) rfl ?_
        refine ax_iload_n dX12_habit_30 rfl rfl (pc' := 31) rfl ?_
        refine ax_iload_n dX12_habit_31 rfl rfl (pc' := 32) rfl ?_
        refine ax_iload_n dX12_habit_32 rfl rfl (pc' := 33) rfl ?_
        refine ax_invG [.inl r, .inl p, .inl k] [] dX12_habit_33 mlX12_354 sh_330 rfl rfl rfl (Nat.le_of_ble_eq_true rfl) (s_X12_habitOf E l _ (by omega) _ r p k hw (by first | omega | assumption) (by first | omega | assumption) (by first | omega | assumption)) (pc' := 36) rfl (fun vv M_33 hq co33 hcm33 => ?_)
        obtain ⟨rfl, rfl⟩ := hq
        refine ax_reS (st2 := [.inl (f_P w r p (1 + k))]) rfl ?_
        have cc33 : -2147483648 ≤ f_P w r p (1 + k) ∧ f_P w r p (1 + k) < 2147483648 := co33 _ rfl
        refine ax_istore dX12_habit_36 (by decide) (ls' := [some (.inr 330), some (.inl r), some (.inl p), some (.inl k), some (.inl what), some (.inl (f_P w r p (1 + k)))]) rfl (pc' := 38) rfl ?_
        refine ax_iload dX12_habit_38 rfl (pc' := 40) rfl ?_
        refine ax_if_ne (tgt := 46) dX12_habit_40 (by decide) (pc' := 43) rfl (fun h40 => ?_) (fun h40 => ?_)
        · refine ax_iload dX12_habit_46 rfl (pc' := 48) rfl ?_
          refine ax_if_ne (tgt := 63) dX12_habit_48 (by decide) (pc' := 51) rfl (fun h48 => ?_) (fun h48 => ?_)
          · refine ax_iload dX12_habit_63 rfl (pc' := 65) rfl ?_
            refine ax_iconst dX12_habit_65 (by decide) (pc' := 66) rfl ?_
            refine ax_icmp_ne (tgt := 82) dX12_habit_66 (by decide) (pc' := 69) rfl (fun h66 => ?_) (fun h66 => ?_)
            · refine ax_aload_n dX12_habit_82 rfl rfl (pc' := 83) rfl ?_
              refine ax_iload_n dX12_habit_83 rfl rfl (pc' := 84) rfl ?_
              refine ax_iload_n dX12_habit_84 rfl rfl (pc' := 85) rfl ?_
              refine ax_iload_n dX12_habit_85 rfl rfl (pc' := 86) rfl ?_
              refine ax_invG [.inl r, .inl p, .inl k] [] dX12_habit_86 mlX12_435 sh_330 rfl rfl rfl (Nat.le_of_ble_eq_true rfl) (s_X12_lossOf E l _ (by omega) _ r p k Ls hw hpl hF (by first | omega | assumption) (by first | omega | assumption) (by first | omega | assumption) (by first | omega | assumption) (by first | omega | assumption)) (pc' := 89) rfl (fun vv M_86 hq co86 hcm86 => ?_)
              obtain ⟨rfl, frM_86⟩ := hq
              refine ax_reS (st2 := [.inl (f_loss Ls w r p k)]) rfl ?_
              have cc86 : -2147483648 ≤ f_loss Ls w r p k ∧ f_loss Ls w r p k < 2147483648 := co86 _ rfl
              refine ax_iret dX12_habit_89 rfl ?_
              refine ⟨rfl, ?_, ?_⟩
              · refine congrArg (fun z => some (Sum.inl z)) ?_
                unfold F_habit
                repeat' split
                all_goals first | rfl | omega | (exfalso; omega)
              · intro x0 i0 hai
                exact ((frM_86 x0 i0 (by omega)).trans rfl)
            · refine ax_aload_n dX12_habit_69 rfl rfl (pc' := 70) rfl ?_
              refine ax_iload_n dX12_habit_70 rfl rfl (pc' := 71) rfl ?_
              refine ax_iload_n dX12_habit_71 rfl rfl (pc' := 72) rfl ?_
              refine ax_bipush dX12_habit_72 (by decide) (pc' := 74) rfl ?_
              refine ax_iload_n dX12_habit_74 rfl rfl (pc' := 75) rfl ?_
              refine ax_iadd dX12_habit_75 (by omega) (pc' := 76) rfl ?_
              refine ax_invG [.inl r, .inl p, .inl (7 + k)] [] dX12_habit_76 mlX12_86 sh_330 rfl rfl rfl (Nat.le_of_ble_eq_true rfl) (s_X12_ofPlace E l _ (by omega) _ r p (7 + k) hw (by first | omega | assumption) (by first | omega | assumption) (by first | omega | assumption)) (pc' := 79) rfl (fun vv M_76 hq co76 hcm76 => ?_)
              obtain ⟨rfl, rfl⟩ := hq
              refine ax_reS (st2 := [.inl (f_P w r p (7 + k))]) rfl ?_
              have cc76 : -2147483648 ≤ f_P w r p (7 + k) ∧ f_P w r p (7 + k) < 2147483648 := co76 _ rfl
              refine ax_goto dX12_habit_79 (pc' := 89) (by decide) ?_
              refine ax_iret dX12_habit_89 rfl ?_
              refine ⟨rfl, ?_, ?_⟩
              · refine congrArg (fun z => some (Sum.inl z)) ?_
                unfold F_habit
                repeat' split
                all_goals first | rfl | omega | (exfalso; omega)
              · intro x0 i0 hai
                exact rfl
          · refine ax_iload dX12_habit_51 rfl (pc' := 53) rfl ?_
            refine ax_iconst dX12_habit_53 (by decide) (pc' := 54) rfl ?_
            refine ax_icmp_ne (tgt := 61) dX12_habit_54 (by decide) (pc' := 57) rfl (fun h54 => ?_) (fun h54 => ?_)
            · refine ax_iconst dX12_habit_61 (by decide) (pc' := 62) rfl ?_
              refine ax_iret dX12_habit_62 rfl ?_
              refine ⟨rfl, ?_, ?_⟩
              · refine congrArg (fun z => some (Sum.inl z)) ?_
                unfold F_habit
                repeat' split
                all_goals first | rfl | omega | (exfalso; omega)
              · intro x0 i0 hai
                exact rfl
            · refine ax_iconst dX12_habit_57 (by decide) (pc' := 58) rfl ?_
              refine ax_goto dX12_habit_58 (pc' := 62) (by decide) ?_
              refine ax_iret dX12_habit_62 rfl ?_
              refine ⟨rfl, ?_, ?_⟩
              · refine congrArg (fun z => some (Sum.inl z)) ?_
                unfold F_habit
                repeat' split
                all_goals first | rfl | omega | (exfalso; omega)
              · intro x0 i0 hai
                exact rfl
        · refine ax_iload dX12_habit_43 rfl (pc' := 45) rfl ?_
          refine ax_iret dX12_habit_45 rfl ?_
          refine ⟨rfl, ?_, ?_⟩
          · refine congrArg (fun z => some (Sum.inl z)) ?_
            unfold F_habit
            repeat' split
            all_goals first | rfl | omega | (exfalso; omega)
          · intro x0 i0 hai
            exact rfl
      · replace h23 := f_b_0 h23
        refine ax_bipush dX12_habit_26 (by decide) (pc' := 28) rfl ?_
        refine ax_iret dX12_habit_28 rfl ?_
        refine ⟨rfl, ?_, ?_⟩
        · refine congrArg (fun z => some (Sum.inl z)) ?_
          unfold F_habit
          repeat' split
          all_goals first | rfl | omega | (exfalso; omega)
        · intro x0 i0 hai
          exact rfl
set_option maxRecDepth 20000 in
theorem s_X12_weak (E : ax_Env) (l : Launch) (d : Nat) (hd : 5 ≤ d) (M : ax_Mem) (r what : Int) (Ls : Int → List f_Ln) {w : Int → Int} (hw : M 331 = w) {pl : Int → Int} (hpl : M 340 = pl) {F : Int → Int} (hF : M 341 = F) (hg0 : f_iv w) (hg1 : f_lw Ls w) : ax_G E l d iX12_weak [.inr 330, .inl r, .inl what] M (fun z0 M2 => z0 = some (.inl (F_weak Ls w r what)) ∧ (∀ x0 i0 : Int, ¬ (x0 = 340 ∨ x0 = 341) → M2 x0 i0 = M x0 i0)) := by
  obtain ⟨d, rfl⟩ : ∃ d0, d = d0 + 1 := ⟨d - 1, by omega⟩
  refine ax_start rfl (Nat.le_of_ble_eq_true rfl) (ls := [some (.inr 330), some (.inl r), some (.inl what), none]) rfl (fun hav hcm => ?_)
  have hc1 : -2147483648 ≤ r ∧ r < 2147483648 := hav (.inl r) (by simp)
  have hc2 : -2147483648 ≤ what ∧ what < 2147483648 := hav (.inl what) (by simp)
  clear hav
  refine ax_aload_n dX12_weak_0 rfl rfl (pc' := 1) rfl ?_
  refine ax_iload_n dX12_weak_1 rfl rfl (pc' := 2) rfl ?_
  refine ax_invG [.inl r] [] dX12_weak_2 mlX12_82 sh_330 rfl rfl rfl (Nat.le_of_ble_eq_true rfl) (s_X12_isRope E l _ (by omega) _ r hw) (pc' := 5) rfl (fun vv M_2 hq co2 hcm2 => ?_)
  obtain ⟨rfl, rfl⟩ := hq
  refine ax_reS (st2 := [.inl (f_b (f_isR w r))]) rfl ?_
  refine ax_if_eq (tgt := 17) dX12_weak_5 (by decide) (pc' := 8) rfl (fun h5 => ?_) (fun h5 => ?_)
  · replace h5 := f_b_0 h5
    refine ax_iconst dX12_weak_17 (by decide) (pc' := 18) rfl ?_
    refine ax_iret dX12_weak_18 rfl ?_
    refine ⟨rfl, ?_, ?_⟩
    · refine congrArg (fun z => some (Sum.inl z)) ?_
      unfold F_weak
      repeat' split
      all_goals first | rfl | omega | (exfalso; omega)
    · intro x0 i0 hai
      exact rfl
  · replace h5 := f_b_1 h5
    refine ax_iload_n dX12_weak_8 rfl rfl (pc' := 9) rfl ?_
    refine ax_iconst dX12_weak_9 (by decide) (pc' := 10) rfl ?_
    refine ax_iconst dX12_weak_10 (by decide) (pc' := 11) rfl ?_
    refine ax_insG [.inl what, .inl 0, .inl 1] [] dX12_weak_11 mlX12_74 rfl rfl (Nat.le_of_ble_eq_true rfl) (s_X12_isIn E l _ (by omega) _ what 0 1) (pc' := 14) rfl (fun vv M_11 hq co11 hcm11 => ?_)
    obtain ⟨rfl, rfl⟩ := hq
    refine ax_reS (st2 := [.inl (f_b (0 ≤ what ∧ what ≤ 1))]) rfl ?_
    refine ax_if_ne (tgt := 19) dX12_weak_14 (by decide) (pc' := 17) rfl (fun h14 => ?_) (fun h14 => ?_)
    · replace h14 := f_b_1 h14
      have qa2 := hg0.1 r (by omega) (by omega)
      have qa3 := f_wk_rg (Ls := Ls) (w := w) (r := r)
      refine ax_aload_n dX12_weak_19 rfl rfl (pc' := 20) rfl ?_
      refine ax_iload_n dX12_weak_20 rfl rfl (pc' := 21) rfl ?_
      refine ax_invG [.inl r] [] dX12_weak_21 mlX12_423 sh_330 rfl rfl rfl (Nat.le_of_ble_eq_true rfl) (s_X12_weakest E l _ (by omega) _ r Ls hw hpl hF (by first | omega | assumption) (by first | omega | assumption) (by first | omega | assumption)) (pc' := 24) rfl (fun vv M_21 hq co21 hcm21 => ?_)
      obtain ⟨rfl, frM_21⟩ := hq
      refine ax_reS (st2 := [.inl (f_wk Ls w r)]) rfl ?_
      have cc21 : -2147483648 ≤ f_wk Ls w r ∧ f_wk Ls w r < 2147483648 := co21 _ rfl
      refine ax_istore_n dX12_weak_24 rfl (by decide) (ls' := [some (.inr 330), some (.inl r), some (.inl what), some (.inl (f_wk Ls w r))]) rfl (pc' := 25) rfl ?_
      refine ax_iload_n dX12_weak_25 rfl rfl (pc' := 26) rfl ?_
      refine ax_if_ne (tgt := 38) dX12_weak_26 (by decide) (pc' := 29) rfl (fun h26 => ?_) (fun h26 => ?_)
      · refine ax_iload_n dX12_weak_38 rfl rfl (pc' := 39) rfl ?_
        refine ax_iret dX12_weak_39 rfl ?_
        refine ⟨rfl, ?_, ?_⟩
        · refine congrArg (fun z => some (Sum.inl z)) ?_
          unfold F_weak
          repeat' split
          all_goals first | rfl | omega | (exfalso; omega)
        · intro x0 i0 hai
          exact ((frM_21 x0 i0 (by omega)).trans rfl)
      · refine ax_aload_n dX12_weak_29 rfl rfl (pc' := 30) rfl ?_
        refine ax_iload_n dX12_weak_30 rfl rfl (pc' := 31) rfl ?_
        refine ax_iload_n dX12_weak_31 rfl rfl (pc' := 32) rfl ?_
        refine ax_invG [.inl r, .inl (f_wk Ls w r)] [] dX12_weak_32 mlX12_364 sh_330 rfl rfl rfl (Nat.le_of_ble_eq_true rfl) (s_X12_strength E l _ (by omega) _ r (f_wk Ls w r) Ls ((funext fun i0 => frM_21 331 i0 (by omega)).trans hw) rfl rfl (by first | omega | assumption) (by first | omega | assumption) (by first | omega | assumption) (by first | omega | assumption)) (pc' := 35) rfl (fun vv M_32 hq co32 hcm32 => ?_)
        obtain ⟨rfl, frM_32⟩ := hq
        refine ax_reS (st2 := [.inl (f_str Ls w r (f_wk Ls w r))]) rfl ?_
        have cc32 : -2147483648 ≤ f_str Ls w r (f_wk Ls w r) ∧ f_str Ls w r (f_wk Ls w r) < 2147483648 := co32 _ rfl
        refine ax_goto dX12_weak_35 (pc' := 39) (by decide) ?_
        refine ax_iret dX12_weak_39 rfl ?_
        refine ⟨rfl, ?_, ?_⟩
        · refine congrArg (fun z => some (Sum.inl z)) ?_
          unfold F_weak
          repeat' split
          all_goals first | rfl | omega | (exfalso; omega)
        · intro x0 i0 hai
          exact ((frM_32 x0 i0 (by omega)).trans ((frM_21 x0 i0 (by omega)).trans rfl))
    · replace h14 := f_b_0 h14
      refine ax_iconst dX12_weak_17 (by decide) (pc' := 18) rfl ?_
      refine ax_iret dX12_weak_18 rfl ?_
      refine ⟨rfl, ?_, ?_⟩
      · refine congrArg (fun z => some (Sum.inl z)) ?_
        unfold F_weak
        repeat' split
        all_goals first | rfl | omega | (exfalso; omega)
      · intro x0 i0 hai
        exact rfl
set_option maxRecDepth 20000 in
theorem s_X12_ladder (E : ax_Env) (l : Launch) (d : Nat) (hd : 6 ≤ d) (M : ax_Mem) (n : Int) (Ls : Int → List f_Ln) {w : Int → Int} (hw : M 331 = w) {pl : Int → Int} (hpl : M 340 = pl) {F : Int → Int} (hF : M 341 = F) (hg0 : f_iv w) (hg1 : f_lw Ls w) : ax_G E l d iX12_ladder [.inr 330, .inl n] M (fun z0 M2 => z0 = some (.inl (F_ladder Ls w n)) ∧ (∀ x0 i0 : Int, ¬ (x0 = 340 ∨ x0 = 341) → M2 x0 i0 = M x0 i0)) := by
  obtain ⟨d, rfl⟩ : ∃ d0, d = d0 + 1 := ⟨d - 1, by omega⟩
  refine ax_start rfl (Nat.le_of_ble_eq_true rfl) (ls := [some (.inr 330), some (.inl n), none, none]) rfl (fun hav hcm => ?_)
  have hc1 : -2147483648 ≤ n ∧ n < 2147483648 := hav (.inl n) (by simp)
  clear hav
  refine ax_iconst dX12_ladder_0 (by decide) (pc' := 1) rfl ?_
  refine ax_istore_n dX12_ladder_1 rfl (by decide) (ls' := [some (.inr 330), some (.inl n), some (.inl (-1)), none]) rfl (pc' := 2) rfl ?_
  refine ax_iconst dX12_ladder_2 (by decide) (pc' := 3) rfl ?_
  refine ax_istore_n dX12_ladder_3 rfl (by decide) (ls' := [some (.inr 330), some (.inl n), some (.inl (-1)), some (.inl 0)]) rfl (pc' := 4) rfl ?_
  have LP1 : ∀ (kq2 : Nat) (r b : Int) (M1 : ax_Mem) (hm1 : 8 - r < (kq2 : Nat)) (fr1 : ∀ x0 i0 : Int, ¬ (x0 = 340 ∨ x0 = 341) → M1 x0 i0 = M x0 i0) (iv1_0 : 0 ≤ r ∧ r ≤ 8) (iv1_1 : f_loop (f_ldS Ls w n) r 8 b = F_ladder Ls w n) (iv1_2 : b = -1 ∨ 0 ≤ b ∧ b < 8), ax_W E l (d + 1) 0 0 iX12_ladder 4 [some (.inr 330), some (.inl n), some (.inl b), some (.inl r)] [] SH M1 (ax_P (fun z0 M2 => z0 = some (.inl (F_ladder Ls w n)) ∧ (∀ x0 i0 : Int, ¬ (x0 = 340 ∨ x0 = 341) → M2 x0 i0 = M x0 i0))) := by
    intro kq2
    induction kq2 with
    | zero =>
      intro r b M1 hm1 fr1 iv1_0 iv1_1 iv1_2
      exfalso
      omega
    | succ kq2 ih3 =>
      intro r b M1 hm1 fr1 iv1_0 iv1_1 iv1_2
      refine ax_iload_n dX12_ladder_4 rfl rfl (pc' := 5) rfl ?_
      refine ax_bipush dX12_ladder_5 (by decide) (pc' := 7) rfl ?_
      refine ax_icmp_ge (tgt := 56) dX12_ladder_7 (by decide) (pc' := 10) rfl (fun h7 => ?_) (fun h7 => ?_)
      · refine ax_iload_n dX12_ladder_56 rfl rfl (pc' := 57) rfl ?_
        refine ax_iret dX12_ladder_57 rfl ?_
        refine ⟨rfl, ?_, ?_⟩
        · refine congrArg (fun z => some (Sum.inl z)) ?_
          exact (f_loop_done (by omega)).symm.trans iv1_1
        · intro x0 i0 hai
          exact ((fr1 x0 i0 (by omega)).trans rfl)
      · refine ax_aload_n dX12_ladder_10 rfl rfl (pc' := 11) rfl ?_
        refine ax_iload_n dX12_ladder_11 rfl rfl (pc' := 12) rfl ?_
        refine ax_invG [.inl r] [] dX12_ladder_12 mlX12_82 sh_330 rfl rfl rfl (Nat.le_of_ble_eq_true rfl) (s_X12_isRope E l _ (by omega) _ r ((funext fun i0 => fr1 331 i0 (by omega)).trans hw)) (pc' := 15) rfl (fun vv M_12 hq co12 hcm12 => ?_)
        obtain ⟨rfl, rfl⟩ := hq
        refine ax_reS (st2 := [.inl (f_b (f_isR w r))]) rfl ?_
        refine ax_if_eq (tgt := 50) dX12_ladder_15 (by decide) (pc' := 18) rfl (fun h15 => ?_) (fun h15 => ?_)
        · replace h15 := f_b_0 h15
          refine ax_iinc dX12_ladder_50 rfl (by decide) (by omega) (ls' := [some (.inr 330), some (.inl n), some (.inl b), some (.inl (r + 1))]) rfl (pc' := 53) rfl ?_
          refine ax_goto dX12_ladder_53 (pc' := 4) (by decide) ?_
          refine ih3 (r + 1) b M1 ?_ ?_ ?_ ?_ ?_
          · omega
          · intro x0 i0 hai
            exact ((fr1 x0 i0 (by omega)).trans rfl)
          · omega
          · refine f_loop_back (by omega) iv1_1 ?_
            unfold f_ldS
            first | rw [if_pos ⟨by omega, by omega, by omega⟩] | rw [if_neg (by omega)]
          · omega
        · replace h15 := f_b_1 h15
          refine ax_aload_n dX12_ladder_18 rfl rfl (pc' := 19) rfl ?_
          refine ax_iload_n dX12_ladder_19 rfl rfl (pc' := 20) rfl ?_
          refine ax_iconst dX12_ladder_20 (by decide) (pc' := 21) rfl ?_
          refine ax_invG [.inl r, .inl 1] [] dX12_ladder_21 mlX12_78 sh_330 rfl rfl rfl (Nat.le_of_ble_eq_true rfl) (s_X12_ofRope E l _ (by omega) _ r 1 ((funext fun i0 => fr1 331 i0 (by omega)).trans hw) (by first | omega | assumption) (by first | omega | assumption)) (pc' := 24) rfl (fun vv M_21 hq co21 hcm21 => ?_)
          obtain ⟨rfl, rfl⟩ := hq
          refine ax_reS (st2 := [.inl (f_R w r 1)]) rfl ?_
          have cc21 : -2147483648 ≤ f_R w r 1 ∧ f_R w r 1 < 2147483648 := co21 _ rfl
          refine ax_iload_n dX12_ladder_24 rfl rfl (pc' := 25) rfl ?_
          refine ax_icmp_lt (tgt := 50) dX12_ladder_25 (by decide) (pc' := 28) rfl (fun h25 => ?_) (fun h25 => ?_)
          · refine ax_iinc dX12_ladder_50 rfl (by decide) (by omega) (ls' := [some (.inr 330), some (.inl n), some (.inl b), some (.inl (r + 1))]) rfl (pc' := 53) rfl ?_
            refine ax_goto dX12_ladder_53 (pc' := 4) (by decide) ?_
            refine ih3 (r + 1) b M1 ?_ ?_ ?_ ?_ ?_
            · omega
            · intro x0 i0 hai
              exact ((fr1 x0 i0 (by omega)).trans rfl)
            · omega
            · refine f_loop_back (by omega) iv1_1 ?_
              unfold f_ldS
              first | rw [if_pos ⟨by omega, by omega, by omega⟩] | rw [if_neg (by omega)]
            · omega
          · refine ax_iload_n dX12_ladder_28 rfl rfl (pc' := 29) rfl ?_
            refine ax_iconst dX12_ladder_29 (by decide) (pc' := 30) rfl ?_
            refine ax_icmp_eq (tgt := 48) dX12_ladder_30 (by decide) (pc' := 33) rfl (fun h30 => ?_) (fun h30 => ?_)
            · refine ax_iload_n dX12_ladder_48 rfl rfl (pc' := 49) rfl ?_
              refine ax_istore_n dX12_ladder_49 rfl (by decide) (ls' := [some (.inr 330), some (.inl n), some (.inl r), some (.inl r)]) rfl (pc' := 50) rfl ?_
              refine ax_iinc dX12_ladder_50 rfl (by decide) (by omega) (ls' := [some (.inr 330), some (.inl n), some (.inl r), some (.inl (r + 1))]) rfl (pc' := 53) rfl ?_
              refine ax_goto dX12_ladder_53 (pc' := 4) (by decide) ?_
              refine ih3 (r + 1) r M1 ?_ ?_ ?_ ?_ ?_
              · omega
              · intro x0 i0 hai
                exact ((fr1 x0 i0 (by omega)).trans rfl)
              · omega
              · refine f_loop_back (by omega) iv1_1 ?_
                unfold f_ldS
                first | rw [if_pos ⟨by omega, by omega, by omega⟩] | rw [if_neg (by omega)]
              · omega
            · refine ax_aload_n dX12_ladder_33 rfl rfl (pc' := 34) rfl ?_
              refine ax_iload_n dX12_ladder_34 rfl rfl (pc' := 35) rfl ?_
              refine ax_iconst dX12_ladder_35 (by decide) (pc' := 36) rfl ?_
              refine ax_invG [.inl r, .inl 0] [] dX12_ladder_36 mlX12_476 sh_330 rfl rfl rfl (Nat.le_of_ble_eq_true rfl) (s_X12_weak E l _ (by omega) _ r 0 Ls ((funext fun i0 => fr1 331 i0 (by omega)).trans hw) rfl rfl (by first | omega | assumption) (by first | omega | assumption)) (pc' := 39) rfl (fun vv M_36 hq co36 hcm36 => ?_)
              obtain ⟨rfl, frM_36⟩ := hq
              refine ax_reS (st2 := [.inl (F_weak Ls w r 0)]) rfl ?_
              have cc36 : -2147483648 ≤ F_weak Ls w r 0 ∧ F_weak Ls w r 0 < 2147483648 := co36 _ rfl
              refine ax_aload_n dX12_ladder_39 rfl rfl (pc' := 40) rfl ?_
              refine ax_iload_n dX12_ladder_40 rfl rfl (pc' := 41) rfl ?_
              refine ax_iconst dX12_ladder_41 (by decide) (pc' := 42) rfl ?_
              refine ax_invG [.inl b, .inl 0] [.inl (F_weak Ls w r 0)] dX12_ladder_42 mlX12_476 sh_330 rfl rfl rfl (Nat.le_of_ble_eq_true rfl) (s_X12_weak E l _ (by omega) _ b 0 Ls ((funext fun i0 => frM_36 331 i0 (by omega)).trans ((funext fun i0 => fr1 331 i0 (by omega)).trans hw)) rfl rfl (by first | omega | assumption) (by first | omega | assumption)) (pc' := 45) rfl (fun vv M_42 hq co42 hcm42 => ?_)
              obtain ⟨rfl, frM_42⟩ := hq
              refine ax_reS (st2 := [.inl (F_weak Ls w b 0), .inl (F_weak Ls w r 0)]) rfl ?_
              have cc42 : -2147483648 ≤ F_weak Ls w b 0 ∧ F_weak Ls w b 0 < 2147483648 := co42 _ rfl
              refine ax_icmp_le (tgt := 50) dX12_ladder_45 (by decide) (pc' := 48) rfl (fun h45 => ?_) (fun h45 => ?_)
              · refine ax_iinc dX12_ladder_50 rfl (by decide) (by omega) (ls' := [some (.inr 330), some (.inl n), some (.inl b), some (.inl (r + 1))]) rfl (pc' := 53) rfl ?_
                refine ax_goto dX12_ladder_53 (pc' := 4) (by decide) ?_
                refine ih3 (r + 1) b M_42 ?_ ?_ ?_ ?_ ?_
                · omega
                · intro x0 i0 hai
                  exact ((frM_42 x0 i0 (by omega)).trans ((frM_36 x0 i0 (by omega)).trans ((fr1 x0 i0 (by omega)).trans rfl)))
                · omega
                · refine f_loop_back (by omega) iv1_1 ?_
                  unfold f_ldS
                  first | rw [if_pos ⟨by omega, by omega, by omega⟩] | rw [if_neg (by omega)]
                · omega
              · refine ax_iload_n dX12_ladder_48 rfl rfl (pc' := 49) rfl ?_
                refine ax_istore_n dX12_ladder_49 rfl (by decide) (ls' := [some (.inr 330), some (.inl n), some (.inl r), some (.inl r)]) rfl (pc' := 50) rfl ?_
                refine ax_iinc dX12_ladder_50 rfl (by decide) (by omega) (ls' := [some (.inr 330), some (.inl n), some (.inl r), some (.inl (r + 1))]) rfl (pc' := 53) rfl ?_
                refine ax_goto dX12_ladder_53 (pc' := 4) (by decide) ?_
                refine ih3 (r + 1) r M_42 ?_ ?_ ?_ ?_ ?_
                · omega
                · intro x0 i0 hai
                  exact ((frM_42 x0 i0 (by omega)).trans ((frM_36 x0 i0 (by omega)).trans ((fr1 x0 i0 (by omega)).trans rfl)))
                · omega
                · refine f_loop_back (by omega) iv1_1 ?_
                  unfold f_ldS
                  first | rw [if_pos ⟨by omega, by omega, by omega⟩] | rw [if_neg (by omega)]
                · omega
  refine LP1 (8 - 0 : Int).toNat.succ 0 (-1) M ?_ ?_ ?_ ?_ ?_
  · omega
  · exact fun a i _ => rfl
  · omega
  · rfl
  · omega
