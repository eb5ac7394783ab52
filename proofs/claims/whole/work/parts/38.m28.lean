/-! lines, laws -/
abbrev f_Rl : Type := (Int × Int) ⊕ (List f_Tk × f_Ln)
abbrev f_Rw : Type := (Int × Int) ⊕ List f_Ln
def f_lnE (o a : List f_Op) (r : f_Rs) : f_Rl := match r with
  | .inl e => .inl e
  | .inr (L, _) => .inr (L, (o, a))
def f_ln3 (o : List f_Op) (r : f_Rs) : f_Rl := match r with
  | .inl e => .inl e
  | .inr (L, a) => f_lnE o a (f_ned 159 L)
def f_ln2 (r : f_Rs) : f_Rl := match r with
  | .inl e => .inl e
  | .inr (L, o) => if f_T L = 3 then f_ln3 o (f_any (f_one 8) L.tail) else f_lnE o [] (f_ned 159 L)
def f_line (n : Int) (L : List f_Tk) : f_Rl := if f_T L ≠ 7 then .inl (1, f_S L) else if n = 16 then .inl (3, f_S L) else f_ln2 (f_sumU L.tail)
def f_lpre (ln : f_Ln) (r : f_Rw) : f_Rw := match r with
  | .inl e => .inl e
  | .inr ls => .inr (ln :: ls)
def f_lseq (r : f_Rl) (k : List f_Tk → f_Rw) : f_Rw := match r with
  | .inl e => .inl e
  | .inr (L, ln) => f_lpre ln (k L)
def f_law : Nat → Int → List f_Tk → f_Rw
  | 0, _, _ => .inr []
  | g + 1, n, L => if f_T L = 0 then .inr [] else f_lseq (f_line n L) (f_law g (n + 1))
def f_laws (L : List f_Tk) : f_Rw := f_law (L.length + 1) 0 L
def f_rlb (r : f_Rl) : Int := match r with
  | .inl _ => 0
  | .inr _ => 1
def f_rwb (r : f_Rw) : Int := match r with
  | .inl _ => 0
  | .inr _ => 1
theorem f_rlb_ok {r : f_Rl} (h : f_rlb r ≠ 0) : ∃ L o, r = .inr (L, o) := by
  match r, h with
  | .inl e, h => exact absurd rfl h
  | .inr (L, o), h => exact ⟨L, o, rfl⟩
theorem f_rlb_no {r : f_Rl} (h : f_rlb r = 0) : ∃ k s, r = .inl (k, s) := by
  match r, h with
  | .inl (k, s), h => exact ⟨k, s, rfl⟩
/-- what a line leaves, and of what kinds it is -/
theorem f_line_gd {n : Int} {L L2 : List f_Tk} {ln : f_Ln} (h : f_line n L = .inr (L2, ln)) : (f_wt ln.1 + f_wt ln.2 + 2 + L2.length ≤ L.length ∧ ∀ t ∈ L2, t ∈ L) ∧ n ≠ 16 ∧ (∀ rd, (∀ x ∈ L, f_tkr rd x) → f_gl rd ln) := by
  unfold f_line at h
  split at h
  · cases h
  · rename_i h7
    split at h
    · cases h
    · rename_i h16
      have hl := f_tail_len (L := L) (by omega)
      match e : f_sumU L.tail, h with
      | .inl x, h => cases h
      | .inr (L3, o), h =>
        have g1 := f_sumU_gd L.tail L3 o e
        have h2 : (if f_T L3 = 3 then f_ln3 o (f_any (f_one 8) L3.tail) else f_lnE o [] (f_ned 159 L3)) = .inr (L2, ln) := h
        split at h2
        · rename_i h3
          have hl3 := f_tail_len (L := L3) (by omega)
          match e4 : f_any (f_one 8) L3.tail, h2 with
          | .inl x, h2 => cases h2
          | .inr (L4, a), h2 =>
            have g2 := f_any_gd (f_one_gd 8) L3.tail L4 a e4
            match e5 : f_ned 159 L4, h2 with
            | .inl x, h2 =>
              have h6 : f_lnE o a (f_ned 159 L4) = .inr (L2, ln) := h2
              rw [e5] at h6; cases h6
            | .inr (L5, z), h2 =>
              have h6 : f_lnE o a (f_ned 159 L4) = .inr (L2, ln) := h2
              rw [e5] at h6
              cases h6
              have g3 : L2.length + 1 ≤ L4.length ∧ ∀ t ∈ L2, t ∈ L4 := by
                unfold f_ned at e5
                split at e5
                · cases e5
                  have := f_tail_len (L := L4) (by omega)
                  exact ⟨by omega, f_tail_in⟩
                · cases e5
              refine ⟨⟨?_, fun t ht => f_tail_in t (g1.2.2 t (f_tail_in t (g2.2.2 t (g3.2 t ht))))⟩, h16, fun rd hx => ?_⟩
              · show f_wt o + f_wt a + 2 + _ ≤ _
                omega
              · have t1 := f_sumU_pt rd L.tail L3 o e (fun x hm => hx x (f_tail_in x hm))
                have t2 := f_any_pt (f_one_gd 8) (f_one_pt rd 8) L3.tail L4 a e4 (fun x hm => hx x (f_tail_in x (g1.2.2 x (f_tail_in x hm))))
                exact ⟨t1.2 [] (by decide), Or.inr (t2.2 [] (by decide)), t1.1, t2.1⟩
        · match e5 : f_ned 159 L3, h2 with
          | .inl x, h2 => cases h2
          | .inr (L5, z), h2 =>
            cases h2
            have g3 : L2.length + 1 ≤ L3.length ∧ ∀ t ∈ L2, t ∈ L3 := by
              unfold f_ned at e5
              split at e5
              · cases e5
                have := f_tail_len (L := L3) (by omega)
                exact ⟨by omega, f_tail_in⟩
              · cases e5
            refine ⟨⟨?_, fun t ht => f_tail_in t (g1.2.2 t (g3.2 t ht))⟩, h16, fun rd hx => ?_⟩
            · show f_wt o + 0 + 2 + _ ≤ _
              omega
            · have t1 := f_sumU_pt rd L.tail L3 o e (fun x hm => hx x (f_tail_in x hm))
              exact ⟨t1.2 [] (by decide), Or.inl rfl, t1.1, fun x hx => absurd hx (List.not_mem_nil)⟩
theorem f_law_fuel : ∀ (g m : Nat) (n : Int) (L : List f_Tk), L.length < g → L.length < m → f_law g n L = f_law m n L := by
  intro g
  induction g with
  | zero => intro m n L h; omega
  | succ g ih =>
    intro m n L h1 h2
    obtain ⟨m, rfl⟩ : ∃ k, m = k + 1 := ⟨m - 1, by omega⟩
    show (if f_T L = 0 then (.inr [] : f_Rw) else f_lseq (f_line n L) (f_law g (n + 1))) = (if f_T L = 0 then .inr [] else f_lseq (f_line n L) (f_law m (n + 1)))
    by_cases h0 : f_T L = 0
    · rw [if_pos h0, if_pos h0]
    · rw [if_neg h0, if_neg h0]
      match e : f_line n L with
      | .inl x => rfl
      | .inr (L2, ln) =>
        have h3 := (f_line_gd e).1
        show f_lpre ln (f_law g (n + 1) L2) = f_lpre ln (f_law m (n + 1) L2)
        rw [ih m (n + 1) L2 (by omega) (by omega)]
theorem f_law_end {n : Int} {L : List f_Tk} (h : f_T L = 0) : f_law (L.length + 1) n L = .inr [] := if_pos h
theorem f_law_step {n : Int} {L : List f_Tk} (h : f_T L ≠ 0) : f_law (L.length + 1) n L = f_lseq (f_line n L) (fun L2 => f_law (L2.length + 1) (n + 1) L2) := by
  show (if f_T L = 0 then (.inr [] : f_Rw) else f_lseq (f_line n L) (f_law L.length (n + 1))) = _
  rw [if_neg h]
  match e : f_line n L with
  | .inl x => rfl
  | .inr (L2, ln) =>
    have h3 := (f_line_gd e).1
    show f_lpre ln (f_law L.length (n + 1) L2) = f_lpre ln (f_law (L2.length + 1) (n + 1) L2)
    rw [f_law_fuel L.length (L2.length + 1) (n + 1) L2 (by omega) (by omega)]
def f_cds : List f_Ln → List f_Op
  | [] => []
  | ln :: tl => ln.1 ++ (ln.2 ++ f_cds tl)
theorem f_cds_app : ∀ (a b : List f_Ln), f_cds (a ++ b) = f_cds a ++ f_cds b
  | [], b => rfl
  | ln :: tl, b => by
    show ln.1 ++ (ln.2 ++ f_cds (tl ++ b)) = ln.1 ++ (ln.2 ++ f_cds tl) ++ f_cds b
    rw [f_cds_app tl b, List.append_assoc, List.append_assoc]
def f_pL3 (fl : Int → Int) (n s : Int) (ln : f_Ln) : Int → Int := f_up (f_up (f_up fl (3 * n) s) (3 * n + 1) (s + (ln.1.length : Int))) (3 * n + 2) (s + (ln.1.length : Int) + (ln.2.length : Int))
def f_putL (fl : Int → Int) : Int → Int → List f_Ln → (Int → Int)
  | _, _, [] => fl
  | n, s, ln :: tl => f_putL (f_pL3 fl n s ln) (n + 1) (s + (ln.1.length : Int) + (ln.2.length : Int)) tl
theorem f_putL_snoc : ∀ (a : List f_Ln) (fl : Int → Int) (n s : Int) (ln : f_Ln), f_putL fl n s (a ++ [ln]) = f_pL3 (f_putL fl n s a) (n + (a.length : Int)) (s + ((f_cds a).length : Int)) ln
  | [], fl, n, s, ln => by
    show f_pL3 fl n s ln = f_pL3 fl (n + 0) (s + 0) ln
    rw [Int.add_zero, Int.add_zero]
  | l0 :: tl, fl, n, s, ln => by
    show f_putL (f_pL3 fl n s l0) (n + 1) (s + (l0.1.length : Int) + (l0.2.length : Int)) (tl ++ [ln]) = f_pL3 (f_putL (f_pL3 fl n s l0) (n + 1) (s + (l0.1.length : Int) + (l0.2.length : Int)) tl) (n + ((tl.length + 1 : Nat) : Int)) (s + ((l0.1 ++ (l0.2 ++ f_cds tl)).length : Int)) ln
    rw [f_putL_snoc tl]
    have e1 : n + 1 + (tl.length : Int) = n + ((tl.length + 1 : Nat) : Int) := by omega
    have e2 : s + (l0.1.length : Int) + (l0.2.length : Int) + ((f_cds tl).length : Int) = s + ((l0.1 ++ (l0.2 ++ f_cds tl)).length : Int) := by
      rw [List.length_append, List.length_append]
      omega
    rw [e1, e2]
def f_lok (ta : Int → Int) (tn rd : Int) (fs fl : Int → Int) (sn n : Int) (r : f_Rl) (M2 : ax_Mem) : Prop := match r with
  | .inl (k, s) => M2 330 22 = k ∧ M2 330 23 = s
  | .inr (L2, ln) => M2 336 = f_put fs sn (ln.1 ++ ln.2) ∧ M2 335 = f_pL3 fl n sn ln ∧ M2 330 15 = sn + (ln.1.length : Int) + (ln.2.length : Int) ∧ f_cur ta tn rd L2 (M2 330 18) (M2 330 19) (M2 330 20) (M2 330 21)
theorem f_lok_no {ta : Int → Int} {tn rd : Int} {fs fl : Int → Int} {sn n : Int} {r : f_Rl} {M2 : ax_Mem} {k s : Int} (e : r = .inl (k, s)) (h1 : M2 330 22 = k) (h2 : M2 330 23 = s) : f_lok ta tn rd fs fl sn n r M2 := by
  rw [e]
  exact ⟨h1, h2⟩
def f_wok (fs fl : Int → Int) (r : f_Rw) (M2 : ax_Mem) : Prop := match r with
  | .inl (k, s) => M2 330 22 = k ∧ M2 330 23 = s
  | .inr ls => M2 336 = f_put fs 0 (f_cds ls) ∧ M2 335 = f_putL fl 0 0 ls ∧ M2 330 14 = (ls.length : Int) ∧ M2 330 15 = ((f_cds ls).length : Int)
theorem f_wok_no {fs fl : Int → Int} {r : f_Rw} {M2 : ax_Mem} {k s : Int} (e : r = .inl (k, s)) (h1 : M2 330 22 = k) (h2 : M2 330 23 = s) : f_wok fs fl r M2 := by
  rw [e]
  exact ⟨h1, h2⟩
def f_lpr : List f_Ln → f_Rw → f_Rw
  | [], r => r
  | ln :: tl, r => f_lpre ln (f_lpr tl r)
theorem f_lpr_no (a : List f_Ln) (e : Int × Int) : f_lpr a (.inl e) = .inl e := by
  induction a with
  | nil => rfl
  | cons x tl ih =>
    show f_lpre x (f_lpr tl (.inl e)) = _
    rw [ih]
    rfl
theorem f_lpr_ok (a b : List f_Ln) : f_lpr a (.inr b) = .inr (a ++ b) := by
  induction a with
  | nil => rfl
  | cons x tl ih =>
    show f_lpre x (f_lpr tl (.inr b)) = _
    rw [ih]
    rfl
theorem f_lpr_snoc (a : List f_Ln) (ln : f_Ln) (r : f_Rw) : f_lpr a (f_lpre ln r) = f_lpr (a ++ [ln]) r := by
  induction a with
  | nil => rfl
  | cons x tl ih =>
    show f_lpre x (f_lpr tl (f_lpre ln r)) = f_lpre x (f_lpr (tl ++ [ln]) r)
    rw [ih]
theorem f_rlb_01 (r : f_Rl) : f_rlb r = 0 ∨ f_rlb r = 1 := by
  cases r with
  | inl e => exact Or.inl rfl
  | inr e => exact Or.inr rfl
set_option maxRecDepth 20000 in
theorem s_X12_aLine (E : ax_Env) (l : Launch) (d : Nat) (hd : 40 ≤ d) (M : ax_Mem) (L : List f_Tk) {ta : Int → Int} (hta : M 339 = ta) {fs : Int → Int} (hfs : M 336 = fs) {fl : Int → Int} (hfl : M 335 = fl) {p0 : Int} (hp0 : M 330 18 = p0) {to : Int} (hto : M 330 19 = to) {tk : Int} (htk : M 330 20 = tk) {v0 : Int} (hv0 : M 330 21 = v0) {sn : Int} (hsn : M 330 15 = sn) {dp : Int} (hdp : M 330 25 = dp) {tn : Int} (htn : M 330 17 = tn) {rd : Int} (hrd : M 330 13 = rd) {n : Int} (hn : M 330 14 = n) (hg0 : 0 ≤ tn ∧ tn ≤ 400) (hg1 : f_tp ta tn) (hg2 : f_cur ta tn rd L p0 to tk v0) (hg3 : 0 ≤ sn ∧ sn + (L.length : Int) ≤ 405) (hg4 : 0 ≤ n ∧ n ≤ 16) : ax_G E l d iX12_aLine [.inr 330] M (fun z0 M2 => z0 = some (.inl (f_rlb (f_line n L))) ∧ (∀ x0 i0 : Int, ¬ (x0 = 336 ∨ (x0 = 330 ∧ i0 = 15) ∨ (x0 = 330 ∧ i0 = 18) ∨ (x0 = 330 ∧ i0 = 19) ∨ (x0 = 330 ∧ i0 = 20) ∨ (x0 = 330 ∧ i0 = 21) ∨ (x0 = 330 ∧ i0 = 22) ∨ (x0 = 330 ∧ i0 = 23) ∨ x0 = 335 ∨ (x0 = 330 ∧ i0 = 25)) → M2 x0 i0 = M x0 i0) ∧ (f_lok ta tn rd fs fl sn n (f_line n L) M2) ∧ (0 ≤ M2 330 21 ∧ M2 330 21 ≤ 9999)) := by
  obtain ⟨d, rfl⟩ : ∃ d0, d = d0 + 1 := ⟨d - 1, by omega⟩
  refine ax_start rfl (Nat.le_of_ble_eq_true rfl) (ls := [some (.inr 330)]) rfl (fun hav hcm => ?_)
  clear hav
  have qR := f_cur_rg hg2
  have qh := f_cur_hd hg2
  refine ax_aload_n dX12_aLine_0 rfl rfl (pc' := 1) rfl ?_
  refine ax_geti (v := to) dX12_aLine_1 flX12_208 rfl sh_330 hto rfl (pc' := 4) rfl ?_
  refine ax_bipush dX12_aLine_4 (by decide) (pc' := 6) rfl ?_
  refine ax_icmp_eq (tgt := 15) dX12_aLine_6 (by decide) (pc' := 9) rfl (fun h6 => ?_) (fun h6 => ?_)
  · refine ax_aload_n dX12_aLine_15 rfl rfl (pc' := 16) rfl ?_
    refine ax_geti (v := n) dX12_aLine_16 flX12_270 rfl sh_330 hn rfl (pc' := 19) rfl ?_
    refine ax_bipush dX12_aLine_19 (by decide) (pc' := 21) rfl ?_
    refine ax_icmp_ne (tgt := 30) dX12_aLine_21 (by decide) (pc' := 24) rfl (fun h21 => ?_) (fun h21 => ?_)
    · obtain ⟨L9, qt9, ql9, qc9⟩ := f_cur_next hg2 (by omega)
      have qR9 := f_cur_rg qc9
      have qh9 := f_cur_hd qc9
      have qb : f_line n L = f_ln2 (f_sumU L9) := by
        unfold f_line
        rw [if_neg (by omega), if_neg (by omega), qt9]
      refine ax_aload_n dX12_aLine_30 rfl rfl (pc' := 31) rfl ?_
      refine ax_iconst dX12_aLine_31 (by decide) (pc' := 32) rfl ?_
      refine ax_puti dX12_aLine_32 flX12_238 (Or.inl rfl) sh_330 rfl (pc' := 35) rfl ?_
      refine ax_aload_n dX12_aLine_35 rfl rfl (pc' := 36) rfl ?_
      refine ax_invG [] [] dX12_aLine_36 mlX12_232 sh_330 rfl rfl rfl (Nat.le_of_ble_eq_true rfl) (s_X12_next0 E l _ (by omega) _ (ax_up_rowmiss (by decide) hta) (ax_up_miss (by decide) hp0) (ax_up_miss (by decide) htn) (ax_up_miss (by decide) hrd) (ax_up_miss (by decide) hv0) (by first | omega | assumption) (by first | omega | assumption)) (pc' := 39) rfl (fun vv M_36 hq co36 hcm36 => ?_)
      obtain ⟨rfl, frM_36, msM_36_0, msM_36_1, msM_36_2, msM_36_3⟩ := hq
      refine ax_reS (st2 := []) rfl ?_
      refine ax_aload_n dX12_aLine_39 rfl rfl (pc' := 40) rfl ?_
      refine ax_getr (v := 335) dX12_aLine_40 flX12_22 rfl sh_330 rfl (pc' := 43) rfl ?_
      refine ax_iconst dX12_aLine_43 (by decide) (pc' := 44) rfl ?_
      refine ax_aload_n dX12_aLine_44 rfl rfl (pc' := 45) rfl ?_
      refine ax_geti (v := n) dX12_aLine_45 flX12_270 rfl sh_330 (show M_36 330 14 = n from ((frM_36 330 14 (fun h => h.elim (fun h => absurd h.2 (by decide)) (fun h => h.elim (fun h => absurd h.2 (by decide)) (fun h => h.elim (fun h => absurd h.2 (by decide)) (fun h => absurd h.2 (by decide)))))).trans (ax_up_miss (by decide) hn))) rfl (pc' := 48) rfl ?_
      refine ax_imul dX12_aLine_48 (by omega) (pc' := 49) rfl ?_
      refine ax_aload_n dX12_aLine_49 rfl rfl (pc' := 50) rfl ?_
      refine ax_geti (v := sn) dX12_aLine_50 flX12_235 rfl sh_330 (show M_36 330 15 = sn from ((frM_36 330 15 (fun h => h.elim (fun h => absurd h.2 (by decide)) (fun h => h.elim (fun h => absurd h.2 (by decide)) (fun h => h.elim (fun h => absurd h.2 (by decide)) (fun h => absurd h.2 (by decide)))))).trans (ax_up_miss (by decide) hsn))) rfl (pc' := 53) rfl ?_
      refine ax_iast dX12_aLine_53 sh_335 rfl (by omega) (by omega) (pc' := 54) rfl ?_
      refine ax_aload_n dX12_aLine_54 rfl rfl (pc' := 55) rfl ?_
      refine ax_invG [] [] dX12_aLine_55 mlX12_267 sh_330 rfl rfl rfl (Nat.le_of_ble_eq_true rfl) (s_X12_sumUp E l _ (by omega) _ L9 (ax_up_rowmiss (by decide) ((funext fun i0 => frM_36 339 i0 (fun h => h.elim (fun h => absurd h.1 (by decide)) (fun h => h.elim (fun h => absurd h.1 (by decide)) (fun h => h.elim (fun h => absurd h.1 (by decide)) (fun h => absurd h.1 (by decide)))))).trans (ax_up_rowmiss (by decide) hta))) (ax_up_rowmiss (by decide) ((funext fun i0 => frM_36 336 i0 (fun h => h.elim (fun h => absurd h.1 (by decide)) (fun h => h.elim (fun h => absurd h.1 (by decide)) (fun h => h.elim (fun h => absurd h.1 (by decide)) (fun h => absurd h.1 (by decide)))))).trans (ax_up_rowmiss (by decide) hfs))) (ax_up_miss (fun h => absurd h.1 (by decide)) msM_36_0) (ax_up_miss (fun h => absurd h.1 (by decide)) msM_36_1) (ax_up_miss (fun h => absurd h.1 (by decide)) msM_36_2) (ax_up_miss (fun h => absurd h.1 (by decide)) msM_36_3) (ax_up_miss (fun h => absurd h.1 (by decide)) ((frM_36 330 15 (fun h => h.elim (fun h => absurd h.2 (by decide)) (fun h => h.elim (fun h => absurd h.2 (by decide)) (fun h => h.elim (fun h => absurd h.2 (by decide)) (fun h => absurd h.2 (by decide)))))).trans (ax_up_miss (by decide) hsn))) (ax_up_miss (fun h => absurd h.1 (by decide)) ((frM_36 330 25 (fun h => h.elim (fun h => absurd h.2 (by decide)) (fun h => h.elim (fun h => absurd h.2 (by decide)) (fun h => h.elim (fun h => absurd h.2 (by decide)) (fun h => absurd h.2 (by decide)))))).trans (ax_up_hit _ _ _ _))) (ax_up_miss (fun h => absurd h.1 (by decide)) ((frM_36 330 17 (fun h => h.elim (fun h => absurd h.2 (by decide)) (fun h => h.elim (fun h => absurd h.2 (by decide)) (fun h => h.elim (fun h => absurd h.2 (by decide)) (fun h => absurd h.2 (by decide)))))).trans (ax_up_miss (by decide) htn))) (ax_up_miss (fun h => absurd h.1 (by decide)) ((frM_36 330 13 (fun h => h.elim (fun h => absurd h.2 (by decide)) (fun h => h.elim (fun h => absurd h.2 (by decide)) (fun h => h.elim (fun h => absurd h.2 (by decide)) (fun h => absurd h.2 (by decide)))))).trans (ax_up_miss (by decide) hrd))) (by first | omega | assumption) (by first | omega | assumption) (by first | omega | assumption) (by first | omega | assumption)) (pc' := 58) rfl (fun vv M_55 hq co55 hcm55 => ?_)
      obtain ⟨rfl, frM_55, fa55_0, fa55_1⟩ := hq
      refine ax_reS (st2 := [.inl (f_rb (f_sumU L9))]) rfl ?_
      have cc55 : -2147483648 ≤ f_rb (f_sumU L9) ∧ f_rb (f_sumU L9) < 2147483648 := co55 _ rfl
      refine ax_if_ne (tgt := 63) dX12_aLine_58 (by decide) (pc' := 61) rfl (fun h58 => ?_) (fun h58 => ?_)
      · obtain ⟨L2, o2, qr2⟩ := f_rb_ok h58
        rw [qr2] at fa55_0
        obtain ⟨qm2, qs2, qc2, qd2⟩ := fa55_0
        have qg2 := f_sumU_gd _ L2 o2 qr2
        have qR2 := f_cur_rg qc2
        have qh2 := f_cur_hd qc2
        have qw2 := f_wt_len o2
        refine ax_aload_n dX12_aLine_63 rfl rfl (pc' := 64) rfl ?_
        refine ax_getr (v := 335) dX12_aLine_64 flX12_22 rfl sh_330 rfl (pc' := 67) rfl ?_
        refine ax_iconst dX12_aLine_67 (by decide) (pc' := 68) rfl ?_
        refine ax_aload_n dX12_aLine_68 rfl rfl (pc' := 69) rfl ?_
        refine ax_geti (v := n) dX12_aLine_69 flX12_270 rfl sh_330 (show M_55 330 14 = n from ((frM_55 330 14 (fun h => h.elim (fun h => absurd h (by decide)) (fun h => h.elim (fun h => absurd h.2 (by decide)) (fun h => h.elim (fun h => absurd h.2 (by decide)) (fun h => h.elim (fun h => absurd h.2 (by decide)) (fun h => h.elim (fun h => absurd h.2 (by decide)) (fun h => h.elim (fun h => absurd h.2 (by decide)) (fun h => h.elim (fun h => absurd h.2 (by decide)) (fun h => absurd h.2 (by decide)))))))))).trans (ax_up_miss (fun h => absurd h.1 (by decide)) ((frM_36 330 14 (fun h => h.elim (fun h => absurd h.2 (by decide)) (fun h => h.elim (fun h => absurd h.2 (by decide)) (fun h => h.elim (fun h => absurd h.2 (by decide)) (fun h => absurd h.2 (by decide)))))).trans (ax_up_miss (by decide) hn))))) rfl (pc' := 72) rfl ?_
        refine ax_imul dX12_aLine_72 (by omega) (pc' := 73) rfl ?_
        refine ax_iconst dX12_aLine_73 (by decide) (pc' := 74) rfl ?_
        refine ax_iadd dX12_aLine_74 (by omega) (pc' := 75) rfl ?_
        refine ax_aload_n dX12_aLine_75 rfl rfl (pc' := 76) rfl ?_
        refine ax_geti (v := M_55 330 15) dX12_aLine_76 flX12_235 rfl sh_330 rfl rfl (pc' := 79) rfl ?_
        refine ax_iast dX12_aLine_79 sh_335 rfl (by omega) (by omega) (pc' := 80) rfl ?_
        refine ax_aload_n dX12_aLine_80 rfl rfl (pc' := 81) rfl ?_
        refine ax_geti (v := M_55 330 19) dX12_aLine_81 flX12_208 rfl sh_330 (show (ax_up M_55 335 (3 * n + 1) (M_55 330 15)) 330 19 = M_55 330 19 from (ax_up_miss (fun h => absurd h.1 (by decide)) rfl)) rfl (pc' := 84) rfl ?_
        refine ax_iconst dX12_aLine_84 (by decide) (pc' := 85) rfl ?_
        refine ax_icmp_ne (tgt := 101) dX12_aLine_85 (by decide) (pc' := 88) rfl (fun h85 => ?_) (fun h85 => ?_)
        · have qzz : f_line n L = f_lnE o2 [] (f_ned 159 L2) := by
            rw [qb, qr2]
            show (if f_T L2 = 3 then _ else f_lnE o2 [] (f_ned 159 L2)) = _
            rw [if_neg (by omega)]
          obtain ⟨LE, qLE⟩ : ∃ z, z = L2 := ⟨_, rfl⟩
          obtain ⟨oE, qoE⟩ : ∃ z : List f_Op, z = [] := ⟨_, rfl⟩
          rw [← qoE, ← qLE] at qzz
          have qcE := qc2
          have qmE : M_55 336 = f_put fs sn (o2 ++ oE) := by
            rw [qoE, List.append_nil]
            exact qm2
          have qsE : M_55 330 15 = sn + (o2.length : Int) + (oE.length : Int) := by
            rw [qoE]
            exact qs2.trans (Int.add_zero _).symm
          rw [← qLE] at qcE
          have qlE0 : LE.length = L2.length := by rw [qLE]
          refine ax_aload_n dX12_aLine_101 rfl rfl (pc' := 102) rfl ?_
          refine ax_getr (v := 335) dX12_aLine_102 flX12_22 rfl sh_330 rfl (pc' := 105) rfl ?_
          refine ax_iconst dX12_aLine_105 (by decide) (pc' := 106) rfl ?_
          refine ax_aload_n dX12_aLine_106 rfl rfl (pc' := 107) rfl ?_
          refine ax_geti (v := n) dX12_aLine_107 flX12_270 rfl sh_330 (show (ax_up M_55 335 (3 * n + 1) (M_55 330 15)) 330 14 = n from (ax_up_miss (fun h => absurd h.1 (by decide)) ((frM_55 330 14 (fun h => h.elim (fun h => absurd h (by decide)) (fun h => h.elim (fun h => absurd h.2 (by decide)) (fun h => h.elim (fun h => absurd h.2 (by decide)) (fun h => h.elim (fun h => absurd h.2 (by decide)) (fun h => h.elim (fun h => absurd h.2 (by decide)) (fun h => h.elim (fun h => absurd h.2 (by decide)) (fun h => h.elim (fun h => absurd h.2 (by decide)) (fun h => absurd h.2 (by decide)))))))))).trans (ax_up_miss (fun h => absurd h.1 (by decide)) ((frM_36 330 14 (fun h => h.elim (fun h => absurd h.2 (by decide)) (fun h => h.elim (fun h => absurd h.2 (by decide)) (fun h => h.elim (fun h => absurd h.2 (by decide)) (fun h => absurd h.2 (by decide)))))).trans (ax_up_miss (by decide) hn)))))) rfl (pc' := 110) rfl ?_
          refine ax_imul dX12_aLine_110 (by omega) (pc' := 111) rfl ?_
          refine ax_iconst dX12_aLine_111 (by decide) (pc' := 112) rfl ?_
          refine ax_iadd dX12_aLine_112 (by omega) (pc' := 113) rfl ?_
          refine ax_aload_n dX12_aLine_113 rfl rfl (pc' := 114) rfl ?_
          refine ax_geti (v := M_55 330 15) dX12_aLine_114 flX12_235 rfl sh_330 (show (ax_up M_55 335 (3 * n + 1) (M_55 330 15)) 330 15 = M_55 330 15 from (ax_up_miss (fun h => absurd h.1 (by decide)) rfl)) rfl (pc' := 117) rfl ?_
          refine ax_iast dX12_aLine_117 sh_335 rfl (by omega) (by omega) (pc' := 118) rfl ?_
          have qlE : f_up (f_up (f_up fl (3 * n) sn) (3 * n + 1) (M_55 330 15)) (3 * n + 2) (M_55 330 15) = f_pL3 fl n sn (o2, oE) := by
            show _ = f_up (f_up (f_up fl (3 * n) sn) (3 * n + 1) (sn + (o2.length : Int))) (3 * n + 2) (sn + (o2.length : Int) + (oE.length : Int))
            rw [← qsE, ← qs2]
          refine ax_aload_n dX12_aLine_118 rfl rfl (pc' := 119) rfl ?_
          refine ax_sipush dX12_aLine_119 (by decide) (pc' := 122) rfl ?_
          refine ax_invG [.inl 159] [] dX12_aLine_122 mlX12_264 sh_330 rfl rfl rfl (Nat.le_of_ble_eq_true rfl) (s_X12_needL E l _ (by omega) _ 159 LE (ax_up_rowmiss (by decide) (ax_up_rowmiss (by decide) ((funext fun i0 => frM_55 339 i0 (fun h => h.elim (fun h => absurd h (by decide)) (fun h => h.elim (fun h => absurd h.1 (by decide)) (fun h => h.elim (fun h => absurd h.1 (by decide)) (fun h => h.elim (fun h => absurd h.1 (by decide)) (fun h => h.elim (fun h => absurd h.1 (by decide)) (fun h => h.elim (fun h => absurd h.1 (by decide)) (fun h => h.elim (fun h => absurd h.1 (by decide)) (fun h => absurd h.1 (by decide)))))))))).trans (ax_up_rowmiss (by decide) ((funext fun i0 => frM_36 339 i0 (fun h => h.elim (fun h => absurd h.1 (by decide)) (fun h => h.elim (fun h => absurd h.1 (by decide)) (fun h => h.elim (fun h => absurd h.1 (by decide)) (fun h => absurd h.1 (by decide)))))).trans (ax_up_rowmiss (by decide) hta)))))) (ax_up_rowmiss (by decide) (ax_up_rowmiss (by decide) rfl)) (ax_up_miss (fun h => absurd h.1 (by decide)) (ax_up_miss (fun h => absurd h.1 (by decide)) rfl)) (ax_up_miss (fun h => absurd h.1 (by decide)) (ax_up_miss (fun h => absurd h.1 (by decide)) rfl)) (ax_up_miss (fun h => absurd h.1 (by decide)) (ax_up_miss (fun h => absurd h.1 (by decide)) rfl)) (ax_up_miss (fun h => absurd h.1 (by decide)) (ax_up_miss (fun h => absurd h.1 (by decide)) rfl)) (ax_up_miss (fun h => absurd h.1 (by decide)) (ax_up_miss (fun h => absurd h.1 (by decide)) rfl)) (ax_up_miss (fun h => absurd h.1 (by decide)) (ax_up_miss (fun h => absurd h.1 (by decide)) ((frM_55 330 25 (fun h => h.elim (fun h => absurd h (by decide)) (fun h => h.elim (fun h => absurd h.2 (by decide)) (fun h => h.elim (fun h => absurd h.2 (by decide)) (fun h => h.elim (fun h => absurd h.2 (by decide)) (fun h => h.elim (fun h => absurd h.2 (by decide)) (fun h => h.elim (fun h => absurd h.2 (by decide)) (fun h => h.elim (fun h => absurd h.2 (by decide)) (fun h => absurd h.2 (by decide)))))))))).trans (ax_up_miss (fun h => absurd h.1 (by decide)) ((frM_36 330 25 (fun h => h.elim (fun h => absurd h.2 (by decide)) (fun h => h.elim (fun h => absurd h.2 (by decide)) (fun h => h.elim (fun h => absurd h.2 (by decide)) (fun h => absurd h.2 (by decide)))))).trans (ax_up_hit _ _ _ _)))))) (ax_up_miss (fun h => absurd h.1 (by decide)) (ax_up_miss (fun h => absurd h.1 (by decide)) ((frM_55 330 17 (fun h => h.elim (fun h => absurd h (by decide)) (fun h => h.elim (fun h => absurd h.2 (by decide)) (fun h => h.elim (fun h => absurd h.2 (by decide)) (fun h => h.elim (fun h => absurd h.2 (by decide)) (fun h => h.elim (fun h => absurd h.2 (by decide)) (fun h => h.elim (fun h => absurd h.2 (by decide)) (fun h => h.elim (fun h => absurd h.2 (by decide)) (fun h => absurd h.2 (by decide)))))))))).trans (ax_up_miss (fun h => absurd h.1 (by decide)) ((frM_36 330 17 (fun h => h.elim (fun h => absurd h.2 (by decide)) (fun h => h.elim (fun h => absurd h.2 (by decide)) (fun h => h.elim (fun h => absurd h.2 (by decide)) (fun h => absurd h.2 (by decide)))))).trans (ax_up_miss (by decide) htn)))))) (ax_up_miss (fun h => absurd h.1 (by decide)) (ax_up_miss (fun h => absurd h.1 (by decide)) ((frM_55 330 13 (fun h => h.elim (fun h => absurd h (by decide)) (fun h => h.elim (fun h => absurd h.2 (by decide)) (fun h => h.elim (fun h => absurd h.2 (by decide)) (fun h => h.elim (fun h => absurd h.2 (by decide)) (fun h => h.elim (fun h => absurd h.2 (by decide)) (fun h => h.elim (fun h => absurd h.2 (by decide)) (fun h => h.elim (fun h => absurd h.2 (by decide)) (fun h => absurd h.2 (by decide)))))))))).trans (ax_up_miss (fun h => absurd h.1 (by decide)) ((frM_36 330 13 (fun h => h.elim (fun h => absurd h.2 (by decide)) (fun h => h.elim (fun h => absurd h.2 (by decide)) (fun h => h.elim (fun h => absurd h.2 (by decide)) (fun h => absurd h.2 (by decide)))))).trans (ax_up_miss (by decide) hrd)))))) (by first | omega | assumption) (by first | omega | assumption) (by first | omega | assumption) (by first | omega | assumption) (by first | omega | assumption)) (pc' := 125) rfl (fun vv M_122 hq co122 hcm122 => ?_)
          obtain ⟨rfl, frM_122, fa122_0, fa122_1⟩ := hq
          refine ax_reS (st2 := [.inl (f_rb (f_ned 159 LE))]) rfl ?_
          have cc122 : -2147483648 ≤ f_rb (f_ned 159 LE) ∧ f_rb (f_ned 159 LE) < 2147483648 := co122 _ rfl
          refine ax_zret dX12_aLine_125 rfl (f_rb_01 _) ?_
          refine ⟨rfl, ?_, ?_, ?_, ?_⟩
          · refine congrArg (fun z => some (Sum.inl z)) ?_
            rw [qzz]
            cases f_ned 159 LE <;> rfl
          · intro x0 i0 hai
            exact ((frM_122 x0 i0 (fun h => h.elim (fun h => hai (Or.inl h)) (fun h => h.elim (fun h => hai (Or.inr (Or.inl h))) (fun h => h.elim (fun h => hai (Or.inr (Or.inr (Or.inl h)))) (fun h => h.elim (fun h => hai (Or.inr (Or.inr (Or.inr (Or.inl h))))) (fun h => h.elim (fun h => hai (Or.inr (Or.inr (Or.inr (Or.inr (Or.inl h)))))) (fun h => h.elim (fun h => hai (Or.inr (Or.inr (Or.inr (Or.inr (Or.inr (Or.inl h))))))) (fun h => h.elim (fun h => hai (Or.inr (Or.inr (Or.inr (Or.inr (Or.inr (Or.inr (Or.inl h)))))))) (fun h => hai (Or.inr (Or.inr (Or.inr (Or.inr (Or.inr (Or.inr (Or.inr (Or.inl h))))))))))))))))).trans (ax_up_miss (fun h => hai (Or.inr (Or.inr (Or.inr (Or.inr (Or.inr (Or.inr (Or.inr (Or.inr (Or.inl h.1)))))))))) (ax_up_miss (fun h => hai (Or.inr (Or.inr (Or.inr (Or.inr (Or.inr (Or.inr (Or.inr (Or.inr (Or.inl h.1)))))))))) ((frM_55 x0 i0 (fun h => h.elim (fun h => hai (Or.inl h)) (fun h => h.elim (fun h => hai (Or.inr (Or.inl h))) (fun h => h.elim (fun h => hai (Or.inr (Or.inr (Or.inl h)))) (fun h => h.elim (fun h => hai (Or.inr (Or.inr (Or.inr (Or.inl h))))) (fun h => h.elim (fun h => hai (Or.inr (Or.inr (Or.inr (Or.inr (Or.inl h)))))) (fun h => h.elim (fun h => hai (Or.inr (Or.inr (Or.inr (Or.inr (Or.inr (Or.inl h))))))) (fun h => h.elim (fun h => hai (Or.inr (Or.inr (Or.inr (Or.inr (Or.inr (Or.inr (Or.inl h)))))))) (fun h => hai (Or.inr (Or.inr (Or.inr (Or.inr (Or.inr (Or.inr (Or.inr (Or.inl h))))))))))))))))).trans (ax_up_miss (fun h => hai (Or.inr (Or.inr (Or.inr (Or.inr (Or.inr (Or.inr (Or.inr (Or.inr (Or.inl h.1)))))))))) ((frM_36 x0 i0 (fun h => h.elim (fun h => hai (Or.inr (Or.inr (Or.inl h)))) (fun h => h.elim (fun h => hai (Or.inr (Or.inr (Or.inr (Or.inl h))))) (fun h => h.elim (fun h => hai (Or.inr (Or.inr (Or.inr (Or.inr (Or.inl h)))))) (fun h => hai (Or.inr (Or.inr (Or.inr (Or.inr (Or.inr (Or.inl h))))))))))).trans (ax_up_miss (fun h => hai (Or.inr (Or.inr (Or.inr (Or.inr (Or.inr (Or.inr (Or.inr (Or.inr (Or.inr h)))))))))) rfl)))))))
          · rcases f_rb_01 (f_ned 159 LE) with qn | qn
            · obtain ⟨kk7, ss7, qr7⟩ := f_rb_no qn
              rw [qr7] at fa122_0
              exact f_lok_no (qzz.trans (by rw [qr7]; rfl)) fa122_0.1 fa122_0.2
            · obtain ⟨L7, o7, qr7⟩ := f_rb_ok (r := f_ned 159 LE) (by omega)
              rw [qr7] at fa122_0
              obtain ⟨qm7, qs7, qc7, qd7⟩ := fa122_0
              obtain rfl : o7 = [] := by
                unfold f_ned at qr7
                split at qr7
                · cases qr7
                  rfl
                · cases qr7
              rw [qzz, qr7]
              refine ⟨qm7.trans ?_, Eq.trans ((funext fun i0 => frM_122 335 i0 (fun h => h.elim (fun h => absurd h (by decide)) (fun h => h.elim (fun h => absurd h.1 (by decide)) (fun h => h.elim (fun h => absurd h.1 (by decide)) (fun h => h.elim (fun h => absurd h.1 (by decide)) (fun h => h.elim (fun h => absurd h.1 (by decide)) (fun h => h.elim (fun h => absurd h.1 (by decide)) (fun h => h.elim (fun h => absurd h.1 (by decide)) (fun h => absurd h.1 (by decide)))))))))).trans (ax_up_rowhit (ax_up_rowhit ((funext fun i0 => frM_55 335 i0 (fun h => h.elim (fun h => absurd h (by decide)) (fun h => h.elim (fun h => absurd h.1 (by decide)) (fun h => h.elim (fun h => absurd h.1 (by decide)) (fun h => h.elim (fun h => absurd h.1 (by decide)) (fun h => h.elim (fun h => absurd h.1 (by decide)) (fun h => h.elim (fun h => absurd h.1 (by decide)) (fun h => h.elim (fun h => absurd h.1 (by decide)) (fun h => absurd h.1 (by decide)))))))))).trans (ax_up_rowhit ((funext fun i0 => frM_36 335 i0 (fun h => h.elim (fun h => absurd h.1 (by decide)) (fun h => h.elim (fun h => absurd h.1 (by decide)) (fun h => h.elim (fun h => absurd h.1 (by decide)) (fun h => absurd h.1 (by decide)))))).trans (ax_up_rowmiss (by decide) hfl))))))) ?_, qs7.trans ?_, qc7⟩
              · exact qmE
              · exact qlE
              · exact (Int.add_zero _).trans qsE
          · have q9 : M_122 330 21 = M_122 330 21 := rfl
            have q9b : 0 ≤ M_122 330 21 ∧ M_122 330 21 ≤ 9999 := by omega
            exact f_r9 q9 q9b
        · obtain ⟨L4, qt4, ql4, qc4⟩ := f_cur_next qc2 (by omega)
          have qR4 := f_cur_rg qc4
          have qh4 := f_cur_hd qc4
          have qb2 : f_line n L = f_ln3 o2 (f_any (f_one 8) L4) := by
            rw [qb, qr2]
            show (if f_T L2 = 3 then f_ln3 o2 (f_any (f_one 8) L2.tail) else _) = _
            rw [if_pos (by omega), qt4]
          refine ax_aload_n dX12_aLine_88 rfl rfl (pc' := 89) rfl ?_
          refine ax_invG [] [] dX12_aLine_89 mlX12_232 sh_330 rfl rfl rfl (Nat.le_of_ble_eq_true rfl) (s_X12_next0 E l _ (by omega) _ (ax_up_rowmiss (by decide) ((funext fun i0 => frM_55 339 i0 (fun h => h.elim (fun h => absurd h (by decide)) (fun h => h.elim (fun h => absurd h.1 (by decide)) (fun h => h.elim (fun h => absurd h.1 (by decide)) (fun h => h.elim (fun h => absurd h.1 (by decide)) (fun h => h.elim (fun h => absurd h.1 (by decide)) (fun h => h.elim (fun h => absurd h.1 (by decide)) (fun h => h.elim (fun h => absurd h.1 (by decide)) (fun h => absurd h.1 (by decide)))))))))).trans (ax_up_rowmiss (by decide) ((funext fun i0 => frM_36 339 i0 (fun h => h.elim (fun h => absurd h.1 (by decide)) (fun h => h.elim (fun h => absurd h.1 (by decide)) (fun h => h.elim (fun h => absurd h.1 (by decide)) (fun h => absurd h.1 (by decide)))))).trans (ax_up_rowmiss (by decide) hta))))) (ax_up_miss (fun h => absurd h.1 (by decide)) rfl) (ax_up_miss (fun h => absurd h.1 (by decide)) ((frM_55 330 17 (fun h => h.elim (fun h => absurd h (by decide)) (fun h => h.elim (fun h => absurd h.2 (by decide)) (fun h => h.elim (fun h => absurd h.2 (by decide)) (fun h => h.elim (fun h => absurd h.2 (by decide)) (fun h => h.elim (fun h => absurd h.2 (by decide)) (fun h => h.elim (fun h => absurd h.2 (by decide)) (fun h => h.elim (fun h => absurd h.2 (by decide)) (fun h => absurd h.2 (by decide)))))))))).trans (ax_up_miss (fun h => absurd h.1 (by decide)) ((frM_36 330 17 (fun h => h.elim (fun h => absurd h.2 (by decide)) (fun h => h.elim (fun h => absurd h.2 (by decide)) (fun h => h.elim (fun h => absurd h.2 (by decide)) (fun h => absurd h.2 (by decide)))))).trans (ax_up_miss (by decide) htn))))) (ax_up_miss (fun h => absurd h.1 (by decide)) ((frM_55 330 13 (fun h => h.elim (fun h => absurd h (by decide)) (fun h => h.elim (fun h => absurd h.2 (by decide)) (fun h => h.elim (fun h => absurd h.2 (by decide)) (fun h => h.elim (fun h => absurd h.2 (by decide)) (fun h => h.elim (fun h => absurd h.2 (by decide)) (fun h => h.elim (fun h => absurd h.2 (by decide)) (fun h => h.elim (fun h => absurd h.2 (by decide)) (fun h => absurd h.2 (by decide)))))))))).trans (ax_up_miss (fun h => absurd h.1 (by decide)) ((frM_36 330 13 (fun h => h.elim (fun h => absurd h.2 (by decide)) (fun h => h.elim (fun h => absurd h.2 (by decide)) (fun h => h.elim (fun h => absurd h.2 (by decide)) (fun h => absurd h.2 (by decide)))))).trans (ax_up_miss (by decide) hrd))))) (ax_up_miss (fun h => absurd h.1 (by decide)) rfl) (by first | omega | assumption) (by first | omega | assumption)) (pc' := 92) rfl (fun vv M_89 hq co89 hcm89 => ?_)
          obtain ⟨rfl, frM_89, msM_89_0, msM_89_1, msM_89_2, msM_89_3⟩ := hq
          refine ax_reS (st2 := []) rfl ?_
          refine ax_aload_n dX12_aLine_92 rfl rfl (pc' := 93) rfl ?_
          refine ax_invG [] [] dX12_aLine_93 mlX12_261 sh_330 rfl rfl rfl (Nat.le_of_ble_eq_true rfl) (s_X12_any 8 (f_C1_all 8) E l _ (by omega) _ L4 ((funext fun i0 => frM_89 339 i0 (fun h => h.elim (fun h => absurd h.1 (by decide)) (fun h => h.elim (fun h => absurd h.1 (by decide)) (fun h => h.elim (fun h => absurd h.1 (by decide)) (fun h => absurd h.1 (by decide)))))).trans (ax_up_rowmiss (by decide) ((funext fun i0 => frM_55 339 i0 (fun h => h.elim (fun h => absurd h (by decide)) (fun h => h.elim (fun h => absurd h.1 (by decide)) (fun h => h.elim (fun h => absurd h.1 (by decide)) (fun h => h.elim (fun h => absurd h.1 (by decide)) (fun h => h.elim (fun h => absurd h.1 (by decide)) (fun h => h.elim (fun h => absurd h.1 (by decide)) (fun h => h.elim (fun h => absurd h.1 (by decide)) (fun h => absurd h.1 (by decide)))))))))).trans (ax_up_rowmiss (by decide) ((funext fun i0 => frM_36 339 i0 (fun h => h.elim (fun h => absurd h.1 (by decide)) (fun h => h.elim (fun h => absurd h.1 (by decide)) (fun h => h.elim (fun h => absurd h.1 (by decide)) (fun h => absurd h.1 (by decide)))))).trans (ax_up_rowmiss (by decide) hta)))))) ((funext fun i0 => frM_89 336 i0 (fun h => h.elim (fun h => absurd h.1 (by decide)) (fun h => h.elim (fun h => absurd h.1 (by decide)) (fun h => h.elim (fun h => absurd h.1 (by decide)) (fun h => absurd h.1 (by decide)))))).trans (ax_up_rowmiss (by decide) rfl)) msM_89_0 msM_89_1 msM_89_2 msM_89_3 ((frM_89 330 15 (fun h => h.elim (fun h => absurd h.2 (by decide)) (fun h => h.elim (fun h => absurd h.2 (by decide)) (fun h => h.elim (fun h => absurd h.2 (by decide)) (fun h => absurd h.2 (by decide)))))).trans (ax_up_miss (fun h => absurd h.1 (by decide)) rfl)) ((frM_89 330 25 (fun h => h.elim (fun h => absurd h.2 (by decide)) (fun h => h.elim (fun h => absurd h.2 (by decide)) (fun h => h.elim (fun h => absurd h.2 (by decide)) (fun h => absurd h.2 (by decide)))))).trans (ax_up_miss (fun h => absurd h.1 (by decide)) ((frM_55 330 25 (fun h => h.elim (fun h => absurd h (by decide)) (fun h => h.elim (fun h => absurd h.2 (by decide)) (fun h => h.elim (fun h => absurd h.2 (by decide)) (fun h => h.elim (fun h => absurd h.2 (by decide)) (fun h => h.elim (fun h => absurd h.2 (by decide)) (fun h => h.elim (fun h => absurd h.2 (by decide)) (fun h => h.elim (fun h => absurd h.2 (by decide)) (fun h => absurd h.2 (by decide)))))))))).trans (ax_up_miss (fun h => absurd h.1 (by decide)) ((frM_36 330 25 (fun h => h.elim (fun h => absurd h.2 (by decide)) (fun h => h.elim (fun h => absurd h.2 (by decide)) (fun h => h.elim (fun h => absurd h.2 (by decide)) (fun h => absurd h.2 (by decide)))))).trans (ax_up_hit _ _ _ _)))))) ((frM_89 330 17 (fun h => h.elim (fun h => absurd h.2 (by decide)) (fun h => h.elim (fun h => absurd h.2 (by decide)) (fun h => h.elim (fun h => absurd h.2 (by decide)) (fun h => absurd h.2 (by decide)))))).trans (ax_up_miss (fun h => absurd h.1 (by decide)) ((frM_55 330 17 (fun h => h.elim (fun h => absurd h (by decide)) (fun h => h.elim (fun h => absurd h.2 (by decide)) (fun h => h.elim (fun h => absurd h.2 (by decide)) (fun h => h.elim (fun h => absurd h.2 (by decide)) (fun h => h.elim (fun h => absurd h.2 (by decide)) (fun h => h.elim (fun h => absurd h.2 (by decide)) (fun h => h.elim (fun h => absurd h.2 (by decide)) (fun h => absurd h.2 (by decide)))))))))).trans (ax_up_miss (fun h => absurd h.1 (by decide)) ((frM_36 330 17 (fun h => h.elim (fun h => absurd h.2 (by decide)) (fun h => h.elim (fun h => absurd h.2 (by decide)) (fun h => h.elim (fun h => absurd h.2 (by decide)) (fun h => absurd h.2 (by decide)))))).trans (ax_up_miss (by decide) htn)))))) ((frM_89 330 13 (fun h => h.elim (fun h => absurd h.2 (by decide)) (fun h => h.elim (fun h => absurd h.2 (by decide)) (fun h => h.elim (fun h => absurd h.2 (by decide)) (fun h => absurd h.2 (by decide)))))).trans (ax_up_miss (fun h => absurd h.1 (by decide)) ((frM_55 330 13 (fun h => h.elim (fun h => absurd h (by decide)) (fun h => h.elim (fun h => absurd h.2 (by decide)) (fun h => h.elim (fun h => absurd h.2 (by decide)) (fun h => h.elim (fun h => absurd h.2 (by decide)) (fun h => h.elim (fun h => absurd h.2 (by decide)) (fun h => h.elim (fun h => absurd h.2 (by decide)) (fun h => h.elim (fun h => absurd h.2 (by decide)) (fun h => absurd h.2 (by decide)))))))))).trans (ax_up_miss (fun h => absurd h.1 (by decide)) ((frM_36 330 13 (fun h => h.elim (fun h => absurd h.2 (by decide)) (fun h => h.elim (fun h => absurd h.2 (by decide)) (fun h => h.elim (fun h => absurd h.2 (by decide)) (fun h => absurd h.2 (by decide)))))).trans (ax_up_miss (by decide) hrd)))))) (by first | omega | assumption) (by first | omega | assumption) (by first | omega | assumption) (by first | omega | assumption) (by first | omega | assumption)) (pc' := 96) rfl (fun vv M_93 hq co93 hcm93 => ?_)
          obtain ⟨rfl, frM_93, fa93_0, fa93_1⟩ := hq
          refine ax_reS (st2 := [.inl (f_rb (f_any (f_one 8) L4))]) rfl ?_
          have cc93 : -2147483648 ≤ f_rb (f_any (f_one 8) L4) ∧ f_rb (f_any (f_one 8) L4) < 2147483648 := co93 _ rfl
          refine ax_if_ne (tgt := 101) dX12_aLine_96 (by decide) (pc' := 99) rfl (fun h96 => ?_) (fun h96 => ?_)
          · obtain ⟨L8, o8, qr8⟩ := f_rb_ok h96
            rw [qr8] at fa93_0
            obtain ⟨qm8, qs8, qc8, qd8⟩ := fa93_0
            have qg8 := f_any_gd (f_one_gd 8) _ L8 o8 qr8
            have qR8 := f_cur_rg qc8
            have qh8 := f_cur_hd qc8
            have qw8 := f_wt_len o8
            have qzz : f_line n L = f_lnE o2 o8 (f_ned 159 L8) := by
              rw [qb2, qr8]
              rfl
            obtain ⟨LE, qLE⟩ : ∃ z, z = L8 := ⟨_, rfl⟩
            obtain ⟨oE, qoE⟩ : ∃ z : List f_Op, z = o8 := ⟨_, rfl⟩
            rw [← qoE, ← qLE] at qzz
            have qcE := qc8
            have qmE : M_93 336 = f_put fs sn (o2 ++ oE) := by
              rw [qoE, qm8]
              exact f_put_more qm2 qs2
            have qsE : M_93 330 15 = sn + (o2.length : Int) + (oE.length : Int) := by
              rw [qoE, qs8, qs2]
            rw [← qLE] at qcE
            have qlE0 : LE.length = L8.length := by rw [qLE]
            refine ax_aload_n dX12_aLine_101 rfl rfl (pc' := 102) rfl ?_
            refine ax_getr (v := 335) dX12_aLine_102 flX12_22 rfl sh_330 rfl (pc' := 105) rfl ?_
            refine ax_iconst dX12_aLine_105 (by decide) (pc' := 106) rfl ?_
            refine ax_aload_n dX12_aLine_106 rfl rfl (pc' := 107) rfl ?_
            refine ax_geti (v := n) dX12_aLine_107 flX12_270 rfl sh_330 (show M_93 330 14 = n from ((frM_93 330 14 (fun h => h.elim (fun h => absurd h (by decide)) (fun h => h.elim (fun h => absurd h.2 (by decide)) (fun h => h.elim (fun h => absurd h.2 (by decide)) (fun h => h.elim (fun h => absurd h.2 (by decide)) (fun h => h.elim (fun h => absurd h.2 (by decide)) (fun h => h.elim (fun h => absurd h.2 (by decide)) (fun h => h.elim (fun h => absurd h.2 (by decide)) (fun h => h.elim (fun h => absurd h.2 (by decide)) (fun h => absurd h.2 (by decide))))))))))).trans ((frM_89 330 14 (fun h => h.elim (fun h => absurd h.2 (by decide)) (fun h => h.elim (fun h => absurd h.2 (by decide)) (fun h => h.elim (fun h => absurd h.2 (by decide)) (fun h => absurd h.2 (by decide)))))).trans (ax_up_miss (fun h => absurd h.1 (by decide)) ((frM_55 330 14 (fun h => h.elim (fun h => absurd h (by decide)) (fun h => h.elim (fun h => absurd h.2 (by decide)) (fun h => h.elim (fun h => absurd h.2 (by decide)) (fun h => h.elim (fun h => absurd h.2 (by decide)) (fun h => h.elim (fun h => absurd h.2 (by decide)) (fun h => h.elim (fun h => absurd h.2 (by decide)) (fun h => h.elim (fun h => absurd h.2 (by decide)) (fun h => absurd h.2 (by decide)))))))))).trans (ax_up_miss (fun h => absurd h.1 (by decide)) ((frM_36 330 14 (fun h => h.elim (fun h => absurd h.2 (by decide)) (fun h => h.elim (fun h => absurd h.2 (by decide)) (fun h => h.elim (fun h => absurd h.2 (by decide)) (fun h => absurd h.2 (by decide)))))).trans (ax_up_miss (by decide) hn)))))))) rfl (pc' := 110) rfl ?_
            refine ax_imul dX12_aLine_110 (by omega) (pc' := 111) rfl ?_
            refine ax_iconst dX12_aLine_111 (by decide) (pc' := 112) rfl ?_
            refine ax_iadd dX12_aLine_112 (by omega) (pc' := 113) rfl ?_
            refine ax_aload_n dX12_aLine_113 rfl rfl (pc' := 114) rfl ?_
            refine ax_geti (v := M_93 330 15) dX12_aLine_114 flX12_235 rfl sh_330 rfl rfl (pc' := 117) rfl ?_
            refine ax_iast dX12_aLine_117 sh_335 rfl (by omega) (by omega) (pc' := 118) rfl ?_
            have qlE : f_up (f_up (f_up fl (3 * n) sn) (3 * n + 1) (M_55 330 15)) (3 * n + 2) (M_93 330 15) = f_pL3 fl n sn (o2, oE) := by
              show _ = f_up (f_up (f_up fl (3 * n) sn) (3 * n + 1) (sn + (o2.length : Int))) (3 * n + 2) (sn + (o2.length : Int) + (oE.length : Int))
              rw [← qsE, ← qs2]
            refine ax_aload_n dX12_aLine_118 rfl rfl (pc' := 119) rfl ?_
            refine ax_sipush dX12_aLine_119 (by decide) (pc' := 122) rfl ?_
            refine ax_invG [.inl 159] [] dX12_aLine_122 mlX12_264 sh_330 rfl rfl rfl (Nat.le_of_ble_eq_true rfl) (s_X12_needL E l _ (by omega) _ 159 LE (ax_up_rowmiss (by decide) ((funext fun i0 => frM_93 339 i0 (fun h => h.elim (fun h => absurd h (by decide)) (fun h => h.elim (fun h => absurd h.1 (by decide)) (fun h => h.elim (fun h => absurd h.1 (by decide)) (fun h => h.elim (fun h => absurd h.1 (by decide)) (fun h => h.elim (fun h => absurd h.1 (by decide)) (fun h => h.elim (fun h => absurd h.1 (by decide)) (fun h => h.elim (fun h => absurd h.1 (by decide)) (fun h => h.elim (fun h => absurd h.1 (by decide)) (fun h => absurd h.1 (by decide))))))))))).trans ((funext fun i0 => frM_89 339 i0 (fun h => h.elim (fun h => absurd h.1 (by decide)) (fun h => h.elim (fun h => absurd h.1 (by decide)) (fun h => h.elim (fun h => absurd h.1 (by decide)) (fun h => absurd h.1 (by decide)))))).trans (ax_up_rowmiss (by decide) ((funext fun i0 => frM_55 339 i0 (fun h => h.elim (fun h => absurd h (by decide)) (fun h => h.elim (fun h => absurd h.1 (by decide)) (fun h => h.elim (fun h => absurd h.1 (by decide)) (fun h => h.elim (fun h => absurd h.1 (by decide)) (fun h => h.elim (fun h => absurd h.1 (by decide)) (fun h => h.elim (fun h => absurd h.1 (by decide)) (fun h => h.elim (fun h => absurd h.1 (by decide)) (fun h => absurd h.1 (by decide)))))))))).trans (ax_up_rowmiss (by decide) ((funext fun i0 => frM_36 339 i0 (fun h => h.elim (fun h => absurd h.1 (by decide)) (fun h => h.elim (fun h => absurd h.1 (by decide)) (fun h => h.elim (fun h => absurd h.1 (by decide)) (fun h => absurd h.1 (by decide)))))).trans (ax_up_rowmiss (by decide) hta)))))))) (ax_up_rowmiss (by decide) rfl) (ax_up_miss (fun h => absurd h.1 (by decide)) rfl) (ax_up_miss (fun h => absurd h.1 (by decide)) rfl) (ax_up_miss (fun h => absurd h.1 (by decide)) rfl) (ax_up_miss (fun h => absurd h.1 (by decide)) rfl) (ax_up_miss (fun h => absurd h.1 (by decide)) rfl) (ax_up_miss (fun h => absurd h.1 (by decide)) rfl) (ax_up_miss (fun h => absurd h.1 (by decide)) ((frM_93 330 17 (fun h => h.elim (fun h => absurd h (by decide)) (fun h => h.elim (fun h => absurd h.2 (by decide)) (fun h => h.elim (fun h => absurd h.2 (by decide)) (fun h => h.elim (fun h => absurd h.2 (by decide)) (fun h => h.elim (fun h => absurd h.2 (by decide)) (fun h => h.elim (fun h => absurd h.2 (by decide)) (fun h => h.elim (fun h => absurd h.2 (by decide)) (fun h => h.elim (fun h => absurd h.2 (by decide)) (fun h => absurd h.2 (by decide))))))))))).trans ((frM_89 330 17 (fun h => h.elim (fun h => absurd h.2 (by decide)) (fun h => h.elim (fun h => absurd h.2 (by decide)) (fun h => h.elim (fun h => absurd h.2 (by decide)) (fun h => absurd h.2 (by decide)))))).trans (ax_up_miss (fun h => absurd h.1 (by decide)) ((frM_55 330 17 (fun h => h.elim (fun h => absurd h (by decide)) (fun h => h.elim (fun h => absurd h.2 (by decide)) (fun h => h.elim (fun h => absurd h.2 (by decide)) (fun h => h.elim (fun h => absurd h.2 (by decide)) (fun h => h.elim (fun h => absurd h.2 (by decide)) (fun h => h.elim (fun h => absurd h.2 (by decide)) (fun h => h.elim (fun h => absurd h.2 (by decide)) (fun h => absurd h.2 (by decide)))))))))).trans (ax_up_miss (fun h => absurd h.1 (by decide)) ((frM_36 330 17 (fun h => h.elim (fun h => absurd h.2 (by decide)) (fun h => h.elim (fun h => absurd h.2 (by decide)) (fun h => h.elim (fun h => absurd h.2 (by decide)) (fun h => absurd h.2 (by decide)))))).trans (ax_up_miss (by decide) htn)))))))) (ax_up_miss (fun h => absurd h.1 (by decide)) ((frM_93 330 13 (fun h => h.elim (fun h => absurd h (by decide)) (fun h => h.elim (fun h => absurd h.2 (by decide)) (fun h => h.elim (fun h => absurd h.2 (by decide)) (fun h => h.elim (fun h => absurd h.2 (by decide)) (fun h => h.elim (fun h => absurd h.2 (by decide)) (fun h => h.elim (fun h => absurd h.2 (by decide)) (fun h => h.elim (fun h => absurd h.2 (by decide)) (fun h => h.elim (fun h => absurd h.2 (by decide)) (fun h => absurd h.2 (by decide))))))))))).trans ((frM_89 330 13 (fun h => h.elim (fun h => absurd h.2 (by decide)) (fun h => h.elim (fun h => absurd h.2 (by decide)) (fun h => h.elim (fun h => absurd h.2 (by decide)) (fun h => absurd h.2 (by decide)))))).trans (ax_up_miss (fun h => absurd h.1 (by decide)) ((frM_55 330 13 (fun h => h.elim (fun h => absurd h (by decide)) (fun h => h.elim (fun h => absurd h.2 (by decide)) (fun h => h.elim (fun h => absurd h.2 (by decide)) (fun h => h.elim (fun h => absurd h.2 (by decide)) (fun h => h.elim (fun h => absurd h.2 (by decide)) (fun h => h.elim (fun h => absurd h.2 (by decide)) (fun h => h.elim (fun h => absurd h.2 (by decide)) (fun h => absurd h.2 (by decide)))))))))).trans (ax_up_miss (fun h => absurd h.1 (by decide)) ((frM_36 330 13 (fun h => h.elim (fun h => absurd h.2 (by decide)) (fun h => h.elim (fun h => absurd h.2 (by decide)) (fun h => h.elim (fun h => absurd h.2 (by decide)) (fun h => absurd h.2 (by decide)))))).trans (ax_up_miss (by decide) hrd)))))))) (by first | omega | assumption) (by first | omega | assumption) (by first | omega | assumption) (by first | omega | assumption) (by first | omega | assumption)) (pc' := 125) rfl (fun vv M_122 hq co122 hcm122 => ?_)
            obtain ⟨rfl, frM_122, fa122_0, fa122_1⟩ := hq
            refine ax_reS (st2 := [.inl (f_rb (f_ned 159 LE))]) rfl ?_
            have cc122 : -2147483648 ≤ f_rb (f_ned 159 LE) ∧ f_rb (f_ned 159 LE) < 2147483648 := co122 _ rfl
            refine ax_zret dX12_aLine_125 rfl (f_rb_01 _) ?_
            refine ⟨rfl, ?_, ?_, ?_, ?_⟩
            · refine congrArg (fun z => some (Sum.inl z)) ?_
              rw [qzz]
              cases f_ned 159 LE <;> rfl
            · intro x0 i0 hai
              exact ((frM_122 x0 i0 (fun h => h.elim (fun h => hai (Or.inl h)) (fun h => h.elim (fun h => hai (Or.inr (Or.inl h))) (fun h => h.elim (fun h => hai (Or.inr (Or.inr (Or.inl h)))) (fun h => h.elim (fun h => hai (Or.inr (Or.inr (Or.inr (Or.inl h))))) (fun h => h.elim (fun h => hai (Or.inr (Or.inr (Or.inr (Or.inr (Or.inl h)))))) (fun h => h.elim (fun h => hai (Or.inr (Or.inr (Or.inr (Or.inr (Or.inr (Or.inl h))))))) (fun h => h.elim (fun h => hai (Or.inr (Or.inr (Or.inr (Or.inr (Or.inr (Or.inr (Or.inl h)))))))) (fun h => hai (Or.inr (Or.inr (Or.inr (Or.inr (Or.inr (Or.inr (Or.inr (Or.inl h))))))))))))))))).trans (ax_up_miss (fun h => hai (Or.inr (Or.inr (Or.inr (Or.inr (Or.inr (Or.inr (Or.inr (Or.inr (Or.inl h.1)))))))))) ((frM_93 x0 i0 (fun h => h.elim (fun h => hai (Or.inl h)) (fun h => h.elim (fun h => hai (Or.inr (Or.inl h))) (fun h => h.elim (fun h => hai (Or.inr (Or.inr (Or.inl h)))) (fun h => h.elim (fun h => hai (Or.inr (Or.inr (Or.inr (Or.inl h))))) (fun h => h.elim (fun h => hai (Or.inr (Or.inr (Or.inr (Or.inr (Or.inl h)))))) (fun h => h.elim (fun h => hai (Or.inr (Or.inr (Or.inr (Or.inr (Or.inr (Or.inl h))))))) (fun h => h.elim (fun h => hai (Or.inr (Or.inr (Or.inr (Or.inr (Or.inr (Or.inr (Or.inl h)))))))) (fun h => h.elim (fun h => hai (Or.inr (Or.inr (Or.inr (Or.inr (Or.inr (Or.inr (Or.inr (Or.inl h))))))))) (fun h => hai (Or.inr (Or.inr (Or.inr (Or.inr (Or.inr (Or.inr (Or.inr (Or.inr (Or.inr h))))))))))))))))))).trans ((frM_89 x0 i0 (fun h => h.elim (fun h => hai (Or.inr (Or.inr (Or.inl h)))) (fun h => h.elim (fun h => hai (Or.inr (Or.inr (Or.inr (Or.inl h))))) (fun h => h.elim (fun h => hai (Or.inr (Or.inr (Or.inr (Or.inr (Or.inl h)))))) (fun h => hai (Or.inr (Or.inr (Or.inr (Or.inr (Or.inr (Or.inl h))))))))))).trans (ax_up_miss (fun h => hai (Or.inr (Or.inr (Or.inr (Or.inr (Or.inr (Or.inr (Or.inr (Or.inr (Or.inl h.1)))))))))) ((frM_55 x0 i0 (fun h => h.elim (fun h => hai (Or.inl h)) (fun h => h.elim (fun h => hai (Or.inr (Or.inl h))) (fun h => h.elim (fun h => hai (Or.inr (Or.inr (Or.inl h)))) (fun h => h.elim (fun h => hai (Or.inr (Or.inr (Or.inr (Or.inl h))))) (fun h => h.elim (fun h => hai (Or.inr (Or.inr (Or.inr (Or.inr (Or.inl h)))))) (fun h => h.elim (fun h => hai (Or.inr (Or.inr (Or.inr (Or.inr (Or.inr (Or.inl h))))))) (fun h => h.elim (fun h => hai (Or.inr (Or.inr (Or.inr (Or.inr (Or.inr (Or.inr (Or.inl h)))))))) (fun h => hai (Or.inr (Or.inr (Or.inr (Or.inr (Or.inr (Or.inr (Or.inr (Or.inl h))))))))))))))))).trans (ax_up_miss (fun h => hai (Or.inr (Or.inr (Or.inr (Or.inr (Or.inr (Or.inr (Or.inr (Or.inr (Or.inl h.1)))))))))) ((frM_36 x0 i0 (fun h => h.elim (fun h => hai (Or.inr (Or.inr (Or.inl h)))) (fun h => h.elim (fun h => hai (Or.inr (Or.inr (Or.inr (Or.inl h))))) (fun h => h.elim (fun h => hai (Or.inr (Or.inr (Or.inr (Or.inr (Or.inl h)))))) (fun h => hai (Or.inr (Or.inr (Or.inr (Or.inr (Or.inr (Or.inl h))))))))))).trans (ax_up_miss (fun h => hai (Or.inr (Or.inr (Or.inr (Or.inr (Or.inr (Or.inr (Or.inr (Or.inr (Or.inr h)))))))))) rfl)))))))))
            · rcases f_rb_01 (f_ned 159 LE) with qn | qn
              · obtain ⟨kk7, ss7, qr7⟩ := f_rb_no qn
                rw [qr7] at fa122_0
                exact f_lok_no (qzz.trans (by rw [qr7]; rfl)) fa122_0.1 fa122_0.2
              · obtain ⟨L7, o7, qr7⟩ := f_rb_ok (r := f_ned 159 LE) (by omega)
                rw [qr7] at fa122_0
                obtain ⟨qm7, qs7, qc7, qd7⟩ := fa122_0
                obtain rfl : o7 = [] := by
                  unfold f_ned at qr7
                  split at qr7
                  · cases qr7
                    rfl
                  · cases qr7
                rw [qzz, qr7]
                refine ⟨qm7.trans ?_, Eq.trans ((funext fun i0 => frM_122 335 i0 (fun h => h.elim (fun h => absurd h (by decide)) (fun h => h.elim (fun h => absurd h.1 (by decide)) (fun h => h.elim (fun h => absurd h.1 (by decide)) (fun h => h.elim (fun h => absurd h.1 (by decide)) (fun h => h.elim (fun h => absurd h.1 (by decide)) (fun h => h.elim (fun h => absurd h.1 (by decide)) (fun h => h.elim (fun h => absurd h.1 (by decide)) (fun h => absurd h.1 (by decide)))))))))).trans (ax_up_rowhit ((funext fun i0 => frM_93 335 i0 (fun h => h.elim (fun h => absurd h (by decide)) (fun h => h.elim (fun h => absurd h.1 (by decide)) (fun h => h.elim (fun h => absurd h.1 (by decide)) (fun h => h.elim (fun h => absurd h.1 (by decide)) (fun h => h.elim (fun h => absurd h.1 (by decide)) (fun h => h.elim (fun h => absurd h.1 (by decide)) (fun h => h.elim (fun h => absurd h.1 (by decide)) (fun h => h.elim (fun h => absurd h.1 (by decide)) (fun h => absurd h.1 (by decide))))))))))).trans ((funext fun i0 => frM_89 335 i0 (fun h => h.elim (fun h => absurd h.1 (by decide)) (fun h => h.elim (fun h => absurd h.1 (by decide)) (fun h => h.elim (fun h => absurd h.1 (by decide)) (fun h => absurd h.1 (by decide)))))).trans (ax_up_rowhit ((funext fun i0 => frM_55 335 i0 (fun h => h.elim (fun h => absurd h (by decide)) (fun h => h.elim (fun h => absurd h.1 (by decide)) (fun h => h.elim (fun h => absurd h.1 (by decide)) (fun h => h.elim (fun h => absurd h.1 (by decide)) (fun h => h.elim (fun h => absurd h.1 (by decide)) (fun h => h.elim (fun h => absurd h.1 (by decide)) (fun h => h.elim (fun h => absurd h.1 (by decide)) (fun h => absurd h.1 (by decide)))))))))).trans (ax_up_rowhit ((funext fun i0 => frM_36 335 i0 (fun h => h.elim (fun h => absurd h.1 (by decide)) (fun h => h.elim (fun h => absurd h.1 (by decide)) (fun h => h.elim (fun h => absurd h.1 (by decide)) (fun h => absurd h.1 (by decide)))))).trans (ax_up_rowmiss (by decide) hfl))))))))) ?_, qs7.trans ?_, qc7⟩
                · exact qmE
                · exact qlE
                · exact (Int.add_zero _).trans qsE
            · have q9 : M_122 330 21 = M_122 330 21 := rfl
              have q9b : 0 ≤ M_122 330 21 ∧ M_122 330 21 ≤ 9999 := by omega
              exact f_r9 q9 q9b
          · obtain ⟨kk8, ss8, qr8⟩ := f_rb_no h96
            rw [qr8] at fa93_0
            have qz : f_line n L = .inl (kk8, ss8) := by
              rw [qb2, qr8]
              rfl
            refine ax_iconst dX12_aLine_99 (by decide) (pc' := 100) rfl ?_
            refine ax_zret dX12_aLine_100 rfl (by decide) ?_
            refine ⟨rfl, ?_, ?_, ?_, ?_⟩
            · refine congrArg (fun z => some (Sum.inl z)) ?_
              rw [qz]
              rfl
            · intro x0 i0 hai
              exact ((frM_93 x0 i0 (fun h => h.elim (fun h => hai (Or.inl h)) (fun h => h.elim (fun h => hai (Or.inr (Or.inl h))) (fun h => h.elim (fun h => hai (Or.inr (Or.inr (Or.inl h)))) (fun h => h.elim (fun h => hai (Or.inr (Or.inr (Or.inr (Or.inl h))))) (fun h => h.elim (fun h => hai (Or.inr (Or.inr (Or.inr (Or.inr (Or.inl h)))))) (fun h => h.elim (fun h => hai (Or.inr (Or.inr (Or.inr (Or.inr (Or.inr (Or.inl h))))))) (fun h => h.elim (fun h => hai (Or.inr (Or.inr (Or.inr (Or.inr (Or.inr (Or.inr (Or.inl h)))))))) (fun h => h.elim (fun h => hai (Or.inr (Or.inr (Or.inr (Or.inr (Or.inr (Or.inr (Or.inr (Or.inl h))))))))) (fun h => hai (Or.inr (Or.inr (Or.inr (Or.inr (Or.inr (Or.inr (Or.inr (Or.inr (Or.inr h))))))))))))))))))).trans ((frM_89 x0 i0 (fun h => h.elim (fun h => hai (Or.inr (Or.inr (Or.inl h)))) (fun h => h.elim (fun h => hai (Or.inr (Or.inr (Or.inr (Or.inl h))))) (fun h => h.elim (fun h => hai (Or.inr (Or.inr (Or.inr (Or.inr (Or.inl h)))))) (fun h => hai (Or.inr (Or.inr (Or.inr (Or.inr (Or.inr (Or.inl h))))))))))).trans (ax_up_miss (fun h => hai (Or.inr (Or.inr (Or.inr (Or.inr (Or.inr (Or.inr (Or.inr (Or.inr (Or.inl h.1)))))))))) ((frM_55 x0 i0 (fun h => h.elim (fun h => hai (Or.inl h)) (fun h => h.elim (fun h => hai (Or.inr (Or.inl h))) (fun h => h.elim (fun h => hai (Or.inr (Or.inr (Or.inl h)))) (fun h => h.elim (fun h => hai (Or.inr (Or.inr (Or.inr (Or.inl h))))) (fun h => h.elim (fun h => hai (Or.inr (Or.inr (Or.inr (Or.inr (Or.inl h)))))) (fun h => h.elim (fun h => hai (Or.inr (Or.inr (Or.inr (Or.inr (Or.inr (Or.inl h))))))) (fun h => h.elim (fun h => hai (Or.inr (Or.inr (Or.inr (Or.inr (Or.inr (Or.inr (Or.inl h)))))))) (fun h => hai (Or.inr (Or.inr (Or.inr (Or.inr (Or.inr (Or.inr (Or.inr (Or.inl h))))))))))))))))).trans (ax_up_miss (fun h => hai (Or.inr (Or.inr (Or.inr (Or.inr (Or.inr (Or.inr (Or.inr (Or.inr (Or.inl h.1)))))))))) ((frM_36 x0 i0 (fun h => h.elim (fun h => hai (Or.inr (Or.inr (Or.inl h)))) (fun h => h.elim (fun h => hai (Or.inr (Or.inr (Or.inr (Or.inl h))))) (fun h => h.elim (fun h => hai (Or.inr (Or.inr (Or.inr (Or.inr (Or.inl h)))))) (fun h => hai (Or.inr (Or.inr (Or.inr (Or.inr (Or.inr (Or.inl h))))))))))).trans (ax_up_miss (fun h => hai (Or.inr (Or.inr (Or.inr (Or.inr (Or.inr (Or.inr (Or.inr (Or.inr (Or.inr h)))))))))) rfl)))))))
            · exact f_lok_no qz fa93_0.1 fa93_0.2
            · have q9 : M_93 330 21 = M_93 330 21 := rfl
              have q9b : 0 ≤ M_93 330 21 ∧ M_93 330 21 ≤ 9999 := by omega
              exact f_r9 q9 q9b
      · obtain ⟨kk2, ss2, qr2⟩ := f_rb_no h58
        rw [qr2] at fa55_0
        have qz : f_line n L = .inl (kk2, ss2) := by
          rw [qb, qr2]
          rfl
        refine ax_iconst dX12_aLine_61 (by decide) (pc' := 62) rfl ?_
        refine ax_zret dX12_aLine_62 rfl (by decide) ?_
        refine ⟨rfl, ?_, ?_, ?_, ?_⟩
        · refine congrArg (fun z => some (Sum.inl z)) ?_
          rw [qz]
          rfl
        · intro x0 i0 hai
          exact ((frM_55 x0 i0 (fun h => h.elim (fun h => hai (Or.inl h)) (fun h => h.elim (fun h => hai (Or.inr (Or.inl h))) (fun h => h.elim (fun h => hai (Or.inr (Or.inr (Or.inl h)))) (fun h => h.elim (fun h => hai (Or.inr (Or.inr (Or.inr (Or.inl h))))) (fun h => h.elim (fun h => hai (Or.inr (Or.inr (Or.inr (Or.inr (Or.inl h)))))) (fun h => h.elim (fun h => hai (Or.inr (Or.inr (Or.inr (Or.inr (Or.inr (Or.inl h))))))) (fun h => h.elim (fun h => hai (Or.inr (Or.inr (Or.inr (Or.inr (Or.inr (Or.inr (Or.inl h)))))))) (fun h => hai (Or.inr (Or.inr (Or.inr (Or.inr (Or.inr (Or.inr (Or.inr (Or.inl h))))))))))))))))).trans (ax_up_miss (fun h => hai (Or.inr (Or.inr (Or.inr (Or.inr (Or.inr (Or.inr (Or.inr (Or.inr (Or.inl h.1)))))))))) ((frM_36 x0 i0 (fun h => h.elim (fun h => hai (Or.inr (Or.inr (Or.inl h)))) (fun h => h.elim (fun h => hai (Or.inr (Or.inr (Or.inr (Or.inl h))))) (fun h => h.elim (fun h => hai (Or.inr (Or.inr (Or.inr (Or.inr (Or.inl h)))))) (fun h => hai (Or.inr (Or.inr (Or.inr (Or.inr (Or.inr (Or.inl h))))))))))).trans (ax_up_miss (fun h => hai (Or.inr (Or.inr (Or.inr (Or.inr (Or.inr (Or.inr (Or.inr (Or.inr (Or.inr h)))))))))) rfl))))
        · exact f_lok_no qz fa55_0.1 fa55_0.2
        · have q9 : M_55 330 21 = M_55 330 21 := rfl
          have q9b : 0 ≤ M_55 330 21 ∧ M_55 330 21 ≤ 9999 := by omega
          exact f_r9 q9 q9b
    · have qz : f_line n L = .inl (3, tk) := by
        unfold f_line
        rw [if_neg (by omega), if_pos (by omega), qh.2.2]
      refine ax_aload_n dX12_aLine_24 rfl rfl (pc' := 25) rfl ?_
      refine ax_iconst dX12_aLine_25 (by decide) (pc' := 26) rfl ?_
      refine ax_invG [.inl 3] [] dX12_aLine_26 mlX12_229 sh_330 rfl rfl rfl (Nat.le_of_ble_eq_true rfl) (s_X12_bad E l _ (by omega) _ 3 htk) (pc' := 29) rfl (fun vv M_26 hq co26 hcm26 => ?_)
      obtain ⟨rfl, frM_26, msM_26_0, msM_26_1⟩ := hq
      refine ax_reS (st2 := [.inl 0]) rfl ?_
      refine ax_zret dX12_aLine_29 rfl (by decide) ?_
      refine ⟨rfl, ?_, ?_, ?_, ?_⟩
      · refine congrArg (fun z => some (Sum.inl z)) ?_
        rw [qz]
        rfl
      · intro x0 i0 hai
        exact ((frM_26 x0 i0 (fun h => h.elim (fun h => hai (Or.inr (Or.inr (Or.inr (Or.inr (Or.inr (Or.inr (Or.inl h)))))))) (fun h => hai (Or.inr (Or.inr (Or.inr (Or.inr (Or.inr (Or.inr (Or.inr (Or.inl h))))))))))).trans rfl)
      · exact f_lok_no qz msM_26_0 msM_26_1
      · have q9 : M_26 330 21 = v0 := ((frM_26 330 21 (fun h => h.elim (fun h => absurd h.2 (by decide)) (fun h => absurd h.2 (by decide)))).trans hv0)
        have q9b : 0 ≤ v0 ∧ v0 ≤ 9999 := by omega
        exact f_r9 q9 q9b
  · have qz : f_line n L = .inl (1, tk) := by
      unfold f_line
      rw [if_pos (by omega), qh.2.2]
    refine ax_aload_n dX12_aLine_9 rfl rfl (pc' := 10) rfl ?_
    refine ax_iconst dX12_aLine_10 (by decide) (pc' := 11) rfl ?_
    refine ax_invG [.inl 1] [] dX12_aLine_11 mlX12_229 sh_330 rfl rfl rfl (Nat.le_of_ble_eq_true rfl) (s_X12_bad E l _ (by omega) _ 1 htk) (pc' := 14) rfl (fun vv M_11 hq co11 hcm11 => ?_)
    obtain ⟨rfl, frM_11, msM_11_0, msM_11_1⟩ := hq
    refine ax_reS (st2 := [.inl 0]) rfl ?_
    refine ax_zret dX12_aLine_14 rfl (by decide) ?_
    refine ⟨rfl, ?_, ?_, ?_, ?_⟩
    · refine congrArg (fun z => some (Sum.inl z)) ?_
      rw [qz]
      rfl
    · intro x0 i0 hai
      exact ((frM_11 x0 i0 (fun h => h.elim (fun h => hai (Or.inr (Or.inr (Or.inr (Or.inr (Or.inr (Or.inr (Or.inl h)))))))) (fun h => hai (Or.inr (Or.inr (Or.inr (Or.inr (Or.inr (Or.inr (Or.inr (Or.inl h))))))))))).trans rfl)
    · exact f_lok_no qz msM_11_0 msM_11_1
    · have q9 : M_11 330 21 = v0 := ((frM_11 330 21 (fun h => h.elim (fun h => absurd h.2 (by decide)) (fun h => absurd h.2 (by decide)))).trans hv0)
      have q9b : 0 ≤ v0 ∧ v0 ≤ 9999 := by omega
      exact f_r9 q9 q9b
set_option maxRecDepth 20000 in
theorem s_X12_readsLaw (E : ax_Env) (l : Launch) (d : Nat) (hd : 41 ≤ d) (M : ax_Mem) (L : List f_Tk) {ta : Int → Int} (hta : M 339 = ta) {fs : Int → Int} (hfs : M 336 = fs) {fl : Int → Int} (hfl : M 335 = fl) {p0 : Int} (hp0 : M 330 18 = p0) {to : Int} (hto : M 330 19 = to) {tk : Int} (htk : M 330 20 = tk) {v0 : Int} (hv0 : M 330 21 = v0) {dp : Int} (hdp : M 330 25 = dp) {tn : Int} (htn : M 330 17 = tn) {rd : Int} (hrd : M 330 13 = rd) (hg0 : 0 ≤ tn ∧ tn ≤ 400) (hg1 : f_tp ta tn) (hg2 : f_cur ta tn rd L p0 to tk v0) (hg3 : (L.length : Int) ≤ 405) : ax_G E l d iX12_readsLaw [.inr 330] M (fun z0 M2 => z0 = some (.inl (f_rwb (f_laws L))) ∧ (∀ x0 i0 : Int, ¬ (x0 = 336 ∨ (x0 = 330 ∧ i0 = 15) ∨ (x0 = 330 ∧ i0 = 18) ∨ (x0 = 330 ∧ i0 = 19) ∨ (x0 = 330 ∧ i0 = 20) ∨ (x0 = 330 ∧ i0 = 21) ∨ (x0 = 330 ∧ i0 = 22) ∨ (x0 = 330 ∧ i0 = 23) ∨ x0 = 335 ∨ (x0 = 330 ∧ i0 = 25) ∨ (x0 = 330 ∧ i0 = 14)) → M2 x0 i0 = M x0 i0) ∧ (f_wok fs fl (f_laws L) M2) ∧ (0 ≤ M2 330 21 ∧ M2 330 21 ≤ 9999)) := by
  obtain ⟨d, rfl⟩ : ∃ d0, d = d0 + 1 := ⟨d - 1, by omega⟩
  refine ax_start rfl (Nat.le_of_ble_eq_true rfl) (ls := [some (.inr 330), none]) rfl (fun hav hcm => ?_)
  clear hav
  refine ax_aload_n dX12_readsLaw_0 rfl rfl (pc' := 1) rfl ?_
  refine ax_iconst dX12_readsLaw_1 (by decide) (pc' := 2) rfl ?_
  refine ax_puti dX12_readsLaw_2 flX12_270 (Or.inl rfl) sh_330 rfl (pc' := 5) rfl ?_
  refine ax_aload_n dX12_readsLaw_5 rfl rfl (pc' := 6) rfl ?_
  refine ax_iconst dX12_readsLaw_6 (by decide) (pc' := 7) rfl ?_
  refine ax_puti dX12_readsLaw_7 flX12_235 (Or.inl rfl) sh_330 rfl (pc' := 10) rfl ?_
  refine ax_iconst dX12_readsLaw_10 (by decide) (pc' := 11) rfl ?_
  refine ax_istore_n dX12_readsLaw_11 rfl (by decide) (ls' := [some (.inr 330), some (.inl 1)]) rfl (pc' := 12) rfl ?_
  have LP1 : ∀ (kq2 : Nat) (gd : Int) (f1 g1 : Int → Int) (s1 n1 p1 t1 k1 v1 d1 w1 w2 : Int) (L1 : List f_Tk) (ls1 : List f_Ln) (M1 : ax_Mem) (hm1 : (L1.length : Int) + gd < (kq2 : Nat)) (fr1 : ∀ x0 i0 : Int, ¬ (x0 = 336 ∨ x0 = 335 ∨ (x0 = 330 ∧ i0 = 15) ∨ (x0 = 330 ∧ i0 = 14) ∨ (x0 = 330 ∧ i0 = 18) ∨ (x0 = 330 ∧ i0 = 19) ∨ (x0 = 330 ∧ i0 = 20) ∨ (x0 = 330 ∧ i0 = 21) ∨ (x0 = 330 ∧ i0 = 25) ∨ (x0 = 330 ∧ i0 = 22) ∨ (x0 = 330 ∧ i0 = 23)) → M1 x0 i0 = (ax_up (ax_up M 330 14 0) 330 15 0) x0 i0) (mr1_336 : M1 336 = f1) (mr1_335 : M1 335 = g1) (ms1_330_15 : M1 330 15 = s1) (ms1_330_14 : M1 330 14 = n1) (ms1_330_18 : M1 330 18 = p1) (ms1_330_19 : M1 330 19 = t1) (ms1_330_20 : M1 330 20 = k1) (ms1_330_21 : M1 330 21 = v1) (ms1_330_25 : M1 330 25 = d1) (ms1_330_22 : M1 330 22 = w1) (ms1_330_23 : M1 330 23 = w2) (iv1_0 : gd = 0 ∨ gd = 1) (iv1_1 : gd = 0 → f_laws L = .inl (w1, w2)) (iv1_2 : gd = 1 → f_cur ta tn rd L1 p1 t1 k1 v1) (iv1_3 : gd = 1 → f1 = f_put fs 0 (f_cds ls1) ∧ g1 = f_putL fl 0 0 ls1 ∧ n1 = (ls1.length : Int) ∧ s1 = ((f_cds ls1).length : Int)) (iv1_4 : gd = 1 → (f_cds ls1).length + L1.length ≤ L.length) (iv1_5 : gd = 1 → f_laws L = f_lpr ls1 (f_law (L1.length + 1) n1 L1)) (iv1_6 : gd = 1 → 0 ≤ n1 ∧ n1 ≤ 16) (iv1_7 : 0 ≤ v1 ∧ v1 ≤ 9999), ax_W E l (d + 1) 0 0 iX12_readsLaw 12 [some (.inr 330), some (.inl gd)] [] SH M1 (ax_P (fun z0 M2 => z0 = some (.inl (f_rwb (f_laws L))) ∧ (∀ x0 i0 : Int, ¬ (x0 = 336 ∨ (x0 = 330 ∧ i0 = 15) ∨ (x0 = 330 ∧ i0 = 18) ∨ (x0 = 330 ∧ i0 = 19) ∨ (x0 = 330 ∧ i0 = 20) ∨ (x0 = 330 ∧ i0 = 21) ∨ (x0 = 330 ∧ i0 = 22) ∨ (x0 = 330 ∧ i0 = 23) ∨ x0 = 335 ∨ (x0 = 330 ∧ i0 = 25) ∨ (x0 = 330 ∧ i0 = 14)) → M2 x0 i0 = M x0 i0) ∧ (f_wok fs fl (f_laws L) M2) ∧ (0 ≤ M2 330 21 ∧ M2 330 21 ≤ 9999))) := by
    intro kq2
    induction kq2 with
    | zero =>
      intro gd f1 g1 s1 n1 p1 t1 k1 v1 d1 w1 w2 L1 ls1 M1 hm1 fr1 mr1_336 mr1_335 ms1_330_15 ms1_330_14 ms1_330_18 ms1_330_19 ms1_330_20 ms1_330_21 ms1_330_25 ms1_330_22 ms1_330_23 iv1_0 iv1_1 iv1_2 iv1_3 iv1_4 iv1_5 iv1_6 iv1_7
      exfalso
      omega
    | succ kq2 ih3 =>
      intro gd f1 g1 s1 n1 p1 t1 k1 v1 d1 w1 w2 L1 ls1 M1 hm1 fr1 mr1_336 mr1_335 ms1_330_15 ms1_330_14 ms1_330_18 ms1_330_19 ms1_330_20 ms1_330_21 ms1_330_25 ms1_330_22 ms1_330_23 iv1_0 iv1_1 iv1_2 iv1_3 iv1_4 iv1_5 iv1_6 iv1_7
      refine ax_iload_n dX12_readsLaw_12 rfl rfl (pc' := 13) rfl ?_
      refine ax_if_eq (tgt := 49) dX12_readsLaw_13 (by decide) (pc' := 16) rfl (fun h13 => ?_) (fun h13 => ?_)
      · have qz := iv1_1 (by omega)
        refine ax_iload_n dX12_readsLaw_49 rfl rfl (pc' := 50) rfl ?_
        refine ax_zret dX12_readsLaw_50 rfl (by omega) ?_
        refine ⟨rfl, ?_, ?_, ?_, ?_⟩
        · refine congrArg (fun z => some (Sum.inl z)) ?_
          rw [qz]
          first | rfl | (show _ = (0 : Int); omega)
        · intro x0 i0 hai
          exact ((fr1 x0 i0 (fun h => h.elim (fun h => hai (Or.inl h)) (fun h => h.elim (fun h => hai (Or.inr (Or.inr (Or.inr (Or.inr (Or.inr (Or.inr (Or.inr (Or.inr (Or.inl h)))))))))) (fun h => h.elim (fun h => hai (Or.inr (Or.inl h))) (fun h => h.elim (fun h => hai (Or.inr (Or.inr (Or.inr (Or.inr (Or.inr (Or.inr (Or.inr (Or.inr (Or.inr (Or.inr h))))))))))) (fun h => h.elim (fun h => hai (Or.inr (Or.inr (Or.inl h)))) (fun h => h.elim (fun h => hai (Or.inr (Or.inr (Or.inr (Or.inl h))))) (fun h => h.elim (fun h => hai (Or.inr (Or.inr (Or.inr (Or.inr (Or.inl h)))))) (fun h => h.elim (fun h => hai (Or.inr (Or.inr (Or.inr (Or.inr (Or.inr (Or.inl h))))))) (fun h => h.elim (fun h => hai (Or.inr (Or.inr (Or.inr (Or.inr (Or.inr (Or.inr (Or.inr (Or.inr (Or.inr (Or.inl h))))))))))) (fun h => h.elim (fun h => hai (Or.inr (Or.inr (Or.inr (Or.inr (Or.inr (Or.inr (Or.inl h)))))))) (fun h => hai (Or.inr (Or.inr (Or.inr (Or.inr (Or.inr (Or.inr (Or.inr (Or.inl h)))))))))))))))))))).trans (ax_up_miss (fun h => hai (Or.inr (Or.inl h))) (ax_up_miss (fun h => hai (Or.inr (Or.inr (Or.inr (Or.inr (Or.inr (Or.inr (Or.inr (Or.inr (Or.inr (Or.inr h))))))))))) rfl)))
        · first
            | exact f_wok_no qz ms1_330_22 ms1_330_23
            | (rw [qz]
               exact ⟨Eq.trans mr1_336 qi3.1, Eq.trans mr1_335 qi3.2.1, Eq.trans ms1_330_14 qi3.2.2.1, Eq.trans ms1_330_15 qi3.2.2.2⟩)
        · have q9 : M1 330 21 = v1 := ms1_330_21
          have q9b : 0 ≤ v1 ∧ v1 ≤ 9999 := by omega
          exact f_r9 q9 q9b
      · obtain rfl : gd = 1 := by omega
        have qc1 := iv1_2 rfl
        have qi3 := iv1_3 rfl
        have qi4 := iv1_4 rfl
        have qi5 := iv1_5 rfl
        have qi6 := iv1_6 rfl
        have qh1 := f_cur_hd qc1
        refine ax_aload_n dX12_readsLaw_16 rfl rfl (pc' := 17) rfl ?_
        refine ax_geti (v := t1) dX12_readsLaw_17 flX12_208 rfl sh_330 ms1_330_19 rfl (pc' := 20) rfl ?_
        refine ax_if_eq (tgt := 49) dX12_readsLaw_20 (by decide) (pc' := 23) rfl (fun h20 => ?_) (fun h20 => ?_)
        · have qz : f_laws L = .inr ls1 := by
            rw [qi5, f_law_end (by omega), f_lpr_ok, List.append_nil]
          refine ax_iload_n dX12_readsLaw_49 rfl rfl (pc' := 50) rfl ?_
          refine ax_zret dX12_readsLaw_50 rfl (by omega) ?_
          refine ⟨rfl, ?_, ?_, ?_, ?_⟩
          · refine congrArg (fun z => some (Sum.inl z)) ?_
            rw [qz]
            first | rfl | (show _ = (0 : Int); omega)
          · intro x0 i0 hai
            exact ((fr1 x0 i0 (fun h => h.elim (fun h => hai (Or.inl h)) (fun h => h.elim (fun h => hai (Or.inr (Or.inr (Or.inr (Or.inr (Or.inr (Or.inr (Or.inr (Or.inr (Or.inl h)))))))))) (fun h => h.elim (fun h => hai (Or.inr (Or.inl h))) (fun h => h.elim (fun h => hai (Or.inr (Or.inr (Or.inr (Or.inr (Or.inr (Or.inr (Or.inr (Or.inr (Or.inr (Or.inr h))))))))))) (fun h => h.elim (fun h => hai (Or.inr (Or.inr (Or.inl h)))) (fun h => h.elim (fun h => hai (Or.inr (Or.inr (Or.inr (Or.inl h))))) (fun h => h.elim (fun h => hai (Or.inr (Or.inr (Or.inr (Or.inr (Or.inl h)))))) (fun h => h.elim (fun h => hai (Or.inr (Or.inr (Or.inr (Or.inr (Or.inr (Or.inl h))))))) (fun h => h.elim (fun h => hai (Or.inr (Or.inr (Or.inr (Or.inr (Or.inr (Or.inr (Or.inr (Or.inr (Or.inr (Or.inl h))))))))))) (fun h => h.elim (fun h => hai (Or.inr (Or.inr (Or.inr (Or.inr (Or.inr (Or.inr (Or.inl h)))))))) (fun h => hai (Or.inr (Or.inr (Or.inr (Or.inr (Or.inr (Or.inr (Or.inr (Or.inl h)))))))))))))))))))).trans (ax_up_miss (fun h => hai (Or.inr (Or.inl h))) (ax_up_miss (fun h => hai (Or.inr (Or.inr (Or.inr (Or.inr (Or.inr (Or.inr (Or.inr (Or.inr (Or.inr (Or.inr h))))))))))) rfl)))
          · first
              | exact f_wok_no qz ms1_330_22 ms1_330_23
              | (rw [qz]
                 exact ⟨Eq.trans mr1_336 qi3.1, Eq.trans mr1_335 qi3.2.1, Eq.trans ms1_330_14 qi3.2.2.1, Eq.trans ms1_330_15 qi3.2.2.2⟩)
          · have q9 : M1 330 21 = v1 := ms1_330_21
            have q9b : 0 ≤ v1 ∧ v1 ≤ 9999 := by omega
            exact f_r9 q9 q9b
        · refine ax_aload_n dX12_readsLaw_23 rfl rfl (pc' := 24) rfl ?_
          refine ax_invG [] [] dX12_readsLaw_24 mlX12_273 sh_330 rfl rfl rfl (Nat.le_of_ble_eq_true rfl) (s_X12_aLine E l _ (by omega) _ L1 ((funext fun i0 => fr1 339 i0 (fun h => h.elim (fun h => absurd h (by decide)) (fun h => h.elim (fun h => absurd h (by decide)) (fun h => h.elim (fun h => absurd h.1 (by decide)) (fun h => h.elim (fun h => absurd h.1 (by decide)) (fun h => h.elim (fun h => absurd h.1 (by decide)) (fun h => h.elim (fun h => absurd h.1 (by decide)) (fun h => h.elim (fun h => absurd h.1 (by decide)) (fun h => h.elim (fun h => absurd h.1 (by decide)) (fun h => h.elim (fun h => absurd h.1 (by decide)) (fun h => h.elim (fun h => absurd h.1 (by decide)) (fun h => absurd h.1 (by decide))))))))))))).trans (ax_up_rowmiss (by decide) (ax_up_rowmiss (by decide) hta))) mr1_336 mr1_335 ms1_330_18 ms1_330_19 ms1_330_20 ms1_330_21 ms1_330_15 ms1_330_25 ((fr1 330 17 (fun h => h.elim (fun h => absurd h (by decide)) (fun h => h.elim (fun h => absurd h (by decide)) (fun h => h.elim (fun h => absurd h.2 (by decide)) (fun h => h.elim (fun h => absurd h.2 (by decide)) (fun h => h.elim (fun h => absurd h.2 (by decide)) (fun h => h.elim (fun h => absurd h.2 (by decide)) (fun h => h.elim (fun h => absurd h.2 (by decide)) (fun h => h.elim (fun h => absurd h.2 (by decide)) (fun h => h.elim (fun h => absurd h.2 (by decide)) (fun h => h.elim (fun h => absurd h.2 (by decide)) (fun h => absurd h.2 (by decide))))))))))))).trans (ax_up_miss (by decide) (ax_up_miss (by decide) htn))) ((fr1 330 13 (fun h => h.elim (fun h => absurd h (by decide)) (fun h => h.elim (fun h => absurd h (by decide)) (fun h => h.elim (fun h => absurd h.2 (by decide)) (fun h => h.elim (fun h => absurd h.2 (by decide)) (fun h => h.elim (fun h => absurd h.2 (by decide)) (fun h => h.elim (fun h => absurd h.2 (by decide)) (fun h => h.elim (fun h => absurd h.2 (by decide)) (fun h => h.elim (fun h => absurd h.2 (by decide)) (fun h => h.elim (fun h => absurd h.2 (by decide)) (fun h => h.elim (fun h => absurd h.2 (by decide)) (fun h => absurd h.2 (by decide))))))))))))).trans (ax_up_miss (by decide) (ax_up_miss (by decide) hrd))) ms1_330_14 (by first | omega | assumption) (by first | omega | assumption) qc1 (by omega) (by omega)) (pc' := 27) rfl (fun vv M_24 hq co24 hcm24 => ?_)
          obtain ⟨rfl, frM_24, fa24_0, fa24_1⟩ := hq
          refine ax_reS (st2 := [.inl (f_rlb (f_line n1 L1))]) rfl ?_
          have cc24 : -2147483648 ≤ f_rlb (f_line n1 L1) ∧ f_rlb (f_line n1 L1) < 2147483648 := co24 _ rfl
          have qgd := f_rlb_01 (f_line n1 L1)
          refine ax_istore_n dX12_readsLaw_27 rfl (by decide) (ls' := [some (.inr 330), some (.inl (f_rlb (f_line n1 L1)))]) rfl (pc' := 28) rfl ?_
          refine ax_aload_n dX12_readsLaw_28 rfl rfl (pc' := 29) rfl ?_
          refine ax_dup dX12_readsLaw_29 (pc' := 30) rfl ?_
          refine ax_geti (v := n1) dX12_readsLaw_30 flX12_270 rfl sh_330 ((frM_24 330 14 (fun h => h.elim (fun h => absurd h (by decide)) (fun h => h.elim (fun h => absurd h.2 (by decide)) (fun h => h.elim (fun h => absurd h.2 (by decide)) (fun h => h.elim (fun h => absurd h.2 (by decide)) (fun h => h.elim (fun h => absurd h.2 (by decide)) (fun h => h.elim (fun h => absurd h.2 (by decide)) (fun h => h.elim (fun h => absurd h.2 (by decide)) (fun h => h.elim (fun h => absurd h.2 (by decide)) (fun h => h.elim (fun h => absurd h (by decide)) (fun h => absurd h.2 (by decide)))))))))))).trans ms1_330_14) rfl (pc' := 33) rfl ?_
          refine ax_iload_n dX12_readsLaw_33 rfl rfl (pc' := 34) rfl ?_
          refine ax_if_eq (tgt := 41) dX12_readsLaw_34 (by decide) (pc' := 37) rfl (fun h34 => ?_) (fun h34 => ?_)
          · obtain ⟨kk3, ss3, qr3⟩ := f_rlb_no h34
            rw [qr3] at fa24_0
            obtain ⟨qk3, qs3⟩ := fa24_0
            obtain ⟨L3, qL3⟩ : ∃ z, z = L1 := ⟨_, rfl⟩
            obtain ⟨ls3, qls⟩ : ∃ z, z = ls1 := ⟨_, rfl⟩
            have qL4 : L3.length = L1.length := by rw [qL3]
            have qa1 : f_rlb (f_line n1 L1) = 0 → f_laws L = .inl (M_24 330 22, M_24 330 23) := by
              intro _
              rw [qi5, f_law_step (by omega), qr3, qk3, qs3]
              exact f_lpr_no ls1 _
            have qa2 : f_rlb (f_line n1 L1) = 1 → f_cur ta tn rd L3 (M_24 330 18) (M_24 330 19) (M_24 330 20) (M_24 330 21) := fun q => by omega
            have qa3 : f_rlb (f_line n1 L1) = 1 → M_24 336 = f_put fs 0 (f_cds ls3) ∧ M_24 335 = f_putL fl 0 0 ls3 ∧ n1 + 0 = (ls3.length : Int) ∧ M_24 330 15 = ((f_cds ls3).length : Int) := fun q => by omega
            have qa4 : f_rlb (f_line n1 L1) = 1 → (f_cds ls3).length + L3.length ≤ L.length := fun q => by omega
            have qa5 : f_rlb (f_line n1 L1) = 1 → f_laws L = f_lpr ls3 (f_law (L3.length + 1) (n1 + 0) L3) := fun q => by omega
            have qa6 : f_rlb (f_line n1 L1) = 1 → 0 ≤ n1 + 0 ∧ n1 + 0 ≤ 16 := fun q => by omega
            refine ax_iconst dX12_readsLaw_41 (by decide) (pc' := 42) rfl ?_
            refine ax_iadd dX12_readsLaw_42 (by omega) (pc' := 43) rfl ?_
            refine ax_puti dX12_readsLaw_43 flX12_270 (Or.inl rfl) sh_330 rfl (pc' := 46) rfl ?_
            refine ax_goto dX12_readsLaw_46 (pc' := 12) (by decide) ?_
            refine ih3 (f_rlb (f_line n1 L1)) (M_24 336) (M_24 335) (M_24 330 15) (n1 + 0) (M_24 330 18) (M_24 330 19) (M_24 330 20) (M_24 330 21) (M_24 330 25) (M_24 330 22) (M_24 330 23) L3 ls3 (ax_up M_24 330 14 (n1 + 0)) ?_ ?_ ?_ ?_ ?_ ?_ ?_ ?_ ?_ ?_ ?_ ?_ ?_ ?_ ?_ ?_ ?_ ?_ ?_ ?_ ?_
            · omega
            · intro x0 i0 hai
              exact (ax_up_miss (fun h => hai (Or.inr (Or.inr (Or.inr (Or.inl h))))) ((frM_24 x0 i0 (fun h => h.elim (fun h => hai (Or.inl h)) (fun h => h.elim (fun h => hai (Or.inr (Or.inr (Or.inl h)))) (fun h => h.elim (fun h => hai (Or.inr (Or.inr (Or.inr (Or.inr (Or.inl h)))))) (fun h => h.elim (fun h => hai (Or.inr (Or.inr (Or.inr (Or.inr (Or.inr (Or.inl h))))))) (fun h => h.elim (fun h => hai (Or.inr (Or.inr (Or.inr (Or.inr (Or.inr (Or.inr (Or.inl h)))))))) (fun h => h.elim (fun h => hai (Or.inr (Or.inr (Or.inr (Or.inr (Or.inr (Or.inr (Or.inr (Or.inl h))))))))) (fun h => h.elim (fun h => hai (Or.inr (Or.inr (Or.inr (Or.inr (Or.inr (Or.inr (Or.inr (Or.inr (Or.inr (Or.inl h))))))))))) (fun h => h.elim (fun h => hai (Or.inr (Or.inr (Or.inr (Or.inr (Or.inr (Or.inr (Or.inr (Or.inr (Or.inr (Or.inr h))))))))))) (fun h => h.elim (fun h => hai (Or.inr (Or.inl h))) (fun h => hai (Or.inr (Or.inr (Or.inr (Or.inr (Or.inr (Or.inr (Or.inr (Or.inr (Or.inl h)))))))))))))))))))).trans ((fr1 x0 i0 (fun h => h.elim (fun h => hai (Or.inl h)) (fun h => h.elim (fun h => hai (Or.inr (Or.inl h))) (fun h => h.elim (fun h => hai (Or.inr (Or.inr (Or.inl h)))) (fun h => h.elim (fun h => hai (Or.inr (Or.inr (Or.inr (Or.inl h))))) (fun h => h.elim (fun h => hai (Or.inr (Or.inr (Or.inr (Or.inr (Or.inl h)))))) (fun h => h.elim (fun h => hai (Or.inr (Or.inr (Or.inr (Or.inr (Or.inr (Or.inl h))))))) (fun h => h.elim (fun h => hai (Or.inr (Or.inr (Or.inr (Or.inr (Or.inr (Or.inr (Or.inl h)))))))) (fun h => h.elim (fun h => hai (Or.inr (Or.inr (Or.inr (Or.inr (Or.inr (Or.inr (Or.inr (Or.inl h))))))))) (fun h => h.elim (fun h => hai (Or.inr (Or.inr (Or.inr (Or.inr (Or.inr (Or.inr (Or.inr (Or.inr (Or.inl h)))))))))) (fun h => h.elim (fun h => hai (Or.inr (Or.inr (Or.inr (Or.inr (Or.inr (Or.inr (Or.inr (Or.inr (Or.inr (Or.inl h))))))))))) (fun h => hai (Or.inr (Or.inr (Or.inr (Or.inr (Or.inr (Or.inr (Or.inr (Or.inr (Or.inr (Or.inr h)))))))))))))))))))))).trans rfl)))
            · exact (ax_up_rowmiss (by decide) rfl)
            · exact (ax_up_rowmiss (by decide) rfl)
            · exact (ax_up_miss (by decide) rfl)
            · exact (ax_up_hit _ _ _ _)
            · exact (ax_up_miss (by decide) rfl)
            · exact (ax_up_miss (by decide) rfl)
            · exact (ax_up_miss (by decide) rfl)
            · exact (ax_up_miss (by decide) rfl)
            · exact (ax_up_miss (by decide) rfl)
            · exact (ax_up_miss (by decide) rfl)
            · exact (ax_up_miss (by decide) rfl)
            · omega
            · exact qa1
            · exact qa2
            · exact qa3
            · exact qa4
            · exact qa5
            · exact qa6
            · exact fa24_1
          · obtain ⟨L3, ln3, qr3⟩ := f_rlb_ok h34
            rw [qr3] at fa24_0
            obtain ⟨qm3, ql3, qs3, qc3⟩ := fa24_0
            have qg3 := f_line_gd qr3
            obtain ⟨ls3, qls⟩ : ∃ z, z = ls1 ++ [ln3] := ⟨_, rfl⟩
            have qcd : f_cds ls3 = f_cds ls1 ++ (ln3.1 ++ ln3.2) := by
              rw [qls, f_cds_app]
              show f_cds ls1 ++ (ln3.1 ++ (ln3.2 ++ [])) = _
              rw [List.append_nil]
            have qcl : (f_cds ls3).length = (f_cds ls1).length + ln3.1.length + ln3.2.length := by
              rw [qcd, List.length_append, List.length_append]
              omega
            have qw1 := f_wt_len ln3.1
            have qw2 := f_wt_len ln3.2
            have qa1 : f_rlb (f_line n1 L1) = 0 → f_laws L = .inl (M_24 330 22, M_24 330 23) := fun q => absurd q h34
            have qa2 : f_rlb (f_line n1 L1) = 1 → f_cur ta tn rd L3 (M_24 330 18) (M_24 330 19) (M_24 330 20) (M_24 330 21) := fun _ => qc3
            have qa3 : f_rlb (f_line n1 L1) = 1 → M_24 336 = f_put fs 0 (f_cds ls3) ∧ M_24 335 = f_putL fl 0 0 ls3 ∧ n1 + 1 = (ls3.length : Int) ∧ M_24 330 15 = ((f_cds ls3).length : Int) := by
              intro _
              refine ⟨?_, ?_, ?_, ?_⟩
              · rw [qm3, qcd]
                exact f_put_more qi3.1 (by omega)
              · rw [ql3, qls, f_putL_snoc, ← qi3.2.1, Int.zero_add, Int.zero_add, ← qi3.2.2.1, ← qi3.2.2.2]
              · rw [qls, List.length_append]
                simp only [List.length_cons, List.length_nil]
                omega
              · omega
            have qa4 : f_rlb (f_line n1 L1) = 1 → (f_cds ls3).length + L3.length ≤ L.length := by
              intro _
              omega
            have qa5 : f_rlb (f_line n1 L1) = 1 → f_laws L = f_lpr ls3 (f_law (L3.length + 1) (n1 + 1) L3) := by
              intro _
              rw [qi5, f_law_step (by omega), qr3, qls]
              exact f_lpr_snoc ls1 ln3 _
            have qa6 : f_rlb (f_line n1 L1) = 1 → 0 ≤ n1 + 1 ∧ n1 + 1 ≤ 16 := by
              intro _
              omega
            refine ax_iconst dX12_readsLaw_37 (by decide) (pc' := 38) rfl ?_
            refine ax_goto dX12_readsLaw_38 (pc' := 42) (by decide) ?_
            refine ax_iadd dX12_readsLaw_42 (by omega) (pc' := 43) rfl ?_
            refine ax_puti dX12_readsLaw_43 flX12_270 (Or.inl rfl) sh_330 rfl (pc' := 46) rfl ?_
            refine ax_goto dX12_readsLaw_46 (pc' := 12) (by decide) ?_
            refine ih3 (f_rlb (f_line n1 L1)) (M_24 336) (M_24 335) (M_24 330 15) (n1 + 1) (M_24 330 18) (M_24 330 19) (M_24 330 20) (M_24 330 21) (M_24 330 25) (M_24 330 22) (M_24 330 23) L3 ls3 (ax_up M_24 330 14 (n1 + 1)) ?_ ?_ ?_ ?_ ?_ ?_ ?_ ?_ ?_ ?_ ?_ ?_ ?_ ?_ ?_ ?_ ?_ ?_ ?_ ?_ ?_
            · omega
            · intro x0 i0 hai
              exact (ax_up_miss (fun h => hai (Or.inr (Or.inr (Or.inr (Or.inl h))))) ((frM_24 x0 i0 (fun h => h.elim (fun h => hai (Or.inl h)) (fun h => h.elim (fun h => hai (Or.inr (Or.inr (Or.inl h)))) (fun h => h.elim (fun h => hai (Or.inr (Or.inr (Or.inr (Or.inr (Or.inl h)))))) (fun h => h.elim (fun h => hai (Or.inr (Or.inr (Or.inr (Or.inr (Or.inr (Or.inl h))))))) (fun h => h.elim (fun h => hai (Or.inr (Or.inr (Or.inr (Or.inr (Or.inr (Or.inr (Or.inl h)))))))) (fun h => h.elim (fun h => hai (Or.inr (Or.inr (Or.inr (Or.inr (Or.inr (Or.inr (Or.inr (Or.inl h))))))))) (fun h => h.elim (fun h => hai (Or.inr (Or.inr (Or.inr (Or.inr (Or.inr (Or.inr (Or.inr (Or.inr (Or.inr (Or.inl h))))))))))) (fun h => h.elim (fun h => hai (Or.inr (Or.inr (Or.inr (Or.inr (Or.inr (Or.inr (Or.inr (Or.inr (Or.inr (Or.inr h))))))))))) (fun h => h.elim (fun h => hai (Or.inr (Or.inl h))) (fun h => hai (Or.inr (Or.inr (Or.inr (Or.inr (Or.inr (Or.inr (Or.inr (Or.inr (Or.inl h)))))))))))))))))))).trans ((fr1 x0 i0 (fun h => h.elim (fun h => hai (Or.inl h)) (fun h => h.elim (fun h => hai (Or.inr (Or.inl h))) (fun h => h.elim (fun h => hai (Or.inr (Or.inr (Or.inl h)))) (fun h => h.elim (fun h => hai (Or.inr (Or.inr (Or.inr (Or.inl h))))) (fun h => h.elim (fun h => hai (Or.inr (Or.inr (Or.inr (Or.inr (Or.inl h)))))) (fun h => h.elim (fun h => hai (Or.inr (Or.inr (Or.inr (Or.inr (Or.inr (Or.inl h))))))) (fun h => h.elim (fun h => hai (Or.inr (Or.inr (Or.inr (Or.inr (Or.inr (Or.inr (Or.inl h)))))))) (fun h => h.elim (fun h => hai (Or.inr (Or.inr (Or.inr (Or.inr (Or.inr (Or.inr (Or.inr (Or.inl h))))))))) (fun h => h.elim (fun h => hai (Or.inr (Or.inr (Or.inr (Or.inr (Or.inr (Or.inr (Or.inr (Or.inr (Or.inl h)))))))))) (fun h => h.elim (fun h => hai (Or.inr (Or.inr (Or.inr (Or.inr (Or.inr (Or.inr (Or.inr (Or.inr (Or.inr (Or.inl h))))))))))) (fun h => hai (Or.inr (Or.inr (Or.inr (Or.inr (Or.inr (Or.inr (Or.inr (Or.inr (Or.inr (Or.inr h)))))))))))))))))))))).trans rfl)))
            · exact (ax_up_rowmiss (by decide) rfl)
            · exact (ax_up_rowmiss (by decide) rfl)
            · exact (ax_up_miss (by decide) rfl)
            · exact (ax_up_hit _ _ _ _)
            · exact (ax_up_miss (by decide) rfl)
            · exact (ax_up_miss (by decide) rfl)
            · exact (ax_up_miss (by decide) rfl)
            · exact (ax_up_miss (by decide) rfl)
            · exact (ax_up_miss (by decide) rfl)
            · exact (ax_up_miss (by decide) rfl)
            · exact (ax_up_miss (by decide) rfl)
            · omega
            · exact qa1
            · exact qa2
            · exact qa3
            · exact qa4
            · exact qa5
            · exact qa6
            · exact fa24_1
  refine LP1 ((L.length : Int) + 1 : Int).toNat.succ 1 fs fl 0 0 p0 to tk v0 dp (M 330 22) (M 330 23) L ([]) (ax_up (ax_up M 330 14 0) 330 15 0) ?_ ?_ ?_ ?_ ?_ ?_ ?_ ?_ ?_ ?_ ?_ ?_ ?_ ?_ ?_ ?_ ?_ ?_ ?_ ?_ ?_
  · omega
  · exact fun a i _ => rfl
  · exact (ax_up_rowmiss (by decide) (ax_up_rowmiss (by decide) hfs))
  · exact (ax_up_rowmiss (by decide) (ax_up_rowmiss (by decide) hfl))
  · exact (ax_up_hit _ _ _ _)
  · exact (ax_up_miss (by decide) (ax_up_hit _ _ _ _))
  · exact (ax_up_miss (by decide) (ax_up_miss (by decide) hp0))
  · exact (ax_up_miss (by decide) (ax_up_miss (by decide) hto))
  · exact (ax_up_miss (by decide) (ax_up_miss (by decide) htk))
  · exact (ax_up_miss (by decide) (ax_up_miss (by decide) hv0))
  · exact (ax_up_miss (by decide) (ax_up_miss (by decide) hdp))
  · exact (ax_up_miss (by decide) (ax_up_miss (by decide) rfl))
  · exact (ax_up_miss (by decide) (ax_up_miss (by decide) rfl))
  · exact Or.inr rfl
  · intro q
    omega
  · intro _
    exact hg2
  · intro _
    exact ⟨rfl, rfl, rfl, rfl⟩
  · intro _
    exact Nat.le_of_eq (Nat.zero_add _)
  · intro _
    rfl
  · intro _
    exact ⟨Int.le_refl 0, by decide⟩
  · exact (f_cur_rg hg2).2.2
