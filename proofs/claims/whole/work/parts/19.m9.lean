/-! the reference, on: a pull -/
def f_cl (w : Int → Int) (r p : Int) : Int := if f_P w r p 0 = -1 then f_call w r p else -1
abbrev f_ah (w : Int → Int) (r p q : Int) : Prop := f_P w r p (7 + f_cl w r p) < f_P w r q (7 + f_cl w r q)
def f_ins (w : Int → Int) (r p : Int) : List Int → List Int
  | [] => [p]
  | q :: tl => if f_ah w r p q then q :: f_ins w r p tl else p :: q :: tl
def f_lrS (w : Int → Int) (r p : Int) (st : List Int) : List Int := if f_cl w r p = -1 then st else f_ins w r p st
def f_lrow (w : Int → Int) (r : Int) : List Int := f_loop (f_lrS w r) 0 (f_R w r 1) []
theorem f_cl_rg {w : Int → Int} {r p : Int} : -1 ≤ f_cl w r p ∧ f_cl w r p < 6 := by
  have h := f_call_rg (w := w) (r := r) (p := p)
  unfold f_cl
  split <;> omega
theorem f_ins_len {w : Int → Int} {r p : Int} : ∀ {st : List Int}, (f_ins w r p st).length = st.length + 1
  | [] => rfl
  | q :: tl => by
    unfold f_ins
    split
    · simp only [List.length_cons]
      rw [f_ins_len]
    · rfl
theorem f_ins_mem {w : Int → Int} {r p q : Int} : ∀ {st : List Int}, q ∈ f_ins w r p st → q = p ∨ q ∈ st
  | [], h => Or.inl (List.mem_singleton.mp h)
  | u :: tl, h => by
    unfold f_ins at h
    split at h
    · rcases List.mem_cons.mp h with e | e
      · exact Or.inr (e ▸ List.mem_cons_self)
      · exact (f_ins_mem e).imp id (List.mem_cons_of_mem _)
    · rcases List.mem_cons.mp h with e | e
      · exact Or.inl e
      · exact Or.inr e
theorem f_lrS_mem {w : Int → Int} {r p : Int} {st : List Int} (hp : 0 ≤ p) (h : ∀ q ∈ st, 0 ≤ q ∧ q < p ∧ f_cl w r q ≠ -1) : ∀ q ∈ f_lrS w r p st, 0 ≤ q ∧ q < p + 1 ∧ f_cl w r q ≠ -1 := by
  intro q hq
  unfold f_lrS at hq
  split at hq
  · have a := h q hq
    exact ⟨a.1, by omega, a.2.2⟩
  · rename_i hc
    rcases f_ins_mem hq with e | e
    · rw [e]
      exact ⟨hp, by omega, hc⟩
    · have a := h q e
      exact ⟨a.1, by omega, a.2.2⟩
def f_pil2 (pl : Int → Int) (b : Int) : List Int → Prop
  | [] => True
  | v :: st => pl (b + (st.length : Int)) = v ∧ f_pil2 pl b st
theorem f_pil2_app {pl : Int → Int} {b q : Int} (hq : pl b = q) : ∀ {up : List Int}, f_pil2 pl (b + 1) up → f_pil2 pl b (up ++ [q])
  | [], _ => ⟨by simp only [List.length_nil]; rw [show b + ((0 : Nat) : Int) = b by omega]; exact hq, trivial⟩
  | u :: tl, h => ⟨by show pl (b + ((tl ++ [q]).length : Int)) = u; rw [List.length_append, List.length_singleton, show b + ((tl.length + 1 : Nat) : Int) = b + 1 + (tl.length : Int) by omega]; exact h.1, f_pil2_app hq h.2⟩
theorem f_pil2_up {pl : Int → Int} {b x v : Int} (hx : x < b) : ∀ {up : List Int}, f_pil2 pl b up → f_pil2 (f_up pl x v) b up
  | [], _ => trivial
  | u :: tl, h => ⟨by unfold f_up; rw [if_neg (by omega)]; exact h.1, f_pil2_up hx h.2⟩
theorem f_pil_mid {pl : Int → Int} {p i : Int} {dn : List Int} (hi : i = (dn.length : Int)) (hd : f_pil pl dn) : ∀ {up : List Int}, f_pil2 pl (i + 1) up → f_pil (f_up pl i p) (up ++ p :: dn)
  | [], _ => f_pil_push hi.symm hd
  | u :: tl, h => by
    refine ⟨?_, f_pil_mid hi hd h.2⟩
    show f_up pl i p ((tl ++ p :: dn).length : Int) = u
    rw [List.length_append, List.length_cons]
    unfold f_up
    rw [if_neg (by omega), show ((tl.length + (dn.length + 1) : Nat) : Int) = i + 1 + (tl.length : Int) by omega]
    exact h.1
theorem f_cl_up {c w : Int → Int} {r p v : Int} (h : ∀ q, 0 ≤ q → q < p → c q = f_cl w r q) (e : f_cl w r p = v) : ∀ q, 0 ≤ q → q < p + 1 → f_up c p v q = f_cl w r q := by
  intro q h1 h2
  unfold f_up
  by_cases hq : q = p
  · rw [if_pos hq, hq, e]
  · rw [if_neg hq]
    exact h q h1 (by omega)
def f_fwd (pl : Int → Int) : Int → List Int → Prop
  | _, [] => True
  | i, q :: tl => pl i = q ∧ f_fwd pl (i + 1) tl
theorem f_fwd_aux {pl : Int → Int} : ∀ {st ac : List Int}, f_pil pl st → f_fwd pl (st.length : Int) ac → f_fwd pl 0 (st.reverse ++ ac)
  | [], ac, _, h => h
  | v :: tl, ac, hp, h => by
    rw [List.reverse_cons, List.append_assoc]
    refine f_fwd_aux (st := tl) (ac := v :: ac) hp.2 ⟨hp.1, ?_⟩
    rw [List.length_cons] at h
    rw [show ((tl.length : Nat) : Int) + 1 = ((tl.length + 1 : Nat) : Int) by omega]
    exact h
theorem f_fwd_rev {pl : Int → Int} {st : List Int} (h : f_pil pl st) : f_fwd pl 0 st.reverse := by
  have e := f_fwd_aux (ac := []) h trivial
  rw [List.append_nil] at e
  exact e
/-- row, how many tied themselves, the first's place and knot -/
abbrev f_St : Type := (Int → Int) × Int × Int × Int
def f_stW (w : Int → Int) (r p k : Int) : Int → Int := f_note (f_more (f_sP w r p 0 k) r p k 1) r p k 1 (-1)
def f_stS (Ls : Int → List f_Ln) (w0 : Int → Int) (r f : Int) (s : f_St) (p : Int) : f_St := if f_need Ls s.1 r p (f_cl w0 r p) ≤ f then (f_stW s.1 r p (f_cl w0 r p), s.2.1 + 1, if s.2.1 = 0 then p else s.2.2.1, if s.2.1 = 0 then f_cl w0 r p else s.2.2.2) else s
def f_stch (Ls : Int → List f_Ln) (w : Int → Int) (r f : Int) : f_St := (f_lrow w r).reverse.foldl (f_stS Ls w r f) (w, 0, -1, -1)
def f_brk (Ls : Int → List f_Ln) (w : Int → Int) (r f : Int) : Int := if f_str Ls w r (f_wk Ls w r) < f then f_wk Ls w r else -1
/-- what ties and notes leave as it was -/
def f_sm (w w' : Int → Int) : Prop := f_ag w w' ∧ w' 0 = w 0 ∧ w' 2 = w 2 ∧ w' 3 = w 3 ∧ ∀ r f, 0 ≤ r ∧ r < 8 ∧ 0 ≤ f ∧ f < 8 → f_R w' r f = f_R w r f
theorem f_sm_refl {w : Int → Int} : f_sm w w := ⟨fun _ _ _ => rfl, rfl, rfl, rfl, fun _ _ _ => rfl⟩
theorem f_sm_trans {w w1 w2 : Int → Int} (h1 : f_sm w w1) (h2 : f_sm w1 w2) : f_sm w w2 := ⟨fun i a b => (h2.1 i a b).trans (h1.1 i a b), h2.2.1.trans h1.2.1, h2.2.2.1.trans h1.2.2.1, h2.2.2.2.1.trans h1.2.2.2.1, fun r f h => (h2.2.2.2.2 r f h).trans (h1.2.2.2.2 r f h)⟩
theorem f_sm_sP {w : Int → Int} {r p f v : Int} (h : 0 ≤ r ∧ r < 8 ∧ 0 ≤ p ∧ p < 24 ∧ 0 ≤ f ∧ f < 13) : f_sm w (f_sP w r p f v) := ⟨fun i a b => f_sP_out h (by omega), f_sP_out h (by omega), f_sP_out h (by omega), f_sP_out h (by omega), fun r' f' h' => f_R_sP h h'⟩
theorem f_sm_hab {w : Int → Int} {r p k v s : Int} (h : 0 ≤ r ∧ r < 8 ∧ 0 ≤ p ∧ p < 24 ∧ 0 ≤ k ∧ k < 6) : f_sm w (f_hab w r p k v s) := ⟨fun i a b => f_hab_out h (by omega), f_hab_out h (by omega), f_hab_out h (by omega), f_hab_out h (by omega), fun r' f' h' => f_R_hab h h'⟩
theorem f_sm_note {w : Int → Int} {r p what how hand : Int} (h : 0 ≤ w 1 ∧ w 1 ≤ 200) : f_sm w (f_note w r p what how hand) := by
  refine ⟨fun i a b => ?_, f_note_at (by omega) (by omega), f_note_at (by omega) (by omega), f_note_at (by omega) (by omega), fun r' f' h' => f_R_note h.1 h'⟩
  by_cases e : w 1 = 200
  · unfold f_note
    rw [if_pos e]
  · exact f_note_at (by omega) (by omega)
theorem f_stW_ok {w : Int → Int} {r p k : Int} (hr : 0 ≤ r ∧ r < 8) (hp : 0 ≤ p ∧ p < 24) (hk : 0 ≤ k ∧ k < 6) (hw : f_iv w) : f_iv (f_stW w r p k) ∧ f_sm w (f_stW w r p k) := by
  have h1 : f_iv (f_sP w r p 0 k) := f_iv_tied hr hp (by omega) hw
  have h2 : f_iv (f_more (f_sP w r p 0 k) r p k 1) := f_iv_more hr hp hk (by omega) h1
  exact ⟨f_iv_note h2, f_sm_trans (f_sm_sP ⟨hr.1, hr.2, hp.1, hp.2, by omega, by omega⟩) (f_sm_trans (f_sm_hab ⟨hr.1, hr.2, hp.1, hp.2, hk.1, hk.2⟩) (f_sm_note h2.2.2.2.1))⟩
theorem f_lrow_ok {w : Int → Int} {r : Int} (h : 0 ≤ f_R w r 1) : ∀ q ∈ f_lrow w r, 0 ≤ q ∧ q < f_R w r 1 ∧ f_cl w r q ≠ -1 := by
  refine f_loop_inv (P := fun st => ∀ q ∈ st, 0 ≤ q ∧ q < f_R w r 1 ∧ f_cl w r q ≠ -1) (fun q hq => absurd hq List.not_mem_nil) (fun p st h1 h2 hx => ?_)
  intro q hq
  unfold f_lrS at hq
  split at hq
  · exact hx q hq
  · rename_i hc
    rcases f_ins_mem hq with e | e
    · rw [e]
      exact ⟨h1, h2, hc⟩
    · exact hx q e
theorem f_fold_ok {Ls : Int → List f_Ln} {w0 : Int → Int} {r f : Int} (hr : 0 ≤ r ∧ r < 8) : ∀ {L : List Int} {s : f_St}, (∀ q ∈ L, (0 ≤ q ∧ q < 24) ∧ f_cl w0 r q ≠ -1) → f_iv s.1 → 0 ≤ s.2.1 ∧ s.2.1 ≤ 1000 → f_iv (L.foldl (f_stS Ls w0 r f) s).1 ∧ f_sm s.1 (L.foldl (f_stS Ls w0 r f) s).1
  | [], s, _, h, _ => ⟨h, f_sm_refl⟩
  | q :: tl, s, hl, h, hm => by
    have hq := hl q List.mem_cons_self
    have hc := f_cl_rg (w := w0) (r := r) (p := q)
    have htl : ∀ x ∈ tl, (0 ≤ x ∧ x < 24) ∧ f_cl w0 r x ≠ -1 := fun x hx => hl x (List.mem_cons_of_mem _ hx)
    show f_iv (tl.foldl (f_stS Ls w0 r f) (f_stS Ls w0 r f s q)).1 ∧ f_sm s.1 (tl.foldl (f_stS Ls w0 r f) (f_stS Ls w0 r f s q)).1
    have hs : f_iv (f_stS Ls w0 r f s q).1 ∧ f_sm s.1 (f_stS Ls w0 r f s q).1 := by
      unfold f_stS
      split
      · exact f_stW_ok hr hq.1 (by omega) h
      · exact ⟨h, f_sm_refl⟩
    have key : ∀ (L : List Int) (s : f_St), (∀ q ∈ L, (0 ≤ q ∧ q < 24) ∧ f_cl w0 r q ≠ -1) → f_iv s.1 → f_iv (L.foldl (f_stS Ls w0 r f) s).1 ∧ f_sm s.1 (L.foldl (f_stS Ls w0 r f) s).1 := by
      intro L
      induction L with
      | nil => exact fun s _ hh => ⟨hh, f_sm_refl⟩
      | cons x xs ih =>
        intro s hl h
        have hq := hl x List.mem_cons_self
        have hc := f_cl_rg (w := w0) (r := r) (p := x)
        have hs : f_iv (f_stS Ls w0 r f s x).1 ∧ f_sm s.1 (f_stS Ls w0 r f s x).1 := by
          unfold f_stS
          split
          · exact f_stW_ok hr hq.1 (by omega) h
          · exact ⟨h, f_sm_refl⟩
        have e := ih (f_stS Ls w0 r f s x) (fun y hy => hl y (List.mem_cons_of_mem _ hy)) hs.1
        exact ⟨e.1, f_sm_trans hs.2 e.2⟩
    have e := key tl _ htl hs.1
    exact ⟨e.1, f_sm_trans hs.2 e.2⟩
theorem f_stch_ok {Ls : Int → List f_Ln} {w : Int → Int} {r f : Int} (hr : 0 ≤ r ∧ r < 8) (hw : f_iv w) : f_iv (f_stch Ls w r f).1 ∧ f_sm w (f_stch Ls w r f).1 := by
  have h := hw.1 r hr.1 hr.2
  refine f_fold_ok (s := (w, 0, -1, -1)) hr (fun q hq => ?_) hw ⟨Int.le_refl 0, by show (0 : Int) ≤ 1000; decide⟩
  have e := f_lrow_ok h.2.1 q (List.mem_reverse.mp hq)
  exact ⟨⟨e.1, by omega⟩, e.2.2⟩
def f_puls (Ls : Int → List f_Ln) (w : Int → Int) (r f : Int) : Int → Int := if f_brk Ls (f_stch Ls w r f).1 r f = -1 then (f_stch Ls w r f).1 else f_note (f_part (f_stch Ls w r f).1 r (f_brk Ls (f_stch Ls w r f).1 r f)) r (f_brk Ls (f_stch Ls w r f).1 r f) (max (-1) (f_lost (f_pfr (f_stch Ls w r f).1 r (f_brk Ls (f_stch Ls w r f).1 r f)))) 2 (-1)
set_option maxRecDepth 20000 in
theorem s_X12_isAhead (E : ax_Env) (l : Launch) (d : Nat) (hd : 1 ≤ d) (M : ax_Mem) (r p q : Int) {w : Int → Int} (hw : M 331 = w) {cv : Int → Int} (hcv : M 343 = cv) (hg0 : 0 ≤ r ∧ r < 8) (hg1 : 0 ≤ p ∧ p < 24) (hg2 : 0 ≤ q ∧ q < 24) (hg3 : cv p = f_cl w r p ∧ 0 ≤ f_cl w r p) (hg4 : cv q = f_cl w r q ∧ 0 ≤ f_cl w r q) : ax_G E l d iX12_isAhead [.inr 330, .inl r, .inl p, .inl q] M (fun z0 M2 => z0 = some (.inl (f_b (f_ah w r p q))) ∧ M = M2) := by
  obtain ⟨d, rfl⟩ : ∃ d0, d = d0 + 1 := ⟨d - 1, by omega⟩
  refine ax_start rfl (Nat.le_of_ble_eq_true rfl) (ls := [some (.inr 330), some (.inl r), some (.inl p), some (.inl q)]) rfl (fun hav hcm => ?_)
  have hc1 : -2147483648 ≤ r ∧ r < 2147483648 := hav (.inl r) (by simp)
  have hc2 : -2147483648 ≤ p ∧ p < 2147483648 := hav (.inl p) (by simp)
  have hc3 : -2147483648 ≤ q ∧ q < 2147483648 := hav (.inl q) (by simp)
  clear hav
  have qa1 := f_cl_rg (w := w) (r := r) (p := p)
  have qa2 := f_cl_rg (w := w) (r := r) (p := q)
  refine ax_aload_n dX12_isAhead_0 rfl rfl (pc' := 1) rfl ?_
  refine ax_iload_n dX12_isAhead_1 rfl rfl (pc' := 2) rfl ?_
  refine ax_iload_n dX12_isAhead_2 rfl rfl (pc' := 3) rfl ?_
  refine ax_bipush dX12_isAhead_3 (by decide) (pc' := 5) rfl ?_
  refine ax_aload_n dX12_isAhead_5 rfl rfl (pc' := 6) rfl ?_
  refine ax_getr (v := 343) dX12_isAhead_6 flX12_50 rfl sh_330 rfl (pc' := 9) rfl ?_
  refine ax_iload_n dX12_isAhead_9 rfl rfl (pc' := 10) rfl ?_
  refine ax_iald (v := cv p) dX12_isAhead_10 sh_343 rfl (by omega) (by omega) ((congrFun hcv p).trans rfl) (pc' := 11) rfl ?_
  refine ax_reS (st2 := [.inl (f_cl w r p), .inl 7, .inl p, .inl r, .inr 330]) (congrArg (fun z => Sum.inl z :: _) (by exact hg3.1)) ?_
  refine ax_iadd dX12_isAhead_11 (by omega) (pc' := 12) rfl ?_
  refine ax_invG [.inl r, .inl p, .inl (7 + (f_cl w r p))] [] dX12_isAhead_12 mlX12_86 sh_330 rfl rfl rfl (Nat.le_of_ble_eq_true rfl) (s_X12_ofPlace E l _ (by omega) _ r p (7 + (f_cl w r p)) hw (by first | omega | assumption) (by first | omega | assumption) (by first | omega | assumption)) (pc' := 15) rfl (fun vv M_12 hq co12 hcm12 => ?_)
  obtain ⟨rfl, rfl⟩ := hq
  refine ax_reS (st2 := [.inl (f_P w r p (7 + (f_cl w r p)))]) rfl ?_
  have cc12 : -2147483648 ≤ f_P w r p (7 + (f_cl w r p)) ∧ f_P w r p (7 + (f_cl w r p)) < 2147483648 := co12 _ rfl
  refine ax_aload_n dX12_isAhead_15 rfl rfl (pc' := 16) rfl ?_
  refine ax_iload_n dX12_isAhead_16 rfl rfl (pc' := 17) rfl ?_
  refine ax_iload_n dX12_isAhead_17 rfl rfl (pc' := 18) rfl ?_
  refine ax_bipush dX12_isAhead_18 (by decide) (pc' := 20) rfl ?_
  refine ax_aload_n dX12_isAhead_20 rfl rfl (pc' := 21) rfl ?_
  refine ax_getr (v := 343) dX12_isAhead_21 flX12_50 rfl sh_330 rfl (pc' := 24) rfl ?_
  refine ax_iload_n dX12_isAhead_24 rfl rfl (pc' := 25) rfl ?_
  refine ax_iald (v := cv q) dX12_isAhead_25 sh_343 rfl (by omega) (by omega) ((congrFun hcv q).trans rfl) (pc' := 26) rfl ?_
  refine ax_reS (st2 := [.inl (f_cl w r q), .inl 7, .inl q, .inl r, .inr 330, .inl (f_P w r p (7 + (f_cl w r p)))]) (congrArg (fun z => Sum.inl z :: _) (by exact hg4.1)) ?_
  refine ax_iadd dX12_isAhead_26 (by omega) (pc' := 27) rfl ?_
  refine ax_invG [.inl r, .inl q, .inl (7 + (f_cl w r q))] [.inl (f_P w r p (7 + (f_cl w r p)))] dX12_isAhead_27 mlX12_86 sh_330 rfl rfl rfl (Nat.le_of_ble_eq_true rfl) (s_X12_ofPlace E l _ (by omega) _ r q (7 + (f_cl w r q)) hw (by first | omega | assumption) (by first | omega | assumption) (by first | omega | assumption)) (pc' := 30) rfl (fun vv M_27 hq co27 hcm27 => ?_)
  obtain ⟨rfl, rfl⟩ := hq
  refine ax_reS (st2 := [.inl (f_P w r q (7 + (f_cl w r q))), .inl (f_P w r p (7 + (f_cl w r p)))]) rfl ?_
  have cc27 : -2147483648 ≤ f_P w r q (7 + (f_cl w r q)) ∧ f_P w r q (7 + (f_cl w r q)) < 2147483648 := co27 _ rfl
  refine ax_icmp_ge (tgt := 37) dX12_isAhead_30 (by decide) (pc' := 33) rfl (fun h30 => ?_) (fun h30 => ?_)
  · refine ax_iconst dX12_isAhead_37 (by decide) (pc' := 38) rfl ?_
    refine ax_zret dX12_isAhead_38 rfl (by decide) ?_
    refine ⟨rfl, ?_, ?_⟩
    · refine congrArg (fun z => some (Sum.inl z)) ?_
      unfold f_b; split <;> omega
    · rfl
  · refine ax_iconst dX12_isAhead_33 (by decide) (pc' := 34) rfl ?_
    refine ax_goto dX12_isAhead_34 (pc' := 38) (by decide) ?_
    refine ax_zret dX12_isAhead_38 rfl (by decide) ?_
    refine ⟨rfl, ?_, ?_⟩
    · refine congrArg (fun z => some (Sum.inl z)) ?_
      unfold f_b; split <;> omega
    · rfl
set_option maxRecDepth 20000 in
theorem s_X12_laysRow (E : ax_Env) (l : Launch) (d : Nat) (hd : 3 ≤ d) (M : ax_Mem) (r : Int) {w : Int → Int} (hw : M 331 = w) {rw0 : Int → Int} (hrw0 : M 342 = rw0) {cv0 : Int → Int} (hcv0 : M 343 = cv0) (hg0 : 0 ≤ r ∧ r < 8) (hg1 : f_iv w) : ax_G E l d iX12_laysRow [.inr 330, .inl r] M (fun z0 M2 => z0 = some (.inl ((f_lrow w r).length : Int)) ∧ (∀ x0 i0 : Int, ¬ (x0 = 342 ∨ x0 = 343) → M2 x0 i0 = M x0 i0) ∧ (f_pil (M2 342) (f_lrow w r)) ∧ (∀ q, 0 ≤ q → q < f_R w r 1 → M2 343 q = f_cl w r q) ∧ (((f_lrow w r).length : Int) ≤ 24)) := by
  obtain ⟨d, rfl⟩ : ∃ d0, d = d0 + 1 := ⟨d - 1, by omega⟩
  refine ax_start rfl (Nat.le_of_ble_eq_true rfl) (ls := [some (.inr 330), some (.inl r), none, none, none]) rfl (fun hav hcm => ?_)
  have hc1 : -2147483648 ≤ r ∧ r < 2147483648 := hav (.inl r) (by simp)
  clear hav
  have qa1 := hg1.1 r (by omega) (by omega)
  refine ax_iconst dX12_laysRow_0 (by decide) (pc' := 1) rfl ?_
  refine ax_istore_n dX12_laysRow_1 rfl (by decide) (ls' := [some (.inr 330), some (.inl r), some (.inl 0), none, none]) rfl (pc' := 2) rfl ?_
  refine ax_iconst dX12_laysRow_2 (by decide) (pc' := 3) rfl ?_
  refine ax_istore_n dX12_laysRow_3 rfl (by decide) (ls' := [some (.inr 330), some (.inl r), some (.inl 0), some (.inl 0), none]) rfl (pc' := 4) rfl ?_
  have LP1 : ∀ (kq2 : Nat) (p n : Int) (rv1 cv1 : Int → Int) (st : List Int) (M1 : ax_Mem) (hm1 : f_R w r 1 - p < (kq2 : Nat)) (fr1 : ∀ x0 i0 : Int, ¬ (x0 = 342 ∨ x0 = 343) → M1 x0 i0 = M x0 i0) (mr1_342 : M1 342 = rv1) (mr1_343 : M1 343 = cv1) (iv1_0 : 0 ≤ p ∧ p ≤ f_R w r 1) (iv1_1 : f_loop (f_lrS w r) p (f_R w r 1) st = f_lrow w r) (iv1_2 : n = (st.length : Int) ∧ n ≤ p) (iv1_3 : f_pil rv1 st) (iv1_4 : ∀ q, 0 ≤ q → q < p → cv1 q = f_cl w r q) (iv1_5 : ∀ q ∈ st, 0 ≤ q ∧ q < p ∧ f_cl w r q ≠ -1), ax_W E l (d + 1) 0 0 iX12_laysRow 4 [some (.inr 330), some (.inl r), some (.inl n), some (.inl p), none] [] SH M1 (ax_P (fun z0 M2 => z0 = some (.inl ((f_lrow w r).length : Int)) ∧ (∀ x0 i0 : Int, ¬ (x0 = 342 ∨ x0 = 343) → M2 x0 i0 = M x0 i0) ∧ (f_pil (M2 342) (f_lrow w r)) ∧ (∀ q, 0 ≤ q → q < f_R w r 1 → M2 343 q = f_cl w r q) ∧ (((f_lrow w r).length : Int) ≤ 24))) := by
    intro kq2
    induction kq2 with
    | zero =>
      intro p n rv1 cv1 st M1 hm1 fr1 mr1_342 mr1_343 iv1_0 iv1_1 iv1_2 iv1_3 iv1_4 iv1_5
      exfalso
      omega
    | succ kq2 ih3 =>
      intro p n rv1 cv1 st M1 hm1 fr1 mr1_342 mr1_343 iv1_0 iv1_1 iv1_2 iv1_3 iv1_4 iv1_5
      refine ax_iload_n dX12_laysRow_4 rfl rfl (pc' := 5) rfl ?_
      refine ax_aload_n dX12_laysRow_5 rfl rfl (pc' := 6) rfl ?_
      refine ax_iload_n dX12_laysRow_6 rfl rfl (pc' := 7) rfl ?_
      refine ax_iconst dX12_laysRow_7 (by decide) (pc' := 8) rfl ?_
      refine ax_invG [.inl r, .inl 1] [.inl p] dX12_laysRow_8 mlX12_78 sh_330 rfl rfl rfl (Nat.le_of_ble_eq_true rfl) (s_X12_ofRope E l _ (by omega) _ r 1 ((funext fun i0 => fr1 331 i0 (by omega)).trans hw) (by first | omega | assumption) (by first | omega | assumption)) (pc' := 11) rfl (fun vv M_8 hq co8 hcm8 => ?_)
      obtain ⟨rfl, rfl⟩ := hq
      refine ax_reS (st2 := [.inl (f_R w r 1), .inl p]) rfl ?_
      have cc8 : -2147483648 ≤ f_R w r 1 ∧ f_R w r 1 < 2147483648 := co8 _ rfl
      refine ax_icmp_ge (tgt := 117) dX12_laysRow_11 (by decide) (pc' := 14) rfl (fun h11 => ?_) (fun h11 => ?_)
      · refine ax_iload_n dX12_laysRow_117 rfl rfl (pc' := 118) rfl ?_
        refine ax_iret dX12_laysRow_118 rfl ?_
        refine ⟨rfl, ?_, ?_, ?_, ?_, ?_⟩
        · refine congrArg (fun z => some (Sum.inl z)) ?_
          rw [← iv1_1, f_loop_done (by omega)]
          exact iv1_2.1
        · intro x0 i0 hai
          exact ((fr1 x0 i0 (by omega)).trans rfl)
        · have qr := mr1_342
          rw [qr, ← iv1_1, f_loop_done (by omega)]
          exact iv1_3
        · have qr := mr1_343
          intro q h1 h2
          rw [qr]
          exact iv1_4 q h1 (by omega)
        · rw [← iv1_1, f_loop_done (by omega)]
          omega
      · refine ax_aload_n dX12_laysRow_14 rfl rfl (pc' := 15) rfl ?_
        refine ax_getr (v := 343) dX12_laysRow_15 flX12_50 rfl sh_330 rfl (pc' := 18) rfl ?_
        refine ax_iload_n dX12_laysRow_18 rfl rfl (pc' := 19) rfl ?_
        refine ax_aload_n dX12_laysRow_19 rfl rfl (pc' := 20) rfl ?_
        refine ax_iload_n dX12_laysRow_20 rfl rfl (pc' := 21) rfl ?_
        refine ax_iload_n dX12_laysRow_21 rfl rfl (pc' := 22) rfl ?_
        refine ax_invG [.inl r, .inl p] [.inl p, .inr 343] dX12_laysRow_22 mlX12_340 sh_330 rfl rfl rfl (Nat.le_of_ble_eq_true rfl) (s_X12_isTied E l _ (by omega) _ r p ((funext fun i0 => fr1 331 i0 (by omega)).trans hw) (by first | omega | assumption) (by first | omega | assumption)) (pc' := 25) rfl (fun vv M_22 hq co22 hcm22 => ?_)
        obtain ⟨rfl, rfl⟩ := hq
        refine ax_reS (st2 := [.inl (f_b (f_P w r p 0 ≠ -1)), .inl p, .inr 343]) rfl ?_
        refine ax_if_eq (tgt := 32) dX12_laysRow_25 (by decide) (pc' := 28) rfl (fun h25 => ?_) (fun h25 => ?_)
        · replace h25 := f_b_0 h25
          have qc : f_cl w r p = f_call w r p := if_pos (by omega)
          refine ax_aload_n dX12_laysRow_32 rfl rfl (pc' := 33) rfl ?_
          refine ax_iload_n dX12_laysRow_33 rfl rfl (pc' := 34) rfl ?_
          refine ax_iload_n dX12_laysRow_34 rfl rfl (pc' := 35) rfl ?_
          refine ax_invG [.inl r, .inl p] [.inl p, .inr 343] dX12_laysRow_35 mlX12_384 sh_330 rfl rfl rfl (Nat.le_of_ble_eq_true rfl) (s_X12_callOf E l _ (by omega) _ r p ((funext fun i0 => fr1 331 i0 (by omega)).trans hw) (by first | omega | assumption) (by first | omega | assumption)) (pc' := 38) rfl (fun vv M_35 hq co35 hcm35 => ?_)
          obtain ⟨rfl, rfl, fa35_0⟩ := hq
          refine ax_reS (st2 := [.inl (f_call w r p), .inl p, .inr 343]) rfl ?_
          have cc35 : -2147483648 ≤ f_call w r p ∧ f_call w r p < 2147483648 := co35 _ rfl
          refine ax_iast dX12_laysRow_38 sh_343 rfl (by omega) (by omega) (pc' := 39) rfl ?_
          refine ax_aload_n dX12_laysRow_39 rfl rfl (pc' := 40) rfl ?_
          refine ax_getr (v := 343) dX12_laysRow_40 flX12_50 rfl sh_330 rfl (pc' := 43) rfl ?_
          refine ax_iload_n dX12_laysRow_43 rfl rfl (pc' := 44) rfl ?_
          refine ax_iald (v := f_call w r p) dX12_laysRow_44 sh_343 rfl (by omega) (by omega) ((congrFun (ax_up_rowhit mr1_343) p).trans (f_up_same _ _ _)) (pc' := 45) rfl ?_
          refine ax_iconst dX12_laysRow_45 (by decide) (pc' := 46) rfl ?_
          refine ax_icmp_ne (tgt := 52) dX12_laysRow_46 (by decide) (pc' := 49) rfl (fun h46 => ?_) (fun h46 => ?_)
          · have ql3 : f_lrS w r p st = f_ins w r p st := if_neg (by omega)
            have qcr := f_call_rg (w := w) (r := r) (p := p)
            refine ax_iload_n dX12_laysRow_52 rfl rfl (pc' := 53) rfl ?_
            refine ax_istore dX12_laysRow_53 (by decide) (ls' := [some (.inr 330), some (.inl r), some (.inl n), some (.inl p), some (.inl n)]) rfl (pc' := 55) rfl ?_
            have LP4 : ∀ (kq5 : Nat) (i : Int) (rv2 : Int → Int) (up : List Int) (dn : List Int) (M4 : ax_Mem) (hm4 : i < (kq5 : Nat)) (fr4 : ∀ x0 i0 : Int, ¬ (x0 = 342) → M4 x0 i0 = (ax_up M1 343 p (f_call w r p)) x0 i0) (mr4_342 : M4 342 = rv2) (iv4_0 : i = (dn.length : Int) ∧ i + (up.length : Int) = n) (iv4_1 : f_pil rv2 dn) (iv4_2 : f_pil2 rv2 (i + 1) up) (iv4_3 : f_ins w r p st = up ++ f_ins w r p dn) (iv4_4 : ∀ q ∈ dn, 0 ≤ q ∧ q < p ∧ f_cl w r q ≠ -1), ax_W E l (d + 1) 0 0 iX12_laysRow 55 [some (.inr 330), some (.inl r), some (.inl n), some (.inl p), some (.inl i)] [] SH M4 (ax_P (fun z0 M2 => z0 = some (.inl ((f_lrow w r).length : Int)) ∧ (∀ x0 i0 : Int, ¬ (x0 = 342 ∨ x0 = 343) → M2 x0 i0 = M x0 i0) ∧ (f_pil (M2 342) (f_lrow w r)) ∧ (∀ q, 0 ≤ q → q < f_R w r 1 → M2 343 q = f_cl w r q) ∧ (((f_lrow w r).length : Int) ≤ 24))) := by
              intro kq5
              induction kq5 with
              | zero =>
                intro i rv2 up dn M4 hm4 fr4 mr4_342 iv4_0 iv4_1 iv4_2 iv4_3 iv4_4
                exfalso
                omega
              | succ kq5 ih6 =>
                intro i rv2 up dn M4 hm4 fr4 mr4_342 iv4_0 iv4_1 iv4_2 iv4_3 iv4_4
                refine ax_iload dX12_laysRow_55 rfl (pc' := 57) rfl ?_
                refine ax_if_le (tgt := 100) dX12_laysRow_57 (by decide) (pc' := 60) rfl (fun h57 => ?_) (fun h57 => ?_)
                · have qd : dn = [] := List.eq_nil_of_length_eq_zero (by omega)
                  have qi : f_ins w r p dn = p :: dn := by rw [qd]; rfl
                  have ql2 : f_lrS w r p st = up ++ p :: dn := by rw [ql3, iv4_3, qi]
                  refine ax_aload_n dX12_laysRow_100 rfl rfl (pc' := 101) rfl ?_
                  refine ax_getr (v := 342) dX12_laysRow_101 flX12_47 rfl sh_330 rfl (pc' := 104) rfl ?_
                  refine ax_iload dX12_laysRow_104 rfl (pc' := 106) rfl ?_
                  refine ax_iload_n dX12_laysRow_106 rfl rfl (pc' := 107) rfl ?_
                  refine ax_iast dX12_laysRow_107 sh_342 rfl (by omega) (by omega) (pc' := 108) rfl ?_
                  refine ax_iinc dX12_laysRow_108 rfl (by decide) (by omega) (ls' := [some (.inr 330), some (.inl r), some (.inl (n + 1)), some (.inl p), some (.inl i)]) rfl (pc' := 111) rfl ?_
                  refine ax_iinc dX12_laysRow_111 rfl (by decide) (by omega) (ls' := [some (.inr 330), some (.inl r), some (.inl (n + 1)), some (.inl (p + 1)), some (.inl i)]) rfl (pc' := 114) rfl ?_
                  refine ax_goto dX12_laysRow_114 (pc' := 4) (by decide) ?_
                  refine ax_less (ls2 := [some (.inr 330), some (.inl r), some (.inl (n + 1)), some (.inl (p + 1)), none]) [true, true, true, true, false] rfl ?_
                  refine ih3 (p + 1) (n + 1) (f_up rv2 i p) (f_up cv1 p (f_call w r p)) (f_lrS w r p st) (ax_up M4 342 i p) ?_ ?_ ?_ ?_ ?_ ?_ ?_ ?_ ?_ ?_
                  · omega
                  · intro x0 i0 hai
                    exact (ax_up_miss (by omega) ((fr4 x0 i0 (by omega)).trans (ax_up_miss (by omega) ((fr1 x0 i0 (by omega)).trans rfl))))
                  · exact (ax_up_rowhit mr4_342)
                  · exact (ax_up_rowmiss (by decide) ((funext fun i0 => fr4 343 i0 (by omega)).trans (ax_up_rowhit mr1_343)))
                  · omega
                  · exact f_loop_back (by omega) iv1_1 rfl
                  · first
                      | (rw [ql]; omega)
                      | (rw [ql2, List.length_append, List.length_cons]; omega)
                  · first
                      | (rw [ql]; exact iv1_3)
                      | (rw [ql2]; exact f_pil_mid iv4_0.1 iv4_1 iv4_2)
                  · exact f_cl_up iv1_4 qc
                  · exact f_lrS_mem iv1_0.1 iv1_5
                · obtain ⟨q7, dn7, qd⟩ : ∃ x0 y0, dn = x0 :: y0 := by
                    cases dn with
                    | nil =>
                      simp only [List.length_nil] at iv4_0
                      omega
                    | cons x0 y0 => exact ⟨x0, y0, rfl⟩
                  have qd1 : f_pil rv2 (q7 :: dn7) := qd ▸ iv4_1
                  have qd2 : dn.length = dn7.length + 1 := by rw [qd]; rfl
                  have qd3 : rv2 (i - 1) = q7 := by rw [show i - 1 = (dn7.length : Int) by omega]; exact qd1.1
                  have qd4 := iv4_4 q7 (qd ▸ List.mem_cons_self)
                  have qd5 := f_cl_rg (w := w) (r := r) (p := q7)
                  refine ax_aload_n dX12_laysRow_60 rfl rfl (pc' := 61) rfl ?_
                  refine ax_iload_n dX12_laysRow_61 rfl rfl (pc' := 62) rfl ?_
                  refine ax_iload_n dX12_laysRow_62 rfl rfl (pc' := 63) rfl ?_
                  refine ax_aload_n dX12_laysRow_63 rfl rfl (pc' := 64) rfl ?_
                  refine ax_getr (v := 342) dX12_laysRow_64 flX12_47 rfl sh_330 rfl (pc' := 67) rfl ?_
                  refine ax_iload dX12_laysRow_67 rfl (pc' := 69) rfl ?_
                  refine ax_iconst dX12_laysRow_69 (by decide) (pc' := 70) rfl ?_
                  refine ax_isub dX12_laysRow_70 (by omega) (pc' := 71) rfl ?_
                  refine ax_iald (v := rv2 (i - 1)) dX12_laysRow_71 sh_342 rfl (by omega) (by omega) ((congrFun mr4_342 (i - 1)).trans rfl) (pc' := 72) rfl ?_
                  refine ax_reS (st2 := [.inl q7, .inl p, .inl r, .inr 330]) (congrArg (fun z => Sum.inl z :: _) (by exact qd3)) ?_
                  refine ax_invG [.inl r, .inl p, .inl q7] [] dX12_laysRow_72 mlX12_405 sh_330 rfl rfl rfl (Nat.le_of_ble_eq_true rfl) (s_X12_isAhead E l _ (by omega) _ r p q7 ((funext fun i0 => fr4 331 i0 (by omega)).trans (ax_up_rowmiss (by decide) ((funext fun i0 => fr1 331 i0 (by omega)).trans hw))) ((funext fun i0 => fr4 343 i0 (by omega)).trans (ax_up_rowhit mr1_343)) (by first | omega | assumption) (by first | omega | assumption) (by first | omega | assumption) ⟨by rw [f_up_same, qc], by omega⟩ ⟨by rw [← iv1_4 q7 qd4.1 qd4.2.1]; exact f_up_ne (by omega) rfl, by omega⟩) (pc' := 75) rfl (fun vv M_72 hq co72 hcm72 => ?_)
                  obtain ⟨rfl, rfl⟩ := hq
                  refine ax_reS (st2 := [.inl (f_b (f_ah w r p q7))]) rfl ?_
                  refine ax_if_eq (tgt := 100) dX12_laysRow_75 (by decide) (pc' := 78) rfl (fun h75 => ?_) (fun h75 => ?_)
                  · replace h75 := f_b_0 h75
                    have qi : f_ins w r p dn = p :: dn := by
                      rw [qd]
                      exact if_neg h75
                    have ql2 : f_lrS w r p st = up ++ p :: dn := by rw [ql3, iv4_3, qi]
                    refine ax_aload_n dX12_laysRow_100 rfl rfl (pc' := 101) rfl ?_
                    refine ax_getr (v := 342) dX12_laysRow_101 flX12_47 rfl sh_330 rfl (pc' := 104) rfl ?_
                    refine ax_iload dX12_laysRow_104 rfl (pc' := 106) rfl ?_
                    refine ax_iload_n dX12_laysRow_106 rfl rfl (pc' := 107) rfl ?_
                    refine ax_iast dX12_laysRow_107 sh_342 rfl (by omega) (by omega) (pc' := 108) rfl ?_
                    refine ax_iinc dX12_laysRow_108 rfl (by decide) (by omega) (ls' := [some (.inr 330), some (.inl r), some (.inl (n + 1)), some (.inl p), some (.inl i)]) rfl (pc' := 111) rfl ?_
                    refine ax_iinc dX12_laysRow_111 rfl (by decide) (by omega) (ls' := [some (.inr 330), some (.inl r), some (.inl (n + 1)), some (.inl (p + 1)), some (.inl i)]) rfl (pc' := 114) rfl ?_
                    refine ax_goto dX12_laysRow_114 (pc' := 4) (by decide) ?_
                    refine ax_less (ls2 := [some (.inr 330), some (.inl r), some (.inl (n + 1)), some (.inl (p + 1)), none]) [true, true, true, true, false] rfl ?_
                    refine ih3 (p + 1) (n + 1) (f_up rv2 i p) (f_up cv1 p (f_call w r p)) (f_lrS w r p st) (ax_up M4 342 i p) ?_ ?_ ?_ ?_ ?_ ?_ ?_ ?_ ?_ ?_
                    · omega
                    · intro x0 i0 hai
                      exact (ax_up_miss (by omega) ((fr4 x0 i0 (by omega)).trans (ax_up_miss (by omega) ((fr1 x0 i0 (by omega)).trans rfl))))
                    · exact (ax_up_rowhit mr4_342)
                    · exact (ax_up_rowmiss (by decide) ((funext fun i0 => fr4 343 i0 (by omega)).trans (ax_up_rowhit mr1_343)))
                    · omega
                    · exact f_loop_back (by omega) iv1_1 rfl
                    · first
                        | (rw [ql]; omega)
                        | (rw [ql2, List.length_append, List.length_cons]; omega)
                    · first
                        | (rw [ql]; exact iv1_3)
                        | (rw [ql2]; exact f_pil_mid iv4_0.1 iv4_1 iv4_2)
                    · exact f_cl_up iv1_4 qc
                    · exact f_lrS_mem iv1_0.1 iv1_5
                  · replace h75 := f_b_1 h75
                    refine ax_aload_n dX12_laysRow_78 rfl rfl (pc' := 79) rfl ?_
                    refine ax_getr (v := 342) dX12_laysRow_79 flX12_47 rfl sh_330 rfl (pc' := 82) rfl ?_
                    refine ax_iload dX12_laysRow_82 rfl (pc' := 84) rfl ?_
                    refine ax_aload_n dX12_laysRow_84 rfl rfl (pc' := 85) rfl ?_
                    refine ax_getr (v := 342) dX12_laysRow_85 flX12_47 rfl sh_330 rfl (pc' := 88) rfl ?_
                    refine ax_iload dX12_laysRow_88 rfl (pc' := 90) rfl ?_
                    refine ax_iconst dX12_laysRow_90 (by decide) (pc' := 91) rfl ?_
                    refine ax_isub dX12_laysRow_91 (by omega) (pc' := 92) rfl ?_
                    refine ax_iald (v := rv2 (i - 1)) dX12_laysRow_92 sh_342 rfl (by omega) (by omega) ((congrFun mr4_342 (i - 1)).trans rfl) (pc' := 93) rfl ?_
                    refine ax_reS (st2 := [.inl q7, .inl i, .inr 342]) (congrArg (fun z => Sum.inl z :: _) (by exact qd3)) ?_
                    refine ax_iast dX12_laysRow_93 sh_342 rfl (by omega) (by omega) (pc' := 94) rfl ?_
                    refine ax_iinc dX12_laysRow_94 rfl (by decide) (by omega) (ls' := [some (.inr 330), some (.inl r), some (.inl n), some (.inl p), some (.inl (i + (-1)))]) rfl (pc' := 97) rfl ?_
                    refine ax_goto dX12_laysRow_97 (pc' := 55) (by decide) ?_
                    refine ih6 (i + (-1)) (f_up rv2 i q7) (up ++ [q7]) dn7 (ax_up M4 342 i q7) ?_ ?_ ?_ ?_ ?_ ?_ ?_ ?_
                    · omega
                    · intro x0 i0 hai
                      exact (ax_up_miss (by omega) ((fr4 x0 i0 (by omega)).trans rfl))
                    · exact (ax_up_rowhit mr4_342)
                    · rw [List.length_append, List.length_singleton]
                      omega
                    · exact f_pil_up (by omega) qd1.2
                    · rw [show i + (-1) + 1 = i by omega]
                      exact f_pil2_app (f_up_same _ _ _) (f_pil2_up (by omega) iv4_2)
                    · rw [iv4_3, qd, show f_ins w r p (q7 :: dn7) = q7 :: f_ins w r p dn7 from if_pos h75, List.append_assoc]
                      rfl
                    · exact fun q hq => iv4_4 q (qd ▸ List.mem_cons_of_mem _ hq)
            refine LP4 (n : Int).toNat.succ n rv1 ([]) st (ax_up M1 343 p (f_call w r p)) ?_ ?_ ?_ ?_ ?_ ?_ ?_ ?_
            · omega
            · exact fun a i _ => rfl
            · exact (ax_up_rowmiss (by decide) mr1_342)
            · simp only [List.length_nil]
              omega
            · exact iv1_3
            · trivial
            · rfl
            · exact iv1_5
          · have ql : f_lrS w r p st = st := if_pos (by omega)
            refine ax_goto dX12_laysRow_49 (pc' := 111) (by decide) ?_
            refine ax_iinc dX12_laysRow_111 rfl (by decide) (by omega) (ls' := [some (.inr 330), some (.inl r), some (.inl n), some (.inl (p + 1)), none]) rfl (pc' := 114) rfl ?_
            refine ax_goto dX12_laysRow_114 (pc' := 4) (by decide) ?_
            refine ih3 (p + 1) n rv1 (f_up cv1 p (f_call w r p)) (f_lrS w r p st) (ax_up M1 343 p (f_call w r p)) ?_ ?_ ?_ ?_ ?_ ?_ ?_ ?_ ?_ ?_
            · omega
            · intro x0 i0 hai
              exact (ax_up_miss (by omega) ((fr1 x0 i0 (by omega)).trans rfl))
            · exact (ax_up_rowmiss (by decide) mr1_342)
            · exact (ax_up_rowhit mr1_343)
            · omega
            · exact f_loop_back (by omega) iv1_1 rfl
            · first
                | (rw [ql]; omega)
                | (rw [ql2, List.length_append, List.length_cons]; omega)
            · first
                | (rw [ql]; exact iv1_3)
                | (rw [ql2]; exact f_pil_mid iv4_0.1 iv4_1 iv4_2)
            · exact f_cl_up iv1_4 qc
            · exact f_lrS_mem iv1_0.1 iv1_5
        · replace h25 := f_b_1 h25
          have qc : f_cl w r p = -1 := if_neg h25
          refine ax_iconst dX12_laysRow_28 (by decide) (pc' := 29) rfl ?_
          refine ax_goto dX12_laysRow_29 (pc' := 38) (by decide) ?_
          refine ax_iast dX12_laysRow_38 sh_343 rfl (by omega) (by omega) (pc' := 39) rfl ?_
          refine ax_aload_n dX12_laysRow_39 rfl rfl (pc' := 40) rfl ?_
          refine ax_getr (v := 343) dX12_laysRow_40 flX12_50 rfl sh_330 rfl (pc' := 43) rfl ?_
          refine ax_iload_n dX12_laysRow_43 rfl rfl (pc' := 44) rfl ?_
          refine ax_iald (v := (-1)) dX12_laysRow_44 sh_343 rfl (by omega) (by omega) ((congrFun (ax_up_rowhit mr1_343) p).trans (f_up_same _ _ _)) (pc' := 45) rfl ?_
          refine ax_iconst dX12_laysRow_45 (by decide) (pc' := 46) rfl ?_
          refine ax_icmp_ne (tgt := 52) dX12_laysRow_46 (by decide) (pc' := 49) rfl (fun h46 => ?_) (fun h46 => ?_)
          · exfalso
            omega
          · have ql : f_lrS w r p st = st := if_pos (by omega)
            refine ax_goto dX12_laysRow_49 (pc' := 111) (by decide) ?_
            refine ax_iinc dX12_laysRow_111 rfl (by decide) (by omega) (ls' := [some (.inr 330), some (.inl r), some (.inl n), some (.inl (p + 1)), none]) rfl (pc' := 114) rfl ?_
            refine ax_goto dX12_laysRow_114 (pc' := 4) (by decide) ?_
            refine ih3 (p + 1) n rv1 (f_up cv1 p (-1)) (f_lrS w r p st) (ax_up M1 343 p (-1)) ?_ ?_ ?_ ?_ ?_ ?_ ?_ ?_ ?_ ?_
            · omega
            · intro x0 i0 hai
              exact (ax_up_miss (by omega) ((fr1 x0 i0 (by omega)).trans rfl))
            · exact (ax_up_rowmiss (by decide) mr1_342)
            · exact (ax_up_rowhit mr1_343)
            · omega
            · exact f_loop_back (by omega) iv1_1 rfl
            · first
                | (rw [ql]; omega)
                | (rw [ql2, List.length_append, List.length_cons]; omega)
            · first
                | (rw [ql]; exact iv1_3)
                | (rw [ql2]; exact f_pil_mid iv4_0.1 iv4_1 iv4_2)
            · exact f_cl_up iv1_4 qc
            · exact f_lrS_mem iv1_0.1 iv1_5
  refine LP1 (f_R w r 1 - 0 : Int).toNat.succ 0 0 rw0 cv0 ([]) M ?_ ?_ ?_ ?_ ?_ ?_ ?_ ?_ ?_ ?_
  · omega
  · exact fun a i _ => rfl
  · exact hrw0
  · exact hcv0
  · omega
  · rfl
  · exact ⟨rfl, Int.le_refl 0⟩
  · trivial
  · intro q h1 h2
    omega
  · exact fun q hq => absurd hq List.not_mem_nil
set_option maxRecDepth 20000 in
theorem s_X12_stretches (E : ax_Env) (l : Launch) (d : Nat) (hd : 5 ≤ d) (M : ax_Mem) (r f : Int) (Ls : Int → List f_Ln) {w : Int → Int} (hw : M 331 = w) {pl : Int → Int} (hpl : M 340 = pl) {F : Int → Int} (hF : M 341 = F) {rw0 : Int → Int} (hrw0 : M 342 = rw0) {cv0 : Int → Int} (hcv0 : M 343 = cv0) (hg0 : 0 ≤ r ∧ r < 8) (hg1 : f_iv w) (hg2 : f_lw Ls w) : ax_G E l d iX12_stretches [.inr 330, .inl r, .inl f] M (fun z0 M2 => z0 = none ∧ (∀ x0 i0 : Int, ¬ (x0 = 331 ∨ (x0 = 330 ∧ i0 = 30) ∨ (x0 = 330 ∧ i0 = 31) ∨ (x0 = 330 ∧ i0 = 32) ∨ (x0 = 330 ∧ i0 = 33) ∨ x0 = 340 ∨ x0 = 341 ∨ x0 = 342 ∨ x0 = 343) → M2 x0 i0 = M x0 i0) ∧ M2 331 = (f_stch Ls w r f).1 ∧ M2 330 30 = (f_stch Ls w r f).2.1 ∧ M2 330 31 = (f_stch Ls w r f).2.2.1 ∧ M2 330 32 = (f_stch Ls w r f).2.2.2 ∧ M2 330 33 = f_brk Ls (f_stch Ls w r f).1 r f) := by
  obtain ⟨d, rfl⟩ : ∃ d0, d = d0 + 1 := ⟨d - 1, by omega⟩
  refine ax_start rfl (Nat.le_of_ble_eq_true rfl) (ls := [some (.inr 330), some (.inl r), some (.inl f), none, none, none, none]) rfl (fun hav hcm => ?_)
  have hc1 : -2147483648 ≤ r ∧ r < 2147483648 := hav (.inl r) (by simp)
  have hc2 : -2147483648 ≤ f ∧ f < 2147483648 := hav (.inl f) (by simp)
  clear hav
  have qa1 := hg1.1 r (by omega) (by omega)
  have qa2 := f_lrow_ok qa1.2.1
  have qa3 := f_stch_ok (Ls := Ls) (f := f) hg0 hg1
  refine ax_aload_n dX12_stretches_0 rfl rfl (pc' := 1) rfl ?_
  refine ax_iload_n dX12_stretches_1 rfl rfl (pc' := 2) rfl ?_
  refine ax_invG [.inl r] [] dX12_stretches_2 mlX12_408 sh_330 rfl rfl rfl (Nat.le_of_ble_eq_true rfl) (s_X12_laysRow E l _ (by omega) _ r hw hrw0 hcv0 (by first | omega | assumption) (by first | omega | assumption)) (pc' := 5) rfl (fun vv M_2 hq co2 hcm2 => ?_)
  obtain ⟨rfl, frM_2, fa2_0, fa2_1, fa2_2⟩ := hq
  refine ax_reS (st2 := [.inl ((f_lrow w r).length : Int)]) rfl ?_
  have cc2 : -2147483648 ≤ ((f_lrow w r).length : Int) ∧ ((f_lrow w r).length : Int) < 2147483648 := co2 _ rfl
  refine ax_istore_n dX12_stretches_5 rfl (by decide) (ls' := [some (.inr 330), some (.inl r), some (.inl f), some (.inl ((f_lrow w r).length : Int)), none, none, none]) rfl (pc' := 6) rfl ?_
  refine ax_aload_n dX12_stretches_6 rfl rfl (pc' := 7) rfl ?_
  refine ax_iconst dX12_stretches_7 (by decide) (pc' := 8) rfl ?_
  refine ax_puti dX12_stretches_8 flX12_411 (Or.inl rfl) sh_330 rfl (pc' := 11) rfl ?_
  refine ax_aload_n dX12_stretches_11 rfl rfl (pc' := 12) rfl ?_
  refine ax_iconst dX12_stretches_12 (by decide) (pc' := 13) rfl ?_
  refine ax_puti dX12_stretches_13 flX12_414 (Or.inl rfl) sh_330 rfl (pc' := 16) rfl ?_
  refine ax_aload_n dX12_stretches_16 rfl rfl (pc' := 17) rfl ?_
  refine ax_iconst dX12_stretches_17 (by decide) (pc' := 18) rfl ?_
  refine ax_puti dX12_stretches_18 flX12_417 (Or.inl rfl) sh_330 rfl (pc' := 21) rfl ?_
  refine ax_iconst dX12_stretches_21 (by decide) (pc' := 22) rfl ?_
  refine ax_istore dX12_stretches_22 (by decide) (ls' := [some (.inr 330), some (.inl r), some (.inl f), some (.inl ((f_lrow w r).length : Int)), some (.inl 0), none, none]) rfl (pc' := 24) rfl ?_
  have LP1 : ∀ (kq2 : Nat) (i : Int) (wv1 : Int → Int) (mn pp0 kk0 : Int) (rem : List Int) (M1 : ax_Mem) (hm1 : (rem.length : Int) < (kq2 : Nat)) (fr1 : ∀ x0 i0 : Int, ¬ (x0 = 331 ∨ (x0 = 330 ∧ i0 = 30) ∨ (x0 = 330 ∧ i0 = 31) ∨ (x0 = 330 ∧ i0 = 32) ∨ x0 = 340 ∨ x0 = 341) → M1 x0 i0 = (ax_up (ax_up (ax_up M_2 330 30 0) 330 31 (-1)) 330 32 (-1)) x0 i0) (mr1_331 : M1 331 = wv1) (ms1_330_30 : M1 330 30 = mn) (ms1_330_31 : M1 330 31 = pp0) (ms1_330_32 : M1 330 32 = kk0) (iv1_0 : i + (rem.length : Int) = ((f_lrow w r).length : Int) ∧ 0 ≤ i) (iv1_1 : f_fwd (M_2 342) i rem) (iv1_2 : rem.foldl (f_stS Ls w r f) (wv1, mn, pp0, kk0) = f_stch Ls w r f) (iv1_3 : f_iv wv1 ∧ f_sm w wv1) (iv1_4 : ∀ q ∈ rem, 0 ≤ q ∧ q < f_R w r 1 ∧ f_cl w r q ≠ -1) (iv1_5 : 0 ≤ mn ∧ mn ≤ i), ax_W E l (d + 1) 0 0 iX12_stretches 24 [some (.inr 330), some (.inl r), some (.inl f), some (.inl ((f_lrow w r).length : Int)), some (.inl i), none, none] [] SH M1 (ax_P (fun z0 M2 => z0 = none ∧ (∀ x0 i0 : Int, ¬ (x0 = 331 ∨ (x0 = 330 ∧ i0 = 30) ∨ (x0 = 330 ∧ i0 = 31) ∨ (x0 = 330 ∧ i0 = 32) ∨ (x0 = 330 ∧ i0 = 33) ∨ x0 = 340 ∨ x0 = 341 ∨ x0 = 342 ∨ x0 = 343) → M2 x0 i0 = M x0 i0) ∧ M2 331 = (f_stch Ls w r f).1 ∧ M2 330 30 = (f_stch Ls w r f).2.1 ∧ M2 330 31 = (f_stch Ls w r f).2.2.1 ∧ M2 330 32 = (f_stch Ls w r f).2.2.2 ∧ M2 330 33 = f_brk Ls (f_stch Ls w r f).1 r f)) := by
    intro kq2
    induction kq2 with
    | zero =>
      intro i wv1 mn pp0 kk0 rem M1 hm1 fr1 mr1_331 ms1_330_30 ms1_330_31 ms1_330_32 iv1_0 iv1_1 iv1_2 iv1_3 iv1_4 iv1_5
      exfalso
      omega
    | succ kq2 ih3 =>
      intro i wv1 mn pp0 kk0 rem M1 hm1 fr1 mr1_331 ms1_330_30 ms1_330_31 ms1_330_32 iv1_0 iv1_1 iv1_2 iv1_3 iv1_4 iv1_5
      have qb1 := iv1_3.1
      have qb2 : f_R wv1 r 1 = f_R w r 1 := iv1_3.2.2.2.2.2 r 1 (by omega)
      have qb3 := f_lw_of iv1_3.2.1 hg2
      refine ax_iload dX12_stretches_24 rfl (pc' := 26) rfl ?_
      refine ax_iload_n dX12_stretches_26 rfl rfl (pc' := 27) rfl ?_
      refine ax_icmp_ge (tgt := 130) dX12_stretches_27 (by decide) (pc' := 30) rfl (fun h27 => ?_) (fun h27 => ?_)
      · have qe : (wv1, mn, pp0, kk0) = f_stch Ls w r f := by
          have e0 : rem = [] := List.eq_nil_of_length_eq_zero (by omega)
          rw [← iv1_2, e0]
          rfl
        have qe1 : wv1 = (f_stch Ls w r f).1 := by rw [← qe]
        have qe2 : mn = (f_stch Ls w r f).2.1 := by rw [← qe]
        have qe3 : pp0 = (f_stch Ls w r f).2.2.1 := by rw [← qe]
        have qe4 : kk0 = (f_stch Ls w r f).2.2.2 := by rw [← qe]
        have qw := f_wk_rg (Ls := Ls) (w := wv1) (r := r)
        refine ax_aload_n dX12_stretches_130 rfl rfl (pc' := 131) rfl ?_
        refine ax_iload_n dX12_stretches_131 rfl rfl (pc' := 132) rfl ?_
        refine ax_invG [.inl r] [] dX12_stretches_132 mlX12_423 sh_330 rfl rfl rfl (Nat.le_of_ble_eq_true rfl) (s_X12_weakest E l _ (by omega) _ r Ls mr1_331 rfl rfl (by first | omega | assumption) (by first | omega | assumption) (by first | omega | assumption)) (pc' := 135) rfl (fun vv M_132 hq co132 hcm132 => ?_)
        obtain ⟨rfl, frM_132⟩ := hq
        refine ax_reS (st2 := [.inl (f_wk Ls wv1 r)]) rfl ?_
        have cc132 : -2147483648 ≤ f_wk Ls wv1 r ∧ f_wk Ls wv1 r < 2147483648 := co132 _ rfl
        refine ax_istore dX12_stretches_135 (by decide) (ls' := [some (.inr 330), some (.inl r), some (.inl f), some (.inl ((f_lrow w r).length : Int)), some (.inl (f_wk Ls wv1 r)), none, none]) rfl (pc' := 137) rfl ?_
        refine ax_aload_n dX12_stretches_137 rfl rfl (pc' := 138) rfl ?_
        refine ax_aload_n dX12_stretches_138 rfl rfl (pc' := 139) rfl ?_
        refine ax_iload_n dX12_stretches_139 rfl rfl (pc' := 140) rfl ?_
        refine ax_iload dX12_stretches_140 rfl (pc' := 142) rfl ?_
        refine ax_invG [.inl r, .inl (f_wk Ls wv1 r)] [.inr 330] dX12_stretches_142 mlX12_364 sh_330 rfl rfl rfl (Nat.le_of_ble_eq_true rfl) (s_X12_strength E l _ (by omega) _ r (f_wk Ls wv1 r) Ls ((funext fun i0 => frM_132 331 i0 (by omega)).trans mr1_331) rfl rfl (by first | omega | assumption) (by first | omega | assumption) (by first | omega | assumption) (by first | omega | assumption)) (pc' := 145) rfl (fun vv M_142 hq co142 hcm142 => ?_)
        obtain ⟨rfl, frM_142⟩ := hq
        refine ax_reS (st2 := [.inl (f_str Ls wv1 r (f_wk Ls wv1 r)), .inr 330]) rfl ?_
        have cc142 : -2147483648 ≤ f_str Ls wv1 r (f_wk Ls wv1 r) ∧ f_str Ls wv1 r (f_wk Ls wv1 r) < 2147483648 := co142 _ rfl
        refine ax_iload_n dX12_stretches_145 rfl rfl (pc' := 146) rfl ?_
        refine ax_icmp_ge (tgt := 154) dX12_stretches_146 (by decide) (pc' := 149) rfl (fun h146 => ?_) (fun h146 => ?_)
        · refine ax_iconst dX12_stretches_154 (by decide) (pc' := 155) rfl ?_
          refine ax_puti dX12_stretches_155 flX12_426 (Or.inl rfl) sh_330 rfl (pc' := 158) rfl ?_
          refine ax_vret dX12_stretches_158 rfl ?_
          refine ⟨rfl, rfl, ?_, ?_, ?_, ?_, ?_, ?_⟩
          · intro x0 i0 hai
            exact (ax_up_miss (by omega) ((frM_142 x0 i0 (by omega)).trans ((frM_132 x0 i0 (by omega)).trans ((fr1 x0 i0 (by omega)).trans (ax_up_miss (by omega) (ax_up_miss (by omega) (ax_up_miss (by omega) ((frM_2 x0 i0 (by omega)).trans rfl))))))))
          · refine Eq.trans (ax_up_rowmiss (by decide) ((funext fun i0 => frM_142 331 i0 (by omega)).trans ((funext fun i0 => frM_132 331 i0 (by omega)).trans mr1_331))) ?_
            exact qe1
          · refine Eq.trans (ax_up_miss (by decide) ((frM_142 330 30 (by omega)).trans ((frM_132 330 30 (by omega)).trans ms1_330_30))) ?_
            exact qe2
          · refine Eq.trans (ax_up_miss (by decide) ((frM_142 330 31 (by omega)).trans ((frM_132 330 31 (by omega)).trans ms1_330_31))) ?_
            exact qe3
          · refine Eq.trans (ax_up_miss (by decide) ((frM_142 330 32 (by omega)).trans ((frM_132 330 32 (by omega)).trans ms1_330_32))) ?_
            exact qe4
          · refine Eq.trans (ax_up_hit _ _ _ _) ?_
            rw [← qe1]
            unfold f_brk
            first | rw [if_pos h146] | rw [if_neg (by omega)]
        · refine ax_iload dX12_stretches_149 rfl (pc' := 151) rfl ?_
          refine ax_goto dX12_stretches_151 (pc' := 155) (by decide) ?_
          refine ax_puti dX12_stretches_155 flX12_426 (Or.inl rfl) sh_330 rfl (pc' := 158) rfl ?_
          refine ax_vret dX12_stretches_158 rfl ?_
          refine ⟨rfl, rfl, ?_, ?_, ?_, ?_, ?_, ?_⟩
          · intro x0 i0 hai
            exact (ax_up_miss (by omega) ((frM_142 x0 i0 (by omega)).trans ((frM_132 x0 i0 (by omega)).trans ((fr1 x0 i0 (by omega)).trans (ax_up_miss (by omega) (ax_up_miss (by omega) (ax_up_miss (by omega) ((frM_2 x0 i0 (by omega)).trans rfl))))))))
          · refine Eq.trans (ax_up_rowmiss (by decide) ((funext fun i0 => frM_142 331 i0 (by omega)).trans ((funext fun i0 => frM_132 331 i0 (by omega)).trans mr1_331))) ?_
            exact qe1
          · refine Eq.trans (ax_up_miss (by decide) ((frM_142 330 30 (by omega)).trans ((frM_132 330 30 (by omega)).trans ms1_330_30))) ?_
            exact qe2
          · refine Eq.trans (ax_up_miss (by decide) ((frM_142 330 31 (by omega)).trans ((frM_132 330 31 (by omega)).trans ms1_330_31))) ?_
            exact qe3
          · refine Eq.trans (ax_up_miss (by decide) ((frM_142 330 32 (by omega)).trans ((frM_132 330 32 (by omega)).trans ms1_330_32))) ?_
            exact qe4
          · refine Eq.trans (ax_up_hit _ _ _ _) ?_
            rw [← qe1]
            unfold f_brk
            first | rw [if_pos h146] | rw [if_neg (by omega)]
      · obtain ⟨q7, rem2, qd⟩ : ∃ x0 y0, rem = x0 :: y0 := by
          cases rem with
          | nil =>
            simp only [List.length_nil] at iv1_0
            omega
          | cons x0 y0 => exact ⟨x0, y0, rfl⟩
        have qf : f_fwd (M_2 342) i (q7 :: rem2) := qd ▸ iv1_1
        have qc1 := iv1_4 q7 (qd ▸ List.mem_cons_self)
        have qc2 := f_cl_rg (w := w) (r := r) (p := q7)
        have qc3 := fa2_1 q7 qc1.1 qc1.2.1
        have qc5 := f_stW_ok (k := f_cl w r q7) hg0 (by omega : 0 ≤ q7 ∧ q7 < 24) (by omega) iv1_3.1
        have qc6 : f_iv (f_sP wv1 r q7 0 (f_cl w r q7)) := f_iv_tied hg0 (by omega) (by omega) iv1_3.1
        have qc7 := qc6.2.1
        have qc8 := (f_iv_more (k := f_cl w r q7) (v := 1) hg0 (by omega : 0 ≤ q7 ∧ q7 < 24) (by omega) (by omega) qc6).2.2.2.1
        refine ax_aload_n dX12_stretches_30 rfl rfl (pc' := 31) rfl ?_
        refine ax_getr (v := 342) dX12_stretches_31 flX12_47 rfl sh_330 rfl (pc' := 34) rfl ?_
        refine ax_iload dX12_stretches_34 rfl (pc' := 36) rfl ?_
        refine ax_iald (v := (M_2 342) i) dX12_stretches_36 sh_342 rfl (by omega) (by omega) ((congrFun ((funext fun i0 => fr1 342 i0 (by omega)).trans (ax_up_rowmiss (by decide) (ax_up_rowmiss (by decide) (ax_up_rowmiss (by decide) rfl)))) i).trans rfl) (pc' := 37) rfl ?_
        refine ax_reS (st2 := [.inl q7]) (congrArg (fun z => Sum.inl z :: _) (by exact qf.1)) ?_
        refine ax_istore dX12_stretches_37 (by decide) (ls' := [some (.inr 330), some (.inl r), some (.inl f), some (.inl ((f_lrow w r).length : Int)), some (.inl i), some (.inl q7), none]) rfl (pc' := 39) rfl ?_
        refine ax_aload_n dX12_stretches_39 rfl rfl (pc' := 40) rfl ?_
        refine ax_getr (v := 343) dX12_stretches_40 flX12_50 rfl sh_330 rfl (pc' := 43) rfl ?_
        refine ax_iload dX12_stretches_43 rfl (pc' := 45) rfl ?_
        refine ax_iald (v := (M_2 343) q7) dX12_stretches_45 sh_343 rfl (by omega) (by omega) ((congrFun ((funext fun i0 => fr1 343 i0 (by omega)).trans (ax_up_rowmiss (by decide) (ax_up_rowmiss (by decide) (ax_up_rowmiss (by decide) rfl)))) q7).trans rfl) (pc' := 46) rfl ?_
        refine ax_reS (st2 := [.inl (f_cl w r q7)]) (congrArg (fun z => Sum.inl z :: _) (by exact qc3)) ?_
        refine ax_istore dX12_stretches_46 (by decide) (ls' := [some (.inr 330), some (.inl r), some (.inl f), some (.inl ((f_lrow w r).length : Int)), some (.inl i), some (.inl q7), some (.inl (f_cl w r q7))]) rfl (pc' := 48) rfl ?_
        refine ax_aload_n dX12_stretches_48 rfl rfl (pc' := 49) rfl ?_
        refine ax_iload_n dX12_stretches_49 rfl rfl (pc' := 50) rfl ?_
        refine ax_iload dX12_stretches_50 rfl (pc' := 52) rfl ?_
        refine ax_iload dX12_stretches_52 rfl (pc' := 54) rfl ?_
        refine ax_invG [.inl r, .inl q7, .inl (f_cl w r q7)] [] dX12_stretches_54 mlX12_420 sh_330 rfl rfl rfl (Nat.le_of_ble_eq_true rfl) (s_X12_needOf E l _ (by omega) _ r q7 (f_cl w r q7) Ls mr1_331 rfl rfl (by first | omega | assumption) (by first | omega | assumption) (by first | omega | assumption) (by first | omega | assumption) (by first | omega | assumption)) (pc' := 57) rfl (fun vv M_54 hq co54 hcm54 => ?_)
        obtain ⟨rfl, frM_54⟩ := hq
        refine ax_reS (st2 := [.inl (f_need Ls wv1 r q7 (f_cl w r q7))]) rfl ?_
        have cc54 : -2147483648 ≤ f_need Ls wv1 r q7 (f_cl w r q7) ∧ f_need Ls wv1 r q7 (f_cl w r q7) < 2147483648 := co54 _ rfl
        refine ax_iload_n dX12_stretches_57 rfl rfl (pc' := 58) rfl ?_
        refine ax_icmp_le (tgt := 64) dX12_stretches_58 (by decide) (pc' := 61) rfl (fun h58 => ?_) (fun h58 => ?_)
        · refine ax_aload_n dX12_stretches_64 rfl rfl (pc' := 65) rfl ?_
          refine ax_iload_n dX12_stretches_65 rfl rfl (pc' := 66) rfl ?_
          refine ax_iload dX12_stretches_66 rfl (pc' := 68) rfl ?_
          refine ax_iconst dX12_stretches_68 (by decide) (pc' := 69) rfl ?_
          refine ax_iload dX12_stretches_69 rfl (pc' := 71) rfl ?_
          refine ax_invG [.inl r, .inl q7, .inl 0, .inl (f_cl w r q7)] [] dX12_stretches_71 mlX12_102 sh_330 rfl rfl rfl (Nat.le_of_ble_eq_true rfl) (s_X12_places E l _ (by omega) _ r q7 0 (f_cl w r q7) ((funext fun i0 => frM_54 331 i0 (by omega)).trans mr1_331) (by first | omega | assumption) (by first | omega | assumption) (by first | omega | assumption)) (pc' := 74) rfl (fun vv M_71 hq co71 hcm71 => ?_)
          obtain ⟨rfl, frM_71, mrM_71_0⟩ := hq
          refine ax_reS (st2 := []) rfl ?_
          refine ax_aload_n dX12_stretches_74 rfl rfl (pc' := 75) rfl ?_
          refine ax_iload_n dX12_stretches_75 rfl rfl (pc' := 76) rfl ?_
          refine ax_iload dX12_stretches_76 rfl (pc' := 78) rfl ?_
          refine ax_iload dX12_stretches_78 rfl (pc' := 80) rfl ?_
          refine ax_iconst dX12_stretches_80 (by decide) (pc' := 81) rfl ?_
          refine ax_invG [.inl r, .inl q7, .inl (f_cl w r q7), .inl 1] [] dX12_stretches_81 mlX12_370 sh_330 rfl rfl rfl (Nat.le_of_ble_eq_true rfl) (s_X12_more E l _ (by omega) _ r q7 (f_cl w r q7) 1 mrM_71_0 (by first | omega | assumption) (by first | omega | assumption) (by first | omega | assumption) (by first | omega | assumption) (by first | omega | assumption)) (pc' := 84) rfl (fun vv M_81 hq co81 hcm81 => ?_)
          obtain ⟨rfl, frM_81, mrM_81_0⟩ := hq
          refine ax_reS (st2 := []) rfl ?_
          refine ax_aload_n dX12_stretches_84 rfl rfl (pc' := 85) rfl ?_
          refine ax_iload_n dX12_stretches_85 rfl rfl (pc' := 86) rfl ?_
          refine ax_iload dX12_stretches_86 rfl (pc' := 88) rfl ?_
          refine ax_iload dX12_stretches_88 rfl (pc' := 90) rfl ?_
          refine ax_iconst dX12_stretches_90 (by decide) (pc' := 91) rfl ?_
          refine ax_iconst dX12_stretches_91 (by decide) (pc' := 92) rfl ?_
          refine ax_invG [.inl r, .inl q7, .inl (f_cl w r q7), .inl 1, .inl (-1)] [] dX12_stretches_92 mlX12_373 sh_330 rfl rfl rfl (Nat.le_of_ble_eq_true rfl) (s_X12_notes E l _ (by omega) _ r q7 (f_cl w r q7) 1 (-1) mrM_81_0 (by first | omega | assumption)) (pc' := 95) rfl (fun vv M_92 hq co92 hcm92 => ?_)
          obtain ⟨rfl, frM_92, mrM_92_0⟩ := hq
          refine ax_reS (st2 := []) rfl ?_
          refine ax_aload_n dX12_stretches_95 rfl rfl (pc' := 96) rfl ?_
          refine ax_geti (v := mn) dX12_stretches_96 flX12_411 rfl sh_330 ((frM_92 330 30 (by omega)).trans ((frM_81 330 30 (by omega)).trans ((frM_71 330 30 (by omega)).trans ((frM_54 330 30 (by omega)).trans ms1_330_30)))) rfl (pc' := 99) rfl ?_
          refine ax_if_ne (tgt := 114) dX12_stretches_99 (by decide) (pc' := 102) rfl (fun h99 => ?_) (fun h99 => ?_)
          · have qst : f_stS Ls w r f (wv1, mn, pp0, kk0) q7 = (f_stW wv1 r q7 (f_cl w r q7), mn + 1, pp0, kk0) := by
              unfold f_stS
              simp only []
              rw [if_pos h58, if_neg h99, if_neg h99]
            refine ax_aload_n dX12_stretches_114 rfl rfl (pc' := 115) rfl ?_
            refine ax_dup dX12_stretches_115 (pc' := 116) rfl ?_
            refine ax_geti (v := mn) dX12_stretches_116 flX12_411 rfl sh_330 ((frM_92 330 30 (by omega)).trans ((frM_81 330 30 (by omega)).trans ((frM_71 330 30 (by omega)).trans ((frM_54 330 30 (by omega)).trans ms1_330_30)))) rfl (pc' := 119) rfl ?_
            refine ax_iconst dX12_stretches_119 (by decide) (pc' := 120) rfl ?_
            refine ax_iadd dX12_stretches_120 (by omega) (pc' := 121) rfl ?_
            refine ax_puti dX12_stretches_121 flX12_411 (Or.inl rfl) sh_330 rfl (pc' := 124) rfl ?_
            refine ax_iinc dX12_stretches_124 rfl (by decide) (by omega) (ls' := [some (.inr 330), some (.inl r), some (.inl f), some (.inl ((f_lrow w r).length : Int)), some (.inl (i + 1)), some (.inl q7), some (.inl (f_cl w r q7))]) rfl (pc' := 127) rfl ?_
            refine ax_goto dX12_stretches_127 (pc' := 24) (by decide) ?_
            refine ax_less (ls2 := [some (.inr 330), some (.inl r), some (.inl f), some (.inl ((f_lrow w r).length : Int)), some (.inl (i + 1)), none, none]) [true, true, true, true, true, false, false] rfl ?_
            refine ih3 (i + 1) (f_note (f_more (f_sP wv1 r q7 0 (f_cl w r q7)) r q7 (f_cl w r q7) 1) r q7 (f_cl w r q7) 1 (-1)) (mn + 1) pp0 kk0 rem2 (ax_up M_92 330 30 (mn + 1)) ?_ ?_ ?_ ?_ ?_ ?_ ?_ ?_ ?_ ?_ ?_ ?_
            · rw [qd, List.length_cons] at hm1
              omega
            · intro x0 i0 hai
              exact (ax_up_miss (by omega) ((frM_92 x0 i0 (by omega)).trans ((frM_81 x0 i0 (by omega)).trans ((frM_71 x0 i0 (by omega)).trans ((frM_54 x0 i0 (by omega)).trans ((fr1 x0 i0 (by omega)).trans rfl))))))
            · exact (ax_up_rowmiss (by decide) mrM_92_0)
            · exact (ax_up_hit _ _ _ _)
            · exact (ax_up_miss (by decide) ((frM_92 330 31 (by omega)).trans ((frM_81 330 31 (by omega)).trans ((frM_71 330 31 (by omega)).trans ((frM_54 330 31 (by omega)).trans ms1_330_31)))))
            · exact (ax_up_miss (by decide) ((frM_92 330 32 (by omega)).trans ((frM_81 330 32 (by omega)).trans ((frM_71 330 32 (by omega)).trans ((frM_54 330 32 (by omega)).trans ms1_330_32)))))
            · rw [qd, List.length_cons] at iv1_0
              omega
            · exact qf.2
            · rw [← iv1_2, qd]
              exact congrArg (fun z => List.foldl (f_stS Ls w r f) z rem2) qst.symm
            · first
                | exact iv1_3
                | exact ⟨qc5.1, f_sm_trans iv1_3.2 qc5.2⟩
            · exact fun q hq => iv1_4 q (qd ▸ List.mem_cons_of_mem _ hq)
            · omega
          · have qst : f_stS Ls w r f (wv1, mn, pp0, kk0) q7 = (f_stW wv1 r q7 (f_cl w r q7), mn + 1, q7, f_cl w r q7) := by
              unfold f_stS
              simp only []
              rw [if_pos h58, if_pos h99, if_pos h99]
            refine ax_aload_n dX12_stretches_102 rfl rfl (pc' := 103) rfl ?_
            refine ax_iload dX12_stretches_103 rfl (pc' := 105) rfl ?_
            refine ax_puti dX12_stretches_105 flX12_414 (Or.inl rfl) sh_330 rfl (pc' := 108) rfl ?_
            refine ax_aload_n dX12_stretches_108 rfl rfl (pc' := 109) rfl ?_
            refine ax_iload dX12_stretches_109 rfl (pc' := 111) rfl ?_
            refine ax_puti dX12_stretches_111 flX12_417 (Or.inl rfl) sh_330 rfl (pc' := 114) rfl ?_
            refine ax_aload_n dX12_stretches_114 rfl rfl (pc' := 115) rfl ?_
            refine ax_dup dX12_stretches_115 (pc' := 116) rfl ?_
            refine ax_geti (v := mn) dX12_stretches_116 flX12_411 rfl sh_330 (show (ax_up (ax_up M_92 330 31 q7) 330 32 (f_cl w r q7)) 330 30 = mn from (ax_up_miss (by decide) (ax_up_miss (by decide) ((frM_92 330 30 (by omega)).trans ((frM_81 330 30 (by omega)).trans ((frM_71 330 30 (by omega)).trans ((frM_54 330 30 (by omega)).trans ms1_330_30))))))) rfl (pc' := 119) rfl ?_
            refine ax_iconst dX12_stretches_119 (by decide) (pc' := 120) rfl ?_
            refine ax_iadd dX12_stretches_120 (by omega) (pc' := 121) rfl ?_
            refine ax_puti dX12_stretches_121 flX12_411 (Or.inl rfl) sh_330 rfl (pc' := 124) rfl ?_
            refine ax_iinc dX12_stretches_124 rfl (by decide) (by omega) (ls' := [some (.inr 330), some (.inl r), some (.inl f), some (.inl ((f_lrow w r).length : Int)), some (.inl (i + 1)), some (.inl q7), some (.inl (f_cl w r q7))]) rfl (pc' := 127) rfl ?_
            refine ax_goto dX12_stretches_127 (pc' := 24) (by decide) ?_
            refine ax_less (ls2 := [some (.inr 330), some (.inl r), some (.inl f), some (.inl ((f_lrow w r).length : Int)), some (.inl (i + 1)), none, none]) [true, true, true, true, true, false, false] rfl ?_
            refine ih3 (i + 1) (f_note (f_more (f_sP wv1 r q7 0 (f_cl w r q7)) r q7 (f_cl w r q7) 1) r q7 (f_cl w r q7) 1 (-1)) (mn + 1) q7 (f_cl w r q7) rem2 (ax_up (ax_up (ax_up M_92 330 31 q7) 330 32 (f_cl w r q7)) 330 30 (mn + 1)) ?_ ?_ ?_ ?_ ?_ ?_ ?_ ?_ ?_ ?_ ?_ ?_
            · rw [qd, List.length_cons] at hm1
              omega
            · intro x0 i0 hai
              exact (ax_up_miss (by omega) (ax_up_miss (by omega) (ax_up_miss (by omega) ((frM_92 x0 i0 (by omega)).trans ((frM_81 x0 i0 (by omega)).trans ((frM_71 x0 i0 (by omega)).trans ((frM_54 x0 i0 (by omega)).trans ((fr1 x0 i0 (by omega)).trans rfl))))))))
            · exact (ax_up_rowmiss (by decide) (ax_up_rowmiss (by decide) (ax_up_rowmiss (by decide) mrM_92_0)))
            · exact (ax_up_hit _ _ _ _)
            · exact (ax_up_miss (by decide) (ax_up_miss (by decide) (ax_up_hit _ _ _ _)))
            · exact (ax_up_miss (by decide) (ax_up_hit _ _ _ _))
            · rw [qd, List.length_cons] at iv1_0
              omega
            · exact qf.2
            · rw [← iv1_2, qd]
              exact congrArg (fun z => List.foldl (f_stS Ls w r f) z rem2) qst.symm
            · first
                | exact iv1_3
                | exact ⟨qc5.1, f_sm_trans iv1_3.2 qc5.2⟩
            · exact fun q hq => iv1_4 q (qd ▸ List.mem_cons_of_mem _ hq)
            · omega
        · have qst : f_stS Ls w r f (wv1, mn, pp0, kk0) q7 = (wv1, mn, pp0, kk0) := if_neg (by show ¬ (f_need Ls wv1 r q7 (f_cl w r q7) ≤ f); omega)
          refine ax_goto dX12_stretches_61 (pc' := 124) (by decide) ?_
          refine ax_iinc dX12_stretches_124 rfl (by decide) (by omega) (ls' := [some (.inr 330), some (.inl r), some (.inl f), some (.inl ((f_lrow w r).length : Int)), some (.inl (i + 1)), some (.inl q7), some (.inl (f_cl w r q7))]) rfl (pc' := 127) rfl ?_
          refine ax_goto dX12_stretches_127 (pc' := 24) (by decide) ?_
          refine ax_less (ls2 := [some (.inr 330), some (.inl r), some (.inl f), some (.inl ((f_lrow w r).length : Int)), some (.inl (i + 1)), none, none]) [true, true, true, true, true, false, false] rfl ?_
          refine ih3 (i + 1) wv1 mn pp0 kk0 rem2 M_54 ?_ ?_ ?_ ?_ ?_ ?_ ?_ ?_ ?_ ?_ ?_ ?_
          · rw [qd, List.length_cons] at hm1
            omega
          · intro x0 i0 hai
            exact ((frM_54 x0 i0 (by omega)).trans ((fr1 x0 i0 (by omega)).trans rfl))
          · exact ((funext fun i0 => frM_54 331 i0 (by omega)).trans mr1_331)
          · exact ((frM_54 330 30 (by omega)).trans ms1_330_30)
          · exact ((frM_54 330 31 (by omega)).trans ms1_330_31)
          · exact ((frM_54 330 32 (by omega)).trans ms1_330_32)
          · rw [qd, List.length_cons] at iv1_0
            omega
          · exact qf.2
          · rw [← iv1_2, qd]
            exact congrArg (fun z => List.foldl (f_stS Ls w r f) z rem2) qst.symm
          · first
              | exact iv1_3
              | exact ⟨qc5.1, f_sm_trans iv1_3.2 qc5.2⟩
          · exact fun q hq => iv1_4 q (qd ▸ List.mem_cons_of_mem _ hq)
          · omega
  refine LP1 ((((f_lrow w r).reverse).length : Int) : Int).toNat.succ 0 w 0 (-1) (-1) ((f_lrow w r).reverse) (ax_up (ax_up (ax_up M_2 330 30 0) 330 31 (-1)) 330 32 (-1)) ?_ ?_ ?_ ?_ ?_ ?_ ?_ ?_ ?_ ?_ ?_ ?_
  · omega
  · exact fun a i _ => rfl
  · exact (ax_up_rowmiss (by decide) (ax_up_rowmiss (by decide) (ax_up_rowmiss (by decide) ((funext fun i0 => frM_2 331 i0 (by omega)).trans hw))))
  · exact (ax_up_miss (by decide) (ax_up_miss (by decide) (ax_up_hit _ _ _ _)))
  · exact (ax_up_miss (by decide) (ax_up_hit _ _ _ _))
  · exact (ax_up_hit _ _ _ _)
  · rw [List.length_reverse]
    omega
  · exact f_fwd_rev fa2_0
  · rfl
  · exact ⟨hg1, f_sm_refl⟩
  · exact fun q hq => qa2 q (List.mem_reverse.mp hq)
  · omega
set_option maxRecDepth 20000 in
theorem s_X12_pulls (E : ax_Env) (l : Launch) (d : Nat) (hd : 6 ≤ d) (M : ax_Mem) (r f : Int) (Ls : Int → List f_Ln) {w : Int → Int} (hw : M 331 = w) {pl : Int → Int} (hpl : M 340 = pl) {F : Int → Int} (hF : M 341 = F) {rw0 : Int → Int} (hrw0 : M 342 = rw0) {cv0 : Int → Int} (hcv0 : M 343 = cv0) (hg0 : 0 ≤ r ∧ r < 8) (hg1 : f_iv w) (hg2 : f_lw Ls w) (hg3 : 1 ≤ f_R w r 1) : ax_G E l d iX12_pulls [.inr 330, .inl r, .inl f] M (fun z0 M2 => z0 = some (.inl ((f_stch Ls w r f).2.1)) ∧ (∀ x0 i0 : Int, ¬ (x0 = 331 ∨ (x0 = 330 ∧ i0 = 30) ∨ (x0 = 330 ∧ i0 = 31) ∨ (x0 = 330 ∧ i0 = 32) ∨ (x0 = 330 ∧ i0 = 33) ∨ x0 = 340 ∨ x0 = 341 ∨ x0 = 342 ∨ x0 = 343) → M2 x0 i0 = M x0 i0) ∧ M2 331 = f_puls Ls w r f ∧ M2 330 30 = (f_stch Ls w r f).2.1 ∧ M2 330 31 = (f_stch Ls w r f).2.2.1 ∧ M2 330 32 = (f_stch Ls w r f).2.2.2 ∧ M2 330 33 = f_brk Ls (f_stch Ls w r f).1 r f) := by
  obtain ⟨d, rfl⟩ : ∃ d0, d = d0 + 1 := ⟨d - 1, by omega⟩
  refine ax_start rfl (Nat.le_of_ble_eq_true rfl) (ls := [some (.inr 330), some (.inl r), some (.inl f), none]) rfl (fun hav hcm => ?_)
  have hc1 : -2147483648 ≤ r ∧ r < 2147483648 := hav (.inl r) (by simp)
  have hc2 : -2147483648 ≤ f ∧ f < 2147483648 := hav (.inl f) (by simp)
  clear hav
  have qa3 := f_stch_ok (Ls := Ls) (f := f) hg0 hg1
  have qa4 := qa3.1
  have qa5 : f_R (f_stch Ls w r f).1 r 1 = f_R w r 1 := qa3.2.2.2.2.2 r 1 (by omega)
  have qa6 := f_wk_rg (Ls := Ls) (w := (f_stch Ls w r f).1) (r := r)
  have qa7 : f_brk Ls (f_stch Ls w r f).1 r f = -1 ∨ 0 ≤ f_brk Ls (f_stch Ls w r f).1 r f ∧ f_brk Ls (f_stch Ls w r f).1 r f < f_R w r 1 := by
    unfold f_brk
    split <;> omega
  refine ax_aload_n dX12_pulls_0 rfl rfl (pc' := 1) rfl ?_
  refine ax_iload_n dX12_pulls_1 rfl rfl (pc' := 2) rfl ?_
  refine ax_iload_n dX12_pulls_2 rfl rfl (pc' := 3) rfl ?_
  refine ax_invG [.inl r, .inl f] [] dX12_pulls_3 mlX12_429 sh_330 rfl rfl rfl (Nat.le_of_ble_eq_true rfl) (s_X12_stretches E l _ (by omega) _ r f Ls hw hpl hF hrw0 hcv0 (by first | omega | assumption) (by first | omega | assumption) (by first | omega | assumption)) (pc' := 6) rfl (fun vv M_3 hq co3 hcm3 => ?_)
  obtain ⟨rfl, frM_3, mrM_3_0, msM_3_0, msM_3_1, msM_3_2, msM_3_3⟩ := hq
  refine ax_reS (st2 := []) rfl ?_
  refine ax_aload_n dX12_pulls_6 rfl rfl (pc' := 7) rfl ?_
  refine ax_geti (v := f_brk Ls (f_stch Ls w r f).1 r f) dX12_pulls_7 flX12_426 rfl sh_330 msM_3_3 rfl (pc' := 10) rfl ?_
  refine ax_iconst dX12_pulls_10 (by decide) (pc' := 11) rfl ?_
  refine ax_icmp_ne (tgt := 19) dX12_pulls_11 (by decide) (pc' := 14) rfl (fun h11 => ?_) (fun h11 => ?_)
  · have qm : f_puls Ls w r f = _ := if_neg h11
    have qa8 := (f_iv_part hg0 (by omega : 0 ≤ f_brk Ls (f_stch Ls w r f).1 r f ∧ f_brk Ls (f_stch Ls w r f).1 r f < f_R (f_stch Ls w r f).1 r 1) qa4).2.2.2.1
    refine ax_aload_n dX12_pulls_19 rfl rfl (pc' := 20) rfl ?_
    refine ax_iload_n dX12_pulls_20 rfl rfl (pc' := 21) rfl ?_
    refine ax_aload_n dX12_pulls_21 rfl rfl (pc' := 22) rfl ?_
    refine ax_geti (v := f_brk Ls (f_stch Ls w r f).1 r f) dX12_pulls_22 flX12_426 rfl sh_330 msM_3_3 rfl (pc' := 25) rfl ?_
    refine ax_invG [.inl r, .inl (f_brk Ls (f_stch Ls w r f).1 r f)] [] dX12_pulls_25 mlX12_399 sh_330 rfl rfl rfl (Nat.le_of_ble_eq_true rfl) (s_X12_parts E l _ (by omega) _ r (f_brk Ls (f_stch Ls w r f).1 r f) mrM_3_0 (by first | omega | assumption) (by first | omega | assumption) (by first | omega | assumption)) (pc' := 28) rfl (fun vv M_25 hq co25 hcm25 => ?_)
    obtain ⟨rfl, frM_25, mrM_25_0⟩ := hq
    refine ax_reS (st2 := [.inl (f_lost (f_pfr ((f_stch Ls w r f).1) r (f_brk Ls (f_stch Ls w r f).1 r f)))]) rfl ?_
    have cc25 : -2147483648 ≤ f_lost (f_pfr ((f_stch Ls w r f).1) r (f_brk Ls (f_stch Ls w r f).1 r f)) ∧ f_lost (f_pfr ((f_stch Ls w r f).1) r (f_brk Ls (f_stch Ls w r f).1 r f)) < 2147483648 := co25 _ rfl
    refine ax_istore_n dX12_pulls_28 rfl (by decide) (ls' := [some (.inr 330), some (.inl r), some (.inl f), some (.inl (f_lost (f_pfr ((f_stch Ls w r f).1) r (f_brk Ls (f_stch Ls w r f).1 r f))))]) rfl (pc' := 29) rfl ?_
    refine ax_aload_n dX12_pulls_29 rfl rfl (pc' := 30) rfl ?_
    refine ax_iload_n dX12_pulls_30 rfl rfl (pc' := 31) rfl ?_
    refine ax_aload_n dX12_pulls_31 rfl rfl (pc' := 32) rfl ?_
    refine ax_geti (v := f_brk Ls (f_stch Ls w r f).1 r f) dX12_pulls_32 flX12_426 rfl sh_330 ((frM_25 330 33 (by omega)).trans msM_3_3) rfl (pc' := 35) rfl ?_
    refine ax_iconst dX12_pulls_35 (by decide) (pc' := 36) rfl ?_
    refine ax_iload_n dX12_pulls_36 rfl rfl (pc' := 37) rfl ?_
    refine ax_insG [.inl (-1), .inl (f_lost (f_pfr ((f_stch Ls w r f).1) r (f_brk Ls (f_stch Ls w r f).1 r f)))] [.inl (f_brk Ls (f_stch Ls w r f).1 r f), .inl r, .inr 330] dX12_pulls_37 mlX12_337 rfl rfl (Nat.le_of_ble_eq_true rfl) (s_X12_greater E l _ (by omega) _ (-1) (f_lost (f_pfr ((f_stch Ls w r f).1) r (f_brk Ls (f_stch Ls w r f).1 r f)))) (pc' := 40) rfl (fun vv M_37 hq co37 hcm37 => ?_)
    obtain ⟨rfl, rfl⟩ := hq
    refine ax_reS (st2 := [.inl (max (-1) (f_lost (f_pfr ((f_stch Ls w r f).1) r (f_brk Ls (f_stch Ls w r f).1 r f)))), .inl (f_brk Ls (f_stch Ls w r f).1 r f), .inl r, .inr 330]) rfl ?_
    have cc37 : -2147483648 ≤ max (-1) (f_lost (f_pfr ((f_stch Ls w r f).1) r (f_brk Ls (f_stch Ls w r f).1 r f))) ∧ max (-1) (f_lost (f_pfr ((f_stch Ls w r f).1) r (f_brk Ls (f_stch Ls w r f).1 r f))) < 2147483648 := co37 _ rfl
    refine ax_iconst dX12_pulls_40 (by decide) (pc' := 41) rfl ?_
    refine ax_iconst dX12_pulls_41 (by decide) (pc' := 42) rfl ?_
    refine ax_invG [.inl r, .inl (f_brk Ls (f_stch Ls w r f).1 r f), .inl (max (-1) (f_lost (f_pfr ((f_stch Ls w r f).1) r (f_brk Ls (f_stch Ls w r f).1 r f)))), .inl 2, .inl (-1)] [] dX12_pulls_42 mlX12_373 sh_330 rfl rfl rfl (Nat.le_of_ble_eq_true rfl) (s_X12_notes E l _ (by omega) _ r (f_brk Ls (f_stch Ls w r f).1 r f) (max (-1) (f_lost (f_pfr ((f_stch Ls w r f).1) r (f_brk Ls (f_stch Ls w r f).1 r f)))) 2 (-1) mrM_25_0 (by first | omega | assumption)) (pc' := 45) rfl (fun vv M_42 hq co42 hcm42 => ?_)
    obtain ⟨rfl, frM_42, mrM_42_0⟩ := hq
    refine ax_reS (st2 := []) rfl ?_
    refine ax_aload_n dX12_pulls_45 rfl rfl (pc' := 46) rfl ?_
    refine ax_geti (v := (f_stch Ls w r f).2.1) dX12_pulls_46 flX12_411 rfl sh_330 ((frM_42 330 30 (by omega)).trans ((frM_25 330 30 (by omega)).trans msM_3_0)) rfl (pc' := 49) rfl ?_
    refine ax_iret dX12_pulls_49 rfl ?_
    refine ⟨rfl, ?_, ?_, ?_, ?_, ?_, ?_, ?_⟩
    · rfl
    · intro x0 i0 hai
      exact ((frM_42 x0 i0 (by omega)).trans ((frM_25 x0 i0 (by omega)).trans ((frM_3 x0 i0 (by omega)).trans rfl)))
    · refine Eq.trans mrM_42_0 ?_
      rw [qm]
    · exact ((frM_42 330 30 (by omega)).trans ((frM_25 330 30 (by omega)).trans msM_3_0))
    · exact ((frM_42 330 31 (by omega)).trans ((frM_25 330 31 (by omega)).trans msM_3_1))
    · exact ((frM_42 330 32 (by omega)).trans ((frM_25 330 32 (by omega)).trans msM_3_2))
    · exact ((frM_42 330 33 (by omega)).trans ((frM_25 330 33 (by omega)).trans msM_3_3))
  · have qm : f_puls Ls w r f = (f_stch Ls w r f).1 := if_pos h11
    refine ax_aload_n dX12_pulls_14 rfl rfl (pc' := 15) rfl ?_
    refine ax_geti (v := (f_stch Ls w r f).2.1) dX12_pulls_15 flX12_411 rfl sh_330 msM_3_0 rfl (pc' := 18) rfl ?_
    refine ax_iret dX12_pulls_18 rfl ?_
    refine ⟨rfl, ?_, ?_, ?_, ?_, ?_, ?_, ?_⟩
    · rfl
    · intro x0 i0 hai
      exact ((frM_3 x0 i0 (by omega)).trans rfl)
    · refine Eq.trans mrM_3_0 ?_
      rw [qm]
    · exact msM_3_0
    · exact msM_3_1
    · exact msM_3_2
    · exact msM_3_3
