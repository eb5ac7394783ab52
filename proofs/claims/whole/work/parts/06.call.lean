/-! rows of the logic: a method's entry, calls -/
theorem ax_lg_sl (E : ax_Env) (av : List ax_V) : lg_sl (av.map (ax_v E)) = av.map fun v => Slot.val (ax_v E v) := by
  induction av with
  | nil => rfl
  | cons v t ih =>
    rw [List.map_cons, List.map_cons, ← ih]
    simp [lg_sl, ax_v_cat]
theorem ax_rm_of (ts : List Cond) (r : Room) : (headSpec ts r).room = r := rfl
theorem ax_nchar {x : Int} (h : 0 ≤ x ∧ x < 65536) : narrow .char (.int (Int32.ofInt x)) = .int (Int32.ofInt x) := by
  obtain ⟨n, rfl⟩ := Int.eq_ofNat_of_zero_le h.1
  exact (pk_charN (q := n) (by omega)).1
theorem ax_nbyte {x : Int} (h : -128 ≤ x ∧ x < 128) : narrow .byte (.int (Int32.ofInt x)) = .int (Int32.ofInt x) := by
  rw [narrow_byte]
  congr 1
  rw [← Int32.toInt_inj, Int8.toInt_toInt32, Int32.toInt_toInt8, Int32.toInt_ofInt_of_le (by omega) (by omega)]
  exact Int.bmod_eq_of_le (by omega) (by omega)
section AXC
variable {E : ax_Env} {l : Launch} {d kc ks : Nat} {I : ax_I} {pc pc' : Nat} {ls ls' : List (Option ax_V)} {st : List ax_V} {S : List ax_Cell} {M : ax_Mem} {Q : ax_Post}
/-- a method meets its contract if its walk from the entry does -/
theorem ax_enter {av : List ax_V} (hy : plainName I.1.cls = true) (hn : av.length ≤ I.2.2.1) (hl : av.map some ++ List.replicate (I.2.2.1 - av.length) none = ls) (kk : (∀ v ∈ av, ax_cv v) → ax_cm M → ax_W E l d kc ks I 0 ls [] S M Q) : ax_M E l d kc ks I av S M Q := by
  intro hav
  refine Met.ofW (cc := I.2.1) (maxL := I.2.2.1) (ret := I.2.2.2) hy rfl ?_
  intro p e s m args below meth c s₁ B hml hv
  obtain ⟨rfl, hR, hK, hz⟩ := hv
  have hts : ∀ w ∈ ax_good, w.before ((av.map (ax_v E)).toArray) s = true := fun w hw => atoms_spec (ws := ax_wd I) B.pre w (List.mem_cons_of_mem _ hw)
  have hown : s.vm.findClass I.1.cls = some m.cls := findClass_of_methodNamed B.named
  have hnm : meth.name = I.1.name := (name_of_methodNamed B.named B.method).1
  have hX : ax_X E I p s m ((av.map (ax_v E)).toArray) meth c := ⟨B.exec, B.bytes, hml, B.returns, hown, hts, B.notSynchronized, hnm, hK⟩
  have hlen : (lg_sl (av.map (ax_v E))).length ≤ I.2.2.1 := by
    rw [ax_lg_sl, List.length_map]
    exact hn
  have hl0 := lv_entry (av.map (ax_v E)) (n := I.2.2.1) hlen
  rw [lg_entry_eq]
  refine kk hav hR.2 p e _ s m _ below meth c kc ks _ s.heap [] 0 0 _ hX ⟨Nat.le_refl d, Nat.le_refl (60 * d), Nat.le_refl kc, Nat.le_refl ks⟩ ?_ hR va_S.rf (Nat.zero_add kc) (Nat.le_of_eq (Nat.zero_add ks)) (by rw [hz]; rfl) ?_ ?_ ?_
  · intro v S' M' H locs slots pc lc hq hco hR' hS' hc hs hrt hrd
    refine W.widen (k := kc) (n := ks) (Nat.le_refl kc) hs ?_
    have hpost : ∀ t : State, t.heap = H → s.WarmedH t.vm → ax_Qc E (S.length + kc) Q I.2.2.2 ((av.map (ax_v E)).toArray) s (.returned (v.map (ax_v E))) t := by
      intro t ht hW
      refine ⟨⟨v, S', M', rfl, hq, by omega, hco, hrt, by rw [ht]; exact hR'⟩, ?_, ?_⟩
      · rw [ht]; exact hS'.1
      · intro q h1 h2
        rw [ht]
        exact hS'.2.1 q h1 h2
    match v, hrt, hrd, hpost with
    | none, hrt, hrd, hpost => exact W.vret hX.1 hX.2.1 (hX.2.2.2.1.trans hrt) hpost hS'.2.2 hrd hX.2.2.2.2.2.2.1
    | some (.inl x), hrt, hrd, hpost =>
      rcases hrt with h | ⟨h, hx⟩ | ⟨h, hx⟩ | ⟨h, hx⟩
      · exact W.iret hX.1 hX.2.1 (hX.2.2.2.1.trans h) hpost hS'.2.2 hrd hX.2.2.2.2.2.2.1
      · exact W.zret hX.1 hX.2.1 (hX.2.2.2.1.trans h) (by rcases hx with rfl | rfl <;> decide) hpost hS'.2.2 hrd hX.2.2.2.2.2.2.1
      · exact W.zret hX.1 hX.2.1 (hX.2.2.2.1.trans h) (ax_nchar hx) hpost hS'.2.2 hrd hX.2.2.2.2.2.2.1
      · exact W.zret hX.1 hX.2.1 (hX.2.2.2.1.trans h) (ax_nbyte hx) hpost hS'.2.2 hrd hX.2.2.2.2.2.2.1
    | some (.inr x), hrt, hrd, hpost =>
      obtain ⟨n, hn⟩ := hrt
      exact W.aret hX.1 hX.2.1 (hX.2.2.2.1.trans hn) (Or.inl ⟨n, rfl⟩) (ax_rf_c E x) hpost hS'.2.2 hrd hX.2.2.2.2.2.2.1
  · refine ⟨hl0.1, hl0.2.1, fun i v hi => ?_⟩
    subst hl
    rw [ax_lg_sl]
    by_cases hlt : i < av.length
    · rw [List.getElem?_append_left (by simpa using hlt), List.getElem?_map] at hi
      obtain ⟨w, hw, he⟩ := Option.map_eq_some_iff.mp hi
      cases he
      simp only [List.getElem?_toArray]
      rw [List.getElem?_append_left (by simpa using hlt), List.getElem?_map, hw]
      rfl
    · rw [List.getElem?_append_right (by simpa using hlt)] at hi
      rw [List.getElem?_replicate] at hi
      split at hi <;> cases hi
  · intro i v hi
    subst hl
    by_cases hlt : i < av.length
    · rw [List.getElem?_append_left (by simpa using hlt), List.getElem?_map] at hi
      obtain ⟨w, hw, he⟩ := Option.map_eq_some_iff.mp hi
      cases he
      exact hav v (List.mem_of_getElem? hw)
    · rw [List.getElem?_append_right (by simpa using hlt)] at hi
      rw [List.getElem?_replicate] at hi
      split at hi <;> cases hi
  · exact fun v hv => by cases hv
theorem ax_size {p : Program} {e : Env} {R : Room} {s : State} {m : MethodId} {args : Array Value} {below : List Frame} {meth : Method} {c : Code} {T : State} {locs : List Loc} {cells slots : Nat} {H : Heap} (hT : T.heap = H) (X : Stand p l e R s m args below meth c T locs cells slots) (hH : ax_R E S M H) (hS : va_S (ax_A E) s.heap H locs) (hb : ax_b E ≤ s.heap.size) (hc3 : s.heap.size + cells = ax_b E + S.length) : H.size = ax_b E + S.length := by
  have h1 := X.heapSize
  rw [hT] at h1
  have h2 := hS.1
  by_cases h0 : S.length = 0
  · omega
  · have hk : S.length - 1 < S.length := by omega
    have hg := ax_ws_get (E := E) (M := M) (List.getElem?_eq_getElem hk)
    have h3 := (hH.1 _ _ hg).lt
    simp only at h3
    omega
theorem ax_sized {p : Program} {e : Env} {R : Room} {s : State} {m : MethodId} {args : Array Value} {below : List Frame} {meth : Method} {c : Code} {locs : List Loc} {cells slots : Nat} {H : Heap} {Z : State → Prop} {g : JFrame} (hX : ax_X E I p s m args meth c) (hH : ax_R E S M H) (hS : va_S (ax_A E) s.heap H locs) (hc3 : s.heap.size + cells = ax_b E + S.length) (kk : H.size = ax_b E + S.length → W p l e R s m args below meth c H locs cells slots Z g) : W p l e R s m args below meth c H locs cells slots Z g := fun T hT X => kk (ax_size hT X hH hS hX.2.2.2.2.2.2.2.2.2.2.2.2.2.2.1 hc3) T hT X
theorem ax_go1 {p : Program} {e : Env} {R : Room} {s : State} {m : MethodId} {args a : Array Value} {below : List Frame} {meth : Method} {c : Code} {locs : List Loc} {cells slots n kc1 ks1 : Nat} {H : Heap} {Q1 : ax_Post} {ret : Option FieldType} {lc : Array Slot} {st0 rest : List Value} {Z : State → Prop}
    (hr : va_Run p l e R s m args below meth c H locs cells slots kc1 ks1 (F0 m pc lc st0) rest (ax_Qc E n Q1 ret a) (ax_A E)) (hS : va_S (ax_A E) s.heap H locs)
    (kk : ∀ (v : Option ax_V) (S' : List ax_Cell) (M' : ax_Mem) (H1 : Heap) (locs1 : List Loc), Q1 v S' M' → S'.length = n → ax_co v → ax_rt ret v → ax_R E S' M' H1 → va_S (ax_A E) s.heap H1 locs1 → W p l e R s m args below meth c H1 locs1 (cells + kc1) (slots + ks1) Z (F0 m (pc + 3) lc ((v.map (ax_v E)).toList ++ rest))) : W p l e R s m args below meth c H locs cells slots Z (F0 m pc lc st0) := by
  intro T hT X
  obtain ⟨v0, st₀, t, T', L, h0, X', hL, e1, e2, ⟨⟨v, S', M', hv, hq, hn, hco, hrt, hR'⟩, hz, hk⟩, go⟩ := hr T hT X
  cases hv
  rw [h0] at hz hk
  obtain ⟨t2, a1, b1⟩ := kk v S' M' T'.heap (locs ++ L) hq hn hco hrt (by rw [e1]; exact hR')
    ⟨Nat.le_trans hS.1 (by rw [e1]; exact hz), fun q h1 h2 => by rw [e1, hk q (Nat.lt_of_lt_of_le h1 hS.1) h2]; exact hS.2.1 q h1 h2, fun q hq => by
      rcases List.mem_append.mp hq with h | h
      · exact hS.2.2 q h
      · exact hL q h⟩ T' rfl X'
  exact ⟨t2, go t2 a1, b1⟩
theorem ax_Pc_blind {av : List ax_V} : FrameBlind (ax_Pc E av S M) := by
  intro a U g mk h
  obtain ⟨h1, h2, h3, h4⟩ := h
  exact ⟨h1, h2, h3.go (State.WarmedH.refl U) (Nat.le_refl _) (fun _ _ _ => rfl), h4⟩
theorem ax_Pc_at {p : Program} {s U : State} {m : MethodId} {args : Array Value} {meth : Method} {c : Code} {H : Heap} {locs : List Loc} {av : List ax_V} (hX : ax_X E I p s m args meth c) (hH : ax_R E S M H) (hS : va_S (ax_A E) s.heap H locs) (hz : H.size = ax_b E + S.length) (hU : U.heap = H) (hW : s.WarmedH U.vm) : ax_Pc E av S M (av.map (ax_v E)).toArray U := by
  refine ⟨rfl, by rw [hU]; exact hH, ?_, by rw [hU]; exact hz⟩
  rw [hU]
  exact hX.2.2.2.2.2.2.2.2.go hW hS.1 hS.2.1
theorem ax_cat_sum (E : ax_Env) (rest : List ax_V) : ((rest.map (ax_v E)).map fun v => v.category).sum = rest.length := by
  induction rest with
  | nil => rfl
  | cons v t ih =>
    rw [List.map_cons, List.map_cons, List.sum_cons, ih, ax_v_cat, List.length_cons]
    omega
def ax_CB (Y : ax_I) (n : Nat) : Prop := Cond.initialized Y.1.cls ∈ ax_good ∧ Cond.code Y.1 Y.2.1 Y.2.2.1 Y.2.2.2 ∈ ax_good ∧ (Y.1.cls ≠ "java/lang/invoke/MethodHandle" ∧ Y.1.cls ≠ "java/lang/invoke/VarHandle" ∧ (parseMethodDescriptor Y.1.desc).map (fun d => d.parameters.length) = some n) ∧ Y.2.2.1 ≤ 41
/-- the link of a virtual method -/
def ax_MV (own : String) (index : Nat) (Y : ax_I) (ci n : Nat) : Prop := ax_CB Y n ∧ (∃ (T : u_T) (N : Nat), vwCl[ci]? = some (Y.1.cls, T, N) ∧ ci < 13) ∧ Cond.methodLink own index Y.1 ∈ ax_good ∧ Cond.instanceMethod Y.1 ∈ ax_good ∧ Cond.selects Y.1.cls Y.1 Y.1 ∈ ax_good
def ax_MS (own : String) (index : Nat) (Y : ax_I) (n : Nat) : Prop := ax_CB Y n ∧ Cond.methodLink own index Y.1 ∈ ax_good ∧ Cond.static Y.1 ∈ ax_good
def ax_MSN (own : String) (index : Nat) (Y : ax_I) (host : String) (n : Nat) : Prop := ax_CB Y n ∧ (own, index, Y.1, host) ∈ ax_nest ∧ Cond.static Y.1 ∈ ax_good
def ax_MI (own : String) (index : Nat) (Y : ax_I) (n : Nat) : Prop := ax_CB Y n ∧ Cond.methodLink own index Y.1 ∈ ax_good ∧ Cond.instanceMethod Y.1 ∈ ax_good ∧ Y.1.name = "<init>" ∧ Y.2.2.2 = none
def ax_MIN (own : String) (index : Nat) (Y : ax_I) (host : String) (n : Nat) : Prop := ax_CB Y n ∧ (own, index, Y.1, host) ∈ ax_nest ∧ Cond.instanceMethod Y.1 ∈ ax_good ∧ Y.1.name = "<init>" ∧ Y.2.2.2 = none
theorem ax_wd_good {Y : ax_I} {n : Nat} (h : ax_CB Y n) : GoodIn ax_good (ax_wd Y) := fun w hw => (List.mem_cons.mp hw).elim (fun e => e ▸ ax_gd_in _ h.2.1) (ax_gd_in w)
theorem ax_inv {index ci n kc1 ks1 : Nat} {Y : ax_I} {a : Int} {c1 : ax_Cell} {Q1 : ax_Post} (av rest : List ax_V) (hdg : decode I.2.1 pc = .ok (.invokevirtual index, 3)) (L : ax_MV I.1.cls index Y ci n) (hs : ax_sh S a = some c1) (hci : c1.1 = ci) (hst : st = av.reverse ++ .inr a :: rest) (hn : av.length = n) (hr : rest.length ≤ 8) (hM : ax_M E l d kc1 ks1 Y (.inr a :: av) S M Q1) (hp : pc + 3 = pc')
    (kk : ∀ (v : Option ax_V) (S' : List ax_Cell) (M' : ax_Mem), Q1 v S' M' → ax_co v → ax_rt Y.2.2.2 v → ax_cm M' → ax_W E l (d + 1) kc ks I pc' ls (v.toList ++ rest) S' M' Q) : ax_W E l (d + 1) (kc1 + kc) (ks1 + ks) I pc ls st S M Q := by
  subst hp
  subst hst
  subst hci
  obtain ⟨q, rfl, hq⟩ := ax_sh_of hs
  obtain ⟨B, ⟨T1, N1, hc1, hl13⟩, m1, m2, m3⟩ := L
  intro p e R s m args below meth c mc ms Z H locs cells slots lc hX hR hZ hH hS hk1 hk2 hk3 hL hcl hcs
  refine ax_sized hX hH hS hk3 (fun hz => ?_)
  have hg := ax_ws_get (E := E) (M := M) hq
  obtain ⟨cc1, cc2, cc3⟩ := c1
  rw [ax_ce_obj hl13] at hg
  have hcv : ∀ v ∈ (.inr (q : Int) :: av), ax_cv v := fun v hv => (List.mem_cons.mp hv).elim (fun e => e ▸ trivial) (fun h => hcs v (List.mem_append_left _ (List.mem_reverse.mpr h)))
  have hrest : ax_cs rest := fun v hv => hcs v (List.mem_append_right _ (List.mem_cons_of_mem _ hv))
  have hq0 : ax_v E (.inr (q : Int)) = .ref (ax_b E + q) := (ax_rf_pos (by omega)).trans (by simp)
  have hts := hX.2.2.2.2.2.1
  refine ax_go1 (va_runV (C := Y.1.cls) (b := ax_b E + q) (As := av.map (ax_v E)) (rest := rest.map (ax_v E)) ⟨hX.1, hX.2.1, hX.2.2.1, hX.2.2.2.2.1, hts⟩ (hM hcv) (cwV n hts (goodIn_app (fun w hw => ?_) (ax_wd_good B)) rfl rfl rfl ⟨rfl, B.2.2.1⟩ ⟨hR.1, ?_⟩) ⟨ax_Pc_blind, va_recv hX.2.2.2.2.2.2.2.2.1 hH.1 hc1 hg, fun U hU hW => ?_⟩ rfl (by rw [List.length_map]; exact hn) hL.1 ?_ ?_ hdg ⟨?_, ?_⟩) hS (fun v S' M' H1 locs1 hq1 hlen hco hrt hR1 hS1 => ?_)
  · simp only [List.mem_cons, List.not_mem_nil, or_false] at hw
    rcases hw with rfl | rfl | rfl | rfl
    · exact ax_gd_in _ m1
    · exact ax_gd_in _ m2
    · exact ax_gd_in _ m3
    · exact ax_gd_in _ B.1
  · have := B.2.2.2
    have := hR.2.1
    show 8 + (Y.2.2.1 + 11) + 60 * d ≤ R.locals
    omega
  · rw [← hq0, ← List.map_cons]
    exact ax_Pc_at hX hH hS hz hU hW
  · show (av.reverse ++ .inr (q : Int) :: rest).map (ax_v E) = _
    rw [List.map_append, List.map_reverse, List.map_cons, hq0]
  · show 2 * 0 + _ ≤ 8
    rw [ax_cat_sum]
    omega
  · have := hR.2.2.1
    omega
  · have := hR.2.2.2
    omega
  · have h := kk v S' M' hq1 hco hrt hR1.2 p e R s m args below meth c mc ms Z H1 locs1 (cells + kc1) (slots + ks1) lc hX hR hZ hR1 hS1 (by omega) (by omega) (by omega) hL hcl (fun w hw => (List.mem_append.mp hw).elim (fun h => hco w (by simpa using h)) (hrest w))
    rw [List.map_append] at h
    cases v <;> exact h
theorem ax_ins_gen {index n kc1 ks1 : Nat} {Y : ax_I} {Q1 : ax_Post} (av rest : List ax_V) (hdg : decode I.2.1 pc = .ok (.invokestatic index, 3)) (L : ax_MS I.1.cls index Y n ∨ ∃ host, ax_MSN I.1.cls index Y host n) (hst : st = av.reverse ++ rest) (hn : av.length = n) (hr : rest.length ≤ 8) (hM : ax_M E l d kc1 ks1 Y av S M Q1) (hp : pc + 3 = pc')
    (kk : ∀ (v : Option ax_V) (S' : List ax_Cell) (M' : ax_Mem), Q1 v S' M' → ax_co v → ax_rt Y.2.2.2 v → ax_cm M' → ax_W E l (d + 1) kc ks I pc' ls (v.toList ++ rest) S' M' Q) : ax_W E l (d + 1) (kc1 + kc) (ks1 + ks) I pc ls st S M Q := by
  subst hp
  subst hst
  intro p e R s m args below meth c mc ms Z H locs cells slots lc hX hR hZ hH hS hk1 hk2 hk3 hL hcl hcs
  refine ax_sized hX hH hS hk3 (fun hz => ?_)
  have hcv : ∀ v ∈ av, ax_cv v := fun v hv => hcs v (List.mem_append_left _ (List.mem_reverse.mpr hv))
  have hrest : ax_cs rest := fun v hv => hcs v (List.mem_append_right _ hv)
  have hts := hX.2.2.2.2.2.1
  have hB : ax_CB Y n := by
    rcases L with L | ⟨_, L⟩ <;> exact L.1
  have hloc : 8 + (Y.2.2.1 + 11) + (ax_rm d kc1 ks1).locals ≤ R.locals := by
    have := hB.2.2.2
    have := hR.2.1
    show 8 + (Y.2.2.1 + 11) + 60 * d ≤ R.locals
    omega
  have hstk : (av.reverse ++ rest).map (ax_v E) = (av.map (ax_v E)).reverse ++ rest.map (ax_v E) := by rw [List.map_append, List.map_reverse]
  have hcat : 2 * 0 + ((rest.map (ax_v E)).map fun v => v.category).sum ≤ 8 := by
    rw [ax_cat_sum]
    omega
  have hfit : cells + kc1 ≤ R.cells ∧ slots + ks1 ≤ R.slots := by
    have := hR.2.2.1
    have := hR.2.2.2
    omega
  have hpre : PreS s H (ax_Pc E av S M) (av.map (ax_v E)) := ⟨ax_Pc_blind, fun U hU hW => ax_Pc_at hX hH hS hz hU hW⟩
  have hrun : va_Run p l e R s m args below meth c H locs cells slots kc1 ks1 (F0 m pc lc ((av.reverse ++ rest).map (ax_v E))) (rest.map (ax_v E)) (ax_Qc E (S.length + kc1) Q1 Y.2.2.2 (av.map (ax_v E)).toArray) (ax_A E) := by
    rcases L with L | ⟨host, L⟩
    · exact va_runS (As := av.map (ax_v E)) ⟨hX.1, hX.2.1, hX.2.2.1, hX.2.2.2.2.1, hts⟩ (hM hcv) ⟨callB_of n hts (ax_wd_good L.1) rfl rfl rfl (hts _ L.1.1) (hts _ L.2.1) L.1.2.2.1 ⟨hR.1, hloc⟩, hts _ L.2.2⟩ hpre rfl (by rw [List.length_map]; exact hn) hL.1 hstk hcat hdg hfit
    · exact va_runSN (host := host) (As := av.map (ax_v E)) ⟨hX.1, hX.2.1, hX.2.2.1, hX.2.2.2.2.1, hts⟩ (hM hcv) ⟨va_cnB n hts (ax_wd_good L.1) rfl rfl rfl (hX.2.2.2.2.2.2.2.2.2.1 _ L.2.1) (hts _ L.1.1) L.1.2.2.1 ⟨hR.1, hloc⟩, hts _ L.2.2, trivial⟩ hpre rfl (by rw [List.length_map]; exact hn) hL.1 hstk hcat hdg hfit
  refine ax_go1 hrun hS (fun v S' M' H1 locs1 hq1 hlen hco hrt hR1 hS1 => ?_)
  have h := kk v S' M' hq1 hco hrt hR1.2 p e R s m args below meth c mc ms Z H1 locs1 (cells + kc1) (slots + ks1) lc hX hR hZ hR1 hS1 (by omega) (by omega) (by omega) hL hcl (fun w hw => (List.mem_append.mp hw).elim (fun h => hco w (by simpa using h)) (hrest w))
  rw [List.map_append] at h
  cases v <;> exact h
theorem ax_ini {index n kc1 ks1 : Nat} {Y : ax_I} {a : Int} {Q1 : ax_Post} (av rest : List ax_V) (hdg : decode I.2.1 pc = .ok (.invokespecial index, 3)) (L : ax_MI I.1.cls index Y n ∨ ∃ host, ax_MIN I.1.cls index Y host n) (h0 : 0 ≤ a) (hst : st = av.reverse ++ .inr a :: rest) (hn : av.length = n) (hr : rest.length ≤ 8) (hM : ax_M E l d kc1 ks1 Y (.inr a :: av) S M Q1) (hp : pc + 3 = pc')
    (kk : ∀ (v : Option ax_V) (S' : List ax_Cell) (M' : ax_Mem), Q1 v S' M' → ax_co v → ax_rt Y.2.2.2 v → ax_cm M' → ax_W E l (d + 1) kc ks I pc' ls (v.toList ++ rest) S' M' Q) : ax_W E l (d + 1) (kc1 + kc) (ks1 + ks) I pc ls st S M Q := by
  subst hp
  subst hst
  intro p e R s m args below meth c mc ms Z H locs cells slots lc hX hR hZ hH hS hk1 hk2 hk3 hL hcl hcs
  refine ax_sized hX hH hS hk3 (fun hz => ?_)
  have hcv : ∀ v ∈ (.inr a :: av), ax_cv v := fun v hv => (List.mem_cons.mp hv).elim (fun e => e ▸ trivial) (fun h => hcs v (List.mem_append_left _ (List.mem_reverse.mpr h)))
  have hrest : ax_cs rest := fun v hv => hcs v (List.mem_append_right _ (List.mem_cons_of_mem _ hv))
  have hts := hX.2.2.2.2.2.1
  have hq0 : ax_v E (.inr a) = .ref (ax_b E + a.toNat) := ax_rf_pos h0
  have hB : ax_CB Y n := by
    rcases L with L | ⟨_, L⟩ <;> exact L.1
  have hloc : 8 + (Y.2.2.1 + 11) + (ax_rm d kc1 ks1).locals ≤ R.locals := by
    have := hB.2.2.2
    have := hR.2.1
    show 8 + (Y.2.2.1 + 11) + 60 * d ≤ R.locals
    omega
  have hstk : (av.reverse ++ .inr a :: rest).map (ax_v E) = (av.map (ax_v E)).reverse ++ .ref (ax_b E + a.toNat) :: rest.map (ax_v E) := by rw [List.map_append, List.map_reverse, List.map_cons, hq0]
  have hcat : 2 * 0 + ((rest.map (ax_v E)).map fun v => v.category).sum ≤ 8 := by
    rw [ax_cat_sum]
    omega
  have hfit : cells + kc1 ≤ R.cells ∧ slots + ks1 ≤ R.slots := by
    have := hR.2.2.1
    have := hR.2.2.2
    omega
  have hpre : PreS s H (ax_Pc E (.inr a :: av) S M) (.ref (ax_b E + a.toNat) :: av.map (ax_v E)) := by
    refine ⟨ax_Pc_blind, fun U hU hW => ?_⟩
    rw [← hq0, ← List.map_cons]
    exact ax_Pc_at hX hH hS hz hU hW
  have hret : Y.2.2.2 = none := by
    rcases L with L | ⟨_, L⟩ <;> exact L.2.2.2.2
  have hrun : va_Run p l e R s m args below meth c H locs cells slots kc1 ks1 (F0 m pc lc ((av.reverse ++ .inr a :: rest).map (ax_v E))) (rest.map (ax_v E)) (ax_Qc E (S.length + kc1) Q1 Y.2.2.2 (.ref (ax_b E + a.toNat) :: av.map (ax_v E)).toArray) (ax_A E) := by
    have hwd : ax_wd Y = Cond.code Y.1 Y.2.1 Y.2.2.1 none :: ax_good := by rw [ax_wd, hret]
    rcases L with L | ⟨host, L⟩
    · exact va_runI (As := av.map (ax_v E)) ⟨hX.1, hX.2.1, hX.2.2.1, hX.2.2.2.2.1, hts⟩ (hM hcv) ⟨callB_of n hts (ax_wd_good L.1) hwd rfl rfl (hts _ L.1.1) (hts _ L.2.1) L.1.2.2.1 ⟨hR.1, hloc⟩, L.2.2.2.1, hts _ L.2.2.1⟩ hpre rfl (by rw [List.length_map]; exact hn) hL.1 hstk hcat hdg hfit
    · exact va_runIN (host := host) (As := av.map (ax_v E)) ⟨hX.1, hX.2.1, hX.2.2.1, hX.2.2.2.2.1, hts⟩ (hM hcv) ⟨va_cnB n hts (ax_wd_good L.1) hwd rfl rfl (hX.2.2.2.2.2.2.2.2.2.1 _ L.2.1) (hts _ L.1.1) L.1.2.2.1 ⟨hR.1, hloc⟩, L.2.2.2.1, hts _ L.2.2.1⟩ hpre rfl (by rw [List.length_map]; exact hn) hL.1 hstk hcat hdg hfit
  refine ax_go1 hrun hS (fun v S' M' H1 locs1 hq1 hlen hco hrt hR1 hS1 => ?_)
  have h := kk v S' M' hq1 hco hrt hR1.2 p e R s m args below meth c mc ms Z H1 locs1 (cells + kc1) (slots + ks1) lc hX hR hZ hR1 hS1 (by omega) (by omega) (by omega) hL hcl (fun w hw => (List.mem_append.mp hw).elim (fun h => hco w (by simpa using h)) (hrest w))
  rw [List.map_append] at h
  cases v <;> exact h
end AXC
