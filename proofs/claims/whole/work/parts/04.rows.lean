/-! rows of the logic: an instruction each -/
theorem ax_cs_cons {v : ax_V} {st : List ax_V} (h : ax_cv v) (hs : ax_cs st) : ax_cs (v :: st) := fun w hw => (List.mem_cons.mp hw).elim (fun e => e ▸ h) (hs w)
theorem ax_cs_tail {v : ax_V} {st : List ax_V} (hs : ax_cs (v :: st)) : ax_cs st := fun w hw => hs w (List.mem_cons_of_mem _ hw)
theorem ax_cs_head {v : ax_V} {st : List ax_V} (hs : ax_cs (v :: st)) : ax_cv v := hs v List.mem_cons_self
def ax_al (E : ax_Env) (ls : List (Option ax_V)) : List (Nat × Value) := (List.range ls.length).filterMap fun i => (ls.getD i none).map fun v => (i, ax_v E v)
theorem ax_L_has {E : ax_Env} {ls : List (Option ax_V)} {nL : Nat} {lc : Array Slot} (h : ax_L E ls nL lc) : lv_has lc nL (ax_al E ls) := by
  refine ⟨h.1, h.2.1, fun q hq => ?_⟩
  obtain ⟨i, hi, he⟩ := List.mem_filterMap.mp hq
  obtain ⟨v, hv, rfl⟩ := Option.map_eq_some_iff.mp he
  refine h.2.2 i v ?_
  have hl : i < ls.length := List.mem_range.mp hi
  rw [List.getD_eq_getElem?_getD, List.getElem?_eq_getElem hl] at hv
  rw [List.getElem?_eq_getElem hl]
  exact congrArg some hv
theorem ax_L_set {E : ax_Env} {ls : List (Option ax_V)} {nL : Nat} {lc : Array Slot} {i : Nat} {v : ax_V} (h : lv_has lc nL ((i, ax_v E v) :: (ax_al E ls).filter (fun q => !(q.1 == i) && !(q.1 + 1 == i && q.2.category == 2)))) : ax_L E (ls.set i (some v)) nL lc := by
  refine ⟨h.1, h.2.1, fun j w hj => ?_⟩
  rw [List.getElem?_set] at hj
  by_cases hij : i = j
  · subst hij
    rw [if_pos rfl] at hj
    split at hj
    · cases hj
      exact h.2.2 (i, ax_v E v) List.mem_cons_self
    · cases hj
  · rw [if_neg hij] at hj
    refine h.2.2 (j, ax_v E w) (List.mem_cons_of_mem _ (List.mem_filter.mpr ⟨?_, ?_⟩))
    · have hl : j < ls.length := (List.getElem?_eq_some_iff.mp hj).1
      refine List.mem_filterMap.mpr ⟨j, List.mem_range.mpr hl, ?_⟩
      rw [List.getD_eq_getElem?_getD, hj]
      rfl
    · have hne : (j == i) = false := by simpa using fun e => hij e.symm
      simp [hne, ax_v_cat]
theorem ax_cl_set {ls : List (Option ax_V)} {i : Nat} {v : ax_V} (h : ax_cl ls) (hv : ax_cv v) : ax_cl (ls.set i (some v)) := by
  intro j w hj
  rw [List.getElem?_set] at hj
  split at hj
  · split at hj
    · cases hj; exact hv
    · cases hj
  · exact h j w hj
theorem ax_rf_c (E : ax_Env) (r : Int) : ax_rf E r = .null ∨ ∃ x : Nat, ax_rf E r = .ref x := by
  unfold ax_rf
  cases ax_ro E r with
  | none => exact Or.inl rfl
  | some x => exact Or.inr ⟨x, rfl⟩
theorem ax_rf_null (E : ax_Env) : ax_rf E (-1) = .null := rfl
theorem ax_ro_ne {E : ax_Env} {r : Int} (h : r ≠ -1) (h2 : r ≠ -100) : ∃ x, ax_ro E r = some x := by
  unfold ax_ro
  rw [if_neg h]
  by_cases h3 : r = -2
  · rw [if_pos h3]
    exact ⟨_, rfl⟩
  · rw [if_neg h3, if_neg h2]
    split
    · exact ⟨_, rfl⟩
    · split <;> exact ⟨_, rfl⟩
theorem ax_rf_ne {E : ax_Env} {r : Int} (h : r ≠ -1) (h2 : r ≠ -100) : ∃ x : Nat, ax_rf E r = .ref x := by
  obtain ⟨x, hx⟩ := ax_ro_ne (E := E) h h2
  exact ⟨x, by rw [ax_rf, hx]; rfl⟩
theorem ax_rf_pos {E : ax_Env} {r : Int} (h : 0 ≤ r) : ax_rf E r = .ref (ax_b E + r.toNat) := by
  unfold ax_rf ax_ro
  rw [if_neg (by omega), if_neg (by omega), if_neg (by omega), if_neg (by omega), if_neg (by omega)]
  rfl
theorem ax_ro_pos {E : ax_Env} {r : Int} (h : 0 ≤ r) : ax_ro E r = some (ax_b E + r.toNat) := by
  unfold ax_ro
  rw [if_neg (by omega), if_neg (by omega), if_neg (by omega), if_neg (by omega), if_neg (by omega)]
section AXR
variable {E : ax_Env} {l : Launch} {d kc ks : Nat} {I : ax_I} {pc pc' : Nat} {ls ls' : List (Option ax_V)} {st : List ax_V} {S : List ax_Cell} {M : ax_Mem} {Q : ax_Post}
theorem ax_iconst {n : Int} (hdg : decode I.2.1 pc = .ok (.iconst n, 1)) (hv : -2147483648 ≤ n ∧ n < 2147483648) (hp : pc + 1 = pc') (kk : ax_W E l d kc ks I pc' ls (.inl n :: st) S M Q) : ax_W E l d kc ks I pc ls st S M Q := by
  subst hp
  intro p e R s m args below meth c mc ms Z H locs cells slots lc hX hR hZ hH hS hc1 hc2 hc3 hL hcl hcs
  exact lv_iconst hX.1 hX.2.1 hdg rfl (kk p e R s m args below meth c mc ms Z H locs cells slots lc hX hR hZ hH hS hc1 hc2 hc3 hL hcl (ax_cs_cons hv hcs))
theorem ax_bipush {n : Int} (hdg : decode I.2.1 pc = .ok (.bipush n, 2)) (hv : -128 ≤ n ∧ n < 128) (hp : pc + 2 = pc') (kk : ax_W E l d kc ks I pc' ls (.inl n :: st) S M Q) : ax_W E l d kc ks I pc ls st S M Q := by
  subst hp
  intro p e R s m args below meth c mc ms Z H locs cells slots lc hX hR hZ hH hS hc1 hc2 hc3 hL hcl hcs
  have e1 : (Int8.ofInt n).toInt32 = Int32.ofInt n := by
    rw [← Int32.toInt_inj, Int8.toInt_toInt32, Int8.toInt_ofInt_of_le hv.1 hv.2, Int32.toInt_ofInt_of_le (by omega) (by omega)]
  exact lv_bipush hX.1 hX.2.1 hdg e1 (kk p e R s m args below meth c mc ms Z H locs cells slots lc hX hR hZ hH hS hc1 hc2 hc3 hL hcl (ax_cs_cons (show ax_can n from ⟨by omega, by omega⟩) hcs))
theorem ax_sipush {n : Int} (hdg : decode I.2.1 pc = .ok (.sipush n, 3)) (hv : -32768 ≤ n ∧ n < 32768) (hp : pc + 3 = pc') (kk : ax_W E l d kc ks I pc' ls (.inl n :: st) S M Q) : ax_W E l d kc ks I pc ls st S M Q := by
  subst hp
  intro p e R s m args below meth c mc ms Z H locs cells slots lc hX hR hZ hH hS hc1 hc2 hc3 hL hcl hcs
  have e1 : (Int16.ofInt n).toInt32 = Int32.ofInt n := by
    rw [← Int32.toInt_inj, Int16.toInt_toInt32, Int16.toInt_ofInt_of_le hv.1 hv.2, Int32.toInt_ofInt_of_le (by omega) (by omega)]
  exact lv_sipush hX.1 hX.2.1 hdg e1 (kk p e R s m args below meth c mc ms Z H locs cells slots lc hX hR hZ hH hS hc1 hc2 hc3 hL hcl (ax_cs_cons (show ax_can n from ⟨by omega, by omega⟩) hcs))
theorem ax_ldc {index : Nat} {n : Int} {v : Int32} (hdg : decode I.2.1 pc = .ok (.ldc index, 2)) (hw : Cond.constant I.1.cls index v ∈ ax_good) (hv : v.toInt = n) (hp : pc + 2 = pc') (kk : ax_W E l d kc ks I pc' ls (.inl n :: st) S M Q) : ax_W E l d kc ks I pc ls st S M Q := by
  subst hp
  subst hv
  intro p e R s m args below meth c mc ms Z H locs cells slots lc hX hR hZ hH hS hc1 hc2 hc3 hL hcl hcs
  have h := kk p e R s m args below meth c mc ms Z H locs cells slots lc hX hR hZ hH hS hc1 hc2 hc3 hL hcl (ax_cs_cons (show ax_can v.toInt from ax_can_toInt v) hcs)
  rw [List.map_cons, show ax_v E (.inl v.toInt) = .int v from congrArg Value.int (Int32.ofInt_toInt v)] at h
  exact lv_ldc hX.1 hX.2.1 hX.2.2.2.2.1 (hX.2.2.2.2.2.1 _ hw) hdg h
theorem ax_null (hdg : decode I.2.1 pc = .ok (.aconst_null, 1)) (hp : pc + 1 = pc') (kk : ax_W E l d kc ks I pc' ls (.inr (-1) :: st) S M Q) : ax_W E l d kc ks I pc ls st S M Q := by
  subst hp
  intro p e R s m args below meth c mc ms Z H locs cells slots lc hX hR hZ hH hS hc1 hc2 hc3 hL hcl hcs
  exact lv_null hX.1 hX.2.1 hdg (kk p e R s m args below meth c mc ms Z H locs cells slots lc hX hR hZ hH hS hc1 hc2 hc3 hL hcl (ax_cs_cons (show ax_cv (.inr (-1)) from trivial) hcs))
theorem ax_iload_n {k : Fin 4} {i : Nat} {x : Int} (hdg : decode I.2.1 pc = .ok (.iload_n k, 1)) (hi : (k : Nat) = i) (hl : ls[i]? = some (some (.inl x))) (hp : pc + 1 = pc') (kk : ax_W E l d kc ks I pc' ls (.inl x :: st) S M Q) : ax_W E l d kc ks I pc ls st S M Q := by
  subst hp
  intro p e R s m args below meth c mc ms Z H locs cells slots lc hX hR hZ hH hS hc1 hc2 hc3 hL hcl hcs
  exact lv_iload_n hX.1 hX.2.1 hdg hi (hL.2.2 i _ hl) (kk p e R s m args below meth c mc ms Z H locs cells slots lc hX hR hZ hH hS hc1 hc2 hc3 hL hcl (ax_cs_cons (hcl i _ hl) hcs))
theorem ax_iload {i : Nat} {x : Int} (hdg : decode I.2.1 pc = .ok (.iload i, 2)) (hl : ls[i]? = some (some (.inl x))) (hp : pc + 2 = pc') (kk : ax_W E l d kc ks I pc' ls (.inl x :: st) S M Q) : ax_W E l d kc ks I pc ls st S M Q := by
  subst hp
  intro p e R s m args below meth c mc ms Z H locs cells slots lc hX hR hZ hH hS hc1 hc2 hc3 hL hcl hcs
  exact lv_iload hX.1 hX.2.1 hdg (hL.2.2 i _ hl) (kk p e R s m args below meth c mc ms Z H locs cells slots lc hX hR hZ hH hS hc1 hc2 hc3 hL hcl (ax_cs_cons (hcl i _ hl) hcs))
theorem ax_aload_n {k : Fin 4} {i : Nat} {x : Int} (hdg : decode I.2.1 pc = .ok (.aload_n k, 1)) (hi : (k : Nat) = i) (hl : ls[i]? = some (some (.inr x))) (hp : pc + 1 = pc') (kk : ax_W E l d kc ks I pc' ls (.inr x :: st) S M Q) : ax_W E l d kc ks I pc ls st S M Q := by
  subst hp
  intro p e R s m args below meth c mc ms Z H locs cells slots lc hX hR hZ hH hS hc1 hc2 hc3 hL hcl hcs
  have h := kk p e R s m args below meth c mc ms Z H locs cells slots lc hX hR hZ hH hS hc1 hc2 hc3 hL hcl (ax_cs_cons (hcl i _ hl) hcs)
  have hq := hL.2.2 i _ hl
  rw [List.map_cons] at h
  rcases ax_rf_c E x with hn | ⟨y, hn⟩
  · rw [show ax_v E (.inr x) = .null from hn] at h hq
    exact lv_aload_nN hX.1 hX.2.1 hdg hi hq h
  · rw [show ax_v E (.inr x) = .ref y from hn] at h hq
    exact lv_aload_n hX.1 hX.2.1 hdg hi hq h
theorem ax_aload {i : Nat} {x : Int} (hdg : decode I.2.1 pc = .ok (.aload i, 2)) (hl : ls[i]? = some (some (.inr x))) (hp : pc + 2 = pc') (kk : ax_W E l d kc ks I pc' ls (.inr x :: st) S M Q) : ax_W E l d kc ks I pc ls st S M Q := by
  subst hp
  intro p e R s m args below meth c mc ms Z H locs cells slots lc hX hR hZ hH hS hc1 hc2 hc3 hL hcl hcs
  have h := kk p e R s m args below meth c mc ms Z H locs cells slots lc hX hR hZ hH hS hc1 hc2 hc3 hL hcl (ax_cs_cons (hcl i _ hl) hcs)
  have hq := hL.2.2 i _ hl
  rw [List.map_cons] at h
  rcases ax_rf_c E x with hn | ⟨y, hn⟩
  · rw [show ax_v E (.inr x) = .null from hn] at h hq
    exact lv_aloadN hX.1 hX.2.1 hdg hq h
  · rw [show ax_v E (.inr x) = .ref y from hn] at h hq
    exact lv_aload hX.1 hX.2.1 hdg hq h
theorem ax_istore_n {k : Fin 4} {i : Nat} {x : Int} (hdg : decode I.2.1 pc = .ok (.istore_n k, 1)) (hi : (k : Nat) = i) (hn : i < I.2.2.1) (hl : ls.set i (some (.inl x)) = ls') (hp : pc + 1 = pc') (kk : ax_W E l d kc ks I pc' ls' st S M Q) : ax_W E l d kc ks I pc ls (.inl x :: st) S M Q := by
  subst hp
  subst hl
  intro p e R s m args below meth c mc ms Z H locs cells slots lc hX hR hZ hH hS hc1 hc2 hc3 hL hcl hcs
  exact lv_istore_n hX.1 hX.2.1 hdg hi (ax_L_has hL) hn rfl (fun lc2 h2 => kk p e R s m args below meth c mc ms Z H locs cells slots lc2 hX hR hZ hH hS hc1 hc2 hc3 (ax_L_set (v := .inl x) h2) (ax_cl_set hcl (ax_cs_head hcs)) (ax_cs_tail hcs))
theorem ax_istore {i : Nat} {x : Int} (hdg : decode I.2.1 pc = .ok (.istore i, 2)) (hn : i < I.2.2.1) (hl : ls.set i (some (.inl x)) = ls') (hp : pc + 2 = pc') (kk : ax_W E l d kc ks I pc' ls' st S M Q) : ax_W E l d kc ks I pc ls (.inl x :: st) S M Q := by
  subst hp
  subst hl
  intro p e R s m args below meth c mc ms Z H locs cells slots lc hX hR hZ hH hS hc1 hc2 hc3 hL hcl hcs
  exact lv_istore hX.1 hX.2.1 hdg (ax_L_has hL) hn rfl (fun lc2 h2 => kk p e R s m args below meth c mc ms Z H locs cells slots lc2 hX hR hZ hH hS hc1 hc2 hc3 (ax_L_set (v := .inl x) h2) (ax_cl_set hcl (ax_cs_head hcs)) (ax_cs_tail hcs))
theorem ax_astore_n {k : Fin 4} {i : Nat} {x : Int} (hdg : decode I.2.1 pc = .ok (.astore_n k, 1)) (hi : (k : Nat) = i) (hn : i < I.2.2.1) (hl : ls.set i (some (.inr x)) = ls') (hp : pc + 1 = pc') (kk : ax_W E l d kc ks I pc' ls' st S M Q) : ax_W E l d kc ks I pc ls (.inr x :: st) S M Q := by
  subst hp
  subst hl
  intro p e R s m args below meth c mc ms Z H locs cells slots lc hX hR hZ hH hS hc1 hc2 hc3 hL hcl hcs
  have hg : ∀ lc2, lv_has lc2 I.2.2.1 ((i, ax_v E (.inr x)) :: (ax_al E ls).filter (fun q => !(q.1 == i) && !(q.1 + 1 == i && q.2.category == 2))) → _ := fun lc2 h2 => kk p e R s m args below meth c mc ms Z H locs cells slots lc2 hX hR hZ hH hS hc1 hc2 hc3 (ax_L_set (v := .inr x) h2) (ax_cl_set hcl (ax_cs_head hcs)) (ax_cs_tail hcs)
  rw [List.map_cons]
  rcases ax_rf_c E x with hnn | ⟨y, hnn⟩
  · rw [show ax_v E (.inr x) = .null from hnn] at hg ⊢
    exact lv_astore_nN hX.1 hX.2.1 hdg hi (ax_L_has hL) hn rfl hg
  · rw [show ax_v E (.inr x) = .ref y from hnn] at hg ⊢
    exact lv_astore_n hX.1 hX.2.1 hdg hi (ax_L_has hL) hn rfl hg
theorem ax_astore {i : Nat} {x : Int} (hdg : decode I.2.1 pc = .ok (.astore i, 2)) (hn : i < I.2.2.1) (hl : ls.set i (some (.inr x)) = ls') (hp : pc + 2 = pc') (kk : ax_W E l d kc ks I pc' ls' st S M Q) : ax_W E l d kc ks I pc ls (.inr x :: st) S M Q := by
  subst hp
  subst hl
  intro p e R s m args below meth c mc ms Z H locs cells slots lc hX hR hZ hH hS hc1 hc2 hc3 hL hcl hcs
  have hg : ∀ lc2, lv_has lc2 I.2.2.1 ((i, ax_v E (.inr x)) :: (ax_al E ls).filter (fun q => !(q.1 == i) && !(q.1 + 1 == i && q.2.category == 2))) → _ := fun lc2 h2 => kk p e R s m args below meth c mc ms Z H locs cells slots lc2 hX hR hZ hH hS hc1 hc2 hc3 (ax_L_set (v := .inr x) h2) (ax_cl_set hcl (ax_cs_head hcs)) (ax_cs_tail hcs)
  rw [List.map_cons]
  rcases ax_rf_c E x with hnn | ⟨y, hnn⟩
  · rw [show ax_v E (.inr x) = .null from hnn] at hg ⊢
    exact lv_astoreN hX.1 hX.2.1 hdg (ax_L_has hL) hn rfl hg
  · rw [show ax_v E (.inr x) = .ref y from hnn] at hg ⊢
    exact lv_astore hX.1 hX.2.1 hdg (ax_L_has hL) hn rfl hg
theorem ax_iinc {i : Nat} {n x : Int} (hdg : decode I.2.1 pc = .ok (.iinc i n, 3)) (hx : ls[i]? = some (some (.inl x))) (hn : i < I.2.2.1) (hw : -2147483648 ≤ x + n ∧ x + n < 2147483648) (hl : ls.set i (some (.inl (x + n))) = ls') (hp : pc + 3 = pc') (kk : ax_W E l d kc ks I pc' ls' st S M Q) : ax_W E l d kc ks I pc ls st S M Q := by
  subst hp
  subst hl
  intro p e R s m args below meth c mc ms Z H locs cells slots lc hX hR hZ hH hS hc1 hc2 hc3 hL hcl hcs
  have hm : (i, ax_v E (.inl x)) ∈ ax_al E ls := by
    refine List.mem_filterMap.mpr ⟨i, List.mem_range.mpr (List.getElem?_eq_some_iff.mp hx).1, ?_⟩
    rw [List.getD_eq_getElem?_getD, hx]
    rfl
  obtain ⟨k, hk⟩ := List.getElem?_of_mem hm
  refine lv_iinc (x := Int32.ofInt x) (v := Int32.ofInt (x + n)) hX.1 hX.2.1 hdg (ax_L_has hL) hk (Int32.ofInt_add x n).symm hn rfl (fun lc2 h2 => ?_)
  exact kk p e R s m args below meth c mc ms Z H locs cells slots lc2 hX hR hZ hH hS hc1 hc2 hc3 (ax_L_set (v := .inl (x + n)) h2) (ax_cl_set hcl (show ax_can (x + n) from hw)) hcs
theorem ax_dup {v : ax_V} (hdg : decode I.2.1 pc = .ok (.dup, 1)) (hp : pc + 1 = pc') (kk : ax_W E l d kc ks I pc' ls (v :: v :: st) S M Q) : ax_W E l d kc ks I pc ls (v :: st) S M Q := by
  subst hp
  intro p e R s m args below meth c mc ms Z H locs cells slots lc hX hR hZ hH hS hc1 hc2 hc3 hL hcl hcs
  exact lv_dup hX.1 hX.2.1 hdg (ax_v_cat E v) (kk p e R s m args below meth c mc ms Z H locs cells slots lc hX hR hZ hH hS hc1 hc2 hc3 hL hcl (ax_cs_cons (ax_cs_head hcs) hcs))
theorem ax_pop {v : ax_V} (hdg : decode I.2.1 pc = .ok (.pop, 1)) (hp : pc + 1 = pc') (kk : ax_W E l d kc ks I pc' ls st S M Q) : ax_W E l d kc ks I pc ls (v :: st) S M Q := by
  subst hp
  intro p e R s m args below meth c mc ms Z H locs cells slots lc hX hR hZ hH hS hc1 hc2 hc3 hL hcl hcs
  exact lv_pop hX.1 hX.2.1 hdg (ax_v_cat E v) (kk p e R s m args below meth c mc ms Z H locs cells slots lc hX hR hZ hH hS hc1 hc2 hc3 hL hcl (ax_cs_tail hcs))
theorem ax_dup2 {v w : ax_V} (hdg : decode I.2.1 pc = .ok (.dup2, 1)) (hp : pc + 1 = pc') (kk : ax_W E l d kc ks I pc' ls (v :: w :: v :: w :: st) S M Q) : ax_W E l d kc ks I pc ls (v :: w :: st) S M Q := by
  subst hp
  intro p e R s m args below meth c mc ms Z H locs cells slots lc hX hR hZ hH hS hc1 hc2 hc3 hL hcl hcs
  exact lv_dup2_11 hX.1 hX.2.1 hdg (ax_v_cat E v) (ax_v_cat E w) (kk p e R s m args below meth c mc ms Z H locs cells slots lc hX hR hZ hH hS hc1 hc2 hc3 hL hcl (ax_cs_cons (ax_cs_head hcs) (ax_cs_cons (ax_cs_head (ax_cs_tail hcs)) hcs)))
theorem ax_iadd {x y : Int} (hdg : decode I.2.1 pc = .ok (.iadd, 1)) (hw : -2147483648 ≤ x + y ∧ x + y < 2147483648) (hp : pc + 1 = pc') (kk : ax_W E l d kc ks I pc' ls (.inl (x + y) :: st) S M Q) : ax_W E l d kc ks I pc ls (.inl y :: .inl x :: st) S M Q := by
  subst hp
  intro p e R s m args below meth c mc ms Z H locs cells slots lc hX hR hZ hH hS hc1 hc2 hc3 hL hcl hcs
  have h := kk p e R s m args below meth c mc ms Z H locs cells slots lc hX hR hZ hH hS hc1 hc2 hc3 hL hcl (ax_cs_cons (show ax_can (x + y) from hw) (ax_cs_tail (ax_cs_tail hcs)))
  rw [List.map_cons, show ax_v E (.inl (x + y)) = .int (Int32.ofInt x + Int32.ofInt y) from congrArg Value.int (Int32.ofInt_add x y)] at h
  exact lv_iadd hX.1 hX.2.1 hdg h
theorem ax_iaddw {x y : Int} (hdg : decode I.2.1 pc = .ok (.iadd, 1)) (hp : pc + 1 = pc') (kk : ax_W E l d kc ks I pc' ls (.inl (ax_wr (x + y)) :: st) S M Q) : ax_W E l d kc ks I pc ls (.inl y :: .inl x :: st) S M Q := by
  subst hp
  intro p e R s m args below meth c mc ms Z H locs cells slots lc hX hR hZ hH hS hc1 hc2 hc3 hL hcl hcs
  have h := kk p e R s m args below meth c mc ms Z H locs cells slots lc hX hR hZ hH hS hc1 hc2 hc3 hL hcl (ax_cs_cons (ax_wr_can (x + y)) (ax_cs_tail (ax_cs_tail hcs)))
  rw [List.map_cons, show ax_v E (.inl (ax_wr (x + y))) = .int (Int32.ofInt x + Int32.ofInt y) from congrArg Value.int ((ax_wr_of _).trans (Int32.ofInt_add x y))] at h
  exact lv_iadd hX.1 hX.2.1 hdg h
theorem ax_isub {x y : Int} (hdg : decode I.2.1 pc = .ok (.isub, 1)) (hw : -2147483648 ≤ x - y ∧ x - y < 2147483648) (hp : pc + 1 = pc') (kk : ax_W E l d kc ks I pc' ls (.inl (x - y) :: st) S M Q) : ax_W E l d kc ks I pc ls (.inl y :: .inl x :: st) S M Q := by
  subst hp
  intro p e R s m args below meth c mc ms Z H locs cells slots lc hX hR hZ hH hS hc1 hc2 hc3 hL hcl hcs
  have h := kk p e R s m args below meth c mc ms Z H locs cells slots lc hX hR hZ hH hS hc1 hc2 hc3 hL hcl (ax_cs_cons (show ax_can (x - y) from hw) (ax_cs_tail (ax_cs_tail hcs)))
  rw [List.map_cons, show ax_v E (.inl (x - y)) = .int (Int32.ofInt x - Int32.ofInt y) from congrArg Value.int (Int32.ofInt_sub x y)] at h
  exact lv_isub hX.1 hX.2.1 hdg h
theorem ax_isubw {x y : Int} (hdg : decode I.2.1 pc = .ok (.isub, 1)) (hp : pc + 1 = pc') (kk : ax_W E l d kc ks I pc' ls (.inl (ax_wr (x - y)) :: st) S M Q) : ax_W E l d kc ks I pc ls (.inl y :: .inl x :: st) S M Q := by
  subst hp
  intro p e R s m args below meth c mc ms Z H locs cells slots lc hX hR hZ hH hS hc1 hc2 hc3 hL hcl hcs
  have h := kk p e R s m args below meth c mc ms Z H locs cells slots lc hX hR hZ hH hS hc1 hc2 hc3 hL hcl (ax_cs_cons (ax_wr_can (x - y)) (ax_cs_tail (ax_cs_tail hcs)))
  rw [List.map_cons, show ax_v E (.inl (ax_wr (x - y))) = .int (Int32.ofInt x - Int32.ofInt y) from congrArg Value.int ((ax_wr_of _).trans (Int32.ofInt_sub x y))] at h
  exact lv_isub hX.1 hX.2.1 hdg h
theorem ax_imul {x y : Int} (hdg : decode I.2.1 pc = .ok (.imul, 1)) (hw : -2147483648 ≤ x * y ∧ x * y < 2147483648) (hp : pc + 1 = pc') (kk : ax_W E l d kc ks I pc' ls (.inl (x * y) :: st) S M Q) : ax_W E l d kc ks I pc ls (.inl y :: .inl x :: st) S M Q := by
  subst hp
  intro p e R s m args below meth c mc ms Z H locs cells slots lc hX hR hZ hH hS hc1 hc2 hc3 hL hcl hcs
  have h := kk p e R s m args below meth c mc ms Z H locs cells slots lc hX hR hZ hH hS hc1 hc2 hc3 hL hcl (ax_cs_cons (show ax_can (x * y) from hw) (ax_cs_tail (ax_cs_tail hcs)))
  rw [List.map_cons, show ax_v E (.inl (x * y)) = .int (Int32.ofInt x * Int32.ofInt y) from congrArg Value.int (Int32.ofInt_mul x y)] at h
  exact lv_imul hX.1 hX.2.1 hdg h
theorem ax_imulw {x y : Int} (hdg : decode I.2.1 pc = .ok (.imul, 1)) (hp : pc + 1 = pc') (kk : ax_W E l d kc ks I pc' ls (.inl (ax_wr (x * y)) :: st) S M Q) : ax_W E l d kc ks I pc ls (.inl y :: .inl x :: st) S M Q := by
  subst hp
  intro p e R s m args below meth c mc ms Z H locs cells slots lc hX hR hZ hH hS hc1 hc2 hc3 hL hcl hcs
  have h := kk p e R s m args below meth c mc ms Z H locs cells slots lc hX hR hZ hH hS hc1 hc2 hc3 hL hcl (ax_cs_cons (ax_wr_can (x * y)) (ax_cs_tail (ax_cs_tail hcs)))
  rw [List.map_cons, show ax_v E (.inl (ax_wr (x * y))) = .int (Int32.ofInt x * Int32.ofInt y) from congrArg Value.int ((ax_wr_of _).trans (Int32.ofInt_mul x y))] at h
  exact lv_imul hX.1 hX.2.1 hdg h
def ax_and (x y : Int) : Int := (Int32.ofInt x &&& Int32.ofInt y).toInt
def ax_or (x y : Int) : Int := (Int32.ofInt x ||| Int32.ofInt y).toInt
def ax_xor (x y : Int) : Int := (Int32.ofInt x ^^^ Int32.ofInt y).toInt
def ax_shl (x y : Int) : Int := (Int32.ofInt x <<< (Int32.ofInt y &&& 31)).toInt
def ax_shr (x y : Int) : Int := (Int32.ofInt x >>> (Int32.ofInt y &&& 31)).toInt
def ax_ushr (x y : Int) : Int := (((Int32.ofInt x).toUInt32 >>> ((Int32.ofInt y).toUInt32 &&& Int32.toUInt32 31)).toInt32).toInt
theorem ax_iand {x y : Int} (hdg : decode I.2.1 pc = .ok (.iand, 1)) (hp : pc + 1 = pc') (kk : ax_W E l d kc ks I pc' ls (.inl (ax_and x y) :: st) S M Q) : ax_W E l d kc ks I pc ls (.inl y :: .inl x :: st) S M Q := by
  subst hp
  intro p e R s m args below meth c mc ms Z H locs cells slots lc hX hR hZ hH hS hc1 hc2 hc3 hL hcl hcs
  have h := kk p e R s m args below meth c mc ms Z H locs cells slots lc hX hR hZ hH hS hc1 hc2 hc3 hL hcl (ax_cs_cons (show ax_can (ax_and x y) from ax_can_toInt _) (ax_cs_tail (ax_cs_tail hcs)))
  rw [List.map_cons, show ax_v E (.inl (ax_and x y)) = .int _ from congrArg Value.int (Int32.ofInt_toInt _)] at h
  exact lv_iand hX.1 hX.2.1 hdg h
theorem ax_ior {x y : Int} (hdg : decode I.2.1 pc = .ok (.ior, 1)) (hp : pc + 1 = pc') (kk : ax_W E l d kc ks I pc' ls (.inl (ax_or x y) :: st) S M Q) : ax_W E l d kc ks I pc ls (.inl y :: .inl x :: st) S M Q := by
  subst hp
  intro p e R s m args below meth c mc ms Z H locs cells slots lc hX hR hZ hH hS hc1 hc2 hc3 hL hcl hcs
  have h := kk p e R s m args below meth c mc ms Z H locs cells slots lc hX hR hZ hH hS hc1 hc2 hc3 hL hcl (ax_cs_cons (show ax_can (ax_or x y) from ax_can_toInt _) (ax_cs_tail (ax_cs_tail hcs)))
  rw [List.map_cons, show ax_v E (.inl (ax_or x y)) = .int _ from congrArg Value.int (Int32.ofInt_toInt _)] at h
  exact lv_ior hX.1 hX.2.1 hdg h
theorem ax_ixor {x y : Int} (hdg : decode I.2.1 pc = .ok (.ixor, 1)) (hp : pc + 1 = pc') (kk : ax_W E l d kc ks I pc' ls (.inl (ax_xor x y) :: st) S M Q) : ax_W E l d kc ks I pc ls (.inl y :: .inl x :: st) S M Q := by
  subst hp
  intro p e R s m args below meth c mc ms Z H locs cells slots lc hX hR hZ hH hS hc1 hc2 hc3 hL hcl hcs
  have h := kk p e R s m args below meth c mc ms Z H locs cells slots lc hX hR hZ hH hS hc1 hc2 hc3 hL hcl (ax_cs_cons (show ax_can (ax_xor x y) from ax_can_toInt _) (ax_cs_tail (ax_cs_tail hcs)))
  rw [List.map_cons, show ax_v E (.inl (ax_xor x y)) = .int _ from congrArg Value.int (Int32.ofInt_toInt _)] at h
  exact lv_ixor hX.1 hX.2.1 hdg h
theorem ax_ishl {x y : Int} (hdg : decode I.2.1 pc = .ok (.ishl, 1)) (hp : pc + 1 = pc') (kk : ax_W E l d kc ks I pc' ls (.inl (ax_shl x y) :: st) S M Q) : ax_W E l d kc ks I pc ls (.inl y :: .inl x :: st) S M Q := by
  subst hp
  intro p e R s m args below meth c mc ms Z H locs cells slots lc hX hR hZ hH hS hc1 hc2 hc3 hL hcl hcs
  have h := kk p e R s m args below meth c mc ms Z H locs cells slots lc hX hR hZ hH hS hc1 hc2 hc3 hL hcl (ax_cs_cons (show ax_can (ax_shl x y) from ax_can_toInt _) (ax_cs_tail (ax_cs_tail hcs)))
  rw [List.map_cons, show ax_v E (.inl (ax_shl x y)) = .int _ from congrArg Value.int (Int32.ofInt_toInt _)] at h
  exact lv_ishl hX.1 hX.2.1 hdg h
theorem ax_ishr {x y : Int} (hdg : decode I.2.1 pc = .ok (.ishr, 1)) (hp : pc + 1 = pc') (kk : ax_W E l d kc ks I pc' ls (.inl (ax_shr x y) :: st) S M Q) : ax_W E l d kc ks I pc ls (.inl y :: .inl x :: st) S M Q := by
  subst hp
  intro p e R s m args below meth c mc ms Z H locs cells slots lc hX hR hZ hH hS hc1 hc2 hc3 hL hcl hcs
  have h := kk p e R s m args below meth c mc ms Z H locs cells slots lc hX hR hZ hH hS hc1 hc2 hc3 hL hcl (ax_cs_cons (show ax_can (ax_shr x y) from ax_can_toInt _) (ax_cs_tail (ax_cs_tail hcs)))
  rw [List.map_cons, show ax_v E (.inl (ax_shr x y)) = .int _ from congrArg Value.int (Int32.ofInt_toInt _)] at h
  exact lv_ishr hX.1 hX.2.1 hdg h
theorem ax_iushr {x y : Int} (hdg : decode I.2.1 pc = .ok (.iushr, 1)) (hp : pc + 1 = pc') (kk : ax_W E l d kc ks I pc' ls (.inl (ax_ushr x y) :: st) S M Q) : ax_W E l d kc ks I pc ls (.inl y :: .inl x :: st) S M Q := by
  subst hp
  intro p e R s m args below meth c mc ms Z H locs cells slots lc hX hR hZ hH hS hc1 hc2 hc3 hL hcl hcs
  have h := kk p e R s m args below meth c mc ms Z H locs cells slots lc hX hR hZ hH hS hc1 hc2 hc3 hL hcl (ax_cs_cons (show ax_can (ax_ushr x y) from ax_can_toInt _) (ax_cs_tail (ax_cs_tail hcs)))
  rw [List.map_cons, show ax_v E (.inl (ax_ushr x y)) = .int _ from congrArg Value.int (Int32.ofInt_toInt _)] at h
  exact lv_iushr hX.1 hX.2.1 hdg rfl h
theorem ax_nz {y : Int} (h : ax_can y) (hy : y ≠ 0) : ¬ Int32.ofInt y = 0 := fun e => hy ((ax_inj h (show ax_can 0 from ⟨by decide, by decide⟩)).mp e)
def ax_div (x y : Int) : Int := (Int32.ofInt x / Int32.ofInt y).toInt
theorem ax_div_pos {x y : Int} (hx : ax_can x) (hy : ax_can y) (h0 : 0 ≤ x) (h1 : 0 < y) : ax_div x y = x / y := by
  unfold ax_div
  rw [Int32.toInt_div_of_ne_right _ _ (fun e => by
    have := congrArg Int32.toInt e
    rw [ax_ofInt hy] at this
    have h2 : (-1 : Int32).toInt = -1 := by decide
    omega), ax_ofInt hx, ax_ofInt hy, Int.tdiv_eq_ediv_of_nonneg h0]
theorem ax_idivw {x y : Int} (hdg : decode I.2.1 pc = .ok (.idiv, 1)) (hy : y ≠ 0) (hp : pc + 1 = pc') (kk : ax_W E l d kc ks I pc' ls (.inl (ax_div x y) :: st) S M Q) : ax_W E l d kc ks I pc ls (.inl y :: .inl x :: st) S M Q := by
  subst hp
  intro p e R s m args below meth c mc ms Z H locs cells slots lc hX hR hZ hH hS hc1 hc2 hc3 hL hcl hcs
  have h := kk p e R s m args below meth c mc ms Z H locs cells slots lc hX hR hZ hH hS hc1 hc2 hc3 hL hcl (ax_cs_cons (show ax_can (ax_div x y) from ax_can_toInt _) (ax_cs_tail (ax_cs_tail hcs)))
  rw [List.map_cons, show ax_v E (.inl (ax_div x y)) = .int _ from congrArg Value.int (Int32.ofInt_toInt _)] at h
  exact lv_idiv hX.1 hX.2.1 hdg (ax_nz (ax_cs_head hcs) hy) h
theorem ax_idiv {x y : Int} (hdg : decode I.2.1 pc = .ok (.idiv, 1)) (h0 : 0 ≤ x) (hy : 0 < y) (hp : pc + 1 = pc') (kk : ax_W E l d kc ks I pc' ls (.inl (x / y) :: st) S M Q) : ax_W E l d kc ks I pc ls (.inl y :: .inl x :: st) S M Q := by
  intro p e R s m args below meth c mc ms Z H locs cells slots lc hX hR hZ hH hS hc1 hc2 hc3 hL hcl hcs
  refine ax_idivw hdg (by omega) hp ?_ p e R s m args below meth c mc ms Z H locs cells slots lc hX hR hZ hH hS hc1 hc2 hc3 hL hcl hcs
  rw [ax_div_pos (ax_cs_head (ax_cs_tail hcs)) (ax_cs_head hcs) h0 hy]
  exact kk
theorem ax_irem {x y : Int} (hdg : decode I.2.1 pc = .ok (.irem, 1)) (h0 : 0 ≤ x) (hy : 0 < y) (hp : pc + 1 = pc') (kk : ax_W E l d kc ks I pc' ls (.inl (x % y) :: st) S M Q) : ax_W E l d kc ks I pc ls (.inl y :: .inl x :: st) S M Q := by
  subst hp
  intro p e R s m args below meth c mc ms Z H locs cells slots lc hX hR hZ hH hS hc1 hc2 hc3 hL hcl hcs
  have cx : ax_can x := ax_cs_head (ax_cs_tail hcs)
  have cy : ax_can y := ax_cs_head hcs
  have hlt : x % y < y := Int.emod_lt_of_pos x hy
  have hge : 0 ≤ x % y := Int.emod_nonneg x (by omega)
  have h := kk p e R s m args below meth c mc ms Z H locs cells slots lc hX hR hZ hH hS hc1 hc2 hc3 hL hcl (ax_cs_cons (show ax_can (x % y) from ⟨by omega, by have := cy.2; omega⟩) (ax_cs_tail (ax_cs_tail hcs)))
  have e1 : Int32.ofInt x / Int32.ofInt y = Int32.ofInt (x / y) := by
    rw [← Int32.ofInt_toInt (Int32.ofInt x / Int32.ofInt y)]
    exact congrArg Int32.ofInt (ax_div_pos cx cy h0 hy)
  rw [List.map_cons, show ax_v E (.inl (x % y)) = .int (Int32.ofInt x - Int32.ofInt x / Int32.ofInt y * Int32.ofInt y) from congrArg Value.int (by rw [e1, ← Int32.ofInt_mul, ← Int32.ofInt_sub]; exact congrArg Int32.ofInt (by have := Int.mul_ediv_add_emod x y; rw [Int.mul_comm] at this; omega))] at h
  exact lv_irem hX.1 hX.2.1 hdg (ax_nz cy (by omega)) h
theorem ax_goto {off : Int} (hdg : decode I.2.1 pc = .ok (.goto off, 3)) (ht : (pc : Int) + off = (pc' : Int)) (kk : ax_W E l d kc ks I pc' ls st S M Q) : ax_W E l d kc ks I pc ls st S M Q := by
  intro p e R s m args below meth c mc ms Z H locs cells slots lc hX hR hZ hH hS hc1 hc2 hc3 hL hcl hcs
  exact lv_goto hX.1 hX.2.1 hdg ht (kk p e R s m args below meth c mc ms Z H locs cells slots lc hX hR hZ hH hS hc1 hc2 hc3 hL hcl hcs)
theorem ax_icmp_eq {x y : Int} {off : Int} {tgt : Nat} (hdg : decode I.2.1 pc = .ok (.if_icmp .eq off, 3)) (ht : (pc : Int) + off = (tgt : Int)) (hp : pc + 3 = pc') (kt : x = y → ax_W E l d kc ks I tgt ls st S M Q) (kf : x ≠ y → ax_W E l d kc ks I pc' ls st S M Q) : ax_W E l d kc ks I pc ls (.inl y :: .inl x :: st) S M Q := by
  subst hp
  intro p e R s m args below meth c mc ms Z H locs cells slots lc hX hR hZ hH hS hc1 hc2 hc3 hL hcl hcs
  exact lv_icmp_eq hX.1 hX.2.1 hdg ht (fun h => kt ((ax_inj (ax_cs_head (ax_cs_tail hcs)) (ax_cs_head hcs)).mp h) p e R s m args below meth c mc ms Z H locs cells slots lc hX hR hZ hH hS hc1 hc2 hc3 hL hcl (ax_cs_tail (ax_cs_tail hcs))) (fun h => kf (fun q => h ((ax_inj (ax_cs_head (ax_cs_tail hcs)) (ax_cs_head hcs)).mpr q)) p e R s m args below meth c mc ms Z H locs cells slots lc hX hR hZ hH hS hc1 hc2 hc3 hL hcl (ax_cs_tail (ax_cs_tail hcs)))
theorem ax_if_eq {x : Int} {off : Int} {tgt : Nat} (hdg : decode I.2.1 pc = .ok (.ifCond .eq off, 3)) (ht : (pc : Int) + off = (tgt : Int)) (hp : pc + 3 = pc') (kt : x = 0 → ax_W E l d kc ks I tgt ls st S M Q) (kf : x ≠ 0 → ax_W E l d kc ks I pc' ls st S M Q) : ax_W E l d kc ks I pc ls (.inl x :: st) S M Q := by
  subst hp
  intro p e R s m args below meth c mc ms Z H locs cells slots lc hX hR hZ hH hS hc1 hc2 hc3 hL hcl hcs
  exact lv_if_eq hX.1 hX.2.1 hdg ht (fun h => kt ((ax_inj (ax_cs_head hcs) (show ax_can 0 from ⟨by decide, by decide⟩)).mp h) p e R s m args below meth c mc ms Z H locs cells slots lc hX hR hZ hH hS hc1 hc2 hc3 hL hcl (ax_cs_tail hcs)) (fun h => kf (fun q => h ((ax_inj (ax_cs_head hcs) (show ax_can 0 from ⟨by decide, by decide⟩)).mpr q)) p e R s m args below meth c mc ms Z H locs cells slots lc hX hR hZ hH hS hc1 hc2 hc3 hL hcl (ax_cs_tail hcs))
theorem ax_icmp_ne {x y : Int} {off : Int} {tgt : Nat} (hdg : decode I.2.1 pc = .ok (.if_icmp .ne off, 3)) (ht : (pc : Int) + off = (tgt : Int)) (hp : pc + 3 = pc') (kt : x ≠ y → ax_W E l d kc ks I tgt ls st S M Q) (kf : x = y → ax_W E l d kc ks I pc' ls st S M Q) : ax_W E l d kc ks I pc ls (.inl y :: .inl x :: st) S M Q := by
  subst hp
  intro p e R s m args below meth c mc ms Z H locs cells slots lc hX hR hZ hH hS hc1 hc2 hc3 hL hcl hcs
  exact lv_icmp_ne hX.1 hX.2.1 hdg ht (fun h => kt (fun q => h ((ax_inj (ax_cs_head (ax_cs_tail hcs)) (ax_cs_head hcs)).mpr q)) p e R s m args below meth c mc ms Z H locs cells slots lc hX hR hZ hH hS hc1 hc2 hc3 hL hcl (ax_cs_tail (ax_cs_tail hcs))) (fun h => kf ((ax_inj (ax_cs_head (ax_cs_tail hcs)) (ax_cs_head hcs)).mp h) p e R s m args below meth c mc ms Z H locs cells slots lc hX hR hZ hH hS hc1 hc2 hc3 hL hcl (ax_cs_tail (ax_cs_tail hcs)))
theorem ax_if_ne {x : Int} {off : Int} {tgt : Nat} (hdg : decode I.2.1 pc = .ok (.ifCond .ne off, 3)) (ht : (pc : Int) + off = (tgt : Int)) (hp : pc + 3 = pc') (kt : x ≠ 0 → ax_W E l d kc ks I tgt ls st S M Q) (kf : x = 0 → ax_W E l d kc ks I pc' ls st S M Q) : ax_W E l d kc ks I pc ls (.inl x :: st) S M Q := by
  subst hp
  intro p e R s m args below meth c mc ms Z H locs cells slots lc hX hR hZ hH hS hc1 hc2 hc3 hL hcl hcs
  exact lv_if_ne hX.1 hX.2.1 hdg ht (fun h => kt (fun q => h ((ax_inj (ax_cs_head hcs) (show ax_can 0 from ⟨by decide, by decide⟩)).mpr q)) p e R s m args below meth c mc ms Z H locs cells slots lc hX hR hZ hH hS hc1 hc2 hc3 hL hcl (ax_cs_tail hcs)) (fun h => kf ((ax_inj (ax_cs_head hcs) (show ax_can 0 from ⟨by decide, by decide⟩)).mp h) p e R s m args below meth c mc ms Z H locs cells slots lc hX hR hZ hH hS hc1 hc2 hc3 hL hcl (ax_cs_tail hcs))
theorem ax_icmp_lt {x y : Int} {off : Int} {tgt : Nat} (hdg : decode I.2.1 pc = .ok (.if_icmp .lt off, 3)) (ht : (pc : Int) + off = (tgt : Int)) (hp : pc + 3 = pc') (kt : x < y → ax_W E l d kc ks I tgt ls st S M Q) (kf : y ≤ x → ax_W E l d kc ks I pc' ls st S M Q) : ax_W E l d kc ks I pc ls (.inl y :: .inl x :: st) S M Q := by
  subst hp
  intro p e R s m args below meth c mc ms Z H locs cells slots lc hX hR hZ hH hS hc1 hc2 hc3 hL hcl hcs
  exact lv_icmp_lt hX.1 hX.2.1 hdg ht (fun h => kt ((ax_lt (ax_cs_head (ax_cs_tail hcs)) (ax_cs_head hcs)).mp h) p e R s m args below meth c mc ms Z H locs cells slots lc hX hR hZ hH hS hc1 hc2 hc3 hL hcl (ax_cs_tail (ax_cs_tail hcs))) (fun h => kf (Int.not_lt.mp (fun q => h ((ax_lt (ax_cs_head (ax_cs_tail hcs)) (ax_cs_head hcs)).mpr q))) p e R s m args below meth c mc ms Z H locs cells slots lc hX hR hZ hH hS hc1 hc2 hc3 hL hcl (ax_cs_tail (ax_cs_tail hcs)))
theorem ax_if_lt {x : Int} {off : Int} {tgt : Nat} (hdg : decode I.2.1 pc = .ok (.ifCond .lt off, 3)) (ht : (pc : Int) + off = (tgt : Int)) (hp : pc + 3 = pc') (kt : x < 0 → ax_W E l d kc ks I tgt ls st S M Q) (kf : 0 ≤ x → ax_W E l d kc ks I pc' ls st S M Q) : ax_W E l d kc ks I pc ls (.inl x :: st) S M Q := by
  subst hp
  intro p e R s m args below meth c mc ms Z H locs cells slots lc hX hR hZ hH hS hc1 hc2 hc3 hL hcl hcs
  exact lv_if_lt hX.1 hX.2.1 hdg ht (fun h => kt ((ax_lt (ax_cs_head hcs) (show ax_can 0 from ⟨by decide, by decide⟩)).mp h) p e R s m args below meth c mc ms Z H locs cells slots lc hX hR hZ hH hS hc1 hc2 hc3 hL hcl (ax_cs_tail hcs)) (fun h => kf (Int.not_lt.mp (fun q => h ((ax_lt (ax_cs_head hcs) (show ax_can 0 from ⟨by decide, by decide⟩)).mpr q))) p e R s m args below meth c mc ms Z H locs cells slots lc hX hR hZ hH hS hc1 hc2 hc3 hL hcl (ax_cs_tail hcs))
theorem ax_icmp_ge {x y : Int} {off : Int} {tgt : Nat} (hdg : decode I.2.1 pc = .ok (.if_icmp .ge off, 3)) (ht : (pc : Int) + off = (tgt : Int)) (hp : pc + 3 = pc') (kt : y ≤ x → ax_W E l d kc ks I tgt ls st S M Q) (kf : x < y → ax_W E l d kc ks I pc' ls st S M Q) : ax_W E l d kc ks I pc ls (.inl y :: .inl x :: st) S M Q := by
  subst hp
  intro p e R s m args below meth c mc ms Z H locs cells slots lc hX hR hZ hH hS hc1 hc2 hc3 hL hcl hcs
  exact lv_icmp_ge hX.1 hX.2.1 hdg ht (fun h => kt ((ax_le (ax_cs_head hcs) (ax_cs_head (ax_cs_tail hcs))).mp h) p e R s m args below meth c mc ms Z H locs cells slots lc hX hR hZ hH hS hc1 hc2 hc3 hL hcl (ax_cs_tail (ax_cs_tail hcs))) (fun h => kf (Int.not_le.mp (fun q => h ((ax_le (ax_cs_head hcs) (ax_cs_head (ax_cs_tail hcs))).mpr q))) p e R s m args below meth c mc ms Z H locs cells slots lc hX hR hZ hH hS hc1 hc2 hc3 hL hcl (ax_cs_tail (ax_cs_tail hcs)))
theorem ax_if_ge {x : Int} {off : Int} {tgt : Nat} (hdg : decode I.2.1 pc = .ok (.ifCond .ge off, 3)) (ht : (pc : Int) + off = (tgt : Int)) (hp : pc + 3 = pc') (kt : 0 ≤ x → ax_W E l d kc ks I tgt ls st S M Q) (kf : x < 0 → ax_W E l d kc ks I pc' ls st S M Q) : ax_W E l d kc ks I pc ls (.inl x :: st) S M Q := by
  subst hp
  intro p e R s m args below meth c mc ms Z H locs cells slots lc hX hR hZ hH hS hc1 hc2 hc3 hL hcl hcs
  exact lv_if_ge hX.1 hX.2.1 hdg ht (fun h => kt ((ax_le (show ax_can 0 from ⟨by decide, by decide⟩) (ax_cs_head hcs)).mp h) p e R s m args below meth c mc ms Z H locs cells slots lc hX hR hZ hH hS hc1 hc2 hc3 hL hcl (ax_cs_tail hcs)) (fun h => kf (Int.not_le.mp (fun q => h ((ax_le (show ax_can 0 from ⟨by decide, by decide⟩) (ax_cs_head hcs)).mpr q))) p e R s m args below meth c mc ms Z H locs cells slots lc hX hR hZ hH hS hc1 hc2 hc3 hL hcl (ax_cs_tail hcs))
theorem ax_icmp_gt {x y : Int} {off : Int} {tgt : Nat} (hdg : decode I.2.1 pc = .ok (.if_icmp .gt off, 3)) (ht : (pc : Int) + off = (tgt : Int)) (hp : pc + 3 = pc') (kt : y < x → ax_W E l d kc ks I tgt ls st S M Q) (kf : x ≤ y → ax_W E l d kc ks I pc' ls st S M Q) : ax_W E l d kc ks I pc ls (.inl y :: .inl x :: st) S M Q := by
  subst hp
  intro p e R s m args below meth c mc ms Z H locs cells slots lc hX hR hZ hH hS hc1 hc2 hc3 hL hcl hcs
  exact lv_icmp_gt hX.1 hX.2.1 hdg ht (fun h => kt ((ax_lt (ax_cs_head hcs) (ax_cs_head (ax_cs_tail hcs))).mp h) p e R s m args below meth c mc ms Z H locs cells slots lc hX hR hZ hH hS hc1 hc2 hc3 hL hcl (ax_cs_tail (ax_cs_tail hcs))) (fun h => kf (Int.not_lt.mp (fun q => h ((ax_lt (ax_cs_head hcs) (ax_cs_head (ax_cs_tail hcs))).mpr q))) p e R s m args below meth c mc ms Z H locs cells slots lc hX hR hZ hH hS hc1 hc2 hc3 hL hcl (ax_cs_tail (ax_cs_tail hcs)))
theorem ax_if_gt {x : Int} {off : Int} {tgt : Nat} (hdg : decode I.2.1 pc = .ok (.ifCond .gt off, 3)) (ht : (pc : Int) + off = (tgt : Int)) (hp : pc + 3 = pc') (kt : 0 < x → ax_W E l d kc ks I tgt ls st S M Q) (kf : x ≤ 0 → ax_W E l d kc ks I pc' ls st S M Q) : ax_W E l d kc ks I pc ls (.inl x :: st) S M Q := by
  subst hp
  intro p e R s m args below meth c mc ms Z H locs cells slots lc hX hR hZ hH hS hc1 hc2 hc3 hL hcl hcs
  exact lv_if_gt hX.1 hX.2.1 hdg ht (fun h => kt ((ax_lt (show ax_can 0 from ⟨by decide, by decide⟩) (ax_cs_head hcs)).mp h) p e R s m args below meth c mc ms Z H locs cells slots lc hX hR hZ hH hS hc1 hc2 hc3 hL hcl (ax_cs_tail hcs)) (fun h => kf (Int.not_lt.mp (fun q => h ((ax_lt (show ax_can 0 from ⟨by decide, by decide⟩) (ax_cs_head hcs)).mpr q))) p e R s m args below meth c mc ms Z H locs cells slots lc hX hR hZ hH hS hc1 hc2 hc3 hL hcl (ax_cs_tail hcs))
theorem ax_icmp_le {x y : Int} {off : Int} {tgt : Nat} (hdg : decode I.2.1 pc = .ok (.if_icmp .le off, 3)) (ht : (pc : Int) + off = (tgt : Int)) (hp : pc + 3 = pc') (kt : x ≤ y → ax_W E l d kc ks I tgt ls st S M Q) (kf : y < x → ax_W E l d kc ks I pc' ls st S M Q) : ax_W E l d kc ks I pc ls (.inl y :: .inl x :: st) S M Q := by
  subst hp
  intro p e R s m args below meth c mc ms Z H locs cells slots lc hX hR hZ hH hS hc1 hc2 hc3 hL hcl hcs
  exact lv_icmp_le hX.1 hX.2.1 hdg ht (fun h => kt ((ax_le (ax_cs_head (ax_cs_tail hcs)) (ax_cs_head hcs)).mp h) p e R s m args below meth c mc ms Z H locs cells slots lc hX hR hZ hH hS hc1 hc2 hc3 hL hcl (ax_cs_tail (ax_cs_tail hcs))) (fun h => kf (Int.not_le.mp (fun q => h ((ax_le (ax_cs_head (ax_cs_tail hcs)) (ax_cs_head hcs)).mpr q))) p e R s m args below meth c mc ms Z H locs cells slots lc hX hR hZ hH hS hc1 hc2 hc3 hL hcl (ax_cs_tail (ax_cs_tail hcs)))
theorem ax_if_le {x : Int} {off : Int} {tgt : Nat} (hdg : decode I.2.1 pc = .ok (.ifCond .le off, 3)) (ht : (pc : Int) + off = (tgt : Int)) (hp : pc + 3 = pc') (kt : x ≤ 0 → ax_W E l d kc ks I tgt ls st S M Q) (kf : 0 < x → ax_W E l d kc ks I pc' ls st S M Q) : ax_W E l d kc ks I pc ls (.inl x :: st) S M Q := by
  subst hp
  intro p e R s m args below meth c mc ms Z H locs cells slots lc hX hR hZ hH hS hc1 hc2 hc3 hL hcl hcs
  exact lv_if_le hX.1 hX.2.1 hdg ht (fun h => kt ((ax_le (ax_cs_head hcs) (show ax_can 0 from ⟨by decide, by decide⟩)).mp h) p e R s m args below meth c mc ms Z H locs cells slots lc hX hR hZ hH hS hc1 hc2 hc3 hL hcl (ax_cs_tail hcs)) (fun h => kf (Int.not_le.mp (fun q => h ((ax_le (ax_cs_head hcs) (show ax_can 0 from ⟨by decide, by decide⟩)).mpr q))) p e R s m args below meth c mc ms Z H locs cells slots lc hX hR hZ hH hS hc1 hc2 hc3 hL hcl (ax_cs_tail hcs))
theorem ax_ifnull {x : Int} {off : Int} {tgt : Nat} (hdg : decode I.2.1 pc = .ok (.ifnull off, 3)) (h100 : x ≠ -100) (ht : (pc : Int) + off = (tgt : Int)) (hp : pc + 3 = pc') (kt : x = -1 → ax_W E l d kc ks I tgt ls st S M Q) (kf : x ≠ -1 → ax_W E l d kc ks I pc' ls st S M Q) : ax_W E l d kc ks I pc ls (.inr x :: st) S M Q := by
  subst hp
  intro p e R s m args below meth c mc ms Z H locs cells slots lc hX hR hZ hH hS hc1 hc2 hc3 hL hcl hcs
  rw [List.map_cons]
  by_cases hx : x = -1
  · subst hx
    exact lv_ifnullN hX.1 hX.2.1 hdg ht (kt rfl p e R s m args below meth c mc ms Z H locs cells slots lc hX hR hZ hH hS hc1 hc2 hc3 hL hcl (ax_cs_tail hcs))
  · obtain ⟨y, hy⟩ := ax_rf_ne (E := E) hx h100
    rw [show ax_v E (.inr x) = .ref y from hy]
    exact lv_ifnull hX.1 hX.2.1 hdg (kf hx p e R s m args below meth c mc ms Z H locs cells slots lc hX hR hZ hH hS hc1 hc2 hc3 hL hcl (ax_cs_tail hcs))
theorem ax_ifnonnull {x : Int} {off : Int} {tgt : Nat} (hdg : decode I.2.1 pc = .ok (.ifnonnull off, 3)) (h100 : x ≠ -100) (ht : (pc : Int) + off = (tgt : Int)) (hp : pc + 3 = pc') (kt : x ≠ -1 → ax_W E l d kc ks I tgt ls st S M Q) (kf : x = -1 → ax_W E l d kc ks I pc' ls st S M Q) : ax_W E l d kc ks I pc ls (.inr x :: st) S M Q := by
  subst hp
  intro p e R s m args below meth c mc ms Z H locs cells slots lc hX hR hZ hH hS hc1 hc2 hc3 hL hcl hcs
  rw [List.map_cons]
  by_cases hx : x = -1
  · subst hx
    exact lv_ifnonnullN hX.1 hX.2.1 hdg (kf rfl p e R s m args below meth c mc ms Z H locs cells slots lc hX hR hZ hH hS hc1 hc2 hc3 hL hcl (ax_cs_tail hcs))
  · obtain ⟨y, hy⟩ := ax_rf_ne (E := E) hx h100
    rw [show ax_v E (.inr x) = .ref y from hy]
    exact lv_ifnonnull hX.1 hX.2.1 hdg ht (kt hx p e R s m args below meth c mc ms Z H locs cells slots lc hX hR hZ hH hS hc1 hc2 hc3 hL hcl (ax_cs_tail hcs))
theorem ax_tabOut {x dflt lo hi : Int} {offs : Array Int} {len tgt : Nat} (hdg : decode I.2.1 pc = .ok (.tableswitch dflt lo hi offs, len)) (h : x < lo ∨ hi < x) (ht : (pc : Int) + dflt = (tgt : Int)) (kk : ax_W E l d kc ks I tgt ls st S M Q) : ax_W E l d kc ks I pc ls (.inl x :: st) S M Q := by
  intro p e R s m args below meth c mc ms Z H locs cells slots lc hX hR hZ hH hS hc1 hc2 hc3 hL hcl hcs
  exact lv_tableOut hX.1 hX.2.1 hdg (by rw [ax_ofInt (ax_cs_head hcs)]; exact h) ht (kk p e R s m args below meth c mc ms Z H locs cells slots lc hX hR hZ hH hS hc1 hc2 hc3 hL hcl (ax_cs_tail hcs))
theorem ax_tabIn {x dflt lo hi off : Int} {offs : Array Int} {len tgt : Nat} (hdg : decode I.2.1 pc = .ok (.tableswitch dflt lo hi offs, len)) (h1 : lo ≤ x) (h2 : x ≤ hi) (ho : offs[(x - lo).toNat]? = some off) (ht : (pc : Int) + off = (tgt : Int)) (kk : ax_W E l d kc ks I tgt ls st S M Q) : ax_W E l d kc ks I pc ls (.inl x :: st) S M Q := by
  intro p e R s m args below meth c mc ms Z H locs cells slots lc hX hR hZ hH hS hc1 hc2 hc3 hL hcl hcs
  exact lv_tableIn hX.1 hX.2.1 hdg (by rw [ax_ofInt (ax_cs_head hcs)]; omega) (by rw [ax_ofInt (ax_cs_head hcs)]; omega) (by rw [ax_ofInt (ax_cs_head hcs)]; exact ho) ht (kk p e R s m args below meth c mc ms Z H locs cells slots lc hX hR hZ hH hS hc1 hc2 hc3 hL hcl (ax_cs_tail hcs))
theorem ax_look {x dflt off : Int} {ps : Array (Int × Int)} {len tgt : Nat} (hdg : decode I.2.1 pc = .ok (.lookupswitch dflt ps, len)) (hs : (ps.toList.zip (ps.toList.drop 1)).all (fun (a, next) => a.1 < next.1) = true) (ho : Op.lookupswitch.offset ps.toList dflt x = off) (ht : (pc : Int) + off = (tgt : Int)) (kk : ax_W E l d kc ks I tgt ls st S M Q) : ax_W E l d kc ks I pc ls (.inl x :: st) S M Q := by
  intro p e R s m args below meth c mc ms Z H locs cells slots lc hX hR hZ hH hS hc1 hc2 hc3 hL hcl hcs
  exact lv_lookup hX.1 hX.2.1 hdg hs (by rw [ax_ofInt (ax_cs_head hcs)]; exact ho) ht (kk p e R s m args below meth c mc ms Z H locs cells slots lc hX hR hZ hH hS hc1 hc2 hc3 hL hcl (ax_cs_tail hcs))
theorem ax_iret {x : Int} (hdg : decode I.2.1 pc = .ok (.ireturn, 1)) (hr : I.2.2.2 = some .int) (hq : Q (some (.inl x)) S M) : ax_W E l d 0 ks I pc ls [.inl x] S M Q := by
  intro p e R s m args below meth c mc ms Z H locs cells slots lc hX hR hZ hH hS hc1 hc2 hc3 hL hcl hcs
  subst hc1
  exact hZ (some (.inl x)) S M H locs slots pc lc hq (fun y hy => by cases hy; exact ax_cs_head hcs) hH hS hc3 (by omega) (Or.inl hr) hdg
theorem ax_zret {x : Int} (hdg : decode I.2.1 pc = .ok (.ireturn, 1)) (hr : I.2.2.2 = some .boolean) (hx : x = 0 ∨ x = 1) (hq : Q (some (.inl x)) S M) : ax_W E l d 0 ks I pc ls [.inl x] S M Q := by
  intro p e R s m args below meth c mc ms Z H locs cells slots lc hX hR hZ hH hS hc1 hc2 hc3 hL hcl hcs
  subst hc1
  exact hZ (some (.inl x)) S M H locs slots pc lc hq (fun y hy => by cases hy; exact ax_cs_head hcs) hH hS hc3 (by omega) (Or.inr (Or.inl ⟨hr, hx⟩)) hdg
theorem ax_cret {x : Int} (hdg : decode I.2.1 pc = .ok (.ireturn, 1)) (hr : I.2.2.2 = some .char) (hx : 0 ≤ x ∧ x < 65536) (hq : Q (some (.inl x)) S M) : ax_W E l d 0 ks I pc ls [.inl x] S M Q := by
  intro p e R s m args below meth c mc ms Z H locs cells slots lc hX hR hZ hH hS hc1 hc2 hc3 hL hcl hcs
  subst hc1
  exact hZ (some (.inl x)) S M H locs slots pc lc hq (fun y hy => by cases hy; exact ax_cs_head hcs) hH hS hc3 (by omega) (Or.inr (Or.inr (Or.inl ⟨hr, hx⟩))) hdg
theorem ax_bret {x : Int} (hdg : decode I.2.1 pc = .ok (.ireturn, 1)) (hr : I.2.2.2 = some .byte) (hx : -128 ≤ x ∧ x < 128) (hq : Q (some (.inl x)) S M) : ax_W E l d 0 ks I pc ls [.inl x] S M Q := by
  intro p e R s m args below meth c mc ms Z H locs cells slots lc hX hR hZ hH hS hc1 hc2 hc3 hL hcl hcs
  subst hc1
  exact hZ (some (.inl x)) S M H locs slots pc lc hq (fun y hy => by cases hy; exact ax_cs_head hcs) hH hS hc3 (by omega) (Or.inr (Or.inr (Or.inr ⟨hr, hx⟩))) hdg
theorem ax_vret (hdg : decode I.2.1 pc = .ok (.return_, 1)) (hr : I.2.2.2 = none) (hq : Q none S M) : ax_W E l d 0 ks I pc ls [] S M Q := by
  intro p e R s m args below meth c mc ms Z H locs cells slots lc hX hR hZ hH hS hc1 hc2 hc3 hL hcl hcs
  subst hc1
  exact hZ none S M H locs slots pc lc hq (fun y hy => by cases hy) hH hS hc3 (by omega) hr hdg
theorem ax_aret {x : Int} {n : String} (hdg : decode I.2.1 pc = .ok (.areturn, 1)) (hr : I.2.2.2 = some (.object n)) (hq : Q (some (.inr x)) S M) : ax_W E l d 0 ks I pc ls [.inr x] S M Q := by
  intro p e R s m args below meth c mc ms Z H locs cells slots lc hX hR hZ hH hS hc1 hc2 hc3 hL hcl hcs
  subst hc1
  exact hZ (some (.inr x)) S M H locs slots pc lc hq (fun y hy => by cases hy; exact trivial) hH hS hc3 (by omega) ⟨n, hr⟩ hdg
/-- what is known of all numbers that stand in locals, stack and memory -/
theorem ax_know (kk : ax_cl ls → ax_cs st → ax_cm M → ax_W E l d kc ks I pc ls st S M Q) : ax_W E l d kc ks I pc ls st S M Q := by
  intro p e R s m args below meth c mc ms Z H locs cells slots lc hX hR hZ hH hS hc1 hc2 hc3 hL hcl hcs
  exact kk hcl hcs hH.2 p e R s m args below meth c mc ms Z H locs cells slots lc hX hR hZ hH hS hc1 hc2 hc3 hL hcl hcs
theorem ax_post {Q' : ax_Post} (h : ∀ v S M, Q v S M → Q' v S M) (kk : ax_W E l d kc ks I pc ls st S M Q) : ax_W E l d kc ks I pc ls st S M Q' := by
  intro p e R s m args below meth c mc ms Z H locs cells slots lc hX hR hZ hH hS hc1 hc2 hc3 hL hcl hcs
  exact kk p e R s m args below meth c mc ms Z H locs cells slots lc hX hR (fun v S M H locs slots pc ls hq => hZ v S M H locs slots pc ls (h v S M hq)) hH hS hc1 hc2 hc3 hL hcl hcs
end AXR
