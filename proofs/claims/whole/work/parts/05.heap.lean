/-! rows of the logic: fields, rows of numbers, calls -/
def ax_sh (S : List ax_Cell) (a : Int) : Option ax_Cell := if 0 ≤ a then S[a.toNat]? else none
theorem ax_sh_of {S : List ax_Cell} {a : Int} {c : ax_Cell} (h : ax_sh S a = some c) : ∃ n : Nat, a = (n : Int) ∧ S[n]? = some c := by
  unfold ax_sh at h
  split at h
  · exact ⟨a.toNat, by omega, h⟩
  · cases h
/-- the link of a field: slot k of class ci -/
def ax_FL (own : String) (index ci k N : Nat) (fin : Bool) : Prop := ∃ (C : String) (T : u_T), vwCl[ci]? = some (C, T, N) ∧ k < N ∧ ci < 13 ∧ (∀ w ∈ u_ws C T N, w ∈ ax_good) ∧ (∀ j, j < N → parseFieldDescriptor (T j).2.2.1 = some (ax_ft ci j)) ∧ (∀ a, a < N → ∀ b, b < N → a ≠ b → (T a).2.1 ≠ (T b).2.1) ∧ Cond.fieldLink own index (T k).1 (T k).2.1 (T k).2.2.1 ∈ ax_good ∧ (T k).2.2.2 = fin
theorem ax_ce_obj {E : ax_Env} {ci N : Nat} {fs : List (Option Int)} {f : Int → Int} (h : ci < 13) : ax_ce E (ci, N, fs) f = .inr (ci, (List.range N).map fun k => ax_fv E (ax_ft ci k) (ax_val (ci, N, fs) f k)) := by
  unfold ax_ce
  rw [if_pos h]
theorem ax_ce_int {E : ax_Env} {N : Nat} {fs : List (Option Int)} {f : Int → Int} : ax_ce E (13, N, fs) f = .inl (ax_ac E 0, N, .inl fun j => Int32.ofInt (ax_val (13, N, fs) f j)) := rfl
theorem ax_ce_ref {E : ax_Env} {ci N : Nat} {fs : List (Option Int)} {f : Int → Int} (h : 13 < ci) : ax_ce E (ci, N, fs) f = .inl (ax_ac E (ci - 13), N, .inr (.inr (.inr (.inr fun j => ax_ro E (ax_val (ci, N, fs) f j))))) := by
  unfold ax_ce
  rw [if_neg (by show ¬ ci < 13; omega), if_neg (by show ¬ ci = 13; omega)]
theorem ax_val_up {c : ax_Cell} {M : ax_Mem} {n k j : Nat} {v : Int} (hk : c.2.2.getD k none = none) : ax_val c (ax_up M n k v n) j = if j = k then v else ax_val c (M n) j := by
  unfold ax_val ax_up
  by_cases hj : j = k
  · subst hj
    rw [hk]
    simp
  · have : ¬ ((j : Int) = (k : Int)) := by omega
    simp [hj, this]
theorem ax_obj_set {E : ax_Env} {ci N k : Nat} {fs : List (Option Int)} {M : ax_Mem} {n : Nat} {v : Int} (hk : fs.getD k none = none) (hkN : k < N) :
    ((List.range N).map fun j => ax_fv E (ax_ft ci j) (ax_val (ci, N, fs) (M n) j)).set k (ax_fv E (ax_ft ci k) v) = (List.range N).map fun j => ax_fv E (ax_ft ci j) (ax_val (ci, N, fs) (ax_up M n k v n) j) := by
  apply List.ext_getElem?
  intro j
  rw [List.getElem?_set]
  by_cases hj : k = j
  · subst hj
    simp [hkN, ax_val_up (c := (ci, N, fs)) hk]
  · rw [if_neg hj]
    have hj' : ¬ j = k := fun e => hj e.symm
    by_cases hl : j < N
    · simp [hl, ax_val_up (c := (ci, N, fs)) hk, hj']
    · simp [hl]
section AXH
variable {E : ax_Env} {l : Launch} {d kc ks : Nat} {I : ax_I} {pc pc' : Nat} {ls ls' : List (Option ax_V)} {st : List ax_V} {S : List ax_Cell} {M : ax_Mem} {Q : ax_Post}
theorem ax_geti {index ci k N : Nat} {fin : Bool} {a v : Int} {fs : List (Option Int)} (hdg : decode I.2.1 pc = .ok (.getfield index, 3)) (L : ax_FL I.1.cls index ci k N fin) (ht : ax_isR (ax_ft ci k) = false) (hs : ax_sh S a = some (ci, N, fs)) (hv : ax_val (ci, N, fs) (M a) k = v) (hcv : fs.getD k none = none) (hp : pc + 3 = pc') (kk : ax_W E l d kc ks I pc' ls (.inl v :: st) S M Q) : ax_W E l d kc ks I pc ls (.inr a :: st) S M Q := by
  subst hp
  obtain ⟨n, rfl, hn⟩ := ax_sh_of hs
  obtain ⟨C, T, h1, h2, h3, h4, h5, h6, h7, h8⟩ := L
  intro p e R s m args below meth c mc ms Z H locs cells slots lc hX hR hZ hH hS hc1 hc2 hc3 hL hcl hcs
  rw [List.map_cons, show ax_v E (.inr (n : Int)) = .ref (ax_b E + n) from (ax_rf_pos (by omega)).trans (by simp)]
  have hg := ax_ws_get (E := E) (M := M) hn
  rw [ax_ce_obj h3] at hg
  have hcan : ax_can v := by
    rw [← hv]
    unfold ax_val
    rw [hcv]
    exact hH.2 _ _
  refine va_get hX.1 hX.2.1 hX.2.2.2.2.2.1 h4 hX.2.2.2.2.1 hX.2.2.2.2.2.2.2.2.1 hH.1 n hg h1 k h2 (hX.2.2.2.2.2.1 _ h7) (fun _ h => h) (v := .int (Int32.ofInt v)) ?_ hdg (kk p e R s m args below meth c mc ms Z H locs cells slots lc hX hR hZ hH hS hc1 hc2 hc3 hL hcl (ax_cs_cons (show ax_can v from hcan) (ax_cs_tail hcs)))
  simp [h2, ax_fv, ht, hv]
theorem ax_getr {index ci k N : Nat} {fin : Bool} {a v : Int} {fs : List (Option Int)} (hdg : decode I.2.1 pc = .ok (.getfield index, 3)) (L : ax_FL I.1.cls index ci k N fin) (ht : ax_isR (ax_ft ci k) = true) (hs : ax_sh S a = some (ci, N, fs)) (hv : ax_val (ci, N, fs) (M a) k = v) (hp : pc + 3 = pc') (kk : ax_W E l d kc ks I pc' ls (.inr v :: st) S M Q) : ax_W E l d kc ks I pc ls (.inr a :: st) S M Q := by
  subst hp
  obtain ⟨n, rfl, hn⟩ := ax_sh_of hs
  obtain ⟨C, T, h1, h2, h3, h4, h5, h6, h7, h8⟩ := L
  intro p e R s m args below meth c mc ms Z H locs cells slots lc hX hR hZ hH hS hc1 hc2 hc3 hL hcl hcs
  rw [List.map_cons, show ax_v E (.inr (n : Int)) = .ref (ax_b E + n) from (ax_rf_pos (by omega)).trans (by simp)]
  have hg := ax_ws_get (E := E) (M := M) hn
  rw [ax_ce_obj h3] at hg
  refine va_get hX.1 hX.2.1 hX.2.2.2.2.2.1 h4 hX.2.2.2.2.1 hX.2.2.2.2.2.2.2.2.1 hH.1 n hg h1 k h2 (hX.2.2.2.2.2.1 _ h7) (fun _ h => h) (v := ax_v E (.inr v)) ?_ hdg (kk p e R s m args below meth c mc ms Z H locs cells slots lc hX hR hZ hH hS hc1 hc2 hc3 hL hcl (ax_cs_cons (show ax_cv (.inr v) from trivial) (ax_cs_tail hcs)))
  simp [h2, ax_fv, ht, hv, ax_v]
/-- a number may be held by a field of that kind -/
def ax_fits (t : FieldType) (v : Int) : Prop := t = .int ∨ (t = .boolean ∧ (v = 0 ∨ v = 1))
theorem ax_fits_of {t : FieldType} {v : Int} (h : ax_fits t v) : narrow t (.int (Int32.ofInt v)) = .int (Int32.ofInt v) ∧ fits t (.int (Int32.ofInt v)) = true ∧ ax_isR t = false := by
  rcases h with rfl | ⟨rfl, rfl | rfl⟩
  · exact ⟨rfl, rfl, rfl⟩
  · exact ⟨by decide, by decide, rfl⟩
  · exact ⟨by decide, by decide, rfl⟩
theorem ax_puti {index ci k N : Nat} {a v : Int} {fs : List (Option Int)} (hdg : decode I.2.1 pc = .ok (.putfield index, 3)) (L : ax_FL I.1.cls index ci k N false) (ht : ax_fits (ax_ft ci k) v) (hs : ax_sh S a = some (ci, N, fs)) (hcv : fs.getD k none = none) (hp : pc + 3 = pc') (kk : ax_W E l d kc ks I pc' ls st S (ax_up M a k v) Q) : ax_W E l d kc ks I pc ls (.inl v :: .inr a :: st) S M Q := by
  subst hp
  obtain ⟨n, rfl, hn⟩ := ax_sh_of hs
  obtain ⟨C, T, h1, h2, h3, h4, h5, h6, h7, h8⟩ := L
  intro p e R s m args below meth c mc ms Z H locs cells slots lc hX hR hZ hH hS hc1 hc2 hc3 hL hcl hcs
  rw [List.map_cons, List.map_cons, show ax_v E (.inr (n : Int)) = .ref (ax_b E + n) from (ax_rf_pos (by omega)).trans (by simp)]
  have hg := ax_ws_get (E := E) (M := M) hn
  rw [ax_ce_obj h3] at hg
  obtain ⟨f1, f2, f3⟩ := ax_fits_of ht
  refine va_put hX.1 hX.2.1 hX.2.2.2.2.2.1 h4 (ax_ft ci) h5 h6 hX.2.2.2.2.1 hX.2.2.2.2.2.2.2.2.1 hH.1 (ax_ws_D E S M) hS n hg h1 k h2 (hX.2.2.2.2.2.1 _ h7) (fun _ h => h) h8 (h5 k h2) f1 f2 (by simpa using h2) hdg (fun H1 locs1 hP1 hD1 hS1 => ?_)
  have e1 : ax_v E (.inl v) = ax_fv E (ax_ft ci k) v := by simp [ax_fv, f3, ax_v]
  rw [e1, ax_obj_set hcv h2, ← ax_ce_obj h3, ax_ws_set hn (fun j hj => ax_up_row (by omega))] at hP1
  exact kk p e R s m args below meth c mc ms Z H1 locs1 cells slots lc hX hR hZ ⟨hP1, ax_up_cm hH.2 (ax_cs_head hcs)⟩ hS1 hc1 hc2 hc3 hL hcl (ax_cs_tail (ax_cs_tail hcs))
theorem ax_rf_fits {E : ax_Env} {t : FieldType} (h : ax_isR t = true) (v : Int) : narrow t (ax_rf E v) = ax_rf E v ∧ fits t (ax_rf E v) = true := by
  cases t with
  | object n => rcases ax_rf_c E v with e | ⟨x, e⟩ <;> rw [e] <;> exact ⟨rfl, rfl⟩
  | array t => rcases ax_rf_c E v with e | ⟨x, e⟩ <;> rw [e] <;> exact ⟨rfl, rfl⟩
  | _ => cases h
/-- a final field of references, in a constructor -/
theorem ax_putF {index ci k N : Nat} {a v : Int} {fs : List (Option Int)} (hdg : decode I.2.1 pc = .ok (.putfield index, 3)) (L : ax_FL I.1.cls index ci k N true) (hin : I.1.name = "<init>") (hT : ∀ (C : String) (T : u_T) (N' : Nat), vwCl[ci]? = some (C, T, N') → (T k).1 = I.1.cls) (ht : ax_isR (ax_ft ci k) = true) (hs : ax_sh S a = some (ci, N, fs)) (hcv : fs.getD k none = none) (hv : ax_can v) (hp : pc + 3 = pc') (kk : ax_W E l d kc ks I pc' ls st S (ax_up M a k v) Q) : ax_W E l d kc ks I pc ls (.inr v :: .inr a :: st) S M Q := by
  subst hp
  obtain ⟨n, rfl, hn⟩ := ax_sh_of hs
  obtain ⟨C, T, h1, h2, h3, h4, h5, h6, h7, h8⟩ := L
  intro p e R s m args below meth c mc ms Z H locs cells slots lc hX hR hZ hH hS hc1 hc2 hc3 hL hcl hcs
  rw [List.map_cons, List.map_cons, show ax_v E (.inr (n : Int)) = .ref (ax_b E + n) from (ax_rf_pos (by omega)).trans (by simp)]
  have hg := ax_ws_get (E := E) (M := M) hn
  rw [ax_ce_obj h3] at hg
  obtain ⟨f1, f2⟩ := ax_rf_fits (E := E) ht v
  refine va_putF (v := ax_rf E v) hX.1 hX.2.1 hX.2.2.2.2.2.1 h4 (ax_ft ci) h5 h6 hX.2.2.2.2.1 hX.2.2.2.2.2.2.2.2.1 hH.1 (ax_ws_D E S M) hS n hg h1 k h2 (hX.2.2.2.2.2.1 _ h7) (fun _ h => h) h8 (hX.2.2.2.2.2.2.2.1.trans hin) (hT C T N h1) (h5 k h2) f1 f2 (by simpa using h2) hdg (fun H1 locs1 hP1 hD1 hS1 => ?_)
  have e1 : ax_rf E v = ax_fv E (ax_ft ci k) v := by simp [ax_fv, ht]
  rw [e1, ax_obj_set hcv h2, ← ax_ce_obj h3, ax_ws_set hn (fun j hj => ax_up_row (by omega))] at hP1
  exact kk p e R s m args below meth c mc ms Z H1 locs1 cells slots lc hX hR hZ ⟨hP1, ax_up_cm hH.2 hv⟩ hS1 hc1 hc2 hc3 hL hcl (ax_cs_tail (ax_cs_tail hcs))
theorem ax_iald {a i v : Int} {n : Nat} {fs : List (Option Int)} (hdg : decode I.2.1 pc = .ok (.iaload, 1)) (hs : ax_sh S a = some (13, n, fs)) (hfs : fs = []) (h0 : 0 ≤ i) (hi : i < n) (hv : M a i = v) (hp : pc + 1 = pc') (kk : ax_W E l d kc ks I pc' ls (.inl v :: st) S M Q) : ax_W E l d kc ks I pc ls (.inl i :: .inr a :: st) S M Q := by
  subst hp
  subst hfs
  obtain ⟨q, rfl, hn⟩ := ax_sh_of hs
  intro p e R s m args below meth c mc ms Z H locs cells slots lc hX hR hZ hH hS hc1 hc2 hc3 hL hcl hcs
  rw [List.map_cons, List.map_cons, show ax_v E (.inr (q : Int)) = .ref (ax_b E + q) from (ax_rf_pos (by omega)).trans (by simp)]
  have hg := ax_ws_get (E := E) (M := M) hn
  rw [ax_ce_int] at hg
  have ci : ax_can i := ax_cs_head hcs
  have h := kk p e R s m args below meth c mc ms Z H locs cells slots lc hX hR hZ hH hS hc1 hc2 hc3 hL hcl (ax_cs_cons (show ax_can v from hv ▸ hH.2 _ _) (ax_cs_tail (ax_cs_tail hcs)))
  refine va_iald hX.1 hX.2.1 hX.2.2.2.2.2.2.2.2.1 hH.1 q 0 hg rfl (ax_in ci h0 hi) hdg ?_
  rw [ax_clamp ci]
  have e1 : ax_val (13, n, []) (M q) i.toNat = v := by
    show M q (i.toNat : Int) = v
    rw [Int.toNat_of_nonneg h0]
    exact hv
  rw [e1]
  exact h
theorem ax_iast {a i v : Int} {n : Nat} {fs : List (Option Int)} (hdg : decode I.2.1 pc = .ok (.iastore, 1)) (hs : ax_sh S a = some (13, n, fs)) (hfs : fs = []) (h0 : 0 ≤ i) (hi : i < n) (hp : pc + 1 = pc') (kk : ax_W E l d kc ks I pc' ls st S (ax_up M a i v) Q) : ax_W E l d kc ks I pc ls (.inl v :: .inl i :: .inr a :: st) S M Q := by
  subst hp
  subst hfs
  obtain ⟨q, rfl, hn⟩ := ax_sh_of hs
  intro p e R s m args below meth c mc ms Z H locs cells slots lc hX hR hZ hH hS hc1 hc2 hc3 hL hcl hcs
  rw [List.map_cons, List.map_cons, List.map_cons, show ax_v E (.inr (q : Int)) = .ref (ax_b E + q) from (ax_rf_pos (by omega)).trans (by simp)]
  have hg := ax_ws_get (E := E) (M := M) hn
  rw [ax_ce_int] at hg
  have ci : ax_can i := ax_cs_head (ax_cs_tail hcs)
  refine va_iast hX.1 hX.2.1 hX.2.2.2.2.2.2.2.2.1 hH.1 (ax_ws_D E S M) hS q 0 hg rfl (ax_in ci h0 hi) hdg (fun H1 locs1 hP1 hD1 hS1 => ?_)
  rw [ax_clamp ci] at hP1
  have e1 : (Sum.inl (ax_ac E 0, n, .inl (upd (fun j => Int32.ofInt (ax_val (13, n, []) (M q) j)) i.toNat (Int32.ofInt v))) : va_E) = ax_ce E (13, n, []) (ax_up M q i v q) := by
    rw [ax_ce_int]
    have : (upd (fun j => Int32.ofInt (ax_val (13, n, []) (M q) j)) i.toNat (Int32.ofInt v)) = fun j => Int32.ofInt (ax_val (13, n, []) (ax_up M q i v q) j) := by
      funext j
      have e2 := ax_val_up (c := (13, n, [])) (M := M) (n := q) (k := i.toNat) (j := j) (v := v) rfl
      rw [Int.toNat_of_nonneg h0] at e2
      rw [e2]
      by_cases hj : j = i.toNat
      · subst hj
        simp [upd]
      · simp [upd, hj]
    rw [this]
  rw [e1, ax_ws_set hn (fun j hj => ax_up_row (by omega))] at hP1
  exact kk p e R s m args below meth c mc ms Z H1 locs1 cells slots lc hX hR hZ ⟨hP1, ax_up_cm hH.2 (ax_cs_head hcs)⟩ hS1 hc1 hc2 hc3 hL hcl (ax_cs_tail (ax_cs_tail (ax_cs_tail hcs)))
/-- the script -/
theorem ax_sald {i v : Int} (hdg : decode I.2.1 pc = .ok (.iaload, 1)) (h0 : 0 ≤ i) (hi : i < ax_xl E) (hv : (ax_xs E i.toNat).toInt = v) (hp : pc + 1 = pc') (kk : ax_W E l d kc ks I pc' ls (.inl v :: st) S M Q) : ax_W E l d kc ks I pc ls (.inl i :: .inr (-2) :: st) S M Q := by
  subst hp
  intro p e R s m args below meth c mc ms Z H locs cells slots lc hX hR hZ hH hS hc1 hc2 hc3 hL hcl hcs
  have ci : ax_can i := ax_cs_head hcs
  have h := kk p e R s m args below meth c mc ms Z H locs cells slots lc hX hR hZ hH hS hc1 hc2 hc3 hL hcl (ax_cs_cons (show ax_can v from hv ▸ ax_can_toInt _) (ax_cs_tail (ax_cs_tail hcs)))
  obtain ⟨-, -, -, -, hXX, hlt, hsz, -, -⟩ := hX.2.2.2.2.2.2.2.2
  refine va_sld hX.1 hX.2.1 hXX (Nat.lt_of_lt_of_le hlt hsz) (Nat.not_le.mpr hlt) hS (ax_in ci h0 hi) hdg ?_
  rw [ax_clamp ci]
  rw [List.map_cons, ← hv, show ax_v E (.inl (ax_xs E i.toNat).toInt) = .int (ax_xs E i.toNat) from congrArg Value.int (Int32.ofInt_toInt _)] at h
  exact h
theorem ax_scrl (hdg : decode I.2.1 pc = .ok (.arraylength, 1)) (hl : ax_xl E < 2147483648) (hp : pc + 1 = pc') (kk : ax_W E l d kc ks I pc' ls (.inl (ax_xl E) :: st) S M Q) : ax_W E l d kc ks I pc ls (.inr (-2) :: st) S M Q := by
  subst hp
  intro p e R s m args below meth c mc ms Z H locs cells slots lc hX hR hZ hH hS hc1 hc2 hc3 hL hcl hcs
  have h := kk p e R s m args below meth c mc ms Z H locs cells slots lc hX hR hZ hH hS hc1 hc2 hc3 hL hcl (ax_cs_cons (show ax_can (ax_xl E) from ⟨by omega, by omega⟩) (ax_cs_tail hcs))
  obtain ⟨-, -, -, -, hXX, hlt, hsz, -, -⟩ := hX.2.2.2.2.2.2.2.2
  exact va_slen hX.1 hX.2.1 hXX (Nat.lt_of_lt_of_le hlt hsz) (Nat.not_le.mpr hlt) hS hdg h
theorem ax_alen {a : Int} {n : Nat} {fs : List (Option Int)} (hdg : decode I.2.1 pc = .ok (.arraylength, 1)) (hs : ax_sh S a = some (13, n, fs)) (hn : n < 2147483648) (hp : pc + 1 = pc') (kk : ax_W E l d kc ks I pc' ls (.inl n :: st) S M Q) : ax_W E l d kc ks I pc ls (.inr a :: st) S M Q := by
  subst hp
  obtain ⟨q, rfl, hq⟩ := ax_sh_of hs
  intro p e R s m args below meth c mc ms Z H locs cells slots lc hX hR hZ hH hS hc1 hc2 hc3 hL hcl hcs
  rw [List.map_cons, show ax_v E (.inr (q : Int)) = .ref (ax_b E + q) from (ax_rf_pos (by omega)).trans (by simp)]
  have hg := ax_ws_get (E := E) (M := M) hq
  rw [ax_ce_int] at hg
  exact va_alen hX.1 hX.2.1 hX.2.2.2.2.2.2.2.2.1 hH.1 q 0 hg rfl (v := Int32.ofInt n) rfl hdg (kk p e R s m args below meth c mc ms Z H locs cells slots lc hX hR hZ hH hS hc1 hc2 hc3 hL hcl (ax_cs_cons (show ax_can n from ⟨by omega, by omega⟩) (ax_cs_tail hcs)))
end AXH
