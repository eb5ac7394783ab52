/-! rows of the logic: rows of references, what comes new, copies, Math -/
def ax_row (M : ax_Mem) (a : Int) (f : Int → Int) : ax_Mem := fun a' => if a' = a then f else M a'
theorem ax_row_cm {M : ax_Mem} {a : Int} {f : Int → Int} (h : ax_cm M) (hf : ∀ i, ax_can (f i)) : ax_cm (ax_row M a f) := by
  intro a' i
  unfold ax_row
  split
  · exact hf i
  · exact h a' i
theorem ax_ws_push {E : ax_Env} {S : List ax_Cell} {M : ax_Mem} {c : ax_Cell} {f : Int → Int} : ax_ws E S M ++ [(ax_b E + S.length, ax_ce E c f)] = ax_ws E (S ++ [c]) (ax_row M S.length f) := by
  apply List.ext_getElem?
  intro j
  have hl : (ax_ws E S M).length = S.length := by simp [ax_ws]
  by_cases h1 : j < S.length
  · rw [List.getElem?_append_left (by omega)]
    have e1 : ax_row M S.length f j = M j := by
      unfold ax_row
      rw [if_neg (by omega)]
    simp only [ax_ws, List.getElem?_mapIdx]
    rw [List.getElem?_append_left h1, e1]
  · rw [List.getElem?_append_right (by omega), hl]
    simp only [ax_ws, List.getElem?_mapIdx]
    rw [List.getElem?_append_right (by omega)]
    by_cases h2 : j = S.length
    · subst h2
      have e1 : ax_row M S.length f S.length = f := by
        unfold ax_row
        rw [if_pos rfl]
      simp [e1]
    · have h3 : j - S.length ≠ 0 := by omega
      obtain ⟨q, hq⟩ : ∃ q, j - S.length = q + 1 := ⟨j - S.length - 1, by omega⟩
      rw [hq]
      simp
def ax_cmp (ci : Nat) : String := if ci = 14 then RX7 else if ci = 15 then RX9 else RX3
theorem ax_tys_at {E : ax_Env} {ci : Nat} (h : ci = 14 ∨ ci = 15 ∨ ci = 16) : (ax_tys E)[ci - 13]? = some (ax_ac E (ci - 13), .object (ax_cmp ci)) := by
  rcases h with rfl | rfl | rfl <;> rfl
/-- the class of what a row of references holds -/
def ax_cno (ci : Nat) : Nat := if ci = 14 then 7 else if ci = 15 then 9 else 3
section AXN
variable {E : ax_Env} {l : Launch} {d kc ks : Nat} {I : ax_I} {pc pc' : Nat} {ls ls' : List (Option ax_V)} {st : List ax_V} {S : List ax_Cell} {M : ax_Mem} {Q : ax_Post}
theorem ax_aald {a i v : Int} {ci n : Nat} {fs : List (Option Int)} (hdg : decode I.2.1 pc = .ok (.aaload, 1)) (hs : ax_sh S a = some (ci, n, fs)) (hc : ci = 14 ∨ ci = 15 ∨ ci = 16) (h0 : 0 ≤ i) (hi : i < n) (hv : ax_val (ci, n, fs) (M a) i.toNat = v) (hp : pc + 1 = pc') (kk : ax_W E l d kc ks I pc' ls (.inr v :: st) S M Q) : ax_W E l d kc ks I pc ls (.inl i :: .inr a :: st) S M Q := by
  subst hp
  obtain ⟨q, rfl, hn⟩ := ax_sh_of hs
  intro p e R s m args below meth c mc ms Z H locs cells slots lc hX hR hZ hH hS hc1 hc2 hc3 hL hcl hcs
  rw [List.map_cons, List.map_cons, show ax_v E (.inr (q : Int)) = .ref (ax_b E + q) from (ax_rf_pos (by omega)).trans (by simp)]
  have hg := ax_ws_get (E := E) (M := M) hn
  rw [ax_ce_ref (by omega)] at hg
  have cj : ax_can i := ax_cs_head hcs
  have h := kk p e R s m args below meth c mc ms Z H locs cells slots lc hX hR hZ hH hS hc1 hc2 hc3 hL hcl (ax_cs_cons (show ax_cv (.inr v) from trivial) (ax_cs_tail (ax_cs_tail hcs)))
  refine va_aldq hX.1 hX.2.1 hX.2.2.2.2.2.2.2.2.1 hH.1 q (ci - 13) hg (ax_tys_at hc) (ax_in cj h0 hi) hdg ?_
  rw [ax_clamp cj, hv]
  exact h
theorem ax_aast {a i v : Int} {ci n : Nat} {fs : List (Option Int)} {cv : ax_Cell} (hdg : decode I.2.1 pc = .ok (.aastore, 1)) (hs : ax_sh S a = some (ci, n, fs)) (hc : ci = 14 ∨ ci = 15 ∨ ci = 16) (hsv : ax_sh S v = some cv) (hcv : cv.1 = ax_cno ci) (h0 : 0 ≤ i) (hi : i < n) (hfs : fs.getD i.toNat none = none) (hcan : ax_can v) (hp : pc + 1 = pc') (kk : ax_W E l d kc ks I pc' ls st S (ax_up M a i v) Q) : ax_W E l d kc ks I pc ls (.inr v :: .inl i :: .inr a :: st) S M Q := by
  subst hp
  obtain ⟨q, rfl, hn⟩ := ax_sh_of hs
  obtain ⟨r, rfl, hr⟩ := ax_sh_of hsv
  intro p e R s m args below meth c mc ms Z H locs cells slots lc hX hR hZ hH hS hc1 hc2 hc3 hL hcl hcs
  rw [List.map_cons, List.map_cons, List.map_cons, show ax_v E (.inr (q : Int)) = .ref (ax_b E + q) from (ax_rf_pos (by omega)).trans (by simp), show ax_v E (.inr (r : Int)) = .ref (ax_b E + r) from (ax_rf_pos (by omega)).trans (by simp)]
  have hg := ax_ws_get (E := E) (M := M) hn
  rw [ax_ce_ref (by omega)] at hg
  have hg2 := ax_ws_get (E := E) (M := M) hr
  obtain ⟨cv1, cv2, cv3⟩ := cv
  simp only at hcv
  subst hcv
  rw [ax_ce_obj (by unfold ax_cno; split <;> (try split) <;> decide)] at hg2
  obtain ⟨r1, hr1, hr2⟩ : ∃ r1 : vw_C, vwCl[ax_cno ci]? = some r1 ∧ r1.1 = ax_cmp ci := by
    rcases hc with rfl | rfl | rfl
    · exact ⟨(RX7, TX7, 8), rfl, rfl⟩
    · exact ⟨(RX9, TX9, 7), rfl, rfl⟩
    · exact ⟨(RX3, TX3, 3), rfl, rfl⟩
  have cj : ax_can i := ax_cs_head (ax_cs_tail hcs)
  refine va_astq (r := r1) hX.1 hX.2.1 hX.2.2.2.2.2.2.2.2.1 hH.1 (ax_ws_D E S M) hS q (ci - 13) r (ax_cno ci) hg (by rw [hr2]; exact ax_tys_at hc) hg2 hr1 (ax_in cj h0 hi) hdg (fun H1 locs1 hP1 hD1 hS1 => ?_)
  rw [ax_clamp cj] at hP1
  have e1 : (va_up (fun j => ax_ro E (ax_val (ci, n, fs) (M q) j)) i.toNat (some (ax_b E + r))) = fun j => ax_ro E (ax_val (ci, n, fs) (ax_up M q i r q) j) := by
    funext j
    have e2 := ax_val_up (c := (ci, n, fs)) (M := M) (n := q) (k := i.toNat) (j := j) (v := (r : Int)) hfs
    rw [Int.toNat_of_nonneg h0] at e2
    rw [e2]
    by_cases hj : j = i.toNat
    · subst hj
      rw [if_pos rfl, ax_ro_pos (by omega)]
      simp [va_up]
    · simp [va_up, hj]
  rw [e1, ← ax_ce_ref (by omega), ax_ws_set hn (fun j hj => ax_up_row (by omega))] at hP1
  exact kk p e R s m args below meth c mc ms Z H1 locs1 cells slots lc hX hR hZ ⟨hP1, ax_up_cm hH.2 hcan⟩ hS1 hc1 hc2 hc3 hL hcl (ax_cs_tail (ax_cs_tail (ax_cs_tail hcs)))
def ax_zero (ci : Nat) : Int → Int := fun k => if ax_isR (ax_ft ci k.toNat) then -1 else 0
def ax_NL (own : String) (index ci N : Nat) : Prop := ∃ (C : String) (T : u_T), vwCl[ci]? = some (C, T, N) ∧ ci < 13 ∧ (∀ w ∈ u_ws C T N, w ∈ ax_good) ∧ (∀ j, j < N → parseFieldDescriptor (T j).2.2.1 = some (ax_ft ci j)) ∧ Cond.classLink own index C ∈ ax_good ∧ Cond.instantiable C N ∈ ax_good ∧ Cond.initialized C ∈ ax_good ∧ (∀ j, j < N → defaultValue (ax_ft ci j) = if ax_isR (ax_ft ci j) then .null else .int 0)
theorem ax_new {index ci N : Nat} {n : Int} (hdg : decode I.2.1 pc = .ok (.new index, 3)) (L : ax_NL I.1.cls index ci N) (hn : (S.length : Int) = n) (hp : pc + 3 = pc') (kk : ax_W E l d kc ks I pc' ls (.inr n :: st) (S ++ [(ci, N, [])]) (ax_row M n (ax_zero ci)) Q) : ax_W E l d (kc + 1) (ks + N) I pc ls st S M Q := by
  subst hp
  subst hn
  obtain ⟨C, T, h1, h2, h3, h4, h5, h6, h7, h8⟩ := L
  intro p e R s m args below meth c mc ms Z H locs cells slots lc hX hR hZ hH hS hk1 hk2 hk3 hL hcl hcs
  refine ax_sized hX hH hS hk3 (fun hz => ?_)
  have hts := hX.2.2.2.2.2.1
  have hKn := hX.2.2.2.2.2.2.2.2.1.1 ci _ h1
  have hr3 := hR.2.2.1
  have hr4 := hR.2.2.2
  refine W.newcK hX.1 hX.2.1 hX.2.2.2.2.1 (hts _ h5) (hts _ h6) (hts _ h7) rfl hdg (by omega) (by omega) hKn.2.1 hz (fun H1 kC hkC e1 z1 o1 => ?_)
  have hk : ∀ (k : Nat) (x : Nat × va_E), (ax_ws E S M)[k]? = some x → H1[x.1]? = H[x.1]? := fun k x hx => o1 x.1 (by have := (hH.1 k x hx).lt; omega)
  have hP1 : va_P (ax_D E) vwCl (ax_ws E (S ++ [(ci, N, [])]) (ax_row M S.length (ax_zero ci))) H1 := by
    rw [← ax_ws_push]
    refine (hH.1.kept hk).app (fun k x hx => ?_)
    have hz : k < 1 := (List.getElem?_eq_some_iff.mp hx).1
    rw [show k = 0 by omega] at hx
    cases hx
    rw [ax_ce_obj h2]
    refine ⟨_, h1, (u_born (ax_ft ci) hts h3 hKn hkC e1 h4).to (fun j hj => ?_)⟩
    rw [h8 j hj]
    simp only [vp_V, List.getD_eq_getElem?_getD, List.getElem?_map, List.getElem?_range hj, Option.map_some, Option.getD_some]
    show _ = ax_fv E (ax_ft ci j) (ax_zero ci (j : Int))
    unfold ax_fv ax_zero
    rw [Int.toNat_natCast]
    by_cases hb : ax_isR (ax_ft ci j) = true
    · simp only [hb, if_true]
      rfl
    · simp only [hb]
      rfl
  have h := kk p e R s m args below meth c mc ms Z H1 locs (cells + 1) (slots + N) lc hX hR hZ ⟨hP1, ax_row_cm hH.2 (fun i => by unfold ax_zero; split <;> exact ⟨by decide, by decide⟩)⟩ ⟨Nat.le_trans hS.1 (by omega), fun q g1 g2 => (o1 q (by have := hS.1; omega)).trans (hS.2.1 q g1 g2), hS.2.2⟩ (by omega) (by omega) (by rw [List.length_append, List.length_singleton]; omega) hL hcl (ax_cs_cons (show ax_cv (.inr _) from trivial) hcs)
  rw [List.map_cons, show ax_v E (.inr (S.length : Int)) = .ref (ax_b E + S.length) from (ax_rf_pos (by omega)).trans (by simp)] at h
  exact h
theorem ax_newa {N : Nat} {n v : Int} (hdg : decode I.2.1 pc = .ok (.newarray .int, 2)) (hw : Cond.arrayClass .int ∈ ax_good) (hv : v = N) (hN : N ≤ 100000) (hn : (S.length : Int) = n) (hp : pc + 2 = pc') (kk : ax_W E l d kc ks I pc' ls (.inr n :: st) (S ++ [(13, N, [])]) (ax_row M n (fun _ => 0)) Q) : ax_W E l d (kc + 1) (ks + N) I pc ls (.inl v :: st) S M Q := by
  subst hp
  subst hn
  subst hv
  intro p e R s m args below meth c mc ms Z H locs cells slots lc hX hR hZ hH hS hk1 hk2 hk3 hL hcl hcs
  refine ax_sized hX hH hS hk3 (fun hz => ?_)
  have hts := hX.2.2.2.2.2.1
  have hr3 := hR.2.2.1
  have hr4 := hR.2.2.2
  have hcN : ax_can (N : Int) := ⟨by omega, by omega⟩
  refine va_newaK (n := Int32.ofInt N) (N := N) (atype := .int) hX.1 hX.2.1 (hts _ hw) rfl hdg rfl ?_ ?_ ?_ (by omega) (by omega) hz (fun H1 cA e1 z1 o1 hAr hNm => ?_)
  · rw [show (0 : Int32) = Int32.ofInt 0 from rfl, ax_lt hcN (show ax_can 0 from ⟨by decide, by decide⟩)]
    omega
  · rw [ax_clamp hcN]
    simp
  · show N * 4 ≤ 536870912
    omega
  have hcA : cA = ax_ac E 0 := by
    have h1 := (hX.2.2.2.2.2.2.2.2.1.2 0 _ (show (ax_tys E)[0]? = some (ax_ac E 0, .int) from rfl)).2
    have h2 : s.vm.findClass ("[" ++ FieldType.int.toString) = some (ax_ac E 0) := h1
    exact Option.some.inj (hNm.symm.trans h2)
  have hk : ∀ (k : Nat) (x : Nat × va_E), (ax_ws E S M)[k]? = some x → H1[x.1]? = H[x.1]? := fun k x hx => o1 x.1 (by have := (hH.1 k x hx).lt; omega)
  have hP1 : va_P (ax_D E) vwCl (ax_ws E (S ++ [(13, N, [])]) (ax_row M S.length (fun _ => 0))) H1 := by
    rw [← ax_ws_push]
    refine (hH.1.kept hk).app (fun k x hx => ?_)
    have hz : k < 1 := (List.getElem?_eq_some_iff.mp hx).1
    rw [show k = 0 by omega] at hx
    cases hx
    show H1[ax_b E + S.length]? = some (vp_cell (ax_ac E 0) (N, .inl _))
    rw [e1, hcA]
    rfl
  have h := kk p e R s m args below meth c mc ms Z H1 locs (cells + 1) (slots + N) lc hX hR hZ ⟨hP1, ax_row_cm hH.2 (fun i => ⟨by decide, by decide⟩)⟩ ⟨Nat.le_trans hS.1 (by omega), fun q g1 g2 => (o1 q (by have := hS.1; omega)).trans (hS.2.1 q g1 g2), hS.2.2⟩ (by omega) (by omega) (by rw [List.length_append, List.length_singleton]; omega) hL hcl (ax_cs_cons (show ax_cv (.inr _) from trivial) (ax_cs_tail hcs))
  rw [List.map_cons, show ax_v E (.inr (S.length : Int)) = .ref (ax_b E + S.length) from (ax_rf_pos (by omega)).trans (by simp)] at h
  exact h
theorem ax_newq {index ci N : Nat} {n v : Int} (hdg : decode I.2.1 pc = .ok (.anewarray index, 3)) (hc : ci = 14 ∨ ci = 15 ∨ ci = 16) (hw : Cond.classLink I.1.cls index (ax_cmp ci) ∈ ax_good) (hv : v = N) (hN : N ≤ 100000) (hn : (S.length : Int) = n) (hp : pc + 3 = pc') (kk : ax_W E l d kc ks I pc' ls (.inr n :: st) (S ++ [(ci, N, [])]) (ax_row M n (fun _ => -1)) Q) : ax_W E l d (kc + 1) (ks + N) I pc ls (.inl v :: st) S M Q := by
  subst hp
  subst hn
  subst hv
  intro p e R s m args below meth c mc ms Z H locs cells slots lc hX hR hZ hH hS hk1 hk2 hk3 hL hcl hcs
  refine ax_sized hX hH hS hk3 (fun hz => ?_)
  have hts := hX.2.2.2.2.2.1
  have hr3 := hR.2.2.1
  have hr4 := hR.2.2.2
  have hcN : ax_can (N : Int) := ⟨by omega, by omega⟩
  have hNN : (Int32.ofInt (N : Int)).toNatClampNeg = N := by
    rw [ax_clamp hcN]
    simp
  have hAO : va_AO (ax_cmp ci) s := hX.2.2.2.2.2.2.2.2.2.2.1 _ (by rcases hc with rfl | rfl | rfl <;> decide)
  refine W.anew (n := Int32.ofInt N) hX.1 hX.2.1 hX.2.2.2.2.1 (hts _ hw) (va_AO.use hAO) rfl hdg rfl ?_ ?_ (by omega) ?_ (fun cA kA comp f1 f2 f3 f4 => ?_)
  · rw [show (0 : Int32) = Int32.ofInt 0 from rfl, ax_lt hcN (show ax_can 0 from ⟨by decide, by decide⟩)]
    omega
  · rw [hNN]
    omega
  · rw [hNN]
    omega
  rw [hNN]
  have hcA : cA = ax_ac E (ci - 13) := by
    have h1 := (hX.2.2.2.2.2.2.2.2.1.2 (ci - 13) _ (ax_tys_at (E := E) hc)).2
    obtain ⟨_, _, _, _, _, h2⟩ := h1
    exact Option.some.inj (f1.symm.trans h2)
  subst hcA
  generalize hH1 : H.push ({ cls := ax_ac E (ci - 13), slots := Array.replicate N .null, vm := .none } : Cell) = H1
  have z1 : H1.size = H.size + 1 := by rw [← hH1, Array.size_push]
  have e1 : H1[H.size]? = some (arrV (ax_ac E (ci - 13)) N (fun _ => .null)) := by rw [← hH1, Array.getElem?_push_size, ← arrV_new]
  have o1 : ∀ q : Nat, q < H.size → H1[q]? = H[q]? := fun q hq => by rw [← hH1, Array.getElem?_push, if_neg (Nat.ne_of_lt hq)]
  have hk : ∀ (k : Nat) (x : Nat × va_E), (ax_ws E S M)[k]? = some x → H1[x.1]? = H[x.1]? := fun k x hx => o1 x.1 ((hH.1 k x hx).lt)
  have hP1 : va_P (ax_D E) vwCl (ax_ws E (S ++ [(ci, N, [])]) (ax_row M S.length (fun _ => -1))) H1 := by
    rw [← ax_ws_push]
    refine (hH.1.kept hk).app (fun k x hx => ?_)
    have hz1 : k < 1 := (List.getElem?_eq_some_iff.mp hx).1
    rw [show k = 0 by omega] at hx
    cases hx
    rw [ax_ce_ref (by omega)]
    show H1[ax_b E + S.length]? = some (vp_cell (ax_ac E (ci - 13)) (N, .inr (.inr (.inr (.inr _)))))
    rw [← hz, e1]
    rfl
  have h := kk p e R s m args below meth c mc ms Z H1 locs (cells + 1) (slots + N) lc hX hR hZ ⟨hP1, ax_row_cm hH.2 (fun i => ⟨by decide, by decide⟩)⟩ ⟨Nat.le_trans hS.1 (by omega), fun q g1 g2 => (o1 q (by have := hS.1; omega)).trans (hS.2.1 q g1 g2), hS.2.2⟩ (by omega) (by omega) (by rw [List.length_append, List.length_singleton]; omega) hL hcl (ax_cs_cons (show ax_cv (.inr _) from trivial) (ax_cs_tail hcs))
  rw [List.map_cons, show ax_v E (.inr (S.length : Int)) = .ref (ax_b E + S.length) from (ax_rf_pos (by omega)).trans (by simp)] at h
  rw [hz]
  exact h
theorem ax_oinit {index : Nat} {a : Int} (hdg : decode I.2.1 pc = .ok (.invokespecial index, 3)) (h0 : 0 ≤ a) (w1 : Cond.methodLink I.1.cls index objectInit ∈ ax_good) (w2 : Cond.instanceMethod objectInit ∈ ax_good) (w3 : Cond.code objectInit ⟨#[0xb1]⟩ 1 none ∈ ax_good) (hr : st.length ≤ 8) (hp : pc + 3 = pc') (kk : ax_W E l (d + 1) kc ks I pc' ls st S M Q) : ax_W E l (d + 1) kc ks I pc ls (.inr a :: st) S M Q := by
  subst hp
  intro p e R s m args below meth c mc ms Z H locs cells slots lc hX hR hZ hH hS hc1 hc2 hc3 hL hcl hcs
  rw [List.map_cons, show ax_v E (.inr a) = .ref (ax_b E + a.toNat) from ax_rf_pos h0]
  have hts := hX.2.2.2.2.2.1
  have h1 := hR.1
  have h2 := hR.2.1
  refine W.objInit hX.1 hX.2.1 hX.2.2.2.2.1 (hts _ w1) (hts _ w2) (hts _ w3) rfl (hL.1.trans hX.2.2.1.symm) rfl hdg (by omega) ?_ (kk p e R s m args below meth c mc ms Z H locs cells slots lc hX hR hZ hH hS hc1 hc2 hc3 hL hcl (ax_cs_tail hcs))
  show 2 * 0 + _ + 12 ≤ _
  rw [ax_cat_sum]
  omega
/-- what a copy leaves -/
def ax_cp (M : ax_Mem) (a sp b dp n : Int) : ax_Mem := fun a' i => if a' = b ∧ dp ≤ i ∧ i < dp + n then M a (sp + (i - dp)) else M a' i
def ax_CW (own : String) (index : Nat) : Prop := Cond.methodLink own index arraycopyName ∈ ax_good ∧ Cond.native arraycopyName ∈ ax_good ∧ Cond.static arraycopyName ∈ ax_good ∧ Cond.initialized "java/lang/System" ∈ ax_good
theorem ax_copy {index n0 n1 : Nat} {a b sp dp n : Int} {f0 f1 : List (Option Int)} (hdg : decode I.2.1 pc = .ok (.invokestatic index, 3)) (L : ax_CW I.1.cls index) (hs0 : ax_sh S a = some (13, n0, f0)) (hs1 : ax_sh S b = some (13, n1, f1)) (hf0 : f0 = []) (hf1 : f1 = []) (h1 : 0 ≤ sp) (h2 : 0 ≤ dp) (h3 : 0 ≤ n) (h4 : sp + n ≤ n0) (h5 : dp + n ≤ n1) (hr : st.length ≤ 8) (hp : pc + 3 = pc') (kk : ax_W E l (d + 1) kc ks I pc' ls st S (ax_cp M a sp b dp n) Q) : ax_W E l (d + 1) kc ks I pc ls (.inl n :: .inl dp :: .inr b :: .inl sp :: .inr a :: st) S M Q := by
  subst hp
  subst hf0
  subst hf1
  obtain ⟨q, rfl, hq⟩ := ax_sh_of hs0
  obtain ⟨r, rfl, hr0⟩ := ax_sh_of hs1
  obtain ⟨w1, w2, w3, w4⟩ := L
  intro p e R s m args below meth c mc ms Z H locs cells slots lc hX hR hZ hH hS hc1 hc2 hc3 hL hcl hcs
  simp only [List.map_cons]
  rw [show ax_v E (.inr (q : Int)) = .ref (ax_b E + q) from (ax_rf_pos (by omega)).trans (by simp), show ax_v E (.inr (r : Int)) = .ref (ax_b E + r) from (ax_rf_pos (by omega)).trans (by simp)]
  have hg0 := ax_ws_get (E := E) (M := M) hq
  have hg1 := ax_ws_get (E := E) (M := M) hr0
  rw [ax_ce_int] at hg0 hg1
  have hts := hX.2.2.2.2.2.1
  have cn : ax_can n := ax_cs_head hcs
  have cd : ax_can dp := ax_cs_head (ax_cs_tail hcs)
  have csp : ax_can sp := ax_cs_head (ax_cs_tail (ax_cs_tail (ax_cs_tail hcs)))
  have c0 : ax_can 0 := ⟨by decide, by decide⟩
  have g1 := hR.1
  have g2 := hR.2.1
  refine va_copyi (sp := Int32.ofInt sp) (dp := Int32.ofInt dp) (n := Int32.ofInt n) hX.1 hX.2.1 (hX.2.2.1.trans hL.1.symm) hX.2.2.2.2.1 (hts _ w1) (hts _ w2) (hts _ w3) (hts _ w4) hX.2.2.2.2.2.2.2.2.1 hH.1 (ax_ws_D E S M) hS q r 0 0 hg0 hg1 rfl rfl rfl ?_ ?_ ?_ ?_ ?_ (fun i _ => rfl) (by omega) ?_ hdg (fun H1 locs1 hP1 hD1 hS1 => ?_)
  · rw [show (0 : Int32) = Int32.ofInt 0 from rfl, ax_lt csp c0]; omega
  · rw [show (0 : Int32) = Int32.ofInt 0 from rfl, ax_lt cd c0]; omega
  · rw [show (0 : Int32) = Int32.ofInt 0 from rfl, ax_lt cn c0]; omega
  · rw [ax_clamp csp, ax_clamp cn]; omega
  · rw [ax_clamp cd, ax_clamp cn]; omega
  · rw [ax_cat_sum]
    show st.length + (7 + 11) ≤ R.locals
    omega
  rw [ax_clamp csp, ax_clamp cd, ax_clamp cn] at hP1
  have e1 : (va_cpy (fun j => Int32.ofInt (ax_val (13, n0, []) (M q) j)) (fun j => Int32.ofInt (ax_val (13, n1, []) (M r) j)) sp.toNat dp.toNat n.toNat) = fun j => Int32.ofInt (ax_val (13, n1, []) (ax_cp M q sp r dp n r) j) := by
    funext j
    show (if dp.toNat ≤ j ∧ j < dp.toNat + n.toNat then Int32.ofInt (M q ((sp.toNat + (j - dp.toNat) : Nat) : Int)) else Int32.ofInt (M r j)) = Int32.ofInt (if (r : Int) = r ∧ dp ≤ j ∧ (j : Int) < dp + n then M q (sp + (j - dp)) else M r j)
    by_cases hj : dp.toNat ≤ j ∧ j < dp.toNat + n.toNat
    · rw [if_pos hj, if_pos ⟨rfl, by omega, by omega⟩]
      congr 2
      omega
    · rw [if_neg hj, if_neg (by omega)]
  rw [e1, ← ax_ce_int, ax_ws_set hr0 (fun j hj => by
    funext i
    show (if (j : Int) = r ∧ _ then _ else M j i) = M j i
    rw [if_neg (by omega)])] at hP1
  refine kk p e R s m args below meth c mc ms Z H1 locs1 cells slots lc hX hR hZ ⟨hP1, fun a i => ?_⟩ hS1 hc1 hc2 hc3 hL hcl (ax_cs_tail (ax_cs_tail (ax_cs_tail (ax_cs_tail (ax_cs_tail hcs)))))
  unfold ax_cp
  split <;> exact hH.2 _ _
def ax_MW (own : String) (index : Nat) (y : MethodName) (cd : ByteArray) : Prop := Cond.methodLink own index y ∈ ax_good ∧ Cond.static y ∈ ax_good ∧ Cond.initialized "java/lang/Math" ∈ ax_good ∧ Cond.code y cd 2 (some .int) ∈ ax_good
theorem ax_mmax {index : Nat} {x y : Int} (hdg : decode I.2.1 pc = .ok (.invokestatic index, 3)) (L : ax_MW I.1.cls index Lib.Math.max.name Lib.Math.max.code) (hr : st.length ≤ 8) (hp : pc + 3 = pc') (kk : ax_W E l (d + 1) kc ks I pc' ls (.inl (max x y) :: st) S M Q) : ax_W E l (d + 1) kc ks I pc ls (.inl y :: .inl x :: st) S M Q := by
  subst hp
  obtain ⟨w1, w2, w3, w4⟩ := L
  intro p e R s m args below meth c mc ms Z H locs cells slots lc hX hR hZ hH hS hc1 hc2 hc3 hL hcl hcs
  have hts := hX.2.2.2.2.2.1
  have cy : ax_can y := ax_cs_head hcs
  have cx : ax_can x := ax_cs_head (ax_cs_tail hcs)
  have hm : ax_can (max x y) := by
    rcases Int.le_total x y with h | h
    · rw [Int.max_eq_right h]; exact cy
    · rw [Int.max_eq_left h]; exact cx
  have g1 := hR.1
  have g2 := hR.2.1
  have g3 := hR.2.2.1
  have g4 := hR.2.2.2
  have h := kk p e R s m args below meth c mc ms Z H locs cells slots lc hX hR hZ hH hS hc1 hc2 hc3 hL hcl (ax_cs_cons (show ax_cv (.inl (max x y)) from hm) (ax_cs_tail (ax_cs_tail hcs)))
  refine va_mmax hX.1 hX.2.1 (hX.2.2.1.trans hL.1.symm) hX.2.2.2.2.1 (hts _ w1) (hts _ w2) (hts _ w3) (hts _ w4) (by omega) (by rw [ax_cat_sum]; omega) (by omega) (by omega) hdg ?_
  have e1 : (if Int32.ofInt x < Int32.ofInt y then Int32.ofInt y else Int32.ofInt x) = Int32.ofInt (max x y) := by
    by_cases hxy : x < y
    · rw [if_pos ((ax_lt cx cy).mpr hxy), Int.max_eq_right (by omega)]
    · rw [if_neg (fun q => hxy ((ax_lt cx cy).mp q)), Int.max_eq_left (by omega)]
  rw [e1]
  exact h
theorem ax_mmin {index : Nat} {x y : Int} (hdg : decode I.2.1 pc = .ok (.invokestatic index, 3)) (L : ax_MW I.1.cls index Lib.Math.min.name Lib.Math.min.code) (hr : st.length ≤ 8) (hp : pc + 3 = pc') (kk : ax_W E l (d + 1) kc ks I pc' ls (.inl (min x y) :: st) S M Q) : ax_W E l (d + 1) kc ks I pc ls (.inl y :: .inl x :: st) S M Q := by
  subst hp
  obtain ⟨w1, w2, w3, w4⟩ := L
  intro p e R s m args below meth c mc ms Z H locs cells slots lc hX hR hZ hH hS hc1 hc2 hc3 hL hcl hcs
  have hts := hX.2.2.2.2.2.1
  have cy : ax_can y := ax_cs_head hcs
  have cx : ax_can x := ax_cs_head (ax_cs_tail hcs)
  have hm : ax_can (min x y) := by
    rcases Int.le_total x y with h | h
    · rw [Int.min_eq_left h]; exact cx
    · rw [Int.min_eq_right h]; exact cy
  have g1 := hR.1
  have g2 := hR.2.1
  have g3 := hR.2.2.1
  have g4 := hR.2.2.2
  have h := kk p e R s m args below meth c mc ms Z H locs cells slots lc hX hR hZ hH hS hc1 hc2 hc3 hL hcl (ax_cs_cons (show ax_cv (.inl (min x y)) from hm) (ax_cs_tail (ax_cs_tail hcs)))
  refine va_mmin hX.1 hX.2.1 (hX.2.2.1.trans hL.1.symm) hX.2.2.2.2.1 (hts _ w1) (hts _ w2) (hts _ w3) (hts _ w4) (by omega) (by rw [ax_cat_sum]; omega) (by omega) (by omega) hdg ?_
  have e1 : (if Int32.ofInt y < Int32.ofInt x then Int32.ofInt y else Int32.ofInt x) = Int32.ofInt (min x y) := by
    by_cases hxy : y < x
    · rw [if_pos ((ax_lt cy cx).mpr hxy), Int.min_eq_right (by omega)]
    · rw [if_neg (fun q => hxy ((ax_lt cy cx).mp q)), Int.min_eq_left (by omega)]
  rw [e1]
  exact h
end AXN
