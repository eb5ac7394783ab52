/-! rows of the logic: Strings that are constants, their bytes, the two statics that their methods read -/
theorem ax_rf_s {E : ax_Env} {i : Nat} {a : Int} (hi : i < 30) (ha : a = -(3 + (i : Int))) : ax_rf E a = .ref (ax_sk E i) := by
  subst ha
  unfold ax_rf ax_ro
  rw [if_neg (by omega), if_neg (by omega), if_neg (by omega), if_neg (by omega), if_pos (by omega)]
  have e : (-(-(3 + (i : Int)) + 3)).toNat = i := by omega
  rw [e]
  rfl
theorem ax_rf_t {E : ax_Env} {i : Nat} {a : Int} (hi : i < 30) (ha : a = -(1000 + (i : Int))) : ax_rf E a = .ref (ax_sv E i) := by
  subst ha
  unfold ax_rf ax_ro
  rw [if_neg (by omega), if_neg (by omega), if_neg (by omega), if_pos (by omega)]
  have e : (-(-(1000 + (i : Int)) + 1000)).toNat = i := by omega
  rw [e]
  rfl
def ax_sl (i : Nat) : Int := ((ax_sbyt.getD i []).length : Int)
def ax_sb (i : Nat) (j : Int) : Int := ((ax_sbyt.getD i []).getD j.toNat 0).toInt
theorem ax_str_len : ax_str.length = 30 := rfl
def ax_MVS (own : String) (index : Nat) (Y : ax_I) (n : Nat) : Prop := ax_CB Y n ∧ Y.1.cls = "java/lang/String" ∧ Cond.methodLink own index Y.1 ∈ ax_good ∧ Cond.instanceMethod Y.1 ∈ ax_good ∧ Cond.selects Y.1.cls Y.1 Y.1 ∈ ax_good
section AXS
variable {E : ax_Env} {l : Launch} {d kc ks : Nat} {I : ax_I} {pc pc' : Nat} {ls ls' : List (Option ax_V)} {st : List ax_V} {S : List ax_Cell} {M : ax_Mem} {Q : ax_Post}
theorem ax_ldcS {index i : Nat} {tx : String} {r : Int} (hdg : decode I.2.1 pc = .ok (.ldc index, 2)) (hq : ax_str[i]? = some (I.1.cls, index, tx)) (hr : r = -(3 + (i : Int))) (hp : pc + 2 = pc') (kk : ax_W E l d kc ks I pc' ls (.inr r :: st) S M Q) : ax_W E l d kc ks I pc ls st S M Q := by
  subst hp
  have hi : i < 30 := (List.getElem?_eq_some_iff.mp hq).1
  intro p e R s m args below meth c mc ms Z H locs cells slots lc hX hR hZ hH hS hc1 hc2 hc3 hL hcl hcs
  have h := kk p e R s m args below meth c mc ms Z H locs cells slots lc hX hR hZ hH hS hc1 hc2 hc3 hL hcl (ax_cs_cons (show ax_cv (.inr r) from trivial) hcs)
  rw [List.map_cons, show ax_v E (.inr r) = .ref (ax_sk E i) from ax_rf_s hi hr] at h
  exact va_ldcS hX.1 hX.2.1 hX.2.2.2.2.1 (hX.2.2.2.2.2.2.2.2.2.2.2.1 i _ hq).1 hdg h
theorem ax_sgetV {index i : Nat} {a r : Int} (hdg : decode I.2.1 pc = .ok (.getfield index, 3)) (L : Cond.fieldLink I.1.cls index "java/lang/String" "value" "[B" ∈ ax_good) (hi : i < 30) (ha : a = -(3 + (i : Int))) (hr : r = -(1000 + (i : Int))) (hp : pc + 3 = pc') (kk : ax_W E l d kc ks I pc' ls (.inr r :: st) S M Q) : ax_W E l d kc ks I pc ls (.inr a :: st) S M Q := by
  subst hp
  obtain ⟨q, hq⟩ : ∃ q, ax_str[i]? = some q := ⟨_, List.getElem?_eq_getElem hi⟩
  intro p e R s m args below meth c mc ms Z H locs cells slots lc hX hR hZ hH hS hc1 hc2 hc3 hL hcl hcs
  have h := kk p e R s m args below meth c mc ms Z H locs cells slots lc hX hR hZ hH hS hc1 hc2 hc3 hL hcl (ax_cs_cons (show ax_cv (.inr r) from trivial) (ax_cs_tail hcs))
  rw [List.map_cons, show ax_v E (.inr r) = .ref (ax_sv E i) from ax_rf_t hi hr] at h
  rw [List.map_cons, show ax_v E (.inr a) = .ref (ax_sk E i) from ax_rf_s hi ha]
  exact vk_getf hX.1 hX.2.1 (hX.2.2.2.2.2.2.2.2.2.2.2.1 i _ hq).2.2.2.1 hS hX.2.2.2.2.1 (hX.2.2.2.2.2.1 _ L) (fun _ h => h) hdg h
theorem ax_sgetC {index i : Nat} {a : Int} (hdg : decode I.2.1 pc = .ok (.getfield index, 3)) (L : Cond.fieldLink I.1.cls index "java/lang/String" "coder" "B" ∈ ax_good) (hi : i < 30) (ha : a = -(3 + (i : Int))) (hp : pc + 3 = pc') (kk : ax_W E l d kc ks I pc' ls (.inl 0 :: st) S M Q) : ax_W E l d kc ks I pc ls (.inr a :: st) S M Q := by
  subst hp
  obtain ⟨q, hq⟩ : ∃ q, ax_str[i]? = some q := ⟨_, List.getElem?_eq_getElem hi⟩
  intro p e R s m args below meth c mc ms Z H locs cells slots lc hX hR hZ hH hS hc1 hc2 hc3 hL hcl hcs
  have h := kk p e R s m args below meth c mc ms Z H locs cells slots lc hX hR hZ hH hS hc1 hc2 hc3 hL hcl (ax_cs_cons (show ax_cv (.inl 0) from ⟨by decide, by decide⟩) (ax_cs_tail hcs))
  rw [List.map_cons, show ax_v E (.inr a) = .ref (ax_sk E i) from ax_rf_s hi ha]
  exact vk_getf hX.1 hX.2.1 (hX.2.2.2.2.2.2.2.2.2.2.2.1 i _ hq).2.2.1 hS hX.2.2.2.2.1 (hX.2.2.2.2.2.1 _ L) (fun _ h => h) hdg h
theorem ax_getsC {index : Nat} (hdg : decode I.2.1 pc = .ok (.getstatic index, 3)) (L : Cond.fieldLink I.1.cls index "java/lang/String" "COMPACT_STRINGS" "Z" ∈ ax_good) (hp : pc + 3 = pc') (kk : ax_W E l d kc ks I pc' ls (.inl 1 :: st) S M Q) : ax_W E l d kc ks I pc ls st S M Q := by
  subst hp
  intro p e R s m args below meth c mc ms Z H locs cells slots lc hX hR hZ hH hS hc1 hc2 hc3 hL hcl hcs
  have h := kk p e R s m args below meth c mc ms Z H locs cells slots lc hX hR hZ hH hS hc1 hc2 hc3 hL hcl (ax_cs_cons (show ax_cv (.inl 1) from ⟨by decide, by decide⟩) hcs)
  exact va_gets hX.1 hX.2.1 hX.2.2.2.2.2.2.2.2.2.2.2.2.2.2.2.1 hS hX.2.2.2.2.1 (hX.2.2.2.2.2.1 _ L) (fun _ h => h) hdg h
theorem ax_getsF {index : Nat} (hdg : decode I.2.1 pc = .ok (.getstatic index, 3)) (L : Cond.fieldLink I.1.cls index "jdk/internal/util/Preconditions" "SIOOBE_FORMATTER" "Ljava/util/function/BiFunction;" ∈ ax_good) (hp : pc + 3 = pc') (kk : ax_W E l d kc ks I pc' ls (.inr (-100) :: st) S M Q) : ax_W E l d kc ks I pc ls st S M Q := by
  subst hp
  intro p e R s m args below meth c mc ms Z H locs cells slots lc hX hR hZ hH hS hc1 hc2 hc3 hL hcl hcs
  have h := kk p e R s m args below meth c mc ms Z H locs cells slots lc hX hR hZ hH hS hc1 hc2 hc3 hL hcl (ax_cs_cons (show ax_cv (.inr (-100)) from trivial) hcs)
  exact va_gets hX.1 hX.2.1 hX.2.2.2.2.2.2.2.2.2.2.2.2.2.2.2.2 hS hX.2.2.2.2.1 (hX.2.2.2.2.2.1 _ L) (fun _ h => h) hdg h
theorem ax_bald {i : Nat} {a j v : Int} (hdg : decode I.2.1 pc = .ok (.baload, 1)) (hi : i < 30) (ha : a = -(1000 + (i : Int))) (h0 : 0 ≤ j) (hj : j < ax_sl i) (hv : ax_sb i j = v) (hp : pc + 1 = pc') (kk : ax_W E l d kc ks I pc' ls (.inl v :: st) S M Q) : ax_W E l d kc ks I pc ls (.inl j :: .inr a :: st) S M Q := by
  subst hp
  subst hv
  obtain ⟨q, hq⟩ : ∃ q, ax_str[i]? = some q := ⟨_, List.getElem?_eq_getElem hi⟩
  intro p e R s m args below meth c mc ms Z H locs cells slots lc hX hR hZ hH hS hc1 hc2 hc3 hL hcl hcs
  have cj : ax_can j := ax_cs_head hcs
  have h := kk p e R s m args below meth c mc ms Z H locs cells slots lc hX hR hZ hH hS hc1 hc2 hc3 hL hcl (ax_cs_cons (show ax_cv (.inl (ax_sb i j)) from ax_can_toInt _) (ax_cs_tail (ax_cs_tail hcs)))
  rw [List.map_cons, List.map_cons, show ax_v E (.inr a) = .ref (ax_sv E i) from ax_rf_t hi ha]
  rw [List.map_cons, show ax_v E (.inl (ax_sb i j)) = .int ((ax_sbyt.getD i []).getD j.toNat 0) from congrArg Value.int (Int32.ofInt_toInt _)] at h
  exact va_tb hX.1 hX.2.1 (hX.2.2.2.2.2.2.2.2.2.2.2.1 i _ hq).2.2.2.2 hS (ax_in cj h0 hj) (by rw [ax_clamp cj]) hdg h
theorem ax_blen {i : Nat} {a : Int} (hdg : decode I.2.1 pc = .ok (.arraylength, 1)) (hi : i < 30) (ha : a = -(1000 + (i : Int))) (hb : ax_sl i < 2147483648) (hp : pc + 1 = pc') (kk : ax_W E l d kc ks I pc' ls (.inl (ax_sl i) :: st) S M Q) : ax_W E l d kc ks I pc ls (.inr a :: st) S M Q := by
  subst hp
  obtain ⟨q, hq⟩ : ∃ q, ax_str[i]? = some q := ⟨_, List.getElem?_eq_getElem hi⟩
  intro p e R s m args below meth c mc ms Z H locs cells slots lc hX hR hZ hH hS hc1 hc2 hc3 hL hcl hcs
  have h := kk p e R s m args below meth c mc ms Z H locs cells slots lc hX hR hZ hH hS hc1 hc2 hc3 hL hcl (ax_cs_cons (show ax_cv (.inl (ax_sl i)) from ⟨by unfold ax_sl; omega, hb⟩) (ax_cs_tail hcs))
  rw [List.map_cons, show ax_v E (.inr a) = .ref (ax_sv E i) from ax_rf_t hi ha]
  exact va_tlen hX.1 hX.2.1 (hX.2.2.2.2.2.2.2.2.2.2.2.1 i _ hq).2.2.2.2 hS (v := Int32.ofInt (ax_sl i)) rfl hdg h
theorem ax_i2c {x : Int} (hdg : decode I.2.1 pc = .ok (.i2c, 1)) (hx : 0 ≤ x ∧ x < 65536) (hp : pc + 1 = pc') (kk : ax_W E l d kc ks I pc' ls (.inl x :: st) S M Q) : ax_W E l d kc ks I pc ls (.inl x :: st) S M Q := by
  subst hp
  intro p e R s m args below meth c mc ms Z H locs cells slots lc hX hR hZ hH hS hc1 hc2 hc3 hL hcl hcs
  have h := kk p e R s m args below meth c mc ms Z H locs cells slots lc hX hR hZ hH hS hc1 hc2 hc3 hL hcl hcs
  obtain ⟨n, rfl⟩ := Int.eq_ofNat_of_zero_le hx.1
  refine lv_i2c hX.1 hX.2.1 hdg ?_ h
  rw [pk_char]
  have e1 : (Int32.ofInt (n : Int)).toBitVec.toNat = n := pk_tn (n := n) (by omega)
  rw [e1, Nat.mod_eq_of_lt (by omega)]
  rfl
theorem ax_i2b {x : Int} (hdg : decode I.2.1 pc = .ok (.i2b, 1)) (hx : 0 ≤ x ∧ x < 256) (hp : pc + 1 = pc') (kk : ax_W E l d kc ks I pc' ls (.inl (if x < 128 then x else x - 256) :: st) S M Q) : ax_W E l d kc ks I pc ls (.inl x :: st) S M Q := by
  subst hp
  intro p e R s m args below meth c mc ms Z H locs cells slots lc hX hR hZ hH hS hc1 hc2 hc3 hL hcl hcs
  have hb : ax_can (if x < 128 then x else x - 256) := by unfold ax_can; split <;> omega
  have h := kk p e R s m args below meth c mc ms Z H locs cells slots lc hX hR hZ hH hS hc1 hc2 hc3 hL hcl (ax_cs_cons (show ax_cv (.inl _) from hb) (ax_cs_tail hcs))
  refine lv_i2b hX.1 hX.2.1 hdg ?_ h
  rw [← Int32.toInt_inj, Int8.toInt_toInt32, Int32.toInt_toInt8, ax_ofInt (show ax_can x from ⟨by omega, by omega⟩), ax_ofInt hb, Int.bmod_def]
  split <;> split <;> omega
theorem ax_invS {index n i kc1 ks1 : Nat} {Y : ax_I} {a : Int} {Q1 : ax_Post} (av rest : List ax_V) (hdg : decode I.2.1 pc = .ok (.invokevirtual index, 3)) (L : ax_MVS I.1.cls index Y n) (hi : i < 30) (ha : a = -(3 + (i : Int))) (hst : st = av.reverse ++ .inr a :: rest) (hn : av.length = n) (hr : rest.length ≤ 8) (hM : ax_M E l d kc1 ks1 Y (.inr a :: av) S M Q1) (hp : pc + 3 = pc')
    (kk : ∀ (v : Option ax_V) (S' : List ax_Cell) (M' : ax_Mem), Q1 v S' M' → ax_co v → ax_rt Y.2.2.2 v → ax_cm M' → ax_W E l (d + 1) kc ks I pc' ls (v.toList ++ rest) S' M' Q) : ax_W E l (d + 1) (kc1 + kc) (ks1 + ks) I pc ls st S M Q := by
  subst hp
  subst hst
  obtain ⟨B, hcn, m1, m2, m3⟩ := L
  obtain ⟨q, hq⟩ : ∃ q, ax_str[i]? = some q := ⟨_, List.getElem?_eq_getElem hi⟩
  intro p e R s m args below meth c mc ms Z H locs cells slots lc hX hR hZ hH hS hk1 hk2 hk3 hL hcl hcs
  refine ax_sized hX hH hS hk3 (fun hz => ?_)
  have hcv : ∀ v ∈ (.inr a :: av), ax_cv v := fun v hv => (List.mem_cons.mp hv).elim (fun e => e ▸ trivial) (fun h => hcs v (List.mem_append_left _ (List.mem_reverse.mpr h)))
  have hrest : ax_cs rest := fun v hv => hcs v (List.mem_append_right _ (List.mem_cons_of_mem _ hv))
  have hq0 : ax_v E (.inr a) = .ref (ax_sk E i) := ax_rf_s hi ha
  have hts := hX.2.2.2.2.2.1
  have hrecv : ∃ cell : Cell, H[ax_sk E i]? = some cell ∧ cell.vm.isStatics = false ∧ s.vm.findClass Y.1.cls = some cell.cls := by
    obtain ⟨cell, h1, h2, h3, -⟩ := (hX.2.2.2.2.2.2.2.2.2.2.2.1 i _ hq).2.1.kept hS.2.1
    exact ⟨cell, h1, h2, by rw [hcn]; exact h3⟩
  refine ax_go1 (va_runV (C := Y.1.cls) (b := ax_sk E i) (As := av.map (ax_v E)) (rest := rest.map (ax_v E)) ⟨hX.1, hX.2.1, hX.2.2.1, hX.2.2.2.2.1, hts⟩ (hM hcv) (cwV n hts (goodIn_app (fun w hw => ?_) (ax_wd_good B)) rfl rfl rfl ⟨rfl, B.2.2.1⟩ ⟨hR.1, ?_⟩) ⟨ax_Pc_blind, hrecv, fun U hU hW => ?_⟩ rfl (by rw [List.length_map]; exact hn) hL.1 ?_ ?_ hdg ⟨?_, ?_⟩) hS (fun v S' M' H1 locs1 hq1 hlen hco hrt hR1 hS1 => ?_)
  · simp only [List.mem_cons, List.not_mem_nil, or_false] at hw
    rcases hw with rfl | rfl | rfl | rfl
    · exact ax_gd_in _ m1
    · exact ax_gd_in _ m2
    · exact ax_gd_in _ m3
    · exact ax_gd_in _ B.1
  · have := B.2.2.2
    have := hR.2.1
    show 8 + (Y.2.2.1 + 11) + 60 * d ≤ R.locals
    omega
  · rw [← hq0, ← List.map_cons]
    exact ax_Pc_at hX hH hS hz hU hW
  · show (av.reverse ++ .inr a :: rest).map (ax_v E) = _
    rw [List.map_append, List.map_reverse, List.map_cons, hq0]
  · show 2 * 0 + _ ≤ 8
    rw [ax_cat_sum]
    omega
  · have := hR.2.2.1
    omega
  · have := hR.2.2.2
    omega
  · have h := kk v S' M' hq1 hco hrt hR1.2 p e R s m args below meth c mc ms Z H1 locs1 (cells + kc1) (slots + ks1) lc hX hR hZ hR1 hS1 (by omega) (by omega) (by omega) hL hcl (fun w hw => (List.mem_append.mp hw).elim (fun h => hco w (by simpa using h)) (hrest w))
    rw [List.map_append] at h
    cases v <;> exact h
end AXS
