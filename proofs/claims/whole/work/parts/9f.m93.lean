/-! the start -/
def f_m0 : ax_Mem := f_mX12_330 (ax_row (f_mX11_0 (ax_row (fun _ _ => 0) 0 (ax_zero 11))) 330 (ax_zero 12))
def f_w0 : Int → Int := (f_up (f_up (f_up (f_up (f_up (f_up (f_up (f_up (f_up (f_up (f_up (f_up (fun _ => 0) 2564 3) 2570 2) 2565 3) 2571 2) 2566 3) 2572 2) 2567 3) 2573 2) 2568 3) 2574 2) 2569 3) 2575 2)
theorem f_w0_o {i : Int} (h : i < 2564 ∨ 2576 ≤ i) : f_w0 i = 0 := by
  unfold f_w0
  rw [f_up_o (by omega), f_up_o (by omega), f_up_o (by omega), f_up_o (by omega), f_up_o (by omega), f_up_o (by omega), f_up_o (by omega), f_up_o (by omega), f_up_o (by omega), f_up_o (by omega), f_up_o (by omega), f_up_o (by omega)]
theorem f_w0_t : ∀ k : Fin 6, f_w0 (2564 + (k.val : Int)) = 3 ∧ f_w0 (2570 + (k.val : Int)) = 2 := by decide +kernel
theorem f_w0_k {k : Int} (h : 0 ≤ k ∧ k < 6) : f_w0 (2564 + k) = 3 ∧ f_w0 (2570 + k) = 2 := by
  have e := f_w0_t ⟨k.toNat, by omega⟩
  have e2 : ((k.toNat : Nat) : Int) = k := by omega
  have e3 : f_w0 (2564 + ((k.toNat : Nat) : Int)) = 3 ∧ f_w0 (2570 + ((k.toNat : Nat) : Int)) = 2 := e
  rw [e2] at e3
  exact e3
theorem f_m0_331 : f_m0 331 = f_w0 := by
  funext i
  unfold f_m0 f_mX12_330 f_w0
  simp [ax_up, ax_row, f_up]
theorem f_m0_332 : f_m0 332 = fun _ => 0 := by
  funext i
  unfold f_m0 f_mX12_330
  simp [ax_up, ax_row]
theorem f_m0_339 : f_m0 339 = fun _ => 0 := by
  funext i
  unfold f_m0 f_mX12_330
  simp [ax_up, ax_row]
set_option maxRecDepth 100000 in
theorem f_m0_59 : f_m0 59 = fun _ => 0 := by
  funext i
  rfl
theorem f_m0_s : (f_m0 330 4 = 0 ∧ f_m0 330 5 = 0 ∧ f_m0 330 17 = 0 ∧ f_m0 330 24 = 0 ∧ f_m0 330 26 = -1 ∧ f_m0 330 21 = 0) ∧ (f_m0 58 1 = 0 ∧ f_m0 58 2 = 0 ∧ f_m0 58 3 = -1 ∧ f_m0 0 12 = 0 ∧ f_m0 0 13 = 0) ∧ (f_m0 1 0 = 0 ∧ f_m0 1 1 = 0 ∧ f_m0 1 2 = 0 ∧ f_m0 1 3 = 0) ∧ f_m0 41 0 = 0 ∧ f_m0 39 6 = 0 ∧ f_m0 39 8 = 0 := by decide +kernel
theorem f_m0_t : ∀ k : Fin 6, f_m0 2 (k.val : Int) = 3 ∧ f_m0 3 (k.val : Int) = 2 := by decide +kernel
theorem f_m0_r : ∀ k : Fin 8, f_m0 (1 + 4 + 4 * (k.val : Int)) 0 = 0 := by decide +kernel
theorem f_m0_l : ∀ k : Fin 3, f_m0 (39 + 13 + 2 * (k.val : Int)) 0 = 0 ∧ f_m0 (39 + 13 + 2 * (k.val : Int)) 1 = 0 := by decide +kernel
theorem f_m0_h : ∀ k : Fin 4, f_m0 48 (k.val : Int) = 0 := by decide +kernel
theorem f_m0_p : ∀ k : Fin 5, f_m0 92 (k.val : Int) = 93 + 36 * (k.val : Int) := by decide +kernel
theorem f_ofF {n : Nat} {P : Int → Prop} (h : ∀ k : Fin n, P (k.val : Int)) : ∀ k : Int, 0 ≤ k → k < (n : Int) → P k := by
  intro k k1 k2
  have e := h ⟨k.toNat, by omega⟩
  have e2 : ((k.toNat : Nat) : Int) = k := by omega
  have e3 : P ((k.toNat : Nat) : Int) := e
  rw [e2] at e3
  exact e3
def f_lk : Bool := (List.range 351).all fun a => match SH[a]? with
  | some c => (List.range c.2.2.length).all fun k => match c.2.2.getD k none with
    | some v => f_m0 (a : Int) (k : Int) == v
    | none => true
  | none => true
set_option maxRecDepth 100000 in
theorem f_lk_ok : f_lk = true := by decide +kernel
theorem SH_len : SH.length = 351 := by decide +kernel
theorem f_lk_at {a : Nat} {c : ax_Cell} (h : SH[a]? = some c) (k : Nat) (v : Int) (hv : c.2.2.getD k none = some v) : f_m0 (a : Int) (k : Int) = v := by
  have h1 := f_lk_ok
  unfold f_lk at h1
  have ha : a < 351 := by
    have := (List.getElem?_eq_some_iff.mp h).1
    rw [SH_len] at this
    exact this
  have h2 := List.all_eq_true.mp h1 a (List.mem_range.mpr ha)
  rw [h] at h2
  have hk : k < c.2.2.length := by
    rcases Nat.lt_or_ge k c.2.2.length with q | q
    · exact q
    · rw [List.getD_eq_getElem?_getD, List.getElem?_eq_none q] at hv
      cases hv
  have h3 := List.all_eq_true.mp h2 k (List.mem_range.mpr hk)
  rw [hv] at h3
  exact beq_iff_eq.mp h3
theorem f_ws_eq (E : ax_Env) : ax_ws E (SN 351) f_m0 = ax_ws E SH f_m0 := by
  apply List.ext_getElem?
  intro k
  have hS : SN 351 = SH.map fun c => (c.1, c.2.1, []) := by
    unfold SN
    rw [← SH0_len, List.take_length]
    rfl
  simp only [ax_ws, List.getElem?_mapIdx]
  rw [hS, List.getElem?_map]
  match e : SH[k]? with
  | none => rfl
  | some c =>
    obtain ⟨c1, c2, c3⟩ := c
    have hv : ∀ j : Nat, ax_val (c1, c2, []) (f_m0 (k : Int)) j = ax_val (c1, c2, c3) (f_m0 (k : Int)) j := by
      intro j
      show f_m0 (k : Int) (j : Int) = (c3.getD j none).getD (f_m0 (k : Int) (j : Int))
      match e2 : c3.getD j none with
      | none => rfl
      | some v => exact f_lk_at e j v e2
    have hv2 : ax_val (c1, c2, []) (f_m0 (k : Int)) = ax_val (c1, c2, c3) (f_m0 (k : Int)) := funext hv
    show some (ax_b E + k, ax_ce E (c1, c2, []) (f_m0 (k : Int))) = some (ax_b E + k, ax_ce E (c1, c2, c3) (f_m0 (k : Int)))
    unfold ax_ce
    simp only [hv2]
theorem ax_toSH {E : ax_Env} {l : Launch} {d kc ks : Nat} {I : ax_I} {pc : Nat} {ls : List (Option ax_V)} {st : List ax_V} {Q : ax_Post} (kk : ax_W E l d kc ks I pc ls st SH f_m0 Q) : ax_W E l d kc ks I pc ls st (SN 351) f_m0 Q := by
  intro p e R s m args below meth c mc ms Z H locs cells slots lc hX hR hZ hH hS hc1 hc2 hc3 hL hcl hcs
  have hl : (SN 351).length = SH.length := by
    have := SN_len 351 (Nat.le_refl _)
    rw [SH_len]
    omega
  refine kk p e R s m args below meth c mc ms Z H locs cells slots lc hX hR hZ ⟨?_, hH.2⟩ hS hc1 hc2 (by rw [← hl]; exact hc3) hL hcl hcs
  rw [← f_ws_eq]
  exact hH.1
theorem f_INV_0 : f_INV f_m0 := by
  obtain ⟨⟨s1, s2, s3, s4, s5, s6⟩, ⟨t1, t2, t3, t4, t5⟩, ⟨u1, u2, u3, u4⟩, v1, v2, v3⟩ := f_m0_s
  have hR : ∀ r f, 0 ≤ r → r < 8 → 0 ≤ f → f < 8 → f_R f_w0 r f = 0 := fun r f r1 r2 f1 f2 => f_w0_o (by omega)
  have hmp : f_mp f_w0 := by
    refine ⟨fun r r1 r2 => ?_, fun r p f r1 r2 p1 p2 f1 f2 => ?_, ?_, fun r r1 r2 => ?_⟩
    · rw [hR r 0 r1 r2 (by decide) (by decide), hR r 1 r1 r2 (by decide) (by decide)]
      exact ⟨Or.inl rfl, by decide, by decide⟩
    · have e : f_P f_w0 r p f = 0 := f_w0_o (by omega)
      rw [e]
      exact ⟨fun _ => by decide, fun _ _ => by decide, fun _ => by decide⟩
    · rw [f_w0_o (by omega), f_w0_o (by omega)]
      exact ⟨by decide, by decide, by decide⟩
    · rw [hR r 4 r1 r2 (by decide) (by decide), hR r 0 r1 r2 (by decide) (by decide)]
      exact ⟨by decide, fun q => absurd q (by decide)⟩
  have hjv : f_jv (fun _ => []) f_w0 := by
    refine f_jv_mk hmp (fun k k1 k2 => ?_) (fun k k1 k2 => ?_)
    · rw [(f_w0_k ⟨k1, k2⟩).1]
      decide
    · rw [f_w0_o (by omega)]
      refine ⟨by decide, ?_⟩
      show 16 * k = 16 * k + f_w0 (2634 + k)
      rw [f_w0_o (by omega), Int.add_zero]
  have hlq : f_lq f_w0 := by
    refine ⟨⟨?_, fun x a b => ?_⟩, fun x a b => ?_, fun k a b => ⟨?_, fun x c d => ?_⟩, ?_, ?_, fun i a b => ?_⟩
    · rw [f_w0_o (by omega)]; decide
    · rw [f_w0_o (by omega)] at b
      omega
    · rw [f_w0_o (by omega)] at b
      omega
    · rw [f_w0_o (by omega)]; decide
    · rw [f_w0_o (by omega)] at d
      omega
    · rw [f_w0_o (by omega)]; decide
    · rw [f_w0_o (by omega)]; decide
    · rw [f_w0_o (by omega)] at b
      omega
  have hwm : f_wm f_m0 1 f_w0 := by
    refine ⟨⟨?_, ?_, ?_, ?_⟩, fun k k1 k2 => ?_, fun i i1 i2 => ⟨?_, fun q => ?_⟩⟩
    · rw [u1, f_w0_o (by omega)]
    · rw [u2, f_w0_o (by omega)]
    · rw [u3, f_w0_o (by omega)]
    · rw [u4, f_w0_o (by omega)]
    · have e := f_ofF (P := fun k => f_m0 2 k = 3 ∧ f_m0 3 k = 2) f_m0_t k k1 k2
      have e2 := f_w0_k ⟨k1, k2⟩
      exact ⟨e.1.trans e2.1.symm, e.2.trans e2.2.symm⟩
    · rw [hR i 0 i1 i2 (by decide) (by decide)]
      exact f_ofF (P := fun k => f_m0 (1 + 4 + 4 * k) 0 = 0) f_m0_r i i1 i2
    · rw [hR i 0 i1 i2 (by decide) (by decide)] at q
      exact absurd q (by decide)
  have hbk : f_bk f_m0 38 f_w0 := by
    intro x a b
    rw [f_w0_o (by omega)] at b
    omega
  have hlor : f_lor f_m0 39 f_w0 (fun _ => []) := by
    refine ⟨fun k k1 k2 => ?_, ⟨?_, fun i a b => ?_⟩, fun k a b => ⟨?_, fun i c d => ?_⟩, ⟨?_, fun i a b => ?_⟩, ⟨?_, fun i a b => ?_⟩⟩
    · have e := f_ofF (P := fun k => f_m0 (39 + 13 + 2 * k) 0 = 0 ∧ f_m0 (39 + 13 + 2 * k) 1 = 0) f_m0_l k k1 k2
      exact ⟨e.1, e.2, (show (0 : Nat) ≤ 400 by decide), trivial⟩
    · rw [f_w0_o (by omega)]
      exact v1
    · rw [f_w0_o (by omega)] at b
      omega
    · rw [f_w0_o (by omega)]
      exact f_ofF (P := fun k => f_m0 48 k = 0) f_m0_h k a b
    · rw [f_w0_o (by omega)] at d
      omega
    · rw [f_w0_o (by omega)]
      exact v2
    · rw [f_w0_o (by omega)] at b
      omega
    · rw [f_w0_o (by omega)]
      exact v3
    · rw [f_w0_o (by omega)] at b
      omega
  have hpp : f_pp (f_m0 92) := by
    have e := f_ofF (n := 5) (P := fun k => f_m0 92 k = 93 + 36 * k) f_m0_p
    refine ⟨fun k a b => ?_, fun k j a b c d q => ?_⟩
    · rw [e k a b]
      unfold f_pw
      omega
    · rw [e k a b, e j c d] at q
      omega
  exact f_INV_mk (Ls := fun _ => []) (Lk := fun _ => []) (w := f_w0) (kp := fun _ => 0) (bk := f_m0 333) (ta := fun _ => 0) (m := 0) (im := 0) (tn := 0) (fk := 0) (fp := -1) ⟨⟨⟨hwm, hbk⟩, hjv, hlq⟩, ⟨f_pr_0 t4 hpp, f_hs_0⟩, hlor, ⟨f_m0_59, t1, by decide, f_tp_0⟩, ⟨t2, t3⟩, ⟨t5, Or.inl rfl⟩, fun q => absurd q (by decide), fun i hi => (f_w0_o (by omega)).symm⟩ f_m0_331 f_m0_332 rfl f_m0_339 s1 s2 s3 s4 s5 s6 (by decide)
