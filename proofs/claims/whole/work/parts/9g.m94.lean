/-! the law from its entry -/
set_option maxRecDepth 20000 in
theorem law_start (E : ax_Env) (l : Launch) (d : Nat) (hd : 60 ≤ d) (Q : ax_Post) (hx : ax_xl E ≤ 3072) (hQ : ∀ S M, Q (some (.inl 1)) S M) : ax_W E l (d + 1) 351 101828 iL_law 0 [some (.inr (-2)), none, none, none] [] (SN 0) (fun _ _ => 0) Q := by
  refine ax_new (I := iL_law) (kc := 350) (ks := 101811) (n := 0) dL_law_0 nlL_7 (SN_len 0 (Nat.le_of_ble_eq_true rfl)) (pc' := 3) rfl ?_
  refine ax_reC (S2 := SN 1) (SN_push h0_0) ?_
  refine ax_dup dL_law_3 (pc' := 4) rfl ?_
  refine ax_ini (I := iL_law) (kc1 := 329) (ks1 := 34763) (kc := 21) (ks := 67048) [] [.inr 0] dL_law_4 mlL_9 (by decide) rfl rfl (by decide) (c_X11_0 E l d (by omega) _) (pc' := 7) rfl (fun vv SS MM hq _ _ _ => ?_)
  obtain ⟨rfl, rfl, rfl⟩ := hq
  refine ax_reT (st2 := [.inr 0]) rfl ?_
  refine ax_astore_n dL_law_7 rfl (by decide) (ls' := [some (.inr (-2)), some (.inr 0), none, none]) rfl (pc' := 8) rfl ?_
  refine ax_new (I := iL_law) (kc := 20) (ks := 67003) (n := 330) dL_law_8 nlL_10 (SN_len 330 (Nat.le_of_ble_eq_true rfl)) (pc' := 11) rfl ?_
  refine ax_reC (S2 := SN 331) (SN_push h0_330) ?_
  refine ax_dup dL_law_11 (pc' := 12) rfl ?_
  refine ax_ini (I := iL_law) (kc1 := 20) (ks1 := 67003) (kc := 0) (ks := 0) [] [.inr 330] dL_law_12 mlL_12 (by decide) rfl rfl (by decide) (c_X12_330 E l d (by omega) _) (pc' := 15) rfl (fun vv SS MM hq _ _ _ => ?_)
  obtain ⟨rfl, rfl, rfl⟩ := hq
  refine ax_reT (st2 := [.inr 330]) rfl ?_
  refine ax_astore_n dL_law_15 rfl (by decide) (ls' := [some (.inr (-2)), some (.inr 0), some (.inr 330), none]) rfl (pc' := 16) rfl ?_
  refine ax_iconst dL_law_16 (by decide) (pc' := 17) rfl ?_
  refine ax_istore_n dL_law_17 rfl (by decide) (ls' := [some (.inr (-2)), some (.inr 0), some (.inr 330), some (.inl 0)]) rfl (pc' := 18) rfl ?_
  refine ax_toSH ?_
  exact law_loop E l d hd Q hx hQ (ax_xl E + 1) 0 f_m0 (by omega) (by decide) f_INV_0
def q_tm (i : Nat) : Term := .string (ax_str.getD i ("", 0, "")).1 (ax_str.getD i ("", 0, "")).2.1
def q_val (i : Nat) : Term := .field (q_tm i) "java/lang/String" "value" "[B"
def q_wd (i : Nat) : List Cond := Cond.exactly (q_tm i) "java/lang/String" :: Cond.eq (.field (q_tm i) "java/lang/String" "coder" "B") (.int 0) :: Cond.arrayOf (q_val i) .byte :: Cond.eq (.length (q_val i)) (.int (Int32.ofNat (ax_sbyt.getD i []).length)) :: (List.range (ax_sbyt.getD i []).length).map fun j => Cond.eq (.elem (q_val i) (.int (Int32.ofNat j))) (.int ((ax_sbyt.getD i []).getD j 0))
set_option maxRecDepth 100000 in
theorem q_flat : (flatC (Jvm.Cond.and given_1 narrow_1)).drop 48 = (List.range 30).flatMap q_wd := by decide +kernel
theorem q_flat_in {i : Nat} (hi : i < 30) {w : Cond} (hw : w ∈ q_wd i) : w ∈ flatC (Jvm.Cond.and given_1 narrow_1) := List.mem_of_mem_drop (i := 48) (by rw [q_flat]; exact List.mem_flatMap.mpr ⟨i, List.mem_range.mpr hi, hw⟩)
set_option maxRecDepth 100000 in
theorem q_flat_cs : Cond.eq (.static "java/lang/String" "COMPACT_STRINGS" "Z") (.int 1) ∈ flatC (Jvm.Cond.and given_1 narrow_1) := by decide +kernel
set_option maxRecDepth 100000 in
theorem q_flat_fm : Cond.isRef (.static "jdk/internal/util/Preconditions" "SIOOBE_FORMATTER" "Ljava/util/function/BiFunction;") ∈ flatC (Jvm.Cond.and given_1 narrow_1) := by decide +kernel
theorem q_sref : ∀ q ∈ ax_str, Cond.stringRef q.1 q.2.1 q.2.2 ∈ lw_tbl := by decide +kernel
theorem q_nest : ∀ q ∈ ax_nest, Cond.methodLinkNest q.1 q.2.1 q.2.2.1 q.2.2.2 ∈ lw_tbl := by decide +kernel
theorem q_over : ∀ C ∈ [RX7, RX9, RX3], Cond.arrayOver (.object C) ∈ lw_tbl := by decide +kernel
theorem q_sblen : ∀ i : Fin 30, (ax_sbyt.getD i.val []).length < 2 ^ 31 := by decide +kernel
theorem q_arr {s : State} {args : Array Value} (h : (Cond.arrayClass .int).before args s = true) : ∃ cA : ClassId, ArrOfT s cA .int ∧ va_RA s cA .int := by
  obtain ⟨cA, kA, comp, h1, h2, h3⟩ := Cond.arrayClass_spec h
  exact ⟨cA, fun N z => ⟨(fun k h => by cases h), kA, h2, comp, h3⟩, h1⟩
theorem q_aro {s : State} {args : Array Value} {C : String} (h : (Cond.arrayOver (.object C)).before args s = true) : ∃ cA : ClassId, ArrOfT s cA (.object C) ∧ va_RA s cA (.object C) := by
  obtain ⟨comp, cA, kA, h1, h2, h3, h4, h5⟩ := Cond.arrayOver_spec h
  exact ⟨cA, fun N z => ⟨(fun k h => by cases h), kA, h3, comp, h4⟩, kA, comp, h3, h4, h1, h5⟩
theorem q_str {s : State} {args : Array Value} {A : Nat → Prop} (hA : ∀ a : Nat, a < s.heap.size → ¬ A a) (hts : ∀ w ∈ lw_tbl, w.before args s = true) (hgv : (Jvm.Cond.and given_1 narrow_1).before args s = true) :
    ∃ sk sv : Nat → Nat, ∀ (i : Nat) (q : String × Nat × String), ax_str[i]? = some q → vk_R q.1 q.2.1 q.2.2 (sk i) s ∧ va_O "java/lang/String" (sk i) A s s.heap ∧ va_OF "java/lang/String" "coder" "B" (.int 0) (sk i) A s s.heap ∧ va_OF "java/lang/String" "value" "[B" (.ref (sv i)) (sk i) A s s.heap ∧ va_T .byte (sv i) ((ax_sbyt.getD i []).length) (fun j => .int ((ax_sbyt.getD i []).getD j 0)) A s s.heap := by
  have hf := flat_of_before _ hgv
  have h0 : ∀ i : Nat, ∃ r : Nat × Nat, ∀ q : String × Nat × String, ax_str[i]? = some q → vk_R q.1 q.2.1 q.2.2 r.1 s ∧ va_O "java/lang/String" r.1 A s s.heap ∧ va_OF "java/lang/String" "coder" "B" (.int 0) r.1 A s s.heap ∧ va_OF "java/lang/String" "value" "[B" (.ref r.2) r.1 A s s.heap ∧ va_T .byte r.2 ((ax_sbyt.getD i []).length) (fun j => .int ((ax_sbyt.getD i []).getD j 0)) A s s.heap := by
    intro i
    cases hs : ax_str[i]? with
    | none => exact ⟨(0, 0), fun q h => by cases h⟩
    | some q0 =>
      have hi : i < 30 := (List.getElem?_eq_some_iff.mp hs).1
      have he : ax_str.getD i ("", 0, "") = q0 := by rw [List.getD_eq_getElem?_getD, hs]; rfl
      have hw : ∀ w ∈ q_wd i, w.before args s = true := fun w h => hf w (q_flat_in hi h)
      have w1 : (Cond.exactly (q_tm i) "java/lang/String").before args s = true := hw _ (by unfold q_wd; exact List.mem_cons_self)
      have w2 : (Cond.eq (.field (q_tm i) "java/lang/String" "coder" "B") (.int 0)).before args s = true := hw _ (by unfold q_wd; exact List.mem_cons_of_mem _ List.mem_cons_self)
      have w3 : (Cond.arrayOf (q_val i) .byte).before args s = true := hw _ (by unfold q_wd; exact List.mem_cons_of_mem _ (List.mem_cons_of_mem _ List.mem_cons_self))
      have w4 : (Cond.eq (.length (q_val i)) (.int (Int32.ofNat (ax_sbyt.getD i []).length))).before args s = true := hw _ (by unfold q_wd; exact List.mem_cons_of_mem _ (List.mem_cons_of_mem _ (List.mem_cons_of_mem _ List.mem_cons_self)))
      have w5 : ∀ j : Nat, j < (ax_sbyt.getD i []).length → (Cond.eq (.elem (q_val i) (.int (Int32.ofNat j))) (.int ((ax_sbyt.getD i []).getD j 0))).before args s = true := fun j hj => hw _ (by
        unfold q_wd
        exact List.mem_cons_of_mem _ (List.mem_cons_of_mem _ (List.mem_cons_of_mem _ (List.mem_cons_of_mem _ (List.mem_map.mpr ⟨j, List.mem_range.mpr hj, rfl⟩)))))
      obtain ⟨a, c, cA, kA, q1, q2, q3, q4, q5, q6, -⟩ := Cond.exactly_spec (args := args) (first := s) (o := none) (s := s) (idx := []) (t := q_tm i) (cls := "java/lang/String") w1
      obtain ⟨t, ht, hT⟩ := va_Tof (f := fun j => .int ((ax_sbyt.getD i []).getD j 0)) (A := A) (q_sblen ⟨i, hi⟩) w3 (va_eqt w4) (fun j hj => va_eqt (w5 j hj)) hA
      refine ⟨(a, t), fun q hq => ?_⟩
      cases hq
      refine ⟨vk_R.of (hts _ (q_sref _ (List.mem_of_getElem? hs))) ?_, ⟨cA, q3, q5, by rw [q6]; exact q2, hA a (Array.getElem?_eq_some_iff.mp q3).1⟩, vk_OFof q1 (va_eqt w2) hA, vk_OFof q1 ht hA, hT⟩
      unfold q_tm at q1
      rw [he] at q1
      exact q1
  obtain ⟨ad, had⟩ := Classical.axiomOfChoice h0
  exact ⟨fun i => (ad i).1, fun i => (ad i).2, fun i q hq => had i q hq⟩
theorem q_fmt {s : State} {args : Array Value} {A : Nat → Prop} (hA : ∀ a : Nat, a < s.heap.size → ¬ A a) (hts : ∀ w ∈ lw_tbl, w.before args s = true) (hgv : (Jvm.Cond.and given_1 narrow_1).before args s = true) : ∃ fm : Option Nat, va_Z "jdk/internal/util/Preconditions" "SIOOBE_FORMATTER" "Ljava/util/function/BiFunction;" (va_rf fm) A s s.heap := by
  rcases va_Zqof (A := A) (hts (.laysStatic "jdk/internal/util/Preconditions" "SIOOBE_FORMATTER" "Ljava/util/function/BiFunction;") (by decide +kernel)) (hts (.initialized "jdk/internal/util/Preconditions") (by decide +kernel)) (flat_of_before _ hgv _ q_flat_fm) hA with h | ⟨t, h⟩
  · exact ⟨none, h⟩
  · exact ⟨some t, h⟩
theorem q_cls {s : State} {args : Array Value} (hts : ∀ w ∈ lw_tbl, w.before args s = true) : ∃ (dC : Nat → ClassId) (dI : Nat → Nat → Nat), ∀ (k : Nat) (q : vw_C), vwCl[k]? = some q → u_Kn s q.1 q.2.1 q.2.2 (dC k) (dI k) := by
  obtain ⟨qc0, qi0, hn0⟩ := u_known (C := RX0) (T := TX0) (N := 1) (n := 1) hts inX0 (hts (.instantiable RX0 1) (by decide +kernel))
  obtain ⟨qc1, qi1, hn1⟩ := u_known (C := RX1) (T := TX1) (N := 7) (n := 7) hts inX1 (hts (.instantiable RX1 7) (by decide +kernel))
  obtain ⟨qc2, qi2, hn2⟩ := u_known (C := RX2) (T := TX2) (N := 7) (n := 7) hts inX2 (hts (.instantiable RX2 7) (by decide +kernel))
  obtain ⟨qc3, qi3, hn3⟩ := u_known (C := RX3) (T := TX3) (N := 3) (n := 3) hts inX3 (hts (.instantiable RX3 3) (by decide +kernel))
  obtain ⟨qc4, qi4, hn4⟩ := u_known (C := RX4) (T := TX4) (N := 9) (n := 9) hts inX4 (hts (.instantiable RX4 9) (by decide +kernel))
  obtain ⟨qc5, qi5, hn5⟩ := u_known (C := RX5) (T := TX5) (N := 5) (n := 5) hts inX5 (hts (.instantiable RX5 5) (by decide +kernel))
  obtain ⟨qc6, qi6, hn6⟩ := u_known (C := RX6) (T := TX6) (N := 5) (n := 5) hts inX6 (hts (.instantiable RX6 5) (by decide +kernel))
  obtain ⟨qc7, qi7, hn7⟩ := u_known (C := RX7) (T := TX7) (N := 8) (n := 8) hts inX7 (hts (.instantiable RX7 8) (by decide +kernel))
  obtain ⟨qc8, qi8, hn8⟩ := u_known (C := RX8) (T := TX8) (N := 9) (n := 9) hts inX8 (hts (.instantiable RX8 9) (by decide +kernel))
  obtain ⟨qc9, qi9, hn9⟩ := u_known (C := RX9) (T := TX9) (N := 7) (n := 7) hts inX9 (hts (.instantiable RX9 7) (by decide +kernel))
  obtain ⟨qc10, qi10, hn10⟩ := u_known (C := RX10) (T := TX10) (N := 6) (n := 6) hts inX10 (hts (.instantiable RX10 6) (by decide +kernel))
  obtain ⟨qc11, qi11, hn11⟩ := u_known (C := RX11) (T := TX11) (N := 17) (n := 17) hts inX11 (hts (.instantiable RX11 17) (by decide +kernel))
  obtain ⟨qc12, qi12, hn12⟩ := u_known (C := RX12) (T := TX12) (N := 45) (n := 45) hts inX12 (hts (.instantiable RX12 45) (by decide +kernel))
  refine ⟨fun k => [qc0, qc1, qc2, qc3, qc4, qc5, qc6, qc7, qc8, qc9, qc10, qc11, qc12].getD k qc0, fun k => [qi0, qi1, qi2, qi3, qi4, qi5, qi6, qi7, qi8, qi9, qi10, qi11, qi12].getD k qi0, ?_⟩
  intro k q hq
  match k, hq with
  | 0, hq => cases hq; exact hn0
  | 1, hq => cases hq; exact hn1
  | 2, hq => cases hq; exact hn2
  | 3, hq => cases hq; exact hn3
  | 4, hq => cases hq; exact hn4
  | 5, hq => cases hq; exact hn5
  | 6, hq => cases hq; exact hn6
  | 7, hq => cases hq; exact hn7
  | 8, hq => cases hq; exact hn8
  | 9, hq => cases hq; exact hn9
  | 10, hq => cases hq; exact hn10
  | 11, hq => cases hq; exact hn11
  | 12, hq => cases hq; exact hn12
  | k + 13, hq => simp at hq
/-- all that the start says, of one surrounding -/
theorem q_env {s : State} {b L : Nat} {xs : Nat → Int32} {args : Array Value} (hts : ∀ w ∈ lw_tbl, w.before args s = true) (hgv : (Jvm.Cond.and given_1 narrow_1).before args s = true) (hX : va_X b L xs s s.heap) (hbl : b < s.heap.size) : ∃ E : ax_Env, ax_b E = s.heap.size ∧ ax_xb E = b ∧ ax_xl E = L ∧ ax_K E s s.heap := by
  have hA : ∀ a : Nat, a < s.heap.size → ¬ (fun q : Nat => s.heap.size ≤ q) a := fun a h => Nat.not_le.mpr h
  obtain ⟨dC, dI, hC⟩ := q_cls hts
  obtain ⟨a0, ha0⟩ := q_arr (hts (.arrayClass .int) (by decide +kernel))
  obtain ⟨a1, ha1⟩ := q_aro (hts _ (q_over RX7 (by decide)))
  obtain ⟨a2, ha2⟩ := q_aro (hts _ (q_over RX9 (by decide)))
  obtain ⟨a3, ha3⟩ := q_aro (hts _ (q_over RX3 (by decide)))
  obtain ⟨sk, sv, hs⟩ := q_str hA hts hgv
  obtain ⟨fm, hf⟩ := q_fmt hA hts hgv
  refine ⟨((dC, dI), fun k => [a0, a1, a2, a3].getD k a0, s.heap.size, sk, sv, b, L, xs, fm), rfl, rfl, rfl, ⟨hC, fun k q hq => ?_⟩, fun q hq => va_Nw.of rfl (hts _ (q_nest q hq)), fun C hC2 => va_AO.of (hts _ (q_over C hC2)), hs, hX, hbl, Nat.le_refl _, va_Zof (hts (.laysStatic "java/lang/String" "COMPACT_STRINGS" "Z") (by decide +kernel)) (hts (.initialized "java/lang/String") (by decide +kernel)) (va_eqi (flat_of_before _ hgv _ q_flat_cs)) hA, hf⟩
  match k, hq with
  | 0, hq => cases hq; exact ha0
  | 1, hq => cases hq; exact ha1
  | 2, hq => cases hq; exact ha2
  | 3, hq => cases hq; exact ha3
  | k + 4, hq => simp [ax_tys] at hq
