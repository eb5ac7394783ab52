/-! laws: what is told as a text, as lines of small programs for a stack -/
abbrev f_Op : Type := Int × Int
def f_both (s a b : Int) : Int := if s = 23 then ax_wr (a + b) else if s = 24 then ax_wr (a - b) else if s = 25 then ax_wr (a * b) else if s = 27 then f_b (a < b) else if s = 28 then f_b (a = b) else if s = 29 then f_b (b < a) else if s = 31 then ax_and a b else ax_or a b
def f_op (F : Int → Int) (o : f_Op) (st : List Int) : List Int :=
  if o.1 < 23 then (if o.1 = 0 then o.2 else F o.1) :: st
  else match st with
    | [] => []
    | x :: tl => if o.1 = 26 then ax_div x o.2 :: tl else if o.1 = 30 then ax_wr (1 - x) :: tl else match tl with
      | [] => []
      | y :: tl2 => f_both o.1 y x :: tl2
def f_run (F : Int → Int) : List f_Op → List Int → List Int
  | [], st => st
  | o :: tl, st => f_run F tl (f_op F o st)
/-- kinds of what lies on the stack: true: truth -/
def f_ty (o : f_Op) (ts : List Bool) : Option (List Bool) :=
  if o.1 < 23 then (if 0 ≤ o.1 ∧ o.1 < 14 ∧ 0 ≤ o.2 ∧ o.2 ≤ 9999 ∧ ts.length < 40 then some (false :: ts) else none)
  else match ts with
    | [] => none
    | x :: tl => if o.1 = 26 then (if x = false ∧ 0 < o.2 ∧ o.2 ≤ 9999 then some (x :: tl) else none) else if o.1 = 30 then (if x = true then some (x :: tl) else none) else match tl with
      | [] => none
      | y :: tl2 => if o.1 = 23 ∨ o.1 = 24 ∨ o.1 = 25 then (if x = false ∧ y = false then some (false :: tl2) else none) else if o.1 = 27 ∨ o.1 = 28 ∨ o.1 = 29 then (if x = false ∧ y = false then some (true :: tl2) else none) else if o.1 = 31 ∨ o.1 = 32 then (if x = true ∧ y = true then some (true :: tl2) else none) else none
def f_tys : List f_Op → List Bool → Option (List Bool)
  | [], ts => some ts
  | o :: tl, ts => (f_ty o ts).bind (f_tys tl)
/-- a stack is of these kinds -/
def f_mt : List Int → List Bool → Prop
  | [], [] => True
  | v :: st, t :: ts => (t = true → v = 0 ∨ v = 1) ∧ f_mt st ts
  | _, _ => False
/-- a row holds a stack, the lowest first -/
def f_pil (pl : Int → Int) : List Int → Prop
  | [] => True
  | v :: st => pl st.length = v ∧ f_pil pl st
/-- the row holds this code from here on -/
def f_cd (w : Int → Int) : Int → List f_Op → Prop
  | _, [] => True
  | x, o :: tl => w x = o.1 ∧ w (x + 1) = o.2 ∧ f_cd w (x + 2) tl
theorem f_mt_len : ∀ {st : List Int} {ts : List Bool}, f_mt st ts → st.length = ts.length
  | [], [], _ => rfl
  | _ :: st, _ :: ts, h => congrArg (· + 1) (f_mt_len h.2)
  | [], _ :: _, h => False.elim h
  | _ :: _, [], h => False.elim h
theorem f_pil_up {pl : Int → Int} {v : Int} : ∀ {st : List Int} {x : Int}, (st.length : Int) ≤ x → f_pil pl st → f_pil (f_up pl x v) st
  | [], _, _, _ => trivial
  | u :: st, x, hx, h => by
    simp only [List.length_cons] at hx
    refine ⟨?_, f_pil_up (by omega) h.2⟩
    unfold f_up
    rw [if_neg (by omega)]
    exact h.1
theorem f_pil_push {pl : Int → Int} {v x : Int} {st : List Int} (hx : (st.length : Int) = x) (h : f_pil pl st) : f_pil (f_up pl x v) (v :: st) := by
  refine ⟨?_, f_pil_up (by omega) h⟩
  unfold f_up
  rw [if_pos hx]
theorem ax_and_01 {a b : Int} (ha : a = 0 ∨ a = 1) (hb : b = 0 ∨ b = 1) : ax_and a b = 0 ∨ ax_and a b = 1 := by
  rcases ha with rfl | rfl <;> rcases hb with rfl | rfl <;> decide
theorem ax_or_01 {a b : Int} (ha : a = 0 ∨ a = 1) (hb : b = 0 ∨ b = 1) : ax_or a b = 0 ∨ ax_or a b = 1 := by
  rcases ha with rfl | rfl <;> rcases hb with rfl | rfl <;> decide
theorem ax_wr_not {a : Int} (ha : a = 0 ∨ a = 1) : ax_wr (1 - a) = 0 ∨ ax_wr (1 - a) = 1 := by
  rcases ha with rfl | rfl <;> decide
theorem f_ty_psh {o : f_Op} {ts t2 : List Bool} (h : o.1 < 23) (e : f_ty o ts = some t2) : (0 ≤ o.1 ∧ o.1 < 14 ∧ 0 ≤ o.2 ∧ o.2 ≤ 9999 ∧ ts.length < 40) ∧ t2 = false :: ts := by
  unfold f_ty at e
  rw [if_pos h] at e
  split at e
  · rename_i hh
    cases e
    exact ⟨hh, rfl⟩
  · cases e
theorem f_ty_prt {o : f_Op} {ts t2 : List Bool} (h : o.1 = 26) (e : f_ty o ts = some t2) : ∃ tl, ts = false :: tl ∧ t2 = false :: tl ∧ 0 < o.2 ∧ o.2 ≤ 9999 := by
  unfold f_ty at e
  rw [if_neg (by omega)] at e
  match ts, e with
  | [], e => cases e
  | x :: tl, e =>
    simp only [] at e
    rw [if_pos h] at e
    split at e
    · rename_i hh
      cases e
      rw [hh.1]
      exact ⟨tl, rfl, rfl, hh.2⟩
    · cases e
theorem f_ty_not {o : f_Op} {ts t2 : List Bool} (h : o.1 = 30) (e : f_ty o ts = some t2) : ∃ tl, ts = true :: tl ∧ t2 = true :: tl := by
  unfold f_ty at e
  rw [if_neg (by omega)] at e
  match ts, e with
  | [], e => cases e
  | x :: tl, e =>
    simp only [] at e
    rw [if_neg (by omega), if_pos h] at e
    split at e
    · rename_i hh
      cases e
      rw [hh]
      exact ⟨tl, rfl, rfl⟩
    · cases e
theorem f_ty_bin {o : f_Op} {ts t2 : List Bool} (h1 : ¬ o.1 < 23) (h2 : ¬ o.1 = 26) (h3 : ¬ o.1 = 30) (e : f_ty o ts = some t2) : ∃ x y z tl, ts = x :: y :: tl ∧ t2 = z :: tl ∧ ((o.1 = 23 ∨ o.1 = 24 ∨ o.1 = 25) ∧ z = false ∨ (o.1 = 27 ∨ o.1 = 28 ∨ o.1 = 29) ∧ z = true ∨ (o.1 = 31 ∨ o.1 = 32) ∧ x = true ∧ y = true ∧ z = true) := by
  unfold f_ty at e
  rw [if_neg h1] at e
  match ts, e with
  | [], e => cases e
  | [x], e =>
    simp only [] at e
    rw [if_neg h2, if_neg h3] at e
    cases e
  | x :: y :: tl, e =>
    simp only [] at e
    rw [if_neg h2, if_neg h3] at e
    split at e
    · rename_i ho
      split at e
      · cases e
        exact ⟨x, y, false, tl, rfl, rfl, Or.inl ⟨ho, rfl⟩⟩
      · cases e
    · split at e
      · rename_i ho
        split at e
        · cases e
          exact ⟨x, y, true, tl, rfl, rfl, Or.inr (Or.inl ⟨ho, rfl⟩)⟩
        · cases e
      · split at e
        · rename_i ho
          split at e
          · rename_i hxy
            cases e
            exact ⟨x, y, true, tl, rfl, rfl, Or.inr (Or.inr ⟨ho, hxy.1, hxy.2, rfl⟩)⟩
          · cases e
        · cases e
theorem f_mt_cons {st : List Int} {t : Bool} {ts : List Bool} (h : f_mt st (t :: ts)) : ∃ x tl, st = x :: tl ∧ (t = true → x = 0 ∨ x = 1) ∧ f_mt tl ts := by
  match st, h with
  | [], h => exact False.elim h
  | x :: tl, h => exact ⟨x, tl, rfl, h.1, h.2⟩
theorem f_op_psh {F : Int → Int} {o : f_Op} {st : List Int} (h : o.1 < 23) : f_op F o st = (if o.1 = 0 then o.2 else F o.1) :: st := by
  unfold f_op
  rw [if_pos h]
theorem f_op_prt {F : Int → Int} {o : f_Op} {x : Int} {tl : List Int} (h : o.1 = 26) : f_op F o (x :: tl) = ax_div x o.2 :: tl := by
  unfold f_op
  rw [if_neg (by omega)]
  simp only []
  rw [if_pos h]
theorem f_op_not {F : Int → Int} {o : f_Op} {x : Int} {tl : List Int} (h : o.1 = 30) : f_op F o (x :: tl) = ax_wr (1 - x) :: tl := by
  unfold f_op
  rw [if_neg (by omega)]
  simp only []
  rw [if_neg (by omega), if_pos h]
theorem f_op_bin {F : Int → Int} {o : f_Op} {x y : Int} {tl : List Int} (h1 : ¬ o.1 < 23) (h2 : ¬ o.1 = 26) (h3 : ¬ o.1 = 30) : f_op F o (x :: y :: tl) = f_both o.1 y x :: tl := by
  unfold f_op
  rw [if_neg h1]
  simp only []
  rw [if_neg h2, if_neg h3]
theorem f_both_tr {s a b : Int} (h : (s = 27 ∨ s = 28 ∨ s = 29) ∨ (s = 31 ∨ s = 32) ∧ (a = 0 ∨ a = 1) ∧ (b = 0 ∨ b = 1)) : f_both s a b = 0 ∨ f_both s a b = 1 := by
  unfold f_both
  rcases h with (rfl | rfl | rfl) | ⟨rfl | rfl, ha, hb⟩
  · exact f_b_01 _
  · exact f_b_01 _
  · exact f_b_01 _
  · exact ax_and_01 ha hb
  · exact ax_or_01 ha hb
theorem f_mt_op {F : Int → Int} {o : f_Op} {st : List Int} {ts t2 : List Bool} (e : f_ty o ts = some t2) (h : f_mt st ts) : f_mt (f_op F o st) t2 := by
  by_cases h1 : o.1 < 23
  · obtain ⟨-, rfl⟩ := f_ty_psh h1 e
    rw [f_op_psh h1]
    exact ⟨fun hh => (by cases hh), h⟩
  · by_cases h2 : o.1 = 26
    · obtain ⟨tl, rfl, rfl, -⟩ := f_ty_prt h2 e
      obtain ⟨x, sl, rfl, -, hm⟩ := f_mt_cons h
      rw [f_op_prt h2]
      exact ⟨fun hh => (by cases hh), hm⟩
    · by_cases h3 : o.1 = 30
      · obtain ⟨tl, rfl, rfl⟩ := f_ty_not h3 e
        obtain ⟨x, sl, rfl, hx, hm⟩ := f_mt_cons h
        rw [f_op_not h3]
        exact ⟨fun _ => ax_wr_not (hx rfl), hm⟩
      · obtain ⟨x, y, z, tl, rfl, rfl, hz⟩ := f_ty_bin h1 h2 h3 e
        obtain ⟨u, sl, rfl, hu, hm⟩ := f_mt_cons h
        obtain ⟨v, sl2, rfl, hv, hm2⟩ := f_mt_cons hm
        rw [f_op_bin h1 h2 h3]
        refine ⟨fun hh => ?_, hm2⟩
        rcases hz with ⟨-, hz⟩ | ⟨ho, -⟩ | ⟨ho, hx, hy, -⟩
        · rw [hz] at hh
          cases hh
        · exact f_both_tr (Or.inl ho)
        · exact f_both_tr (Or.inr ⟨ho, hv hy, hu hx⟩)
def f_val (F : Int → Int) (ops : List f_Op) : Int := (f_run F ops []).headD 0
set_option maxRecDepth 20000 in
theorem s_X12_both (E : ax_Env) (l : Launch) (d : Nat) (hd : 0 ≤ d) (M : ax_Mem) (s a b : Int) : ax_G E l d iX12_both [.inl s, .inl a, .inl b] M (fun z0 M2 => z0 = some (.inl (f_both s a b)) ∧ M = M2) := by
  refine ax_start rfl (Nat.le_of_ble_eq_true rfl) (ls := [some (.inl s), some (.inl a), some (.inl b)]) rfl (fun hav hcm => ?_)
  have hc0 : -2147483648 ≤ s ∧ s < 2147483648 := hav (.inl s) (by simp)
  have hc1 : -2147483648 ≤ a ∧ a < 2147483648 := hav (.inl a) (by simp)
  have hc2 : -2147483648 ≤ b ∧ b < 2147483648 := hav (.inl b) (by simp)
  clear hav
  refine ax_iload_n dX12_both_0 rfl rfl (pc' := 1) rfl ?_
  by_cases h1_23 : s = 23
  · refine ax_reS (st2 := [.inl 23]) (by rw [h1_23]) ?_
    refine ax_tabIn (tgt := 52) dX12_both_1 (by decide) (by decide) rfl (by decide) ?_
    refine ax_iload_n dX12_both_52 rfl rfl (pc' := 53) rfl ?_
    refine ax_iload_n dX12_both_53 rfl rfl (pc' := 54) rfl ?_
    refine ax_iaddw dX12_both_54 (pc' := 55) rfl ?_
    refine ax_iret dX12_both_55 rfl ?_
    refine ⟨rfl, ?_, ?_⟩
    · refine congrArg (fun z => some (Sum.inl z)) ?_
      unfold f_both f_b
      repeat' split
      all_goals first | rfl | omega | (exfalso; omega)
    · rfl
  by_cases h1_24 : s = 24
  · refine ax_reS (st2 := [.inl 24]) (by rw [h1_24]) ?_
    refine ax_tabIn (tgt := 56) dX12_both_1 (by decide) (by decide) rfl (by decide) ?_
    refine ax_iload_n dX12_both_56 rfl rfl (pc' := 57) rfl ?_
    refine ax_iload_n dX12_both_57 rfl rfl (pc' := 58) rfl ?_
    refine ax_isubw dX12_both_58 (pc' := 59) rfl ?_
    refine ax_iret dX12_both_59 rfl ?_
    refine ⟨rfl, ?_, ?_⟩
    · refine congrArg (fun z => some (Sum.inl z)) ?_
      unfold f_both f_b
      repeat' split
      all_goals first | rfl | omega | (exfalso; omega)
    · rfl
  by_cases h1_25 : s = 25
  · refine ax_reS (st2 := [.inl 25]) (by rw [h1_25]) ?_
    refine ax_tabIn (tgt := 60) dX12_both_1 (by decide) (by decide) rfl (by decide) ?_
    refine ax_iload_n dX12_both_60 rfl rfl (pc' := 61) rfl ?_
    refine ax_iload_n dX12_both_61 rfl rfl (pc' := 62) rfl ?_
    refine ax_imulw dX12_both_62 (pc' := 63) rfl ?_
    refine ax_iret dX12_both_63 rfl ?_
    refine ⟨rfl, ?_, ?_⟩
    · refine congrArg (fun z => some (Sum.inl z)) ?_
      unfold f_both f_b
      repeat' split
      all_goals first | rfl | omega | (exfalso; omega)
    · rfl
  by_cases h1_26 : s = 26
  · refine ax_reS (st2 := [.inl 26]) (by rw [h1_26]) ?_
    refine ax_tabIn (tgt := 101) dX12_both_1 (by decide) (by decide) rfl (by decide) ?_
    refine ax_iload_n dX12_both_101 rfl rfl (pc' := 102) rfl ?_
    refine ax_iload_n dX12_both_102 rfl rfl (pc' := 103) rfl ?_
    refine ax_ior dX12_both_103 (pc' := 104) rfl ?_
    refine ax_iret dX12_both_104 rfl ?_
    refine ⟨rfl, ?_, ?_⟩
    · refine congrArg (fun z => some (Sum.inl z)) ?_
      unfold f_both f_b
      repeat' split
      all_goals first | rfl | omega | (exfalso; omega)
    · rfl
  by_cases h1_27 : s = 27
  · refine ax_reS (st2 := [.inl 27]) (by rw [h1_27]) ?_
    refine ax_tabIn (tgt := 64) dX12_both_1 (by decide) (by decide) rfl (by decide) ?_
    refine ax_iload_n dX12_both_64 rfl rfl (pc' := 65) rfl ?_
    refine ax_iload_n dX12_both_65 rfl rfl (pc' := 66) rfl ?_
    refine ax_icmp_ge (tgt := 73) dX12_both_66 (by decide) (pc' := 69) rfl (fun h66 => ?_) (fun h66 => ?_)
    · refine ax_iconst dX12_both_73 (by decide) (pc' := 74) rfl ?_
      refine ax_iret dX12_both_74 rfl ?_
      refine ⟨rfl, ?_, ?_⟩
      · refine congrArg (fun z => some (Sum.inl z)) ?_
        unfold f_both f_b
        repeat' split
        all_goals first | rfl | omega | (exfalso; omega)
      · rfl
    · refine ax_iconst dX12_both_69 (by decide) (pc' := 70) rfl ?_
      refine ax_goto dX12_both_70 (pc' := 74) (by decide) ?_
      refine ax_iret dX12_both_74 rfl ?_
      refine ⟨rfl, ?_, ?_⟩
      · refine congrArg (fun z => some (Sum.inl z)) ?_
        unfold f_both f_b
        repeat' split
        all_goals first | rfl | omega | (exfalso; omega)
      · rfl
  by_cases h1_28 : s = 28
  · refine ax_reS (st2 := [.inl 28]) (by rw [h1_28]) ?_
    refine ax_tabIn (tgt := 75) dX12_both_1 (by decide) (by decide) rfl (by decide) ?_
    refine ax_iload_n dX12_both_75 rfl rfl (pc' := 76) rfl ?_
    refine ax_iload_n dX12_both_76 rfl rfl (pc' := 77) rfl ?_
    refine ax_icmp_ne (tgt := 84) dX12_both_77 (by decide) (pc' := 80) rfl (fun h77 => ?_) (fun h77 => ?_)
    · refine ax_iconst dX12_both_84 (by decide) (pc' := 85) rfl ?_
      refine ax_iret dX12_both_85 rfl ?_
      refine ⟨rfl, ?_, ?_⟩
      · refine congrArg (fun z => some (Sum.inl z)) ?_
        unfold f_both f_b
        repeat' split
        all_goals first | rfl | omega | (exfalso; omega)
      · rfl
    · refine ax_iconst dX12_both_80 (by decide) (pc' := 81) rfl ?_
      refine ax_goto dX12_both_81 (pc' := 85) (by decide) ?_
      refine ax_iret dX12_both_85 rfl ?_
      refine ⟨rfl, ?_, ?_⟩
      · refine congrArg (fun z => some (Sum.inl z)) ?_
        unfold f_both f_b
        repeat' split
        all_goals first | rfl | omega | (exfalso; omega)
      · rfl
  by_cases h1_29 : s = 29
  · refine ax_reS (st2 := [.inl 29]) (by rw [h1_29]) ?_
    refine ax_tabIn (tgt := 86) dX12_both_1 (by decide) (by decide) rfl (by decide) ?_
    refine ax_iload_n dX12_both_86 rfl rfl (pc' := 87) rfl ?_
    refine ax_iload_n dX12_both_87 rfl rfl (pc' := 88) rfl ?_
    refine ax_icmp_le (tgt := 95) dX12_both_88 (by decide) (pc' := 91) rfl (fun h88 => ?_) (fun h88 => ?_)
    · refine ax_iconst dX12_both_95 (by decide) (pc' := 96) rfl ?_
      refine ax_iret dX12_both_96 rfl ?_
      refine ⟨rfl, ?_, ?_⟩
      · refine congrArg (fun z => some (Sum.inl z)) ?_
        unfold f_both f_b
        repeat' split
        all_goals first | rfl | omega | (exfalso; omega)
      · rfl
    · refine ax_iconst dX12_both_91 (by decide) (pc' := 92) rfl ?_
      refine ax_goto dX12_both_92 (pc' := 96) (by decide) ?_
      refine ax_iret dX12_both_96 rfl ?_
      refine ⟨rfl, ?_, ?_⟩
      · refine congrArg (fun z => some (Sum.inl z)) ?_
        unfold f_both f_b
        repeat' split
        all_goals first | rfl | omega | (exfalso; omega)
      · rfl
  by_cases h1_30 : s = 30
  · refine ax_reS (st2 := [.inl 30]) (by rw [h1_30]) ?_
    refine ax_tabIn (tgt := 101) dX12_both_1 (by decide) (by decide) rfl (by decide) ?_
    refine ax_iload_n dX12_both_101 rfl rfl (pc' := 102) rfl ?_
    refine ax_iload_n dX12_both_102 rfl rfl (pc' := 103) rfl ?_
    refine ax_ior dX12_both_103 (pc' := 104) rfl ?_
    refine ax_iret dX12_both_104 rfl ?_
    refine ⟨rfl, ?_, ?_⟩
    · refine congrArg (fun z => some (Sum.inl z)) ?_
      unfold f_both f_b
      repeat' split
      all_goals first | rfl | omega | (exfalso; omega)
    · rfl
  by_cases h1_31 : s = 31
  · refine ax_reS (st2 := [.inl 31]) (by rw [h1_31]) ?_
    refine ax_tabIn (tgt := 97) dX12_both_1 (by decide) (by decide) rfl (by decide) ?_
    refine ax_iload_n dX12_both_97 rfl rfl (pc' := 98) rfl ?_
    refine ax_iload_n dX12_both_98 rfl rfl (pc' := 99) rfl ?_
    refine ax_iand dX12_both_99 (pc' := 100) rfl ?_
    refine ax_iret dX12_both_100 rfl ?_
    refine ⟨rfl, ?_, ?_⟩
    · refine congrArg (fun z => some (Sum.inl z)) ?_
      unfold f_both f_b
      repeat' split
      all_goals first | rfl | omega | (exfalso; omega)
    · rfl
  refine ax_tabOut (tgt := 101) dX12_both_1 (by omega) (by decide) ?_
  refine ax_iload_n dX12_both_101 rfl rfl (pc' := 102) rfl ?_
  refine ax_iload_n dX12_both_102 rfl rfl (pc' := 103) rfl ?_
  refine ax_ior dX12_both_103 (pc' := 104) rfl ?_
  refine ax_iret dX12_both_104 rfl ?_
  refine ⟨rfl, ?_, ?_⟩
  · refine congrArg (fun z => some (Sum.inl z)) ?_
    unfold f_both f_b
    repeat' split
    all_goals first | rfl | omega | (exfalso; omega)
  · rfl
set_option maxRecDepth 20000 in
theorem s_X12_comesTo (E : ax_Env) (l : Launch) (d : Nat) (hd : 1 ≤ d) (M : ax_Mem) (k b e : Int) (ops : List f_Op) (tt : Bool) {w : Int → Int} (hw : M 331 = w) {pl : Int → Int} (hpl : M 340 = pl) {F : Int → Int} (hF : M 341 = F) (hg0 : 0 ≤ k ∧ k < 3) (hg1 : 0 ≤ b ∧ b + (ops.length : Int) = e ∧ e ≤ 410) (hg2 : f_cd w (4434 + 820 * k + 2 * b) ops) (hg3 : f_tys ops [] = some [tt]) : ax_G E l d iX12_comesTo [.inr 330, .inl k, .inl b, .inl e] M (fun z0 M2 => z0 = some (.inl (f_val F ops)) ∧ (∀ x0 i0 : Int, ¬ (x0 = 340) → M2 x0 i0 = M x0 i0) ∧ (tt = true → f_val F ops = 0 ∨ f_val F ops = 1)) := by
  obtain ⟨d, rfl⟩ : ∃ d0, d = d0 + 1 := ⟨d - 1, by omega⟩
  refine ax_start rfl (Nat.le_of_ble_eq_true rfl) (ls := [some (.inr 330), some (.inl k), some (.inl b), some (.inl e), none, none, none, none]) rfl (fun hav hcm => ?_)
  have hc1 : -2147483648 ≤ k ∧ k < 2147483648 := hav (.inl k) (by simp)
  have hc2 : -2147483648 ≤ b ∧ b < 2147483648 := hav (.inl b) (by simp)
  have hc3 : -2147483648 ≤ e ∧ e < 2147483648 := hav (.inl e) (by simp)
  clear hav
  refine ax_iconst dX12_comesTo_0 (by decide) (pc' := 1) rfl ?_
  refine ax_istore dX12_comesTo_1 (by decide) (ls' := [some (.inr 330), some (.inl k), some (.inl b), some (.inl e), some (.inl 0), none, none, none]) rfl (pc' := 3) rfl ?_
  refine ax_iload_n dX12_comesTo_3 rfl rfl (pc' := 4) rfl ?_
  refine ax_istore dX12_comesTo_4 (by decide) (ls' := [some (.inr 330), some (.inl k), some (.inl b), some (.inl e), some (.inl 0), some (.inl b), none, none]) rfl (pc' := 6) rfl ?_
  have LP1 : ∀ (kq2 : Nat) (i top : Int) (pv : Int → Int) (rem : List f_Op) (st : List Int) (ts : List Bool) (M1 : ax_Mem) (hm1 : e - i < (kq2 : Nat)) (fr1 : ∀ x0 i0 : Int, ¬ (x0 = 340) → M1 x0 i0 = M x0 i0) (mr1_340 : M1 340 = pv) (iv1_0 : b ≤ i ∧ i + (rem.length : Int) = e ∧ top = (st.length : Int) ∧ st.length ≤ 40) (iv1_1 : f_cd w (4434 + 820 * k + 2 * i) rem) (iv1_2 : f_tys rem ts = some [tt]) (iv1_3 : f_mt st ts) (iv1_4 : f_pil pv st) (iv1_5 : f_run F rem st = f_run F ops []), ax_W E l (d + 1) 0 0 iX12_comesTo 6 [some (.inr 330), some (.inl k), some (.inl b), some (.inl e), some (.inl top), some (.inl i), none, none] [] SH M1 (ax_P (fun z0 M2 => z0 = some (.inl (f_val F ops)) ∧ (∀ x0 i0 : Int, ¬ (x0 = 340) → M2 x0 i0 = M x0 i0) ∧ (tt = true → f_val F ops = 0 ∨ f_val F ops = 1))) := by
    intro kq2
    induction kq2 with
    | zero =>
      intro i top pv rem st ts M1 hm1 fr1 mr1_340 iv1_0 iv1_1 iv1_2 iv1_3 iv1_4 iv1_5
      exfalso
      omega
    | succ kq2 ih3 =>
      intro i top pv rem st ts M1 hm1 fr1 mr1_340 iv1_0 iv1_1 iv1_2 iv1_3 iv1_4 iv1_5
      refine ax_iload dX12_comesTo_6 rfl (pc' := 8) rfl ?_
      refine ax_iload_n dX12_comesTo_8 rfl rfl (pc' := 9) rfl ?_
      refine ax_icmp_ge (tgt := 186) dX12_comesTo_9 (by decide) (pc' := 12) rfl (fun h9 => ?_) (fun h9 => ?_)
      · obtain rfl : rem = [] := by
          cases rem with
          | nil => rfl
          | cons x y => simp only [List.length_cons] at *; omega
        obtain rfl : ts = [tt] := Option.some.inj iv1_2
        obtain ⟨x9, tl9, rfl, qx1, qx2⟩ := f_mt_cons iv1_3
        obtain rfl : tl9 = [] := by
          cases tl9 with
          | nil => rfl
          | cons x y => exact False.elim qx2
        have qx3 : f_val F ops = x9 := by
          unfold f_val
          rw [← iv1_5]
          rfl
        have qx4 : pv 0 = x9 := iv1_4.1
        refine ax_aload_n dX12_comesTo_186 rfl rfl (pc' := 187) rfl ?_
        refine ax_getr (v := 340) dX12_comesTo_187 flX12_37 rfl sh_330 rfl (pc' := 190) rfl ?_
        refine ax_iconst dX12_comesTo_190 (by decide) (pc' := 191) rfl ?_
        refine ax_iald (v := pv 0) dX12_comesTo_191 sh_340 rfl (by omega) (by omega) ((congrFun mr1_340 0).trans rfl) (pc' := 192) rfl ?_
        refine ax_iret dX12_comesTo_192 rfl ?_
        refine ⟨rfl, ?_, ?_, ?_⟩
        · refine congrArg (fun z => some (Sum.inl z)) ?_
          rw [qx3]
          exact qx4
        · intro x0 i0 hai
          exact ((fr1 x0 i0 (by omega)).trans rfl)
        · intro he
          rw [qx3]
          exact qx1 he
      · obtain ⟨o2, rem2, rfl⟩ : ∃ x y, rem = x :: y := by
          cases rem with
          | nil => simp only [List.length_nil] at *; omega
          | cons x y => exact ⟨x, y, rfl⟩
        have qc : w (4434 + 820 * k + 2 * i) = o2.1 ∧ w (4434 + 820 * k + 2 * i + 1) = o2.2 ∧ f_cd w (4434 + 820 * k + 2 * i + 2) rem2 := iv1_1
        obtain ⟨ts2, qt1, qt2⟩ : ∃ z, f_ty o2 ts = some z ∧ f_tys rem2 z = some [tt] := Option.bind_eq_some_iff.mp iv1_2
        simp only [List.length_cons] at *
        refine ax_aload_n dX12_comesTo_12 rfl rfl (pc' := 13) rfl ?_
        refine ax_getr (v := 331) dX12_comesTo_13 flX12_7 rfl sh_330 rfl (pc' := 16) rfl ?_
        refine ax_sipush dX12_comesTo_16 (by decide) (pc' := 19) rfl ?_
        refine ax_sipush dX12_comesTo_19 (by decide) (pc' := 22) rfl ?_
        refine ax_iload_n dX12_comesTo_22 rfl rfl (pc' := 23) rfl ?_
        refine ax_imul dX12_comesTo_23 (by omega) (pc' := 24) rfl ?_
        refine ax_iadd dX12_comesTo_24 (by omega) (pc' := 25) rfl ?_
        refine ax_iconst dX12_comesTo_25 (by decide) (pc' := 26) rfl ?_
        refine ax_iload dX12_comesTo_26 rfl (pc' := 28) rfl ?_
        refine ax_imul dX12_comesTo_28 (by omega) (pc' := 29) rfl ?_
        refine ax_iadd dX12_comesTo_29 (by omega) (pc' := 30) rfl ?_
        refine ax_iald (v := w (4434 + (820 * k) + (2 * i))) dX12_comesTo_30 sh_331 rfl (by omega) (by omega) ((congrFun ((funext fun i0 => fr1 331 i0 (by omega)).trans hw) (4434 + (820 * k) + (2 * i))).trans rfl) (pc' := 31) rfl ?_
        refine ax_reS (st2 := [.inl o2.1]) (congrArg (fun z => Sum.inl z :: _) (by exact qc.1)) ?_
        refine ax_istore dX12_comesTo_31 (by decide) (ls' := [some (.inr 330), some (.inl k), some (.inl b), some (.inl e), some (.inl top), some (.inl i), some (.inl o2.1), none]) rfl (pc' := 33) rfl ?_
        refine ax_aload_n dX12_comesTo_33 rfl rfl (pc' := 34) rfl ?_
        refine ax_getr (v := 331) dX12_comesTo_34 flX12_7 rfl sh_330 rfl (pc' := 37) rfl ?_
        refine ax_sipush dX12_comesTo_37 (by decide) (pc' := 40) rfl ?_
        refine ax_sipush dX12_comesTo_40 (by decide) (pc' := 43) rfl ?_
        refine ax_iload_n dX12_comesTo_43 rfl rfl (pc' := 44) rfl ?_
        refine ax_imul dX12_comesTo_44 (by omega) (pc' := 45) rfl ?_
        refine ax_iadd dX12_comesTo_45 (by omega) (pc' := 46) rfl ?_
        refine ax_iconst dX12_comesTo_46 (by decide) (pc' := 47) rfl ?_
        refine ax_iload dX12_comesTo_47 rfl (pc' := 49) rfl ?_
        refine ax_imul dX12_comesTo_49 (by omega) (pc' := 50) rfl ?_
        refine ax_iadd dX12_comesTo_50 (by omega) (pc' := 51) rfl ?_
        refine ax_iconst dX12_comesTo_51 (by decide) (pc' := 52) rfl ?_
        refine ax_iadd dX12_comesTo_52 (by omega) (pc' := 53) rfl ?_
        refine ax_iald (v := w (4434 + (820 * k) + (2 * i) + 1)) dX12_comesTo_53 sh_331 rfl (by omega) (by omega) ((congrFun ((funext fun i0 => fr1 331 i0 (by omega)).trans hw) (4434 + (820 * k) + (2 * i) + 1)).trans rfl) (pc' := 54) rfl ?_
        refine ax_reS (st2 := [.inl o2.2]) (congrArg (fun z => Sum.inl z :: _) (by exact qc.2.1)) ?_
        refine ax_istore dX12_comesTo_54 (by decide) (ls' := [some (.inr 330), some (.inl k), some (.inl b), some (.inl e), some (.inl top), some (.inl i), some (.inl o2.1), some (.inl o2.2)]) rfl (pc' := 56) rfl ?_
        refine ax_iload dX12_comesTo_56 rfl (pc' := 58) rfl ?_
        refine ax_bipush dX12_comesTo_58 (by decide) (pc' := 60) rfl ?_
        refine ax_icmp_ge (tgt := 93) dX12_comesTo_60 (by decide) (pc' := 63) rfl (fun h60 => ?_) (fun h60 => ?_)
        · refine ax_iload dX12_comesTo_93 rfl (pc' := 95) rfl ?_
          refine ax_bipush dX12_comesTo_95 (by decide) (pc' := 97) rfl ?_
          refine ax_icmp_ne (tgt := 117) dX12_comesTo_97 (by decide) (pc' := 100) rfl (fun h97 => ?_) (fun h97 => ?_)
          · refine ax_iload dX12_comesTo_117 rfl (pc' := 119) rfl ?_
            refine ax_bipush dX12_comesTo_119 (by decide) (pc' := 121) rfl ?_
            refine ax_icmp_ne (tgt := 147) dX12_comesTo_121 (by decide) (pc' := 124) rfl (fun h121 => ?_) (fun h121 => ?_)
            · obtain ⟨x7, y7, z7, tl8, qe1, -, -⟩ := f_ty_bin (by omega) h97 h121 qt1
              obtain ⟨x8, sl7, qe2, -, qm⟩ := f_mt_cons (qe1 ▸ iv1_3)
              obtain ⟨y8, sl8, qe3, -, -⟩ := f_mt_cons qm
              rw [qe3] at qe2
              have qo : f_op F o2 st = f_both o2.1 y8 x8 :: sl8 := by rw [qe2]; exact f_op_bin (F := F) (x := x8) (y := y8) (tl := sl8) (by omega) h97 h121
              have qpp : f_pil pv (x8 :: y8 :: sl8) := qe2 ▸ iv1_4
              have qs := qpp.2.2
              have ql : st.length = sl8.length + 1 + 1 := by rw [qe2]; rfl
              have qp : pv (top + (-1)) = x8 := by rw [show top + (-1) = ((sl8.length + 1 : Nat) : Int) by omega]; exact qpp.1
              have qp2 : pv (top + (-1) - 1) = y8 := by rw [show top + (-1) - 1 = (sl8.length : Int) by omega]; exact qpp.2.1
              refine ax_iinc dX12_comesTo_147 rfl (by decide) (by omega) (ls' := [some (.inr 330), some (.inl k), some (.inl b), some (.inl e), some (.inl (top + (-1))), some (.inl i), some (.inl o2.1), some (.inl o2.2)]) rfl (pc' := 150) rfl ?_
              refine ax_aload_n dX12_comesTo_150 rfl rfl (pc' := 151) rfl ?_
              refine ax_getr (v := 340) dX12_comesTo_151 flX12_37 rfl sh_330 rfl (pc' := 154) rfl ?_
              refine ax_iload dX12_comesTo_154 rfl (pc' := 156) rfl ?_
              refine ax_iconst dX12_comesTo_156 (by decide) (pc' := 157) rfl ?_
              refine ax_isub dX12_comesTo_157 (by omega) (pc' := 158) rfl ?_
              refine ax_iload dX12_comesTo_158 rfl (pc' := 160) rfl ?_
              refine ax_aload_n dX12_comesTo_160 rfl rfl (pc' := 161) rfl ?_
              refine ax_getr (v := 340) dX12_comesTo_161 flX12_37 rfl sh_330 rfl (pc' := 164) rfl ?_
              refine ax_iload dX12_comesTo_164 rfl (pc' := 166) rfl ?_
              refine ax_iconst dX12_comesTo_166 (by decide) (pc' := 167) rfl ?_
              refine ax_isub dX12_comesTo_167 (by omega) (pc' := 168) rfl ?_
              refine ax_iald (v := pv (top + (-1) - 1)) dX12_comesTo_168 sh_340 rfl (by omega) (by omega) ((congrFun mr1_340 (top + (-1) - 1)).trans rfl) (pc' := 169) rfl ?_
              refine ax_reS (st2 := [.inl y8, .inl o2.1, .inl (top + (-1) - 1), .inr 340]) (congrArg (fun z => Sum.inl z :: _) (by exact qp2)) ?_
              refine ax_aload_n dX12_comesTo_169 rfl rfl (pc' := 170) rfl ?_
              refine ax_getr (v := 340) dX12_comesTo_170 flX12_37 rfl sh_330 rfl (pc' := 173) rfl ?_
              refine ax_iload dX12_comesTo_173 rfl (pc' := 175) rfl ?_
              refine ax_iald (v := pv (top + (-1))) dX12_comesTo_175 sh_340 rfl (by omega) (by omega) ((congrFun mr1_340 (top + (-1))).trans rfl) (pc' := 176) rfl ?_
              refine ax_reS (st2 := [.inl x8, .inl y8, .inl o2.1, .inl (top + (-1) - 1), .inr 340]) (congrArg (fun z => Sum.inl z :: _) (by exact qp)) ?_
              refine ax_insG [.inl o2.1, .inl y8, .inl x8] [.inl (top + (-1) - 1), .inr 340] dX12_comesTo_176 mlX12_328 rfl rfl (Nat.le_of_ble_eq_true rfl) (s_X12_both E l _ (by omega) _ o2.1 y8 x8) (pc' := 179) rfl (fun vv M_176 hq co176 hcm176 => ?_)
              obtain ⟨rfl, rfl⟩ := hq
              refine ax_reS (st2 := [.inl (f_both o2.1 y8 x8), .inl (top + (-1) - 1), .inr 340]) rfl ?_
              refine ax_iast dX12_comesTo_179 sh_340 rfl (by omega) (by omega) (pc' := 180) rfl ?_
              refine ax_iinc dX12_comesTo_180 rfl (by decide) (by omega) (ls' := [some (.inr 330), some (.inl k), some (.inl b), some (.inl e), some (.inl (top + (-1))), some (.inl (i + 1)), some (.inl o2.1), some (.inl o2.2)]) rfl (pc' := 183) rfl ?_
              refine ax_goto dX12_comesTo_183 (pc' := 6) (by decide) ?_
              refine ax_less (ls2 := [some (.inr 330), some (.inl k), some (.inl b), some (.inl e), some (.inl (top + (-1))), some (.inl (i + 1)), none, none]) [true, true, true, true, true, true, false, false] rfl ?_
              refine ih3 (i + 1) (top + (-1)) (f_up pv (top + (-1) - 1) (f_both o2.1 y8 x8)) rem2 (f_op F o2 st) ts2 (ax_up M1 340 (top + (-1) - 1) (f_both o2.1 y8 x8)) ?_ ?_ ?_ ?_ ?_ ?_ ?_ ?_ ?_
              · omega
              · intro x0 i0 hai
                exact (ax_up_miss (by omega) ((fr1 x0 i0 (by omega)).trans rfl))
              · exact (ax_up_rowhit mr1_340)
              · rw [qo]
                simp only [List.length_cons]
                omega
              · have qc3 := qc.2.2
                rw [show 4434 + 820 * k + 2 * (i + 1) = 4434 + 820 * k + 2 * i + 2 by omega]
                exact qc3
              · exact qt2
              · exact f_mt_op qt1 iv1_3
              · rw [qo]
                exact f_pil_push (by omega) qs
              · exact iv1_5
            · obtain ⟨tl8, qe1, -⟩ := f_ty_not h121 qt1
              obtain ⟨x8, sl8, qe2, -, -⟩ := f_mt_cons (qe1 ▸ iv1_3)
              have qo : f_op F o2 st = ax_wr (1 - x8) :: sl8 := by rw [qe2]; exact f_op_not (F := F) (x := x8) (tl := sl8) h121
              have qpp : f_pil pv (x8 :: sl8) := qe2 ▸ iv1_4
              have qs := qpp.2
              have ql : st.length = sl8.length + 1 := by rw [qe2]; rfl
              have qp : pv (top - 1) = x8 := by rw [show top - 1 = (sl8.length : Int) by omega]; exact qpp.1
              refine ax_aload_n dX12_comesTo_124 rfl rfl (pc' := 125) rfl ?_
              refine ax_getr (v := 340) dX12_comesTo_125 flX12_37 rfl sh_330 rfl (pc' := 128) rfl ?_
              refine ax_iload dX12_comesTo_128 rfl (pc' := 130) rfl ?_
              refine ax_iconst dX12_comesTo_130 (by decide) (pc' := 131) rfl ?_
              refine ax_isub dX12_comesTo_131 (by omega) (pc' := 132) rfl ?_
              refine ax_iconst dX12_comesTo_132 (by decide) (pc' := 133) rfl ?_
              refine ax_aload_n dX12_comesTo_133 rfl rfl (pc' := 134) rfl ?_
              refine ax_getr (v := 340) dX12_comesTo_134 flX12_37 rfl sh_330 rfl (pc' := 137) rfl ?_
              refine ax_iload dX12_comesTo_137 rfl (pc' := 139) rfl ?_
              refine ax_iconst dX12_comesTo_139 (by decide) (pc' := 140) rfl ?_
              refine ax_isub dX12_comesTo_140 (by omega) (pc' := 141) rfl ?_
              refine ax_iald (v := pv (top - 1)) dX12_comesTo_141 sh_340 rfl (by omega) (by omega) ((congrFun mr1_340 (top - 1)).trans rfl) (pc' := 142) rfl ?_
              refine ax_reS (st2 := [.inl x8, .inl 1, .inl (top - 1), .inr 340]) (congrArg (fun z => Sum.inl z :: _) (by exact qp)) ?_
              refine ax_isubw dX12_comesTo_142 (pc' := 143) rfl ?_
              refine ax_iast dX12_comesTo_143 sh_340 rfl (by omega) (by omega) (pc' := 144) rfl ?_
              refine ax_goto dX12_comesTo_144 (pc' := 180) (by decide) ?_
              refine ax_iinc dX12_comesTo_180 rfl (by decide) (by omega) (ls' := [some (.inr 330), some (.inl k), some (.inl b), some (.inl e), some (.inl top), some (.inl (i + 1)), some (.inl o2.1), some (.inl o2.2)]) rfl (pc' := 183) rfl ?_
              refine ax_goto dX12_comesTo_183 (pc' := 6) (by decide) ?_
              refine ax_less (ls2 := [some (.inr 330), some (.inl k), some (.inl b), some (.inl e), some (.inl top), some (.inl (i + 1)), none, none]) [true, true, true, true, true, true, false, false] rfl ?_
              refine ih3 (i + 1) top (f_up pv (top - 1) (ax_wr (1 - x8))) rem2 (f_op F o2 st) ts2 (ax_up M1 340 (top - 1) (ax_wr (1 - x8))) ?_ ?_ ?_ ?_ ?_ ?_ ?_ ?_ ?_
              · omega
              · intro x0 i0 hai
                exact (ax_up_miss (by omega) ((fr1 x0 i0 (by omega)).trans rfl))
              · exact (ax_up_rowhit mr1_340)
              · rw [qo]
                simp only [List.length_cons]
                omega
              · have qc3 := qc.2.2
                rw [show 4434 + 820 * k + 2 * (i + 1) = 4434 + 820 * k + 2 * i + 2 by omega]
                exact qc3
              · exact qt2
              · exact f_mt_op qt1 iv1_3
              · rw [qo]
                exact f_pil_push (by omega) qs
              · exact iv1_5
          · obtain ⟨tl8, qe1, -, qk1, qk2⟩ := f_ty_prt h97 qt1
            obtain ⟨x8, sl8, qe2, -, -⟩ := f_mt_cons (qe1 ▸ iv1_3)
            have qo : f_op F o2 st = ax_div x8 o2.2 :: sl8 := by rw [qe2]; exact f_op_prt (F := F) (x := x8) (tl := sl8) h97
            have qpp : f_pil pv (x8 :: sl8) := qe2 ▸ iv1_4
            have qs := qpp.2
            have ql : st.length = sl8.length + 1 := by rw [qe2]; rfl
            have qp : pv (top - 1) = x8 := by rw [show top - 1 = (sl8.length : Int) by omega]; exact qpp.1
            refine ax_aload_n dX12_comesTo_100 rfl rfl (pc' := 101) rfl ?_
            refine ax_getr (v := 340) dX12_comesTo_101 flX12_37 rfl sh_330 rfl (pc' := 104) rfl ?_
            refine ax_iload dX12_comesTo_104 rfl (pc' := 106) rfl ?_
            refine ax_iconst dX12_comesTo_106 (by decide) (pc' := 107) rfl ?_
            refine ax_isub dX12_comesTo_107 (by omega) (pc' := 108) rfl ?_
            refine ax_dup2 dX12_comesTo_108 (pc' := 109) rfl ?_
            refine ax_iald (v := pv (top - 1)) dX12_comesTo_109 sh_340 rfl (by omega) (by omega) ((congrFun mr1_340 (top - 1)).trans rfl) (pc' := 110) rfl ?_
            refine ax_reS (st2 := [.inl x8, .inl (top - 1), .inr 340]) (congrArg (fun z => Sum.inl z :: _) (by exact qp)) ?_
            refine ax_iload dX12_comesTo_110 rfl (pc' := 112) rfl ?_
            refine ax_idivw dX12_comesTo_112 (by omega) (pc' := 113) rfl ?_
            refine ax_iast dX12_comesTo_113 sh_340 rfl (by omega) (by omega) (pc' := 114) rfl ?_
            refine ax_goto dX12_comesTo_114 (pc' := 180) (by decide) ?_
            refine ax_iinc dX12_comesTo_180 rfl (by decide) (by omega) (ls' := [some (.inr 330), some (.inl k), some (.inl b), some (.inl e), some (.inl top), some (.inl (i + 1)), some (.inl o2.1), some (.inl o2.2)]) rfl (pc' := 183) rfl ?_
            refine ax_goto dX12_comesTo_183 (pc' := 6) (by decide) ?_
            refine ax_less (ls2 := [some (.inr 330), some (.inl k), some (.inl b), some (.inl e), some (.inl top), some (.inl (i + 1)), none, none]) [true, true, true, true, true, true, false, false] rfl ?_
            refine ih3 (i + 1) top (f_up pv (top - 1) (ax_div x8 o2.2)) rem2 (f_op F o2 st) ts2 (ax_up M1 340 (top - 1) (ax_div x8 o2.2)) ?_ ?_ ?_ ?_ ?_ ?_ ?_ ?_ ?_
            · omega
            · intro x0 i0 hai
              exact (ax_up_miss (by omega) ((fr1 x0 i0 (by omega)).trans rfl))
            · exact (ax_up_rowhit mr1_340)
            · rw [qo]
              simp only [List.length_cons]
              omega
            · have qc3 := qc.2.2
              rw [show 4434 + 820 * k + 2 * (i + 1) = 4434 + 820 * k + 2 * i + 2 by omega]
              exact qc3
            · exact qt2
            · exact f_mt_op qt1 iv1_3
            · rw [qo]
              exact f_pil_push (by omega) qs
            · exact iv1_5
        · obtain ⟨qk, -⟩ := f_ty_psh h60 qt1
          have qo := f_op_psh (F := F) (st := st) h60
          have qs := iv1_4
          have ql := f_mt_len iv1_3
          refine ax_aload_n dX12_comesTo_63 rfl rfl (pc' := 64) rfl ?_
          refine ax_getr (v := 340) dX12_comesTo_64 flX12_37 rfl sh_330 rfl (pc' := 67) rfl ?_
          refine ax_iload dX12_comesTo_67 rfl (pc' := 69) rfl ?_
          refine ax_iload dX12_comesTo_69 rfl (pc' := 71) rfl ?_
          refine ax_if_ne (tgt := 79) dX12_comesTo_71 (by decide) (pc' := 74) rfl (fun h71 => ?_) (fun h71 => ?_)
          · rw [if_neg h71] at qo
            refine ax_aload_n dX12_comesTo_79 rfl rfl (pc' := 80) rfl ?_
            refine ax_getr (v := 341) dX12_comesTo_80 flX12_40 rfl sh_330 rfl (pc' := 83) rfl ?_
            refine ax_iload dX12_comesTo_83 rfl (pc' := 85) rfl ?_
            refine ax_iald (v := F o2.1) dX12_comesTo_85 sh_341 rfl (by omega) (by omega) ((congrFun ((funext fun i0 => fr1 341 i0 (by omega)).trans hF) o2.1).trans rfl) (pc' := 86) rfl ?_
            refine ax_iast dX12_comesTo_86 sh_340 rfl (by omega) (by omega) (pc' := 87) rfl ?_
            refine ax_iinc dX12_comesTo_87 rfl (by decide) (by omega) (ls' := [some (.inr 330), some (.inl k), some (.inl b), some (.inl e), some (.inl (top + 1)), some (.inl i), some (.inl o2.1), some (.inl o2.2)]) rfl (pc' := 90) rfl ?_
            refine ax_goto dX12_comesTo_90 (pc' := 180) (by decide) ?_
            refine ax_iinc dX12_comesTo_180 rfl (by decide) (by omega) (ls' := [some (.inr 330), some (.inl k), some (.inl b), some (.inl e), some (.inl (top + 1)), some (.inl (i + 1)), some (.inl o2.1), some (.inl o2.2)]) rfl (pc' := 183) rfl ?_
            refine ax_goto dX12_comesTo_183 (pc' := 6) (by decide) ?_
            refine ax_less (ls2 := [some (.inr 330), some (.inl k), some (.inl b), some (.inl e), some (.inl (top + 1)), some (.inl (i + 1)), none, none]) [true, true, true, true, true, true, false, false] rfl ?_
            refine ih3 (i + 1) (top + 1) (f_up pv top (F o2.1)) rem2 (f_op F o2 st) ts2 (ax_up M1 340 top (F o2.1)) ?_ ?_ ?_ ?_ ?_ ?_ ?_ ?_ ?_
            · omega
            · intro x0 i0 hai
              exact (ax_up_miss (by omega) ((fr1 x0 i0 (by omega)).trans rfl))
            · exact (ax_up_rowhit mr1_340)
            · rw [qo]
              simp only [List.length_cons]
              omega
            · have qc3 := qc.2.2
              rw [show 4434 + 820 * k + 2 * (i + 1) = 4434 + 820 * k + 2 * i + 2 by omega]
              exact qc3
            · exact qt2
            · exact f_mt_op qt1 iv1_3
            · rw [qo]
              exact f_pil_push (by omega) qs
            · exact iv1_5
          · rw [if_pos h71] at qo
            refine ax_iload dX12_comesTo_74 rfl (pc' := 76) rfl ?_
            refine ax_goto dX12_comesTo_76 (pc' := 86) (by decide) ?_
            refine ax_iast dX12_comesTo_86 sh_340 rfl (by omega) (by omega) (pc' := 87) rfl ?_
            refine ax_iinc dX12_comesTo_87 rfl (by decide) (by omega) (ls' := [some (.inr 330), some (.inl k), some (.inl b), some (.inl e), some (.inl (top + 1)), some (.inl i), some (.inl o2.1), some (.inl o2.2)]) rfl (pc' := 90) rfl ?_
            refine ax_goto dX12_comesTo_90 (pc' := 180) (by decide) ?_
            refine ax_iinc dX12_comesTo_180 rfl (by decide) (by omega) (ls' := [some (.inr 330), some (.inl k), some (.inl b), some (.inl e), some (.inl (top + 1)), some (.inl (i + 1)), some (.inl o2.1), some (.inl o2.2)]) rfl (pc' := 183) rfl ?_
            refine ax_goto dX12_comesTo_183 (pc' := 6) (by decide) ?_
            refine ax_less (ls2 := [some (.inr 330), some (.inl k), some (.inl b), some (.inl e), some (.inl (top + 1)), some (.inl (i + 1)), none, none]) [true, true, true, true, true, true, false, false] rfl ?_
            refine ih3 (i + 1) (top + 1) (f_up pv top o2.2) rem2 (f_op F o2 st) ts2 (ax_up M1 340 top o2.2) ?_ ?_ ?_ ?_ ?_ ?_ ?_ ?_ ?_
            · omega
            · intro x0 i0 hai
              exact (ax_up_miss (by omega) ((fr1 x0 i0 (by omega)).trans rfl))
            · exact (ax_up_rowhit mr1_340)
            · rw [qo]
              simp only [List.length_cons]
              omega
            · have qc3 := qc.2.2
              rw [show 4434 + 820 * k + 2 * (i + 1) = 4434 + 820 * k + 2 * i + 2 by omega]
              exact qc3
            · exact qt2
            · exact f_mt_op qt1 iv1_3
            · rw [qo]
              exact f_pil_push (by omega) qs
            · exact iv1_5
  refine LP1 (e - b : Int).toNat.succ b 0 pl ops ([]) ([]) M ?_ ?_ ?_ ?_ ?_ ?_ ?_ ?_ ?_
  · omega
  · exact fun a i _ => rfl
  · exact hpl
  · exact ⟨Int.le_refl b, hg1.2.1, rfl, by decide⟩
  · exact hg2
  · exact hg3
  · trivial
  · trivial
  · rfl
