/-! shapes as codes -/
theorem ax_and_one (x : Int) : 0 ≤ ax_and x 1 ∧ ax_and x 1 ≤ 1 := by
  unfold ax_and
  have h2 : (Int32.ofInt x &&& Int32.ofInt 1).toBitVec.toNat ≤ 1 := by
    have e : (Int32.ofInt x &&& Int32.ofInt 1).toBitVec = (Int32.ofInt x).toBitVec &&& (Int32.ofInt 1).toBitVec := rfl
    rw [e, BitVec.toNat_and]
    exact Nat.and_le_right
  generalize Int32.ofInt x &&& Int32.ofInt 1 = y at h2 ⊢
  have h3 : y.toInt = y.toBitVec.toInt := rfl
  rw [h3, BitVec.toInt_eq_toNat_of_lt]
  · omega
  · omega
def f_cn8 (s : Int) : Int := f_loop (fun k n => n + f_bit s k) 0 8 0
def f_r3 : List Int → Int
  | [] => 0
  | x :: tl => 3 * f_r3 tl + x
def f_code (L : List Int) : Int := 2187 * (L.length : Int) + f_r3 L.reverse
def f_lt3 (L : List Int) : Prop := ∀ x ∈ L, 0 ≤ x ∧ x ≤ 2
def f_p3 : Nat → Int
  | 0 => 1
  | n + 1 => 3 * f_p3 n
theorem f_p3_8 : ∀ m : Fin 8, 1 ≤ f_p3 m.val ∧ f_p3 m.val ≤ 2187 := by decide
theorem f_p3_7 : ∀ m : Fin 7, 1 ≤ f_p3 m.val ∧ f_p3 m.val ≤ 729 := by decide
theorem f_r3_rg : ∀ {L : List Int}, f_lt3 L → 0 ≤ f_r3 L ∧ f_r3 L < f_p3 L.length
  | [], _ => ⟨Int.le_refl 0, by decide⟩
  | x :: tl, h => by
    have a := f_r3_rg (L := tl) (fun q hq => h q (List.mem_cons_of_mem _ hq))
    have b := h x List.mem_cons_self
    show 0 ≤ 3 * f_r3 tl + x ∧ 3 * f_r3 tl + x < 3 * f_p3 tl.length
    omega
theorem f_r3_le {L : List Int} (h : f_lt3 L) (hl : (L.length : Int) ≤ 7) : 0 ≤ f_r3 L ∧ f_r3 L < 2187 := by
  have a := f_r3_rg h
  have b := f_p3_8 ⟨L.length, by omega⟩
  exact ⟨a.1, Int.lt_of_lt_of_le a.2 b.2⟩
theorem f_lt3_rev {L : List Int} (h : f_lt3 L) : f_lt3 L.reverse := fun x hx => h x (List.mem_reverse.mp hx)
theorem f_code_rg {L : List Int} (h : f_lt3 L) (hl : (L.length : Int) ≤ 7) : f_code L / 2187 = (L.length : Int) ∧ f_code L % 2187 = f_r3 L.reverse ∧ 0 ≤ f_code L ∧ f_code L < 17496 := by
  have a := f_r3_le (f_lt3_rev h) (by rw [List.length_reverse]; exact hl)
  unfold f_code
  omega
abbrev f_Bf : Type := (Int → Int) × (Int → Int) × Int
def f_rch (c step : Int) (s : f_Bf) : f_Bf := if s.1 c = -1 then (f_up s.1 c step, f_up s.2.1 s.2.2 c, s.2.2 + 1) else s
theorem f_fwd_up {pl : Int → Int} {v : Int} : ∀ {st : List Int} {i x : Int}, x < i → f_fwd pl i st → f_fwd (f_up pl x v) i st
  | [], _, _, _, _ => trivial
  | u :: tl, i, x, hx, h => ⟨by unfold f_up; rw [if_neg (by omega)]; exact h.1, f_fwd_up (by omega) h.2⟩
set_option maxRecDepth 20000 in
theorem s_X12_count (E : ax_Env) (l : Launch) (d : Nat) (hd : 0 ≤ d) (M : ax_Mem) (s : Int) : ax_G E l d iX12_count [.inl s] M (fun z0 M2 => z0 = some (.inl (f_cn8 s)) ∧ M = M2 ∧ (0 ≤ f_cn8 s ∧ f_cn8 s ≤ 8)) := by
  refine ax_start rfl (Nat.le_of_ble_eq_true rfl) (ls := [some (.inl s), none, none]) rfl (fun hav hcm => ?_)
  have hc0 : -2147483648 ≤ s ∧ s < 2147483648 := hav (.inl s) (by simp)
  clear hav
  refine ax_iconst dX12_count_0 (by decide) (pc' := 1) rfl ?_
  refine ax_istore_n dX12_count_1 rfl (by decide) (ls' := [some (.inl s), some (.inl 0), none]) rfl (pc' := 2) rfl ?_
  refine ax_iconst dX12_count_2 (by decide) (pc' := 3) rfl ?_
  refine ax_istore_n dX12_count_3 rfl (by decide) (ls' := [some (.inl s), some (.inl 0), some (.inl 0)]) rfl (pc' := 4) rfl ?_
  have LP1 : ∀ (kq2 : Nat) (k n : Int) (hm1 : 8 - k < (kq2 : Nat)) (iv1_0 : 0 ≤ k ∧ k ≤ 8) (iv1_1 : f_loop (fun k n => n + f_bit s k) k 8 n = f_cn8 s) (iv1_2 : 0 ≤ n ∧ n ≤ k), ax_W E l d 0 0 iX12_count 4 [some (.inl s), some (.inl n), some (.inl k)] [] SH M (ax_P (fun z0 M2 => z0 = some (.inl (f_cn8 s)) ∧ M = M2 ∧ (0 ≤ f_cn8 s ∧ f_cn8 s ≤ 8))) := by
    intro kq2
    induction kq2 with
    | zero =>
      intro k n hm1 iv1_0 iv1_1 iv1_2
      exfalso
      omega
    | succ kq2 ih3 =>
      intro k n hm1 iv1_0 iv1_1 iv1_2
      refine ax_iload_n dX12_count_4 rfl rfl (pc' := 5) rfl ?_
      refine ax_bipush dX12_count_5 (by decide) (pc' := 7) rfl ?_
      refine ax_icmp_ge (tgt := 24) dX12_count_7 (by decide) (pc' := 10) rfl (fun h7 => ?_) (fun h7 => ?_)
      · refine ax_iload_n dX12_count_24 rfl rfl (pc' := 25) rfl ?_
        refine ax_iret dX12_count_25 rfl ?_
        refine ⟨rfl, ?_, ?_, ?_⟩
        · refine congrArg (fun z => some (Sum.inl z)) ?_
          exact (f_loop_done (by omega)).symm.trans iv1_1
        · rfl
        · rw [← iv1_1, f_loop_done (by omega)]
          omega
      · have qa := ax_and_one (ax_shr s k)
        refine ax_iload_n dX12_count_10 rfl rfl (pc' := 11) rfl ?_
        refine ax_iload_n dX12_count_11 rfl rfl (pc' := 12) rfl ?_
        refine ax_iload_n dX12_count_12 rfl rfl (pc' := 13) rfl ?_
        refine ax_ishr dX12_count_13 (pc' := 14) rfl ?_
        refine ax_iconst dX12_count_14 (by decide) (pc' := 15) rfl ?_
        refine ax_iand dX12_count_15 (pc' := 16) rfl ?_
        refine ax_iadd dX12_count_16 (by omega) (pc' := 17) rfl ?_
        refine ax_istore_n dX12_count_17 rfl (by decide) (ls' := [some (.inl s), some (.inl (n + (ax_and (ax_shr s k) 1))), some (.inl k)]) rfl (pc' := 18) rfl ?_
        refine ax_iinc dX12_count_18 rfl (by decide) (by omega) (ls' := [some (.inl s), some (.inl (n + (ax_and (ax_shr s k) 1))), some (.inl (k + 1))]) rfl (pc' := 21) rfl ?_
        refine ax_goto dX12_count_21 (pc' := 4) (by decide) ?_
        refine ih3 (k + 1) (n + (ax_and (ax_shr s k) 1)) ?_ ?_ ?_ ?_
        · omega
        · omega
        · exact (f_loop_step (by omega)).symm.trans iv1_1
        · omega
  refine LP1 (8 - 0 : Int).toNat.succ 0 0 ?_ ?_ ?_ ?_
  · omega
  · omega
  · rfl
  · omega
set_option maxRecDepth 20000 in
theorem s_X12_coded (E : ax_Env) (l : Launch) (d : Nat) (hd : 0 ≤ d) (M : ax_Mem) (L : List Int) {lt : Int → Int} (hlt : M 350 = lt) {n : Int} (hn : M 330 44 = n) (hg0 : f_fwd lt 0 L) (hg1 : n = (L.length : Int) ∧ n ≤ 7) (hg2 : f_lt3 L) : ax_G E l d iX12_coded [.inr 330] M (fun z0 M2 => z0 = some (.inl (f_code L)) ∧ M = M2) := by
  refine ax_start rfl (Nat.le_of_ble_eq_true rfl) (ls := [some (.inr 330), none, none]) rfl (fun hav hcm => ?_)
  clear hav
  refine ax_iconst dX12_coded_0 (by decide) (pc' := 1) rfl ?_
  refine ax_istore_n dX12_coded_1 rfl (by decide) (ls' := [some (.inr 330), some (.inl 0), none]) rfl (pc' := 2) rfl ?_
  refine ax_iconst dX12_coded_2 (by decide) (pc' := 3) rfl ?_
  refine ax_istore_n dX12_coded_3 rfl (by decide) (ls' := [some (.inr 330), some (.inl 0), some (.inl 0)]) rfl (pc' := 4) rfl ?_
  have LP1 : ∀ (kq2 : Nat) (i v : Int) (rem : List Int) (dn : List Int) (hm1 : n - i < (kq2 : Nat)) (iv1_0 : 0 ≤ i ∧ i = (dn.length : Int) ∧ i + (rem.length : Int) = n) (iv1_1 : f_fwd lt i rem) (iv1_2 : v = f_r3 dn) (iv1_3 : dn.reverse ++ rem = L) (iv1_4 : f_lt3 dn ∧ f_lt3 rem), ax_W E l d 0 0 iX12_coded 4 [some (.inr 330), some (.inl v), some (.inl i)] [] SH M (ax_P (fun z0 M2 => z0 = some (.inl (f_code L)) ∧ M = M2)) := by
    intro kq2
    induction kq2 with
    | zero =>
      intro i v rem dn hm1 iv1_0 iv1_1 iv1_2 iv1_3 iv1_4
      exfalso
      omega
    | succ kq2 ih3 =>
      intro i v rem dn hm1 iv1_0 iv1_1 iv1_2 iv1_3 iv1_4
      refine ax_iload_n dX12_coded_4 rfl rfl (pc' := 5) rfl ?_
      refine ax_aload_n dX12_coded_5 rfl rfl (pc' := 6) rfl ?_
      refine ax_geti (v := n) dX12_coded_6 flX12_488 rfl sh_330 hn rfl (pc' := 9) rfl ?_
      refine ax_icmp_ge (tgt := 29) dX12_coded_9 (by decide) (pc' := 12) rfl (fun h9 => ?_) (fun h9 => ?_)
      · have qd : rem = [] := List.eq_nil_of_length_eq_zero (by omega)
        have qe : dn = L.reverse := by
          rw [← iv1_3, qd, List.append_nil, List.reverse_reverse]
        have qb := f_r3_le iv1_4.1 (by omega)
        refine ax_sipush dX12_coded_29 (by decide) (pc' := 32) rfl ?_
        refine ax_aload_n dX12_coded_32 rfl rfl (pc' := 33) rfl ?_
        refine ax_geti (v := n) dX12_coded_33 flX12_488 rfl sh_330 hn rfl (pc' := 36) rfl ?_
        refine ax_imul dX12_coded_36 (by omega) (pc' := 37) rfl ?_
        refine ax_iload_n dX12_coded_37 rfl rfl (pc' := 38) rfl ?_
        refine ax_iadd dX12_coded_38 (by omega) (pc' := 39) rfl ?_
        refine ax_iret dX12_coded_39 rfl ?_
        refine ⟨rfl, ?_, ?_⟩
        · refine congrArg (fun z => some (Sum.inl z)) ?_
          unfold f_code
          rw [← qe, iv1_2]
          omega
        · rfl
      · obtain ⟨q7, rem2, qd⟩ : ∃ x0 y0, rem = x0 :: y0 := by
          cases rem with
          | nil =>
            simp only [List.length_nil] at iv1_0
            omega
          | cons x0 y0 => exact ⟨x0, y0, rfl⟩
        have qf : f_fwd lt i (q7 :: rem2) := qd ▸ iv1_1
        have qd2 : rem.length = rem2.length + 1 := by rw [qd]; rfl
        have qc1 := iv1_4.2 q7 (qd ▸ List.mem_cons_self)
        have qb := f_r3_le iv1_4.1 (by omega)
        refine ax_iconst dX12_coded_12 (by decide) (pc' := 13) rfl ?_
        refine ax_iload_n dX12_coded_13 rfl rfl (pc' := 14) rfl ?_
        refine ax_imul dX12_coded_14 (by omega) (pc' := 15) rfl ?_
        refine ax_aload_n dX12_coded_15 rfl rfl (pc' := 16) rfl ?_
        refine ax_getr (v := 350) dX12_coded_16 flX12_71 rfl sh_330 rfl (pc' := 19) rfl ?_
        refine ax_iload_n dX12_coded_19 rfl rfl (pc' := 20) rfl ?_
        refine ax_iald (v := lt i) dX12_coded_20 sh_350 rfl (by omega) (by omega) ((congrFun hlt i).trans rfl) (pc' := 21) rfl ?_
        refine ax_reS (st2 := [.inl q7, .inl (3 * v)]) (congrArg (fun z => Sum.inl z :: _) (by exact qf.1)) ?_
        refine ax_iadd dX12_coded_21 (by omega) (pc' := 22) rfl ?_
        refine ax_istore_n dX12_coded_22 rfl (by decide) (ls' := [some (.inr 330), some (.inl (3 * v + q7)), some (.inl i)]) rfl (pc' := 23) rfl ?_
        refine ax_iinc dX12_coded_23 rfl (by decide) (by omega) (ls' := [some (.inr 330), some (.inl (3 * v + q7)), some (.inl (i + 1))]) rfl (pc' := 26) rfl ?_
        refine ax_goto dX12_coded_26 (pc' := 4) (by decide) ?_
        refine ih3 (i + 1) (3 * v + q7) rem2 (q7 :: dn) ?_ ?_ ?_ ?_ ?_ ?_
        · omega
        · simp only [List.length_cons]
          omega
        · exact qf.2
        · rw [iv1_2]
          rfl
        · rw [List.reverse_cons, List.append_assoc, ← iv1_3, qd]
          rfl
        · refine ⟨fun x hx => ?_, fun x hx => iv1_4.2 x (qd ▸ List.mem_cons_of_mem _ hx)⟩
          rcases List.mem_cons.mp hx with e | e
          · rw [e]
            exact qc1
          · exact iv1_4.1 x e
  refine LP1 (n - 0 : Int).toNat.succ 0 0 L ([]) ?_ ?_ ?_ ?_ ?_ ?_
  · omega
  · simp only [List.length_nil]
    omega
  · exact hg0
  · rfl
  · rfl
  · exact ⟨fun x hx => absurd hx List.not_mem_nil, hg2⟩
set_option maxRecDepth 20000 in
theorem s_X12_decodes (E : ax_Env) (l : Launch) (d : Nat) (hd : 0 ≤ d) (M : ax_Mem) (c : Int) (L : List Int) {lt : Int → Int} (hlt : M 350 = lt) (hg0 : c = f_code L) (hg1 : (L.length : Int) ≤ 7) (hg2 : f_lt3 L) : ax_G E l d iX12_decodes [.inr 330, .inl c] M (fun z0 M2 => z0 = none ∧ (∀ x0 i0 : Int, ¬ ((x0 = 330 ∧ i0 = 44) ∨ x0 = 350) → M2 x0 i0 = M x0 i0) ∧ M2 330 44 = (L.length : Int) ∧ (f_fwd (M2 350) 0 L)) := by
  refine ax_start rfl (Nat.le_of_ble_eq_true rfl) (ls := [some (.inr 330), some (.inl c), none, none]) rfl (fun hav hcm => ?_)
  have hc1 : -2147483648 ≤ c ∧ c < 2147483648 := hav (.inl c) (by simp)
  clear hav
  have qa := f_code_rg hg2 hg1
  rw [← hg0] at qa
  have qa1 := f_r3_le (f_lt3_rev hg2) (by rw [List.length_reverse]; exact hg1)
  refine ax_aload_n dX12_decodes_0 rfl rfl (pc' := 1) rfl ?_
  refine ax_iload_n dX12_decodes_1 rfl rfl (pc' := 2) rfl ?_
  refine ax_sipush dX12_decodes_2 (by decide) (pc' := 5) rfl ?_
  refine ax_idiv dX12_decodes_5 (by omega) (by omega) (pc' := 6) rfl ?_
  refine ax_puti dX12_decodes_6 flX12_488 (Or.inl rfl) sh_330 rfl (pc' := 9) rfl ?_
  refine ax_iload_n dX12_decodes_9 rfl rfl (pc' := 10) rfl ?_
  refine ax_sipush dX12_decodes_10 (by decide) (pc' := 13) rfl ?_
  refine ax_irem dX12_decodes_13 (by omega) (by omega) (pc' := 14) rfl ?_
  refine ax_istore_n dX12_decodes_14 rfl (by decide) (ls' := [some (.inr 330), some (.inl c), some (.inl (c % 2187)), none]) rfl (pc' := 15) rfl ?_
  refine ax_aload_n dX12_decodes_15 rfl rfl (pc' := 16) rfl ?_
  refine ax_geti (v := c / 2187) dX12_decodes_16 flX12_488 rfl sh_330 (show (ax_up M 330 44 (c / 2187)) 330 44 = c / 2187 from (ax_up_hit _ _ _ _)) rfl (pc' := 19) rfl ?_
  refine ax_iconst dX12_decodes_19 (by decide) (pc' := 20) rfl ?_
  refine ax_isub dX12_decodes_20 (by omega) (pc' := 21) rfl ?_
  refine ax_istore_n dX12_decodes_21 rfl (by decide) (ls' := [some (.inr 330), some (.inl c), some (.inl (c % 2187)), some (.inl (c / 2187 - 1))]) rfl (pc' := 22) rfl ?_
  have LP1 : ∀ (kq2 : Nat) (i v : Int) (lv : Int → Int) (rem : List Int) (dn : List Int) (M1 : ax_Mem) (hm1 : i + 1 < (kq2 : Nat)) (fr1 : ∀ x0 i0 : Int, ¬ (x0 = 350) → M1 x0 i0 = (ax_up M 330 44 (c / 2187)) x0 i0) (mr1_350 : M1 350 = lv) (iv1_0 : i + 1 = (rem.length : Int) ∧ i + 1 + (dn.length : Int) = (L.length : Int)) (iv1_1 : v = f_r3 rem) (iv1_2 : f_fwd lv (i + 1) dn) (iv1_3 : rem.reverse ++ dn = L) (iv1_4 : f_lt3 rem), ax_W E l d 0 0 iX12_decodes 22 [some (.inr 330), some (.inl c), some (.inl v), some (.inl i)] [] SH M1 (ax_P (fun z0 M2 => z0 = none ∧ (∀ x0 i0 : Int, ¬ ((x0 = 330 ∧ i0 = 44) ∨ x0 = 350) → M2 x0 i0 = M x0 i0) ∧ M2 330 44 = (L.length : Int) ∧ (f_fwd (M2 350) 0 L))) := by
    intro kq2
    induction kq2 with
    | zero =>
      intro i v lv rem dn M1 hm1 fr1 mr1_350 iv1_0 iv1_1 iv1_2 iv1_3 iv1_4
      exfalso
      omega
    | succ kq2 ih3 =>
      intro i v lv rem dn M1 hm1 fr1 mr1_350 iv1_0 iv1_1 iv1_2 iv1_3 iv1_4
      refine ax_iload_n dX12_decodes_22 rfl rfl (pc' := 23) rfl ?_
      refine ax_if_lt (tgt := 45) dX12_decodes_23 (by decide) (pc' := 26) rfl (fun h23 => ?_) (fun h23 => ?_)
      · have qd : rem = [] := List.eq_nil_of_length_eq_zero (by omega)
        have qe : dn = L := by
          rw [← iv1_3, qd]
          rfl
        refine ax_vret dX12_decodes_45 rfl ?_
        refine ⟨rfl, rfl, ?_, ?_, ?_⟩
        · intro x0 i0 hai
          exact ((fr1 x0 i0 (by omega)).trans (ax_up_miss (by omega) rfl))
        · refine Eq.trans ((fr1 330 44 (by omega)).trans (ax_up_hit _ _ _ _)) ?_
          exact qa.1
        · have qr := mr1_350
          rw [qr, ← qe]
          have qg := iv1_2
          rw [show i + 1 = 0 by omega] at qg
          exact qg
      · obtain ⟨q7, rem2, qd⟩ : ∃ x0 y0, rem = x0 :: y0 := by
          cases rem with
          | nil =>
            simp only [List.length_nil] at iv1_0
            omega
          | cons x0 y0 => exact ⟨x0, y0, rfl⟩
        have qd2 : rem.length = rem2.length + 1 := by rw [qd]; rfl
        have qc1 := iv1_4 q7 (qd ▸ List.mem_cons_self)
        have qb := f_r3_le iv1_4 (by omega)
        refine ax_aload_n dX12_decodes_26 rfl rfl (pc' := 27) rfl ?_
        refine ax_getr (v := 350) dX12_decodes_27 flX12_71 rfl sh_330 rfl (pc' := 30) rfl ?_
        refine ax_iload_n dX12_decodes_30 rfl rfl (pc' := 31) rfl ?_
        refine ax_iload_n dX12_decodes_31 rfl rfl (pc' := 32) rfl ?_
        refine ax_iconst dX12_decodes_32 (by decide) (pc' := 33) rfl ?_
        refine ax_irem dX12_decodes_33 (by omega) (by omega) (pc' := 34) rfl ?_
        refine ax_iast dX12_decodes_34 sh_350 rfl (by omega) (by omega) (pc' := 35) rfl ?_
        refine ax_iload_n dX12_decodes_35 rfl rfl (pc' := 36) rfl ?_
        refine ax_iconst dX12_decodes_36 (by decide) (pc' := 37) rfl ?_
        refine ax_idiv dX12_decodes_37 (by omega) (by omega) (pc' := 38) rfl ?_
        refine ax_istore_n dX12_decodes_38 rfl (by decide) (ls' := [some (.inr 330), some (.inl c), some (.inl (v / 3)), some (.inl i)]) rfl (pc' := 39) rfl ?_
        refine ax_iinc dX12_decodes_39 rfl (by decide) (by omega) (ls' := [some (.inr 330), some (.inl c), some (.inl (v / 3)), some (.inl (i + (-1)))]) rfl (pc' := 42) rfl ?_
        refine ax_goto dX12_decodes_42 (pc' := 22) (by decide) ?_
        refine ih3 (i + (-1)) (v / 3) (f_up lv i (v % 3)) rem2 (q7 :: dn) (ax_up M1 350 i (v % 3)) ?_ ?_ ?_ ?_ ?_ ?_ ?_ ?_
        · omega
        · intro x0 i0 hai
          exact (ax_up_miss (by omega) ((fr1 x0 i0 (by omega)).trans rfl))
        · exact (ax_up_rowhit mr1_350)
        · simp only [List.length_cons]
          omega
        · rw [iv1_1, qd]
          show (3 * f_r3 rem2 + q7) / 3 = f_r3 rem2
          omega
        · refine ⟨?_, ?_⟩
          · rw [show i + (-1) + 1 = i by omega, f_up_same, iv1_1, qd]
            show (3 * f_r3 rem2 + q7) % 3 = q7
            omega
          · rw [show i + (-1) + 1 + 1 = i + 1 by omega]
            exact f_fwd_up (by omega) iv1_2
        · rw [← iv1_3, qd, List.reverse_cons, List.append_assoc]
          rfl
        · exact fun x hx => iv1_4 x (qd ▸ List.mem_cons_of_mem _ hx)
  refine LP1 ((c / 2187 - 1) + 1 : Int).toNat.succ (c / 2187 - 1) (c % 2187) lt L.reverse ([]) (ax_up M 330 44 (c / 2187)) ?_ ?_ ?_ ?_ ?_ ?_ ?_ ?_
  · omega
  · exact fun a i _ => rfl
  · exact (ax_up_rowmiss (by decide) hlt)
  · simp only [List.length_nil, List.length_reverse]
    omega
  · omega
  · trivial
  · rw [List.reverse_reverse, List.append_nil]
  · exact f_lt3_rev hg2
set_option maxRecDepth 20000 in
theorem s_X12_goesWith (E : ax_Env) (l : Launch) (d : Nat) (hd : 0 ≤ d) (M : ax_Mem) (x y : Int) (hg0 : 0 ≤ x ∧ x ≤ 2) : ax_G E l d iX12_goesWith [.inl x, .inl y] M (fun z0 M2 => z0 = some (.inl (f_b (x = 2 ∧ y = 2 ∨ x ≠ 2 ∧ y = 1 - x))) ∧ M = M2) := by
  refine ax_start rfl (Nat.le_of_ble_eq_true rfl) (ls := [some (.inl x), some (.inl y)]) rfl (fun hav hcm => ?_)
  have hc0 : -2147483648 ≤ x ∧ x < 2147483648 := hav (.inl x) (by simp)
  have hc1 : -2147483648 ≤ y ∧ y < 2147483648 := hav (.inl y) (by simp)
  clear hav
  refine ax_iload_n dX12_goesWith_0 rfl rfl (pc' := 1) rfl ?_
  refine ax_iconst dX12_goesWith_1 (by decide) (pc' := 2) rfl ?_
  refine ax_icmp_ne (tgt := 18) dX12_goesWith_2 (by decide) (pc' := 5) rfl (fun h2 => ?_) (fun h2 => ?_)
  · refine ax_iload_n dX12_goesWith_18 rfl rfl (pc' := 19) rfl ?_
    refine ax_iconst dX12_goesWith_19 (by decide) (pc' := 20) rfl ?_
    refine ax_iload_n dX12_goesWith_20 rfl rfl (pc' := 21) rfl ?_
    refine ax_isub dX12_goesWith_21 (by omega) (pc' := 22) rfl ?_
    refine ax_icmp_ne (tgt := 29) dX12_goesWith_22 (by decide) (pc' := 25) rfl (fun h22 => ?_) (fun h22 => ?_)
    · refine ax_iconst dX12_goesWith_29 (by decide) (pc' := 30) rfl ?_
      refine ax_zret dX12_goesWith_30 rfl (by decide) ?_
      refine ⟨rfl, ?_, ?_⟩
      · refine congrArg (fun z => some (Sum.inl z)) ?_
        unfold f_b; split <;> omega
      · rfl
    · refine ax_iconst dX12_goesWith_25 (by decide) (pc' := 26) rfl ?_
      refine ax_goto dX12_goesWith_26 (pc' := 30) (by decide) ?_
      refine ax_zret dX12_goesWith_30 rfl (by decide) ?_
      refine ⟨rfl, ?_, ?_⟩
      · refine congrArg (fun z => some (Sum.inl z)) ?_
        unfold f_b; split <;> omega
      · rfl
  · refine ax_iload_n dX12_goesWith_5 rfl rfl (pc' := 6) rfl ?_
    refine ax_iconst dX12_goesWith_6 (by decide) (pc' := 7) rfl ?_
    refine ax_icmp_ne (tgt := 14) dX12_goesWith_7 (by decide) (pc' := 10) rfl (fun h7 => ?_) (fun h7 => ?_)
    · refine ax_iconst dX12_goesWith_14 (by decide) (pc' := 15) rfl ?_
      refine ax_goto dX12_goesWith_15 (pc' := 30) (by decide) ?_
      refine ax_zret dX12_goesWith_30 rfl (by decide) ?_
      refine ⟨rfl, ?_, ?_⟩
      · refine congrArg (fun z => some (Sum.inl z)) ?_
        unfold f_b; split <;> omega
      · rfl
    · refine ax_iconst dX12_goesWith_10 (by decide) (pc' := 11) rfl ?_
      refine ax_goto dX12_goesWith_11 (pc' := 30) (by decide) ?_
      refine ax_zret dX12_goesWith_30 rfl (by decide) ?_
      refine ⟨rfl, ?_, ?_⟩
      · refine congrArg (fun z => some (Sum.inl z)) ?_
        unfold f_b; split <;> omega
      · rfl
set_option maxRecDepth 20000 in
theorem s_X12_reaches (E : ax_Env) (l : Launch) (d : Nat) (hd : 1 ≤ d) (M : ax_Mem) (step : Int) (L : List Int) {lt : Int → Int} (hlt : M 350 = lt) {mv : Int → Int} (hmv : M 348 = mv) {qv : Int → Int} (hqv : M 349 = qv) {n : Int} (hn : M 330 44 = n) {qn : Int} (hqn : M 330 43 = qn) (hg0 : f_fwd lt 0 L) (hg1 : n = (L.length : Int) ∧ n ≤ 7) (hg2 : f_lt3 L) (hg3 : 0 ≤ qn ∧ (mv (f_code L) = -1 → qn < 17496)) : ax_G E l d iX12_reaches [.inr 330, .inl step] M (fun z0 M2 => z0 = none ∧ (∀ x0 i0 : Int, ¬ (x0 = 348 ∨ x0 = 349 ∨ (x0 = 330 ∧ i0 = 43)) → M2 x0 i0 = M x0 i0) ∧ M2 348 = (f_rch (f_code L) step (mv, qv, qn)).1 ∧ M2 349 = (f_rch (f_code L) step (mv, qv, qn)).2.1 ∧ M2 330 43 = (f_rch (f_code L) step (mv, qv, qn)).2.2) := by
  obtain ⟨d, rfl⟩ : ∃ d0, d = d0 + 1 := ⟨d - 1, by omega⟩
  refine ax_start rfl (Nat.le_of_ble_eq_true rfl) (ls := [some (.inr 330), some (.inl step), none]) rfl (fun hav hcm => ?_)
  have hc1 : -2147483648 ≤ step ∧ step < 2147483648 := hav (.inl step) (by simp)
  clear hav
  have qa := f_code_rg hg2 (by omega)
  refine ax_aload_n dX12_reaches_0 rfl rfl (pc' := 1) rfl ?_
  refine ax_invG [] [] dX12_reaches_1 mlX12_491 sh_330 rfl rfl rfl (Nat.le_of_ble_eq_true rfl) (s_X12_coded E l _ (by omega) _ L hlt hn (by first | omega | assumption) (by first | omega | assumption) (by first | omega | assumption)) (pc' := 4) rfl (fun vv M_1 hq co1 hcm1 => ?_)
  obtain ⟨rfl, rfl⟩ := hq
  refine ax_reS (st2 := [.inl (f_code L)]) rfl ?_
  have cc1 : -2147483648 ≤ f_code L ∧ f_code L < 2147483648 := co1 _ rfl
  refine ax_istore_n dX12_reaches_4 rfl (by decide) (ls' := [some (.inr 330), some (.inl step), some (.inl (f_code L))]) rfl (pc' := 5) rfl ?_
  refine ax_aload_n dX12_reaches_5 rfl rfl (pc' := 6) rfl ?_
  refine ax_getr (v := 348) dX12_reaches_6 flX12_65 rfl sh_330 rfl (pc' := 9) rfl ?_
  refine ax_iload_n dX12_reaches_9 rfl rfl (pc' := 10) rfl ?_
  refine ax_iald (v := mv (f_code L)) dX12_reaches_10 sh_348 rfl (by omega) (by omega) ((congrFun hmv (f_code L)).trans rfl) (pc' := 11) rfl ?_
  refine ax_iconst dX12_reaches_11 (by decide) (pc' := 12) rfl ?_
  refine ax_icmp_eq (tgt := 16) dX12_reaches_12 (by decide) (pc' := 15) rfl (fun h12 => ?_) (fun h12 => ?_)
  · have qb := hg3.2 h12
    have qs : f_rch (f_code L) step (mv, qv, qn) = (f_up mv (f_code L) step, f_up qv qn (f_code L), qn + 1) := if_pos h12
    refine ax_aload_n dX12_reaches_16 rfl rfl (pc' := 17) rfl ?_
    refine ax_getr (v := 348) dX12_reaches_17 flX12_65 rfl sh_330 rfl (pc' := 20) rfl ?_
    refine ax_iload_n dX12_reaches_20 rfl rfl (pc' := 21) rfl ?_
    refine ax_iload_n dX12_reaches_21 rfl rfl (pc' := 22) rfl ?_
    refine ax_iast dX12_reaches_22 sh_348 rfl (by omega) (by omega) (pc' := 23) rfl ?_
    refine ax_aload_n dX12_reaches_23 rfl rfl (pc' := 24) rfl ?_
    refine ax_getr (v := 349) dX12_reaches_24 flX12_68 rfl sh_330 rfl (pc' := 27) rfl ?_
    refine ax_aload_n dX12_reaches_27 rfl rfl (pc' := 28) rfl ?_
    refine ax_geti (v := qn) dX12_reaches_28 flX12_494 rfl sh_330 (show (ax_up M 348 (f_code L) step) 330 43 = qn from (ax_up_miss (by omega) hqn)) rfl (pc' := 31) rfl ?_
    refine ax_iload_n dX12_reaches_31 rfl rfl (pc' := 32) rfl ?_
    refine ax_iast dX12_reaches_32 sh_349 rfl (by omega) (by omega) (pc' := 33) rfl ?_
    refine ax_aload_n dX12_reaches_33 rfl rfl (pc' := 34) rfl ?_
    refine ax_dup dX12_reaches_34 (pc' := 35) rfl ?_
    refine ax_geti (v := qn) dX12_reaches_35 flX12_494 rfl sh_330 (show (ax_up (ax_up M 348 (f_code L) step) 349 qn (f_code L)) 330 43 = qn from (ax_up_miss (by omega) (ax_up_miss (by omega) hqn))) rfl (pc' := 38) rfl ?_
    refine ax_iconst dX12_reaches_38 (by decide) (pc' := 39) rfl ?_
    refine ax_iadd dX12_reaches_39 (by omega) (pc' := 40) rfl ?_
    refine ax_puti dX12_reaches_40 flX12_494 (Or.inl rfl) sh_330 rfl (pc' := 43) rfl ?_
    refine ax_vret dX12_reaches_43 rfl ?_
    refine ⟨rfl, rfl, ?_, ?_, ?_, ?_⟩
    · intro x0 i0 hai
      exact (ax_up_miss (by omega) (ax_up_miss (by omega) (ax_up_miss (by omega) rfl)))
    · refine Eq.trans (ax_up_rowmiss (by decide) (ax_up_rowmiss (by decide) (ax_up_rowhit hmv))) ?_
      rw [qs]
    · refine Eq.trans (ax_up_rowmiss (by decide) (ax_up_rowhit (ax_up_rowmiss (by decide) hqv))) ?_
      rw [qs]
    · refine Eq.trans (ax_up_hit _ _ _ _) ?_
      rw [qs]
  · have qs : f_rch (f_code L) step (mv, qv, qn) = (mv, qv, qn) := if_neg h12
    refine ax_vret dX12_reaches_15 rfl ?_
    refine ⟨rfl, rfl, ?_, ?_, ?_, ?_⟩
    · intro x0 i0 hai
      exact rfl
    · refine Eq.trans hmv ?_
      rw [qs]
    · refine Eq.trans hqv ?_
      rw [qs]
    · refine Eq.trans hqn ?_
      rw [qs]
