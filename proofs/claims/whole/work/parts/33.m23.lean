/-! the next token -/
def f_see (ta : Int → Int) (tn k : Int) : Int := if k < tn then ta k else -1
def f_ton (c : Int → Prop) [DecidablePred c] : Nat → Int → Int
  | 0, i => i
  | n + 1, i => if c i then i else f_ton c n (i + 1)
def f_to (c : Int → Prop) [DecidablePred c] (lo hi : Int) : Int := f_ton c (hi - lo).toNat lo
theorem f_to_done {c : Int → Prop} [DecidablePred c] {lo hi : Int} (h : hi ≤ lo) : f_to c lo hi = lo := by
  unfold f_to
  rw [show (hi - lo).toNat = 0 by omega]
  rfl
theorem f_to_hit {c : Int → Prop} [DecidablePred c] {lo hi : Int} (hc : c lo) : f_to c lo hi = lo := by
  unfold f_to
  cases (hi - lo).toNat with
  | zero => rfl
  | succ n => exact if_pos hc
theorem f_to_miss {c : Int → Prop} [DecidablePred c] {lo hi : Int} (h : lo < hi) (hc : ¬ c lo) : f_to c lo hi = f_to c (lo + 1) hi := by
  unfold f_to
  rw [show (hi - lo).toNat = (hi - (lo + 1)).toNat + 1 by omega]
  exact if_neg hc
theorem f_loop_last {α : Type} {g : Int → α → α} {lo hi : Int} {a : α} (h : lo ≤ hi) : f_loop g lo (hi + 1) a = g hi (f_loop g lo hi a) := by
  have key : ∀ (n : Nat) (lo : Int) (a : α), (n : Int) = hi - lo → f_loop g lo (hi + 1) a = g hi (f_loop g lo hi a) := by
    intro n
    induction n with
    | zero =>
      intro lo a e
      have e2 : lo = hi := by omega
      rw [e2, f_loop_step (by omega), f_loop_done (Int.le_refl _), f_loop_done (Int.le_refl _)]
    | succ n ih =>
      intro lo a e
      rw [f_loop_step (lo := lo) (hi := hi + 1) (by omega), f_loop_step (lo := lo) (hi := hi) (by omega)]
      exact ih (lo + 1) _ (by omega)
  exact key (hi - lo).toNat lo a (by omega)
abbrev f_blk (c : Int) : Prop := c = 32 ∨ c = 10
abbrev f_let (c : Int) : Prop := (97 ≤ c ∧ c ≤ 122) ∨ (65 ≤ c ∧ c ≤ 90)
abbrev f_dig (c : Int) : Prop := 48 ≤ c ∧ c ≤ 57
abbrev f_sgn (c : Int) : Prop := c = 59 ∨ c = 43 ∨ c = 45 ∨ c = 42 ∨ c = 47 ∨ c = 40 ∨ c = 41 ∨ c = 60 ∨ c = 61 ∨ c = 62
abbrev f_cB (ta : Int → Int) (tn k : Int) : Prop := ¬ f_blk (f_see ta tn k)
abbrev f_cL (ta : Int → Int) (tn k : Int) : Prop := ¬ f_let (f_see ta tn k)
abbrev f_cD (ta : Int → Int) (tn k : Int) : Prop := ¬ f_dig (f_see ta tn k)
def f_nS (ta : Int → Int) (tn p : Int) : Int := f_to (f_cB ta tn) p tn
def f_nC (ta : Int → Int) (tn p : Int) : Int := f_see ta tn (f_nS ta tn p)
def f_nE (ta : Int → Int) (tn p : Int) : Int := if f_nC ta tn p = -1 then f_nS ta tn p else if f_let (f_nC ta tn p) then f_to (f_cL ta tn) (f_nS ta tn p) tn else if f_dig (f_nC ta tn p) then f_to (f_cD ta tn) (f_nS ta tn p) tn else f_nS ta tn p + 1
def f_num (ta : Int → Int) (tn s e : Int) : Int := f_loop (fun k v => 10 * v + f_see ta tn k - 48) s (min e (s + 4)) 0
def f_nT (ta : Int → Int) (tn p rd : Int) : Int := if f_nC ta tn p = -1 then 0 else if f_let (f_nC ta tn p) then f_wrd ta (f_nS ta tn p) (f_nE ta tn p) rd else if f_dig (f_nC ta tn p) then (if f_nE ta tn p - f_nS ta tn p < 5 then 2 else 1) else if f_sgn (f_nC ta tn p) then 100 + f_nC ta tn p else 1
def f_nV (ta : Int → Int) (tn p v : Int) : Int := if f_nC ta tn p ≠ -1 ∧ ¬ f_let (f_nC ta tn p) ∧ f_dig (f_nC ta tn p) then f_num ta tn (f_nS ta tn p) (f_nE ta tn p) else v
def f_tp (ta : Int → Int) (tn : Int) : Prop := ∀ k, 0 ≤ k → k < tn → 0 ≤ ta k ∧ ta k ≤ 255
theorem f_see_rg {ta : Int → Int} {tn k : Int} (h : f_tp ta tn) (hk : 0 ≤ k) : (k < tn ∧ 0 ≤ f_see ta tn k ∧ f_see ta tn k ≤ 255) ∨ (tn ≤ k ∧ f_see ta tn k = -1) := by
  unfold f_see
  split
  · exact Or.inl ⟨by assumption, h k hk (by assumption)⟩
  · exact Or.inr ⟨by omega, rfl⟩
set_option maxRecDepth 20000 in
theorem s_X12_see2 (E : ax_Env) (l : Launch) (d : Nat) (hd : 0 ≤ d) (M : ax_Mem) (k : Int) {ta : Int → Int} (hta : M 339 = ta) {tn : Int} (htn : M 330 17 = tn) (hg0 : 0 ≤ k) (hg1 : 0 ≤ tn ∧ tn ≤ 400) : ax_G E l d iX12_see [.inr 330, .inl k] M (fun z0 M2 => z0 = some (.inl (f_see ta tn k)) ∧ M = M2) := by
  refine ax_start rfl (Nat.le_of_ble_eq_true rfl) (ls := [some (.inr 330), some (.inl k)]) rfl (fun hav hcm => ?_)
  have hc1 : -2147483648 ≤ k ∧ k < 2147483648 := hav (.inl k) (by simp)
  clear hav
  refine ax_iload_n dX12_see_0 rfl rfl (pc' := 1) rfl ?_
  refine ax_aload_n dX12_see_1 rfl rfl (pc' := 2) rfl ?_
  refine ax_geti (v := tn) dX12_see_2 flX12_120 rfl sh_330 htn rfl (pc' := 5) rfl ?_
  refine ax_icmp_ge (tgt := 17) dX12_see_5 (by decide) (pc' := 8) rfl (fun h5 => ?_) (fun h5 => ?_)
  · refine ax_iconst dX12_see_17 (by decide) (pc' := 18) rfl ?_
    refine ax_iret dX12_see_18 rfl ?_
    refine ⟨rfl, ?_, ?_⟩
    · refine congrArg (fun z => some (Sum.inl z)) ?_
      unfold f_see
      repeat' split
      all_goals first | rfl | omega | (exfalso; omega)
    · rfl
  · refine ax_aload_n dX12_see_8 rfl rfl (pc' := 9) rfl ?_
    refine ax_getr (v := 339) dX12_see_9 flX12_34 rfl sh_330 rfl (pc' := 12) rfl ?_
    refine ax_iload_n dX12_see_12 rfl rfl (pc' := 13) rfl ?_
    refine ax_iald (v := ta k) dX12_see_13 sh_339 rfl (by omega) (by omega) ((congrFun hta k).trans rfl) (pc' := 14) rfl ?_
    refine ax_goto dX12_see_14 (pc' := 18) (by decide) ?_
    refine ax_iret dX12_see_18 rfl ?_
    refine ⟨rfl, ?_, ?_⟩
    · refine congrArg (fun z => some (Sum.inl z)) ?_
      unfold f_see
      repeat' split
      all_goals first | rfl | omega | (exfalso; omega)
    · rfl
set_option maxRecDepth 20000 in
theorem s_X12_isLetter (E : ax_Env) (l : Launch) (d : Nat) (hd : 1 ≤ d) (M : ax_Mem) (c : Int) : ax_G E l d iX12_isLetter [.inl c] M (fun z0 M2 => z0 = some (.inl (f_b (f_let c))) ∧ M = M2) := by
  obtain ⟨d, rfl⟩ : ∃ d0, d = d0 + 1 := ⟨d - 1, by omega⟩
  refine ax_start rfl (Nat.le_of_ble_eq_true rfl) (ls := [some (.inl c)]) rfl (fun hav hcm => ?_)
  have hc0 : -2147483648 ≤ c ∧ c < 2147483648 := hav (.inl c) (by simp)
  clear hav
  refine ax_iload_n dX12_isLetter_0 rfl rfl (pc' := 1) rfl ?_
  refine ax_bipush dX12_isLetter_1 (by decide) (pc' := 3) rfl ?_
  refine ax_bipush dX12_isLetter_3 (by decide) (pc' := 5) rfl ?_
  refine ax_insG [.inl c, .inl 97, .inl 122] [] dX12_isLetter_5 mlX12_74 rfl rfl (Nat.le_of_ble_eq_true rfl) (s_X12_isIn E l _ (by omega) _ c 97 122) (pc' := 8) rfl (fun vv M_5 hq co5 hcm5 => ?_)
  obtain ⟨rfl, rfl⟩ := hq
  refine ax_reS (st2 := [.inl (f_b (97 ≤ c ∧ c ≤ 122))]) rfl ?_
  refine ax_if_ne (tgt := 22) dX12_isLetter_8 (by decide) (pc' := 11) rfl (fun h8 => ?_) (fun h8 => ?_)
  · replace h8 := f_b_1 h8
    refine ax_iconst dX12_isLetter_22 (by decide) (pc' := 23) rfl ?_
    refine ax_goto dX12_isLetter_23 (pc' := 27) (by decide) ?_
    refine ax_zret dX12_isLetter_27 rfl (by decide) ?_
    refine ⟨rfl, ?_, ?_⟩
    · refine congrArg (fun z => some (Sum.inl z)) ?_
      unfold f_b; split <;> omega
    · rfl
  · replace h8 := f_b_0 h8
    refine ax_iload_n dX12_isLetter_11 rfl rfl (pc' := 12) rfl ?_
    refine ax_bipush dX12_isLetter_12 (by decide) (pc' := 14) rfl ?_
    refine ax_bipush dX12_isLetter_14 (by decide) (pc' := 16) rfl ?_
    refine ax_insG [.inl c, .inl 65, .inl 90] [] dX12_isLetter_16 mlX12_74 rfl rfl (Nat.le_of_ble_eq_true rfl) (s_X12_isIn E l _ (by omega) _ c 65 90) (pc' := 19) rfl (fun vv M_16 hq co16 hcm16 => ?_)
    obtain ⟨rfl, rfl⟩ := hq
    refine ax_reS (st2 := [.inl (f_b (65 ≤ c ∧ c ≤ 90))]) rfl ?_
    refine ax_if_eq (tgt := 26) dX12_isLetter_19 (by decide) (pc' := 22) rfl (fun h19 => ?_) (fun h19 => ?_)
    · replace h19 := f_b_0 h19
      refine ax_iconst dX12_isLetter_26 (by decide) (pc' := 27) rfl ?_
      refine ax_zret dX12_isLetter_27 rfl (by decide) ?_
      refine ⟨rfl, ?_, ?_⟩
      · refine congrArg (fun z => some (Sum.inl z)) ?_
        unfold f_b; split <;> omega
      · rfl
    · replace h19 := f_b_1 h19
      refine ax_iconst dX12_isLetter_22 (by decide) (pc' := 23) rfl ?_
      refine ax_goto dX12_isLetter_23 (pc' := 27) (by decide) ?_
      refine ax_zret dX12_isLetter_27 rfl (by decide) ?_
      refine ⟨rfl, ?_, ?_⟩
      · refine congrArg (fun z => some (Sum.inl z)) ?_
        unfold f_b; split <;> omega
      · rfl
set_option maxRecDepth 20000 in
theorem s_X12_isDigit (E : ax_Env) (l : Launch) (d : Nat) (hd : 1 ≤ d) (M : ax_Mem) (c : Int) : ax_G E l d iX12_isDigit [.inl c] M (fun z0 M2 => z0 = some (.inl (f_b (f_dig c))) ∧ M = M2) := by
  obtain ⟨d, rfl⟩ : ∃ d0, d = d0 + 1 := ⟨d - 1, by omega⟩
  refine ax_start rfl (Nat.le_of_ble_eq_true rfl) (ls := [some (.inl c)]) rfl (fun hav hcm => ?_)
  have hc0 : -2147483648 ≤ c ∧ c < 2147483648 := hav (.inl c) (by simp)
  clear hav
  refine ax_iload_n dX12_isDigit_0 rfl rfl (pc' := 1) rfl ?_
  refine ax_bipush dX12_isDigit_1 (by decide) (pc' := 3) rfl ?_
  refine ax_bipush dX12_isDigit_3 (by decide) (pc' := 5) rfl ?_
  refine ax_insG [.inl c, .inl 48, .inl 57] [] dX12_isDigit_5 mlX12_74 rfl rfl (Nat.le_of_ble_eq_true rfl) (s_X12_isIn E l _ (by omega) _ c 48 57) (pc' := 8) rfl (fun vv M_5 hq co5 hcm5 => ?_)
  obtain ⟨rfl, rfl⟩ := hq
  refine ax_reS (st2 := [.inl (f_b (48 ≤ c ∧ c ≤ 57))]) rfl ?_
  refine ax_zret dX12_isDigit_8 rfl (f_b_01 _) ?_
  refine ⟨rfl, ?_, ?_⟩
  · rfl
  · rfl
set_option maxRecDepth 20000 in
theorem s_X12_next0 (E : ax_Env) (l : Launch) (d : Nat) (hd : 9 ≤ d) (M : ax_Mem) {ta : Int → Int} (hta : M 339 = ta) {p0 : Int} (hp0 : M 330 18 = p0) {tn : Int} (htn : M 330 17 = tn) {rd : Int} (hrd : M 330 13 = rd) {v0 : Int} (hv0 : M 330 21 = v0) (hg0 : 0 ≤ p0 ∧ p0 ≤ tn ∧ tn ≤ 400) (hg1 : f_tp ta tn) : ax_G E l d iX12_next0 [.inr 330] M (fun z0 M2 => z0 = none ∧ (∀ x0 i0 : Int, ¬ ((x0 = 330 ∧ i0 = 18) ∨ (x0 = 330 ∧ i0 = 19) ∨ (x0 = 330 ∧ i0 = 20) ∨ (x0 = 330 ∧ i0 = 21)) → M2 x0 i0 = M x0 i0) ∧ M2 330 18 = f_nE ta tn p0 ∧ M2 330 19 = f_nT ta tn p0 rd ∧ M2 330 20 = f_nS ta tn p0 ∧ M2 330 21 = f_nV ta tn p0 v0) := by
  obtain ⟨d, rfl⟩ : ∃ d0, d = d0 + 1 := ⟨d - 1, by omega⟩
  refine ax_start rfl (Nat.le_of_ble_eq_true rfl) (ls := [some (.inr 330), none, none]) rfl (fun hav hcm => ?_)
  clear hav
  have LP1 : ∀ (kq2 : Nat) (k0 : Int) (M1 : ax_Mem) (hm1 : tn - k0 < (kq2 : Nat)) (fr1 : ∀ x0 i0 : Int, ¬ ((x0 = 330 ∧ i0 = 18)) → M1 x0 i0 = M x0 i0) (ms1_330_18 : M1 330 18 = k0) (iv1_0 : p0 ≤ k0 ∧ k0 ≤ tn) (iv1_1 : f_to (f_cB ta tn) k0 tn = f_nS ta tn p0), ax_W E l (d + 1) 0 0 iX12_next0 0 [some (.inr 330), none, none] [] SH M1 (ax_P (fun z0 M2 => z0 = none ∧ (∀ x0 i0 : Int, ¬ ((x0 = 330 ∧ i0 = 18) ∨ (x0 = 330 ∧ i0 = 19) ∨ (x0 = 330 ∧ i0 = 20) ∨ (x0 = 330 ∧ i0 = 21)) → M2 x0 i0 = M x0 i0) ∧ M2 330 18 = f_nE ta tn p0 ∧ M2 330 19 = f_nT ta tn p0 rd ∧ M2 330 20 = f_nS ta tn p0 ∧ M2 330 21 = f_nV ta tn p0 v0)) := by
    intro kq2
    induction kq2 with
    | zero =>
      intro k0 M1 hm1 fr1 ms1_330_18 iv1_0 iv1_1
      exfalso
      omega
    | succ kq2 ih3 =>
      intro k0 M1 hm1 fr1 ms1_330_18 iv1_0 iv1_1
      have qs := f_see_rg (k := k0) hg1 (by omega)
      refine ax_aload_n dX12_next0_0 rfl rfl (pc' := 1) rfl ?_
      refine ax_aload_n dX12_next0_1 rfl rfl (pc' := 2) rfl ?_
      refine ax_geti (v := k0) dX12_next0_2 flX12_123 rfl sh_330 ms1_330_18 rfl (pc' := 5) rfl ?_
      refine ax_invG [.inl k0] [] dX12_next0_5 mlX12_204 sh_330 rfl rfl rfl (Nat.le_of_ble_eq_true rfl) (s_X12_see2 E l _ (by omega) _ k0 ((funext fun i0 => fr1 339 i0 (by omega)).trans hta) ((fr1 330 17 (by omega)).trans htn) (by first | omega | assumption) (by first | omega | assumption)) (pc' := 8) rfl (fun vv M_5 hq co5 hcm5 => ?_)
      obtain ⟨rfl, rfl⟩ := hq
      refine ax_reS (st2 := [.inl (f_see ta tn k0)]) rfl ?_
      have cc5 : -2147483648 ≤ f_see ta tn k0 ∧ f_see ta tn k0 < 2147483648 := co5 _ rfl
      refine ax_bipush dX12_next0_8 (by decide) (pc' := 10) rfl ?_
      refine ax_icmp_eq (tgt := 26) dX12_next0_10 (by decide) (pc' := 13) rfl (fun h10 => ?_) (fun h10 => ?_)
      · refine ax_aload_n dX12_next0_26 rfl rfl (pc' := 27) rfl ?_
        refine ax_dup dX12_next0_27 (pc' := 28) rfl ?_
        refine ax_geti (v := k0) dX12_next0_28 flX12_123 rfl sh_330 ms1_330_18 rfl (pc' := 31) rfl ?_
        refine ax_iconst dX12_next0_31 (by decide) (pc' := 32) rfl ?_
        refine ax_iadd dX12_next0_32 (by omega) (pc' := 33) rfl ?_
        refine ax_puti dX12_next0_33 flX12_123 (Or.inl rfl) sh_330 rfl (pc' := 36) rfl ?_
        refine ax_goto dX12_next0_36 (pc' := 0) (by decide) ?_
        refine ih3 (k0 + 1) (ax_up M1 330 18 (k0 + 1)) ?_ ?_ ?_ ?_ ?_
        · omega
        · intro x0 i0 hai
          exact (ax_up_miss (by omega) ((fr1 x0 i0 (by omega)).trans rfl))
        · exact (ax_up_hit _ _ _ _)
        · omega
        · exact (f_to_miss (by omega) (by unfold f_cB f_blk; omega)).symm.trans iv1_1
      · refine ax_aload_n dX12_next0_13 rfl rfl (pc' := 14) rfl ?_
        refine ax_aload_n dX12_next0_14 rfl rfl (pc' := 15) rfl ?_
        refine ax_geti (v := k0) dX12_next0_15 flX12_123 rfl sh_330 ms1_330_18 rfl (pc' := 18) rfl ?_
        refine ax_invG [.inl k0] [] dX12_next0_18 mlX12_204 sh_330 rfl rfl rfl (Nat.le_of_ble_eq_true rfl) (s_X12_see2 E l _ (by omega) _ k0 ((funext fun i0 => fr1 339 i0 (by omega)).trans hta) ((fr1 330 17 (by omega)).trans htn) (by first | omega | assumption) (by first | omega | assumption)) (pc' := 21) rfl (fun vv M_18 hq co18 hcm18 => ?_)
        obtain ⟨rfl, rfl⟩ := hq
        refine ax_reS (st2 := [.inl (f_see ta tn k0)]) rfl ?_
        have cc18 : -2147483648 ≤ f_see ta tn k0 ∧ f_see ta tn k0 < 2147483648 := co18 _ rfl
        refine ax_bipush dX12_next0_21 (by decide) (pc' := 23) rfl ?_
        refine ax_icmp_ne (tgt := 39) dX12_next0_23 (by decide) (pc' := 26) rfl (fun h23 => ?_) (fun h23 => ?_)
        · have qS : f_nS ta tn p0 = k0 := iv1_1.symm.trans (f_to_hit (by unfold f_cB f_blk; omega))
          have qC : f_nC ta tn p0 = f_see ta tn k0 := by unfold f_nC; rw [qS]
          refine ax_aload_n dX12_next0_39 rfl rfl (pc' := 40) rfl ?_
          refine ax_aload_n dX12_next0_40 rfl rfl (pc' := 41) rfl ?_
          refine ax_geti (v := k0) dX12_next0_41 flX12_123 rfl sh_330 ms1_330_18 rfl (pc' := 44) rfl ?_
          refine ax_puti dX12_next0_44 flX12_126 (Or.inl rfl) sh_330 rfl (pc' := 47) rfl ?_
          refine ax_aload_n dX12_next0_47 rfl rfl (pc' := 48) rfl ?_
          refine ax_aload_n dX12_next0_48 rfl rfl (pc' := 49) rfl ?_
          refine ax_geti (v := k0) dX12_next0_49 flX12_123 rfl sh_330 (show (ax_up M1 330 20 k0) 330 18 = k0 from (ax_up_miss (by decide) ms1_330_18)) rfl (pc' := 52) rfl ?_
          refine ax_invG [.inl k0] [] dX12_next0_52 mlX12_204 sh_330 rfl rfl rfl (Nat.le_of_ble_eq_true rfl) (s_X12_see2 E l _ (by omega) _ k0 (ax_up_rowmiss (by decide) ((funext fun i0 => fr1 339 i0 (by omega)).trans hta)) (ax_up_miss (by decide) ((fr1 330 17 (by omega)).trans htn)) (by first | omega | assumption) (by first | omega | assumption)) (pc' := 55) rfl (fun vv M_52 hq co52 hcm52 => ?_)
          obtain ⟨rfl, rfl⟩ := hq
          refine ax_reS (st2 := [.inl (f_see ta tn k0)]) rfl ?_
          have cc52 : -2147483648 ≤ f_see ta tn k0 ∧ f_see ta tn k0 < 2147483648 := co52 _ rfl
          refine ax_istore_n dX12_next0_55 rfl (by decide) (ls' := [some (.inr 330), some (.inl (f_see ta tn k0)), none]) rfl (pc' := 56) rfl ?_
          refine ax_iload_n dX12_next0_56 rfl rfl (pc' := 57) rfl ?_
          refine ax_iconst dX12_next0_57 (by decide) (pc' := 58) rfl ?_
          refine ax_icmp_ne (tgt := 69) dX12_next0_58 (by decide) (pc' := 61) rfl (fun h58 => ?_) (fun h58 => ?_)
          · refine ax_iload_n dX12_next0_69 rfl rfl (pc' := 70) rfl ?_
            refine ax_insG [.inl (f_see ta tn k0)] [] dX12_next0_70 mlX12_211 rfl rfl (Nat.le_of_ble_eq_true rfl) (s_X12_isLetter E l _ (by omega) _ (f_see ta tn k0)) (pc' := 73) rfl (fun vv M_70 hq co70 hcm70 => ?_)
            obtain ⟨rfl, rfl⟩ := hq
            refine ax_reS (st2 := [.inl (f_b (f_let (f_see ta tn k0)))]) rfl ?_
            refine ax_if_eq (tgt := 114) dX12_next0_73 (by decide) (pc' := 76) rfl (fun h73 => ?_) (fun h73 => ?_)
            · replace h73 := f_b_0 h73
              refine ax_iload_n dX12_next0_114 rfl rfl (pc' := 115) rfl ?_
              refine ax_insG [.inl (f_see ta tn k0)] [] dX12_next0_115 mlX12_217 rfl rfl (Nat.le_of_ble_eq_true rfl) (s_X12_isDigit E l _ (by omega) _ (f_see ta tn k0)) (pc' := 118) rfl (fun vv M_115 hq co115 hcm115 => ?_)
              obtain ⟨rfl, rfl⟩ := hq
              refine ax_reS (st2 := [.inl (f_b (f_dig (f_see ta tn k0)))]) rfl ?_
              refine ax_if_eq (tgt := 214) dX12_next0_118 (by decide) (pc' := 121) rfl (fun h118 => ?_) (fun h118 => ?_)
              · replace h118 := f_b_0 h118
                have qE : f_nE ta tn p0 = k0 + 1 := by
                  unfold f_nE
                  rw [qC, if_neg h58, if_neg h73, if_neg h118, qS]
                have qT0 : f_nT ta tn p0 rd = if f_sgn (f_see ta tn k0) then 100 + f_see ta tn k0 else 1 := by
                  unfold f_nT
                  rw [qC, if_neg h58, if_neg h73, if_neg h118]
                have qV : f_nV ta tn p0 v0 = v0 := by
                  unfold f_nV
                  rw [qC, if_neg (fun q => h118 q.2.2)]
                refine ax_aload_n dX12_next0_214 rfl rfl (pc' := 215) rfl ?_
                refine ax_dup dX12_next0_215 (pc' := 216) rfl ?_
                refine ax_geti (v := k0) dX12_next0_216 flX12_123 rfl sh_330 (show (ax_up M1 330 20 k0) 330 18 = k0 from (ax_up_miss (by decide) ms1_330_18)) rfl (pc' := 219) rfl ?_
                refine ax_iconst dX12_next0_219 (by decide) (pc' := 220) rfl ?_
                refine ax_iadd dX12_next0_220 (by omega) (pc' := 221) rfl ?_
                refine ax_puti dX12_next0_221 flX12_123 (Or.inl rfl) sh_330 rfl (pc' := 224) rfl ?_
                refine ax_iload_n dX12_next0_224 rfl rfl (pc' := 225) rfl ?_
                refine ax_bipush dX12_next0_225 (by decide) (pc' := 227) rfl ?_
                refine ax_icmp_eq (tgt := 284) dX12_next0_227 (by decide) (pc' := 230) rfl (fun h227 => ?_) (fun h227 => ?_)
                · have qT : f_nT ta tn p0 rd = 100 + f_see ta tn k0 := by rw [qT0, if_pos (by unfold f_sgn; omega)]
                  refine ax_iconst dX12_next0_284 (by decide) (pc' := 285) rfl ?_
                  refine ax_goto dX12_next0_285 (pc' := 289) (by decide) ?_
                  refine ax_istore_n dX12_next0_289 rfl (by decide) (ls' := [some (.inr 330), some (.inl (f_see ta tn k0)), some (.inl 1)]) rfl (pc' := 290) rfl ?_
                  refine ax_aload_n dX12_next0_290 rfl rfl (pc' := 291) rfl ?_
                  refine ax_iload_n dX12_next0_291 rfl rfl (pc' := 292) rfl ?_
                  refine ax_if_eq (tgt := 302) dX12_next0_292 (by decide) (pc' := 295) rfl (fun h292 => ?_) (fun h292 => ?_)
                  · exfalso
                    omega
                  · refine ax_bipush dX12_next0_295 (by decide) (pc' := 297) rfl ?_
                    refine ax_iload_n dX12_next0_297 rfl rfl (pc' := 298) rfl ?_
                    refine ax_iadd dX12_next0_298 (by omega) (pc' := 299) rfl ?_
                    refine ax_goto dX12_next0_299 (pc' := 303) (by decide) ?_
                    refine ax_puti dX12_next0_303 flX12_208 (Or.inl rfl) sh_330 rfl (pc' := 306) rfl ?_
                    refine ax_vret dX12_next0_306 rfl ?_
                    refine ⟨rfl, rfl, ?_, ?_, ?_, ?_, ?_⟩
                    · intro x0 i0 hai
                      exact (ax_up_miss (by omega) (ax_up_miss (by omega) (ax_up_miss (by omega) ((fr1 x0 i0 (by omega)).trans rfl))))
                    · refine Eq.trans (ax_up_miss (by decide) (ax_up_hit _ _ _ _)) ?_
                      exact qE.symm
                    · refine Eq.trans (ax_up_hit _ _ _ _) ?_
                      exact qT.symm
                    · refine Eq.trans (ax_up_miss (by decide) (ax_up_miss (by decide) (ax_up_hit _ _ _ _))) ?_
                      exact qS.symm
                    · refine Eq.trans (ax_up_miss (by decide) (ax_up_miss (by decide) (ax_up_miss (by decide) ((fr1 330 21 (by omega)).trans hv0)))) ?_
                      exact qV.symm
                · refine ax_iload_n dX12_next0_230 rfl rfl (pc' := 231) rfl ?_
                  refine ax_bipush dX12_next0_231 (by decide) (pc' := 233) rfl ?_
                  refine ax_icmp_eq (tgt := 284) dX12_next0_233 (by decide) (pc' := 236) rfl (fun h233 => ?_) (fun h233 => ?_)
                  · have qT : f_nT ta tn p0 rd = 100 + f_see ta tn k0 := by rw [qT0, if_pos (by unfold f_sgn; omega)]
                    refine ax_iconst dX12_next0_284 (by decide) (pc' := 285) rfl ?_
                    refine ax_goto dX12_next0_285 (pc' := 289) (by decide) ?_
                    refine ax_istore_n dX12_next0_289 rfl (by decide) (ls' := [some (.inr 330), some (.inl (f_see ta tn k0)), some (.inl 1)]) rfl (pc' := 290) rfl ?_
                    refine ax_aload_n dX12_next0_290 rfl rfl (pc' := 291) rfl ?_
                    refine ax_iload_n dX12_next0_291 rfl rfl (pc' := 292) rfl ?_
                    refine ax_if_eq (tgt := 302) dX12_next0_292 (by decide) (pc' := 295) rfl (fun h292 => ?_) (fun h292 => ?_)
                    · exfalso
                      omega
                    · refine ax_bipush dX12_next0_295 (by decide) (pc' := 297) rfl ?_
                      refine ax_iload_n dX12_next0_297 rfl rfl (pc' := 298) rfl ?_
                      refine ax_iadd dX12_next0_298 (by omega) (pc' := 299) rfl ?_
                      refine ax_goto dX12_next0_299 (pc' := 303) (by decide) ?_
                      refine ax_puti dX12_next0_303 flX12_208 (Or.inl rfl) sh_330 rfl (pc' := 306) rfl ?_
                      refine ax_vret dX12_next0_306 rfl ?_
                      refine ⟨rfl, rfl, ?_, ?_, ?_, ?_, ?_⟩
                      · intro x0 i0 hai
                        exact (ax_up_miss (by omega) (ax_up_miss (by omega) (ax_up_miss (by omega) ((fr1 x0 i0 (by omega)).trans rfl))))
                      · refine Eq.trans (ax_up_miss (by decide) (ax_up_hit _ _ _ _)) ?_
                        exact qE.symm
                      · refine Eq.trans (ax_up_hit _ _ _ _) ?_
                        exact qT.symm
                      · refine Eq.trans (ax_up_miss (by decide) (ax_up_miss (by decide) (ax_up_hit _ _ _ _))) ?_
                        exact qS.symm
                      · refine Eq.trans (ax_up_miss (by decide) (ax_up_miss (by decide) (ax_up_miss (by decide) ((fr1 330 21 (by omega)).trans hv0)))) ?_
                        exact qV.symm
                  · refine ax_iload_n dX12_next0_236 rfl rfl (pc' := 237) rfl ?_
                    refine ax_bipush dX12_next0_237 (by decide) (pc' := 239) rfl ?_
                    refine ax_icmp_eq (tgt := 284) dX12_next0_239 (by decide) (pc' := 242) rfl (fun h239 => ?_) (fun h239 => ?_)
                    · have qT : f_nT ta tn p0 rd = 100 + f_see ta tn k0 := by rw [qT0, if_pos (by unfold f_sgn; omega)]
                      refine ax_iconst dX12_next0_284 (by decide) (pc' := 285) rfl ?_
                      refine ax_goto dX12_next0_285 (pc' := 289) (by decide) ?_
                      refine ax_istore_n dX12_next0_289 rfl (by decide) (ls' := [some (.inr 330), some (.inl (f_see ta tn k0)), some (.inl 1)]) rfl (pc' := 290) rfl ?_
                      refine ax_aload_n dX12_next0_290 rfl rfl (pc' := 291) rfl ?_
                      refine ax_iload_n dX12_next0_291 rfl rfl (pc' := 292) rfl ?_
                      refine ax_if_eq (tgt := 302) dX12_next0_292 (by decide) (pc' := 295) rfl (fun h292 => ?_) (fun h292 => ?_)
                      · exfalso
                        omega
                      · refine ax_bipush dX12_next0_295 (by decide) (pc' := 297) rfl ?_
                        refine ax_iload_n dX12_next0_297 rfl rfl (pc' := 298) rfl ?_
                        refine ax_iadd dX12_next0_298 (by omega) (pc' := 299) rfl ?_
                        refine ax_goto dX12_next0_299 (pc' := 303) (by decide) ?_
                        refine ax_puti dX12_next0_303 flX12_208 (Or.inl rfl) sh_330 rfl (pc' := 306) rfl ?_
                        refine ax_vret dX12_next0_306 rfl ?_
                        refine ⟨rfl, rfl, ?_, ?_, ?_, ?_, ?_⟩
                        · intro x0 i0 hai
                          exact (ax_up_miss (by omega) (ax_up_miss (by omega) (ax_up_miss (by omega) ((fr1 x0 i0 (by omega)).trans rfl))))
                        · refine Eq.trans (ax_up_miss (by decide) (ax_up_hit _ _ _ _)) ?_
                          exact qE.symm
                        · refine Eq.trans (ax_up_hit _ _ _ _) ?_
                          exact qT.symm
                        · refine Eq.trans (ax_up_miss (by decide) (ax_up_miss (by decide) (ax_up_hit _ _ _ _))) ?_
                          exact qS.symm
                        · refine Eq.trans (ax_up_miss (by decide) (ax_up_miss (by decide) (ax_up_miss (by decide) ((fr1 330 21 (by omega)).trans hv0)))) ?_
                          exact qV.symm
                    · refine ax_iload_n dX12_next0_242 rfl rfl (pc' := 243) rfl ?_
                      refine ax_bipush dX12_next0_243 (by decide) (pc' := 245) rfl ?_
                      refine ax_icmp_eq (tgt := 284) dX12_next0_245 (by decide) (pc' := 248) rfl (fun h245 => ?_) (fun h245 => ?_)
                      · have qT : f_nT ta tn p0 rd = 100 + f_see ta tn k0 := by rw [qT0, if_pos (by unfold f_sgn; omega)]
                        refine ax_iconst dX12_next0_284 (by decide) (pc' := 285) rfl ?_
                        refine ax_goto dX12_next0_285 (pc' := 289) (by decide) ?_
                        refine ax_istore_n dX12_next0_289 rfl (by decide) (ls' := [some (.inr 330), some (.inl (f_see ta tn k0)), some (.inl 1)]) rfl (pc' := 290) rfl ?_
                        refine ax_aload_n dX12_next0_290 rfl rfl (pc' := 291) rfl ?_
                        refine ax_iload_n dX12_next0_291 rfl rfl (pc' := 292) rfl ?_
                        refine ax_if_eq (tgt := 302) dX12_next0_292 (by decide) (pc' := 295) rfl (fun h292 => ?_) (fun h292 => ?_)
                        · exfalso
                          omega
                        · refine ax_bipush dX12_next0_295 (by decide) (pc' := 297) rfl ?_
                          refine ax_iload_n dX12_next0_297 rfl rfl (pc' := 298) rfl ?_
                          refine ax_iadd dX12_next0_298 (by omega) (pc' := 299) rfl ?_
                          refine ax_goto dX12_next0_299 (pc' := 303) (by decide) ?_
                          refine ax_puti dX12_next0_303 flX12_208 (Or.inl rfl) sh_330 rfl (pc' := 306) rfl ?_
                          refine ax_vret dX12_next0_306 rfl ?_
                          refine ⟨rfl, rfl, ?_, ?_, ?_, ?_, ?_⟩
                          · intro x0 i0 hai
                            exact (ax_up_miss (by omega) (ax_up_miss (by omega) (ax_up_miss (by omega) ((fr1 x0 i0 (by omega)).trans rfl))))
                          · refine Eq.trans (ax_up_miss (by decide) (ax_up_hit _ _ _ _)) ?_
                            exact qE.symm
                          · refine Eq.trans (ax_up_hit _ _ _ _) ?_
                            exact qT.symm
                          · refine Eq.trans (ax_up_miss (by decide) (ax_up_miss (by decide) (ax_up_hit _ _ _ _))) ?_
                            exact qS.symm
                          · refine Eq.trans (ax_up_miss (by decide) (ax_up_miss (by decide) (ax_up_miss (by decide) ((fr1 330 21 (by omega)).trans hv0)))) ?_
                            exact qV.symm
                      · refine ax_iload_n dX12_next0_248 rfl rfl (pc' := 249) rfl ?_
                        refine ax_bipush dX12_next0_249 (by decide) (pc' := 251) rfl ?_
                        refine ax_icmp_eq (tgt := 284) dX12_next0_251 (by decide) (pc' := 254) rfl (fun h251 => ?_) (fun h251 => ?_)
                        · have qT : f_nT ta tn p0 rd = 100 + f_see ta tn k0 := by rw [qT0, if_pos (by unfold f_sgn; omega)]
                          refine ax_iconst dX12_next0_284 (by decide) (pc' := 285) rfl ?_
                          refine ax_goto dX12_next0_285 (pc' := 289) (by decide) ?_
                          refine ax_istore_n dX12_next0_289 rfl (by decide) (ls' := [some (.inr 330), some (.inl (f_see ta tn k0)), some (.inl 1)]) rfl (pc' := 290) rfl ?_
                          refine ax_aload_n dX12_next0_290 rfl rfl (pc' := 291) rfl ?_
                          refine ax_iload_n dX12_next0_291 rfl rfl (pc' := 292) rfl ?_
                          refine ax_if_eq (tgt := 302) dX12_next0_292 (by decide) (pc' := 295) rfl (fun h292 => ?_) (fun h292 => ?_)
                          · exfalso
                            omega
                          · refine ax_bipush dX12_next0_295 (by decide) (pc' := 297) rfl ?_
                            refine ax_iload_n dX12_next0_297 rfl rfl (pc' := 298) rfl ?_
                            refine ax_iadd dX12_next0_298 (by omega) (pc' := 299) rfl ?_
                            refine ax_goto dX12_next0_299 (pc' := 303) (by decide) ?_
                            refine ax_puti dX12_next0_303 flX12_208 (Or.inl rfl) sh_330 rfl (pc' := 306) rfl ?_
                            refine ax_vret dX12_next0_306 rfl ?_
                            refine ⟨rfl, rfl, ?_, ?_, ?_, ?_, ?_⟩
                            · intro x0 i0 hai
                              exact (ax_up_miss (by omega) (ax_up_miss (by omega) (ax_up_miss (by omega) ((fr1 x0 i0 (by omega)).trans rfl))))
                            · refine Eq.trans (ax_up_miss (by decide) (ax_up_hit _ _ _ _)) ?_
                              exact qE.symm
                            · refine Eq.trans (ax_up_hit _ _ _ _) ?_
                              exact qT.symm
                            · refine Eq.trans (ax_up_miss (by decide) (ax_up_miss (by decide) (ax_up_hit _ _ _ _))) ?_
                              exact qS.symm
                            · refine Eq.trans (ax_up_miss (by decide) (ax_up_miss (by decide) (ax_up_miss (by decide) ((fr1 330 21 (by omega)).trans hv0)))) ?_
                              exact qV.symm
                        · refine ax_iload_n dX12_next0_254 rfl rfl (pc' := 255) rfl ?_
                          refine ax_bipush dX12_next0_255 (by decide) (pc' := 257) rfl ?_
                          refine ax_icmp_eq (tgt := 284) dX12_next0_257 (by decide) (pc' := 260) rfl (fun h257 => ?_) (fun h257 => ?_)
                          · have qT : f_nT ta tn p0 rd = 100 + f_see ta tn k0 := by rw [qT0, if_pos (by unfold f_sgn; omega)]
                            refine ax_iconst dX12_next0_284 (by decide) (pc' := 285) rfl ?_
                            refine ax_goto dX12_next0_285 (pc' := 289) (by decide) ?_
                            refine ax_istore_n dX12_next0_289 rfl (by decide) (ls' := [some (.inr 330), some (.inl (f_see ta tn k0)), some (.inl 1)]) rfl (pc' := 290) rfl ?_
                            refine ax_aload_n dX12_next0_290 rfl rfl (pc' := 291) rfl ?_
                            refine ax_iload_n dX12_next0_291 rfl rfl (pc' := 292) rfl ?_
                            refine ax_if_eq (tgt := 302) dX12_next0_292 (by decide) (pc' := 295) rfl (fun h292 => ?_) (fun h292 => ?_)
                            · exfalso
                              omega
                            · refine ax_bipush dX12_next0_295 (by decide) (pc' := 297) rfl ?_
                              refine ax_iload_n dX12_next0_297 rfl rfl (pc' := 298) rfl ?_
                              refine ax_iadd dX12_next0_298 (by omega) (pc' := 299) rfl ?_
                              refine ax_goto dX12_next0_299 (pc' := 303) (by decide) ?_
                              refine ax_puti dX12_next0_303 flX12_208 (Or.inl rfl) sh_330 rfl (pc' := 306) rfl ?_
                              refine ax_vret dX12_next0_306 rfl ?_
                              refine ⟨rfl, rfl, ?_, ?_, ?_, ?_, ?_⟩
                              · intro x0 i0 hai
                                exact (ax_up_miss (by omega) (ax_up_miss (by omega) (ax_up_miss (by omega) ((fr1 x0 i0 (by omega)).trans rfl))))
                              · refine Eq.trans (ax_up_miss (by decide) (ax_up_hit _ _ _ _)) ?_
                                exact qE.symm
                              · refine Eq.trans (ax_up_hit _ _ _ _) ?_
                                exact qT.symm
                              · refine Eq.trans (ax_up_miss (by decide) (ax_up_miss (by decide) (ax_up_hit _ _ _ _))) ?_
                                exact qS.symm
                              · refine Eq.trans (ax_up_miss (by decide) (ax_up_miss (by decide) (ax_up_miss (by decide) ((fr1 330 21 (by omega)).trans hv0)))) ?_
                                exact qV.symm
                          · refine ax_iload_n dX12_next0_260 rfl rfl (pc' := 261) rfl ?_
                            refine ax_bipush dX12_next0_261 (by decide) (pc' := 263) rfl ?_
                            refine ax_icmp_eq (tgt := 284) dX12_next0_263 (by decide) (pc' := 266) rfl (fun h263 => ?_) (fun h263 => ?_)
                            · have qT : f_nT ta tn p0 rd = 100 + f_see ta tn k0 := by rw [qT0, if_pos (by unfold f_sgn; omega)]
                              refine ax_iconst dX12_next0_284 (by decide) (pc' := 285) rfl ?_
                              refine ax_goto dX12_next0_285 (pc' := 289) (by decide) ?_
                              refine ax_istore_n dX12_next0_289 rfl (by decide) (ls' := [some (.inr 330), some (.inl (f_see ta tn k0)), some (.inl 1)]) rfl (pc' := 290) rfl ?_
                              refine ax_aload_n dX12_next0_290 rfl rfl (pc' := 291) rfl ?_
                              refine ax_iload_n dX12_next0_291 rfl rfl (pc' := 292) rfl ?_
                              refine ax_if_eq (tgt := 302) dX12_next0_292 (by decide) (pc' := 295) rfl (fun h292 => ?_) (fun h292 => ?_)
                              · exfalso
                                omega
                              · refine ax_bipush dX12_next0_295 (by decide) (pc' := 297) rfl ?_
                                refine ax_iload_n dX12_next0_297 rfl rfl (pc' := 298) rfl ?_
                                refine ax_iadd dX12_next0_298 (by omega) (pc' := 299) rfl ?_
                                refine ax_goto dX12_next0_299 (pc' := 303) (by decide) ?_
                                refine ax_puti dX12_next0_303 flX12_208 (Or.inl rfl) sh_330 rfl (pc' := 306) rfl ?_
                                refine ax_vret dX12_next0_306 rfl ?_
                                refine ⟨rfl, rfl, ?_, ?_, ?_, ?_, ?_⟩
                                · intro x0 i0 hai
                                  exact (ax_up_miss (by omega) (ax_up_miss (by omega) (ax_up_miss (by omega) ((fr1 x0 i0 (by omega)).trans rfl))))
                                · refine Eq.trans (ax_up_miss (by decide) (ax_up_hit _ _ _ _)) ?_
                                  exact qE.symm
                                · refine Eq.trans (ax_up_hit _ _ _ _) ?_
                                  exact qT.symm
                                · refine Eq.trans (ax_up_miss (by decide) (ax_up_miss (by decide) (ax_up_hit _ _ _ _))) ?_
                                  exact qS.symm
                                · refine Eq.trans (ax_up_miss (by decide) (ax_up_miss (by decide) (ax_up_miss (by decide) ((fr1 330 21 (by omega)).trans hv0)))) ?_
                                  exact qV.symm
                            · refine ax_iload_n dX12_next0_266 rfl rfl (pc' := 267) rfl ?_
                              refine ax_bipush dX12_next0_267 (by decide) (pc' := 269) rfl ?_
                              refine ax_icmp_eq (tgt := 284) dX12_next0_269 (by decide) (pc' := 272) rfl (fun h269 => ?_) (fun h269 => ?_)
                              · have qT : f_nT ta tn p0 rd = 100 + f_see ta tn k0 := by rw [qT0, if_pos (by unfold f_sgn; omega)]
                                refine ax_iconst dX12_next0_284 (by decide) (pc' := 285) rfl ?_
                                refine ax_goto dX12_next0_285 (pc' := 289) (by decide) ?_
                                refine ax_istore_n dX12_next0_289 rfl (by decide) (ls' := [some (.inr 330), some (.inl (f_see ta tn k0)), some (.inl 1)]) rfl (pc' := 290) rfl ?_
                                refine ax_aload_n dX12_next0_290 rfl rfl (pc' := 291) rfl ?_
                                refine ax_iload_n dX12_next0_291 rfl rfl (pc' := 292) rfl ?_
                                refine ax_if_eq (tgt := 302) dX12_next0_292 (by decide) (pc' := 295) rfl (fun h292 => ?_) (fun h292 => ?_)
                                · exfalso
                                  omega
                                · refine ax_bipush dX12_next0_295 (by decide) (pc' := 297) rfl ?_
                                  refine ax_iload_n dX12_next0_297 rfl rfl (pc' := 298) rfl ?_
                                  refine ax_iadd dX12_next0_298 (by omega) (pc' := 299) rfl ?_
                                  refine ax_goto dX12_next0_299 (pc' := 303) (by decide) ?_
                                  refine ax_puti dX12_next0_303 flX12_208 (Or.inl rfl) sh_330 rfl (pc' := 306) rfl ?_
                                  refine ax_vret dX12_next0_306 rfl ?_
                                  refine ⟨rfl, rfl, ?_, ?_, ?_, ?_, ?_⟩
                                  · intro x0 i0 hai
                                    exact (ax_up_miss (by omega) (ax_up_miss (by omega) (ax_up_miss (by omega) ((fr1 x0 i0 (by omega)).trans rfl))))
                                  · refine Eq.trans (ax_up_miss (by decide) (ax_up_hit _ _ _ _)) ?_
                                    exact qE.symm
                                  · refine Eq.trans (ax_up_hit _ _ _ _) ?_
                                    exact qT.symm
                                  · refine Eq.trans (ax_up_miss (by decide) (ax_up_miss (by decide) (ax_up_hit _ _ _ _))) ?_
                                    exact qS.symm
                                  · refine Eq.trans (ax_up_miss (by decide) (ax_up_miss (by decide) (ax_up_miss (by decide) ((fr1 330 21 (by omega)).trans hv0)))) ?_
                                    exact qV.symm
                              · refine ax_iload_n dX12_next0_272 rfl rfl (pc' := 273) rfl ?_
                                refine ax_bipush dX12_next0_273 (by decide) (pc' := 275) rfl ?_
                                refine ax_icmp_eq (tgt := 284) dX12_next0_275 (by decide) (pc' := 278) rfl (fun h275 => ?_) (fun h275 => ?_)
                                · have qT : f_nT ta tn p0 rd = 100 + f_see ta tn k0 := by rw [qT0, if_pos (by unfold f_sgn; omega)]
                                  refine ax_iconst dX12_next0_284 (by decide) (pc' := 285) rfl ?_
                                  refine ax_goto dX12_next0_285 (pc' := 289) (by decide) ?_
                                  refine ax_istore_n dX12_next0_289 rfl (by decide) (ls' := [some (.inr 330), some (.inl (f_see ta tn k0)), some (.inl 1)]) rfl (pc' := 290) rfl ?_
                                  refine ax_aload_n dX12_next0_290 rfl rfl (pc' := 291) rfl ?_
                                  refine ax_iload_n dX12_next0_291 rfl rfl (pc' := 292) rfl ?_
                                  refine ax_if_eq (tgt := 302) dX12_next0_292 (by decide) (pc' := 295) rfl (fun h292 => ?_) (fun h292 => ?_)
                                  · exfalso
                                    omega
                                  · refine ax_bipush dX12_next0_295 (by decide) (pc' := 297) rfl ?_
                                    refine ax_iload_n dX12_next0_297 rfl rfl (pc' := 298) rfl ?_
                                    refine ax_iadd dX12_next0_298 (by omega) (pc' := 299) rfl ?_
                                    refine ax_goto dX12_next0_299 (pc' := 303) (by decide) ?_
                                    refine ax_puti dX12_next0_303 flX12_208 (Or.inl rfl) sh_330 rfl (pc' := 306) rfl ?_
                                    refine ax_vret dX12_next0_306 rfl ?_
                                    refine ⟨rfl, rfl, ?_, ?_, ?_, ?_, ?_⟩
                                    · intro x0 i0 hai
                                      exact (ax_up_miss (by omega) (ax_up_miss (by omega) (ax_up_miss (by omega) ((fr1 x0 i0 (by omega)).trans rfl))))
                                    · refine Eq.trans (ax_up_miss (by decide) (ax_up_hit _ _ _ _)) ?_
                                      exact qE.symm
                                    · refine Eq.trans (ax_up_hit _ _ _ _) ?_
                                      exact qT.symm
                                    · refine Eq.trans (ax_up_miss (by decide) (ax_up_miss (by decide) (ax_up_hit _ _ _ _))) ?_
                                      exact qS.symm
                                    · refine Eq.trans (ax_up_miss (by decide) (ax_up_miss (by decide) (ax_up_miss (by decide) ((fr1 330 21 (by omega)).trans hv0)))) ?_
                                      exact qV.symm
                                · refine ax_iload_n dX12_next0_278 rfl rfl (pc' := 279) rfl ?_
                                  refine ax_bipush dX12_next0_279 (by decide) (pc' := 281) rfl ?_
                                  refine ax_icmp_ne (tgt := 288) dX12_next0_281 (by decide) (pc' := 284) rfl (fun h281 => ?_) (fun h281 => ?_)
                                  · have qT : f_nT ta tn p0 rd = 1 := by rw [qT0, if_neg (by unfold f_sgn; omega)]
                                    refine ax_iconst dX12_next0_288 (by decide) (pc' := 289) rfl ?_
                                    refine ax_istore_n dX12_next0_289 rfl (by decide) (ls' := [some (.inr 330), some (.inl (f_see ta tn k0)), some (.inl 0)]) rfl (pc' := 290) rfl ?_
                                    refine ax_aload_n dX12_next0_290 rfl rfl (pc' := 291) rfl ?_
                                    refine ax_iload_n dX12_next0_291 rfl rfl (pc' := 292) rfl ?_
                                    refine ax_if_eq (tgt := 302) dX12_next0_292 (by decide) (pc' := 295) rfl (fun h292 => ?_) (fun h292 => ?_)
                                    · refine ax_iconst dX12_next0_302 (by decide) (pc' := 303) rfl ?_
                                      refine ax_puti dX12_next0_303 flX12_208 (Or.inl rfl) sh_330 rfl (pc' := 306) rfl ?_
                                      refine ax_vret dX12_next0_306 rfl ?_
                                      refine ⟨rfl, rfl, ?_, ?_, ?_, ?_, ?_⟩
                                      · intro x0 i0 hai
                                        exact (ax_up_miss (by omega) (ax_up_miss (by omega) (ax_up_miss (by omega) ((fr1 x0 i0 (by omega)).trans rfl))))
                                      · refine Eq.trans (ax_up_miss (by decide) (ax_up_hit _ _ _ _)) ?_
                                        exact qE.symm
                                      · refine Eq.trans (ax_up_hit _ _ _ _) ?_
                                        exact qT.symm
                                      · refine Eq.trans (ax_up_miss (by decide) (ax_up_miss (by decide) (ax_up_hit _ _ _ _))) ?_
                                        exact qS.symm
                                      · refine Eq.trans (ax_up_miss (by decide) (ax_up_miss (by decide) (ax_up_miss (by decide) ((fr1 330 21 (by omega)).trans hv0)))) ?_
                                        exact qV.symm
                                    · exfalso
                                      omega
                                  · have qT : f_nT ta tn p0 rd = 100 + f_see ta tn k0 := by rw [qT0, if_pos (by unfold f_sgn; omega)]
                                    refine ax_iconst dX12_next0_284 (by decide) (pc' := 285) rfl ?_
                                    refine ax_goto dX12_next0_285 (pc' := 289) (by decide) ?_
                                    refine ax_istore_n dX12_next0_289 rfl (by decide) (ls' := [some (.inr 330), some (.inl (f_see ta tn k0)), some (.inl 1)]) rfl (pc' := 290) rfl ?_
                                    refine ax_aload_n dX12_next0_290 rfl rfl (pc' := 291) rfl ?_
                                    refine ax_iload_n dX12_next0_291 rfl rfl (pc' := 292) rfl ?_
                                    refine ax_if_eq (tgt := 302) dX12_next0_292 (by decide) (pc' := 295) rfl (fun h292 => ?_) (fun h292 => ?_)
                                    · exfalso
                                      omega
                                    · refine ax_bipush dX12_next0_295 (by decide) (pc' := 297) rfl ?_
                                      refine ax_iload_n dX12_next0_297 rfl rfl (pc' := 298) rfl ?_
                                      refine ax_iadd dX12_next0_298 (by omega) (pc' := 299) rfl ?_
                                      refine ax_goto dX12_next0_299 (pc' := 303) (by decide) ?_
                                      refine ax_puti dX12_next0_303 flX12_208 (Or.inl rfl) sh_330 rfl (pc' := 306) rfl ?_
                                      refine ax_vret dX12_next0_306 rfl ?_
                                      refine ⟨rfl, rfl, ?_, ?_, ?_, ?_, ?_⟩
                                      · intro x0 i0 hai
                                        exact (ax_up_miss (by omega) (ax_up_miss (by omega) (ax_up_miss (by omega) ((fr1 x0 i0 (by omega)).trans rfl))))
                                      · refine Eq.trans (ax_up_miss (by decide) (ax_up_hit _ _ _ _)) ?_
                                        exact qE.symm
                                      · refine Eq.trans (ax_up_hit _ _ _ _) ?_
                                        exact qT.symm
                                      · refine Eq.trans (ax_up_miss (by decide) (ax_up_miss (by decide) (ax_up_hit _ _ _ _))) ?_
                                        exact qS.symm
                                      · refine Eq.trans (ax_up_miss (by decide) (ax_up_miss (by decide) (ax_up_miss (by decide) ((fr1 330 21 (by omega)).trans hv0)))) ?_
                                        exact qV.symm
              · replace h118 := f_b_1 h118
                refine ax_aload_n dX12_next0_121 rfl rfl (pc' := 122) rfl ?_
                refine ax_iconst dX12_next0_122 (by decide) (pc' := 123) rfl ?_
                refine ax_puti dX12_next0_123 flX12_220 (Or.inl rfl) sh_330 rfl (pc' := 126) rfl ?_
                have LP4 : ∀ (kq5 : Nat) (k2 v2 : Int) (M4 : ax_Mem) (hm4 : tn - k2 < (kq5 : Nat)) (fr4 : ∀ x0 i0 : Int, ¬ ((x0 = 330 ∧ i0 = 18) ∨ (x0 = 330 ∧ i0 = 21)) → M4 x0 i0 = (ax_up (ax_up M1 330 20 k0) 330 21 0) x0 i0) (ms4_330_18 : M4 330 18 = k2) (ms4_330_21 : M4 330 21 = v2) (iv4_0 : k0 ≤ k2 ∧ k2 ≤ tn) (iv4_1 : f_to (f_cD ta tn) k2 tn = f_to (f_cD ta tn) k0 tn) (iv4_2 : v2 = f_num ta tn k0 k2) (iv4_3 : (0 ≤ v2 ∧ v2 ≤ 9999) ∧ (k2 = k0 → v2 ≤ 0) ∧ (k2 = k0 + 1 → v2 ≤ 9) ∧ (k2 = k0 + 2 → v2 ≤ 99) ∧ (k2 = k0 + 3 → v2 ≤ 999)), ax_W E l (d + 1) 0 0 iX12_next0 126 [some (.inr 330), some (.inl (f_see ta tn k0)), none] [] SH M4 (ax_P (fun z0 M2 => z0 = none ∧ (∀ x0 i0 : Int, ¬ ((x0 = 330 ∧ i0 = 18) ∨ (x0 = 330 ∧ i0 = 19) ∨ (x0 = 330 ∧ i0 = 20) ∨ (x0 = 330 ∧ i0 = 21)) → M2 x0 i0 = M x0 i0) ∧ M2 330 18 = f_nE ta tn p0 ∧ M2 330 19 = f_nT ta tn p0 rd ∧ M2 330 20 = f_nS ta tn p0 ∧ M2 330 21 = f_nV ta tn p0 v0)) := by
                  intro kq5
                  induction kq5 with
                  | zero =>
                    intro k2 v2 M4 hm4 fr4 ms4_330_18 ms4_330_21 iv4_0 iv4_1 iv4_2 iv4_3
                    exfalso
                    omega
                  | succ kq5 ih6 =>
                    intro k2 v2 M4 hm4 fr4 ms4_330_18 ms4_330_21 iv4_0 iv4_1 iv4_2 iv4_3
                    have qs2 := f_see_rg (k := k2) hg1 (by omega)
                    refine ax_aload_n dX12_next0_126 rfl rfl (pc' := 127) rfl ?_
                    refine ax_aload_n dX12_next0_127 rfl rfl (pc' := 128) rfl ?_
                    refine ax_geti (v := k2) dX12_next0_128 flX12_123 rfl sh_330 ms4_330_18 rfl (pc' := 131) rfl ?_
                    refine ax_invG [.inl k2] [] dX12_next0_131 mlX12_204 sh_330 rfl rfl rfl (Nat.le_of_ble_eq_true rfl) (s_X12_see2 E l _ (by omega) _ k2 ((funext fun i0 => fr4 339 i0 (by omega)).trans (ax_up_rowmiss (by decide) (ax_up_rowmiss (by decide) ((funext fun i0 => fr1 339 i0 (by omega)).trans hta)))) ((fr4 330 17 (by omega)).trans (ax_up_miss (by decide) (ax_up_miss (by decide) ((fr1 330 17 (by omega)).trans htn)))) (by first | omega | assumption) (by first | omega | assumption)) (pc' := 134) rfl (fun vv M_131 hq co131 hcm131 => ?_)
                    obtain ⟨rfl, rfl⟩ := hq
                    refine ax_reS (st2 := [.inl (f_see ta tn k2)]) rfl ?_
                    have cc131 : -2147483648 ≤ f_see ta tn k2 ∧ f_see ta tn k2 < 2147483648 := co131 _ rfl
                    refine ax_insG [.inl (f_see ta tn k2)] [] dX12_next0_134 mlX12_217 rfl rfl (Nat.le_of_ble_eq_true rfl) (s_X12_isDigit E l _ (by omega) _ (f_see ta tn k2)) (pc' := 137) rfl (fun vv M_134 hq co134 hcm134 => ?_)
                    obtain ⟨rfl, rfl⟩ := hq
                    refine ax_reS (st2 := [.inl (f_b (f_dig (f_see ta tn k2)))]) rfl ?_
                    refine ax_if_eq (tgt := 189) dX12_next0_137 (by decide) (pc' := 140) rfl (fun h137 => ?_) (fun h137 => ?_)
                    · replace h137 := f_b_0 h137
                      have qE : f_nE ta tn p0 = k2 := by
                        unfold f_nE
                        rw [qC, if_neg h58, if_neg h73, if_pos h118, qS, ← iv4_1]
                        exact f_to_hit h137
                      have qT0 : f_nT ta tn p0 rd = if k2 - k0 < 5 then 2 else 1 := by
                        unfold f_nT
                        rw [qC, if_neg h58, if_neg h73, if_pos h118, qS, qE]
                      have qV : f_nV ta tn p0 v0 = v2 := by
                        unfold f_nV
                        rw [qC, if_pos ⟨h58, h73, h118⟩, qS, qE, iv4_2]
                      refine ax_aload_n dX12_next0_189 rfl rfl (pc' := 190) rfl ?_
                      refine ax_aload_n dX12_next0_190 rfl rfl (pc' := 191) rfl ?_
                      refine ax_geti (v := k2) dX12_next0_191 flX12_123 rfl sh_330 ms4_330_18 rfl (pc' := 194) rfl ?_
                      refine ax_aload_n dX12_next0_194 rfl rfl (pc' := 195) rfl ?_
                      refine ax_geti (v := k0) dX12_next0_195 flX12_126 rfl sh_330 (show M4 330 20 = k0 from ((fr4 330 20 (by omega)).trans (ax_up_miss (by decide) (ax_up_hit _ _ _ _)))) rfl (pc' := 198) rfl ?_
                      refine ax_isub dX12_next0_198 (by omega) (pc' := 199) rfl ?_
                      refine ax_iconst dX12_next0_199 (by decide) (pc' := 200) rfl ?_
                      refine ax_icmp_ge (tgt := 207) dX12_next0_200 (by decide) (pc' := 203) rfl (fun h200 => ?_) (fun h200 => ?_)
                      · have qT : f_nT ta tn p0 rd = 1 := by rw [qT0, if_neg (by omega)]
                        refine ax_iconst dX12_next0_207 (by decide) (pc' := 208) rfl ?_
                        refine ax_puti dX12_next0_208 flX12_208 (Or.inl rfl) sh_330 rfl (pc' := 211) rfl ?_
                        refine ax_goto dX12_next0_211 (pc' := 306) (by decide) ?_
                        refine ax_vret dX12_next0_306 rfl ?_
                        refine ⟨rfl, rfl, ?_, ?_, ?_, ?_, ?_⟩
                        · intro x0 i0 hai
                          exact (ax_up_miss (by omega) ((fr4 x0 i0 (by omega)).trans (ax_up_miss (by omega) (ax_up_miss (by omega) ((fr1 x0 i0 (by omega)).trans rfl)))))
                        · refine Eq.trans (ax_up_miss (by decide) ms4_330_18) ?_
                          exact qE.symm
                        · refine Eq.trans (ax_up_hit _ _ _ _) ?_
                          exact qT.symm
                        · refine Eq.trans (ax_up_miss (by decide) ((fr4 330 20 (by omega)).trans (ax_up_miss (by decide) (ax_up_hit _ _ _ _)))) ?_
                          exact qS.symm
                        · refine Eq.trans (ax_up_miss (by decide) ms4_330_21) ?_
                          exact qV.symm
                      · have qT : f_nT ta tn p0 rd = 2 := by rw [qT0, if_pos (by omega)]
                        refine ax_iconst dX12_next0_203 (by decide) (pc' := 204) rfl ?_
                        refine ax_goto dX12_next0_204 (pc' := 208) (by decide) ?_
                        refine ax_puti dX12_next0_208 flX12_208 (Or.inl rfl) sh_330 rfl (pc' := 211) rfl ?_
                        refine ax_goto dX12_next0_211 (pc' := 306) (by decide) ?_
                        refine ax_vret dX12_next0_306 rfl ?_
                        refine ⟨rfl, rfl, ?_, ?_, ?_, ?_, ?_⟩
                        · intro x0 i0 hai
                          exact (ax_up_miss (by omega) ((fr4 x0 i0 (by omega)).trans (ax_up_miss (by omega) (ax_up_miss (by omega) ((fr1 x0 i0 (by omega)).trans rfl)))))
                        · refine Eq.trans (ax_up_miss (by decide) ms4_330_18) ?_
                          exact qE.symm
                        · refine Eq.trans (ax_up_hit _ _ _ _) ?_
                          exact qT.symm
                        · refine Eq.trans (ax_up_miss (by decide) ((fr4 330 20 (by omega)).trans (ax_up_miss (by decide) (ax_up_hit _ _ _ _)))) ?_
                          exact qS.symm
                        · refine Eq.trans (ax_up_miss (by decide) ms4_330_21) ?_
                          exact qV.symm
                    · replace h137 := f_b_1 h137
                      refine ax_aload_n dX12_next0_140 rfl rfl (pc' := 141) rfl ?_
                      refine ax_geti (v := k2) dX12_next0_141 flX12_123 rfl sh_330 ms4_330_18 rfl (pc' := 144) rfl ?_
                      refine ax_aload_n dX12_next0_144 rfl rfl (pc' := 145) rfl ?_
                      refine ax_geti (v := k0) dX12_next0_145 flX12_126 rfl sh_330 (show M4 330 20 = k0 from ((fr4 330 20 (by omega)).trans (ax_up_miss (by decide) (ax_up_hit _ _ _ _)))) rfl (pc' := 148) rfl ?_
                      refine ax_iconst dX12_next0_148 (by decide) (pc' := 149) rfl ?_
                      refine ax_iadd dX12_next0_149 (by omega) (pc' := 150) rfl ?_
                      refine ax_icmp_ge (tgt := 176) dX12_next0_150 (by decide) (pc' := 153) rfl (fun h150 => ?_) (fun h150 => ?_)
                      · refine ax_aload_n dX12_next0_176 rfl rfl (pc' := 177) rfl ?_
                        refine ax_dup dX12_next0_177 (pc' := 178) rfl ?_
                        refine ax_geti (v := k2) dX12_next0_178 flX12_123 rfl sh_330 ms4_330_18 rfl (pc' := 181) rfl ?_
                        refine ax_iconst dX12_next0_181 (by decide) (pc' := 182) rfl ?_
                        refine ax_iadd dX12_next0_182 (by omega) (pc' := 183) rfl ?_
                        refine ax_puti dX12_next0_183 flX12_123 (Or.inl rfl) sh_330 rfl (pc' := 186) rfl ?_
                        refine ax_goto dX12_next0_186 (pc' := 126) (by decide) ?_
                        refine ih6 (k2 + 1) v2 (ax_up M4 330 18 (k2 + 1)) ?_ ?_ ?_ ?_ ?_ ?_ ?_ ?_
                        · omega
                        · intro x0 i0 hai
                          exact (ax_up_miss (by omega) ((fr4 x0 i0 (by omega)).trans rfl))
                        · exact (ax_up_hit _ _ _ _)
                        · exact (ax_up_miss (by decide) ms4_330_21)
                        · omega
                        · exact (f_to_miss (by omega) (fun hc => hc h137)).symm.trans iv4_1
                        · rw [iv4_2]
                          unfold f_num
                          first
                            | rw [show min (k2 + 1) (k0 + 4) = min k2 (k0 + 4) by omega]
                            | (rw [show min (k2 + 1) (k0 + 4) = k2 + 1 by omega, f_loop_last (by omega), show min k2 (k0 + 4) = k2 by omega])
                        · omega
                      · refine ax_aload_n dX12_next0_153 rfl rfl (pc' := 154) rfl ?_
                        refine ax_bipush dX12_next0_154 (by decide) (pc' := 156) rfl ?_
                        refine ax_aload_n dX12_next0_156 rfl rfl (pc' := 157) rfl ?_
                        refine ax_geti (v := v2) dX12_next0_157 flX12_220 rfl sh_330 ms4_330_21 rfl (pc' := 160) rfl ?_
                        refine ax_imul dX12_next0_160 (by omega) (pc' := 161) rfl ?_
                        refine ax_aload_n dX12_next0_161 rfl rfl (pc' := 162) rfl ?_
                        refine ax_aload_n dX12_next0_162 rfl rfl (pc' := 163) rfl ?_
                        refine ax_geti (v := k2) dX12_next0_163 flX12_123 rfl sh_330 ms4_330_18 rfl (pc' := 166) rfl ?_
                        refine ax_invG [.inl k2] [.inl (10 * v2), .inr 330] dX12_next0_166 mlX12_204 sh_330 rfl rfl rfl (Nat.le_of_ble_eq_true rfl) (s_X12_see2 E l _ (by omega) _ k2 ((funext fun i0 => fr4 339 i0 (by omega)).trans (ax_up_rowmiss (by decide) (ax_up_rowmiss (by decide) ((funext fun i0 => fr1 339 i0 (by omega)).trans hta)))) ((fr4 330 17 (by omega)).trans (ax_up_miss (by decide) (ax_up_miss (by decide) ((fr1 330 17 (by omega)).trans htn)))) (by first | omega | assumption) (by first | omega | assumption)) (pc' := 169) rfl (fun vv M_166 hq co166 hcm166 => ?_)
                        obtain ⟨rfl, rfl⟩ := hq
                        refine ax_reS (st2 := [.inl (f_see ta tn k2), .inl (10 * v2), .inr 330]) rfl ?_
                        have cc166 : -2147483648 ≤ f_see ta tn k2 ∧ f_see ta tn k2 < 2147483648 := co166 _ rfl
                        refine ax_iadd dX12_next0_169 (by omega) (pc' := 170) rfl ?_
                        refine ax_bipush dX12_next0_170 (by decide) (pc' := 172) rfl ?_
                        refine ax_isub dX12_next0_172 (by omega) (pc' := 173) rfl ?_
                        refine ax_puti dX12_next0_173 flX12_220 (Or.inl rfl) sh_330 rfl (pc' := 176) rfl ?_
                        refine ax_aload_n dX12_next0_176 rfl rfl (pc' := 177) rfl ?_
                        refine ax_dup dX12_next0_177 (pc' := 178) rfl ?_
                        refine ax_geti (v := k2) dX12_next0_178 flX12_123 rfl sh_330 (show (ax_up M4 330 21 (10 * v2 + (f_see ta tn k2) - 48)) 330 18 = k2 from (ax_up_miss (by decide) ms4_330_18)) rfl (pc' := 181) rfl ?_
                        refine ax_iconst dX12_next0_181 (by decide) (pc' := 182) rfl ?_
                        refine ax_iadd dX12_next0_182 (by omega) (pc' := 183) rfl ?_
                        refine ax_puti dX12_next0_183 flX12_123 (Or.inl rfl) sh_330 rfl (pc' := 186) rfl ?_
                        refine ax_goto dX12_next0_186 (pc' := 126) (by decide) ?_
                        refine ih6 (k2 + 1) (10 * v2 + (f_see ta tn k2) - 48) (ax_up (ax_up M4 330 21 (10 * v2 + (f_see ta tn k2) - 48)) 330 18 (k2 + 1)) ?_ ?_ ?_ ?_ ?_ ?_ ?_ ?_
                        · omega
                        · intro x0 i0 hai
                          exact (ax_up_miss (by omega) (ax_up_miss (by omega) ((fr4 x0 i0 (by omega)).trans rfl)))
                        · exact (ax_up_hit _ _ _ _)
                        · exact (ax_up_miss (by decide) (ax_up_hit _ _ _ _))
                        · omega
                        · exact (f_to_miss (by omega) (fun hc => hc h137)).symm.trans iv4_1
                        · rw [iv4_2]
                          unfold f_num
                          first
                            | rw [show min (k2 + 1) (k0 + 4) = min k2 (k0 + 4) by omega]
                            | (rw [show min (k2 + 1) (k0 + 4) = k2 + 1 by omega, f_loop_last (by omega), show min k2 (k0 + 4) = k2 by omega])
                        · omega
                refine LP4 (tn - k0 : Int).toNat.succ k0 0 (ax_up (ax_up M1 330 20 k0) 330 21 0) ?_ ?_ ?_ ?_ ?_ ?_ ?_ ?_
                · omega
                · exact fun a i _ => rfl
                · exact (ax_up_miss (by decide) (ax_up_miss (by decide) ms1_330_18))
                · exact (ax_up_hit _ _ _ _)
                · omega
                · rfl
                · unfold f_num
                  rw [f_loop_done (by omega)]
                · omega
            · replace h73 := f_b_1 h73
              have LP7 : ∀ (kq8 : Nat) (k1 : Int) (M7 : ax_Mem) (hm7 : tn - k1 < (kq8 : Nat)) (fr7 : ∀ x0 i0 : Int, ¬ ((x0 = 330 ∧ i0 = 18)) → M7 x0 i0 = (ax_up M1 330 20 k0) x0 i0) (ms7_330_18 : M7 330 18 = k1) (iv7_0 : k0 ≤ k1 ∧ k1 ≤ tn) (iv7_1 : f_to (f_cL ta tn) k1 tn = f_to (f_cL ta tn) k0 tn), ax_W E l (d + 1) 0 0 iX12_next0 76 [some (.inr 330), some (.inl (f_see ta tn k0)), none] [] SH M7 (ax_P (fun z0 M2 => z0 = none ∧ (∀ x0 i0 : Int, ¬ ((x0 = 330 ∧ i0 = 18) ∨ (x0 = 330 ∧ i0 = 19) ∨ (x0 = 330 ∧ i0 = 20) ∨ (x0 = 330 ∧ i0 = 21)) → M2 x0 i0 = M x0 i0) ∧ M2 330 18 = f_nE ta tn p0 ∧ M2 330 19 = f_nT ta tn p0 rd ∧ M2 330 20 = f_nS ta tn p0 ∧ M2 330 21 = f_nV ta tn p0 v0)) := by
                intro kq8
                induction kq8 with
                | zero =>
                  intro k1 M7 hm7 fr7 ms7_330_18 iv7_0 iv7_1
                  exfalso
                  omega
                | succ kq8 ih9 =>
                  intro k1 M7 hm7 fr7 ms7_330_18 iv7_0 iv7_1
                  have qs1 := f_see_rg (k := k1) hg1 (by omega)
                  refine ax_aload_n dX12_next0_76 rfl rfl (pc' := 77) rfl ?_
                  refine ax_aload_n dX12_next0_77 rfl rfl (pc' := 78) rfl ?_
                  refine ax_geti (v := k1) dX12_next0_78 flX12_123 rfl sh_330 ms7_330_18 rfl (pc' := 81) rfl ?_
                  refine ax_invG [.inl k1] [] dX12_next0_81 mlX12_204 sh_330 rfl rfl rfl (Nat.le_of_ble_eq_true rfl) (s_X12_see2 E l _ (by omega) _ k1 ((funext fun i0 => fr7 339 i0 (by omega)).trans (ax_up_rowmiss (by decide) ((funext fun i0 => fr1 339 i0 (by omega)).trans hta))) ((fr7 330 17 (by omega)).trans (ax_up_miss (by decide) ((fr1 330 17 (by omega)).trans htn))) (by first | omega | assumption) (by first | omega | assumption)) (pc' := 84) rfl (fun vv M_81 hq co81 hcm81 => ?_)
                  obtain ⟨rfl, rfl⟩ := hq
                  refine ax_reS (st2 := [.inl (f_see ta tn k1)]) rfl ?_
                  have cc81 : -2147483648 ≤ f_see ta tn k1 ∧ f_see ta tn k1 < 2147483648 := co81 _ rfl
                  refine ax_insG [.inl (f_see ta tn k1)] [] dX12_next0_84 mlX12_211 rfl rfl (Nat.le_of_ble_eq_true rfl) (s_X12_isLetter E l _ (by omega) _ (f_see ta tn k1)) (pc' := 87) rfl (fun vv M_84 hq co84 hcm84 => ?_)
                  obtain ⟨rfl, rfl⟩ := hq
                  refine ax_reS (st2 := [.inl (f_b (f_let (f_see ta tn k1)))]) rfl ?_
                  refine ax_if_eq (tgt := 103) dX12_next0_87 (by decide) (pc' := 90) rfl (fun h87 => ?_) (fun h87 => ?_)
                  · replace h87 := f_b_0 h87
                    have qE : f_nE ta tn p0 = k1 := by
                      unfold f_nE
                      rw [qC, if_neg h58, if_pos h73, qS, ← iv7_1]
                      exact f_to_hit h87
                    have qT : f_nT ta tn p0 rd = f_wrd ta k0 k1 rd := by
                      unfold f_nT
                      rw [qC, if_neg h58, if_pos h73, qS, qE]
                    have qV : f_nV ta tn p0 v0 = v0 := by
                      unfold f_nV
                      rw [qC, if_neg (fun q => q.2.1 h73)]
                    refine ax_aload_n dX12_next0_103 rfl rfl (pc' := 104) rfl ?_
                    refine ax_aload_n dX12_next0_104 rfl rfl (pc' := 105) rfl ?_
                    refine ax_invG [] [.inr 330] dX12_next0_105 mlX12_214 sh_330 rfl rfl rfl (Nat.le_of_ble_eq_true rfl) (s_X12_word E l _ (by omega) _ ((funext fun i0 => fr7 339 i0 (by omega)).trans (ax_up_rowmiss (by decide) ((funext fun i0 => fr1 339 i0 (by omega)).trans hta))) ms7_330_18 ((fr7 330 20 (by omega)).trans (ax_up_hit _ _ _ _)) ((fr7 330 13 (by omega)).trans (ax_up_miss (by decide) ((fr1 330 13 (by omega)).trans hrd))) (by first | omega | assumption)) (pc' := 108) rfl (fun vv M_105 hq co105 hcm105 => ?_)
                    obtain ⟨rfl, rfl⟩ := hq
                    refine ax_reS (st2 := [.inl (f_wrd ta k0 k1 rd), .inr 330]) rfl ?_
                    have cc105 : -2147483648 ≤ f_wrd ta k0 k1 rd ∧ f_wrd ta k0 k1 rd < 2147483648 := co105 _ rfl
                    refine ax_puti dX12_next0_108 flX12_208 (Or.inl rfl) sh_330 rfl (pc' := 111) rfl ?_
                    refine ax_goto dX12_next0_111 (pc' := 306) (by decide) ?_
                    refine ax_vret dX12_next0_306 rfl ?_
                    refine ⟨rfl, rfl, ?_, ?_, ?_, ?_, ?_⟩
                    · intro x0 i0 hai
                      exact (ax_up_miss (by omega) ((fr7 x0 i0 (by omega)).trans (ax_up_miss (by omega) ((fr1 x0 i0 (by omega)).trans rfl))))
                    · refine Eq.trans (ax_up_miss (by decide) ms7_330_18) ?_
                      exact qE.symm
                    · refine Eq.trans (ax_up_hit _ _ _ _) ?_
                      exact qT.symm
                    · refine Eq.trans (ax_up_miss (by decide) ((fr7 330 20 (by omega)).trans (ax_up_hit _ _ _ _))) ?_
                      exact qS.symm
                    · refine Eq.trans (ax_up_miss (by decide) ((fr7 330 21 (by omega)).trans (ax_up_miss (by decide) ((fr1 330 21 (by omega)).trans hv0)))) ?_
                      exact qV.symm
                  · replace h87 := f_b_1 h87
                    refine ax_aload_n dX12_next0_90 rfl rfl (pc' := 91) rfl ?_
                    refine ax_dup dX12_next0_91 (pc' := 92) rfl ?_
                    refine ax_geti (v := k1) dX12_next0_92 flX12_123 rfl sh_330 ms7_330_18 rfl (pc' := 95) rfl ?_
                    refine ax_iconst dX12_next0_95 (by decide) (pc' := 96) rfl ?_
                    refine ax_iadd dX12_next0_96 (by omega) (pc' := 97) rfl ?_
                    refine ax_puti dX12_next0_97 flX12_123 (Or.inl rfl) sh_330 rfl (pc' := 100) rfl ?_
                    refine ax_goto dX12_next0_100 (pc' := 76) (by decide) ?_
                    refine ih9 (k1 + 1) (ax_up M7 330 18 (k1 + 1)) ?_ ?_ ?_ ?_ ?_
                    · omega
                    · intro x0 i0 hai
                      exact (ax_up_miss (by omega) ((fr7 x0 i0 (by omega)).trans rfl))
                    · exact (ax_up_hit _ _ _ _)
                    · omega
                    · exact (f_to_miss (by omega) (fun hc => hc h87)).symm.trans iv7_1
              refine LP7 (tn - k0 : Int).toNat.succ k0 (ax_up M1 330 20 k0) ?_ ?_ ?_ ?_ ?_
              · omega
              · exact fun a i _ => rfl
              · exact (ax_up_miss (by decide) ms1_330_18)
              · omega
              · rfl
          · have qE : f_nE ta tn p0 = k0 := by
              unfold f_nE
              rw [qC, if_pos h58, qS]
            have qT : f_nT ta tn p0 rd = 0 := by
              unfold f_nT
              rw [qC, if_pos h58]
            have qV : f_nV ta tn p0 v0 = v0 := by
              unfold f_nV
              rw [qC, if_neg (fun q => q.1 h58)]
            refine ax_aload_n dX12_next0_61 rfl rfl (pc' := 62) rfl ?_
            refine ax_iconst dX12_next0_62 (by decide) (pc' := 63) rfl ?_
            refine ax_puti dX12_next0_63 flX12_208 (Or.inl rfl) sh_330 rfl (pc' := 66) rfl ?_
            refine ax_goto dX12_next0_66 (pc' := 306) (by decide) ?_
            refine ax_vret dX12_next0_306 rfl ?_
            refine ⟨rfl, rfl, ?_, ?_, ?_, ?_, ?_⟩
            · intro x0 i0 hai
              exact (ax_up_miss (by omega) (ax_up_miss (by omega) ((fr1 x0 i0 (by omega)).trans rfl)))
            · refine Eq.trans (ax_up_miss (by decide) (ax_up_miss (by decide) ms1_330_18)) ?_
              exact qE.symm
            · refine Eq.trans (ax_up_hit _ _ _ _) ?_
              exact qT.symm
            · refine Eq.trans (ax_up_miss (by decide) (ax_up_hit _ _ _ _)) ?_
              exact qS.symm
            · refine Eq.trans (ax_up_miss (by decide) (ax_up_miss (by decide) ((fr1 330 21 (by omega)).trans hv0))) ?_
              exact qV.symm
        · refine ax_aload_n dX12_next0_26 rfl rfl (pc' := 27) rfl ?_
          refine ax_dup dX12_next0_27 (pc' := 28) rfl ?_
          refine ax_geti (v := k0) dX12_next0_28 flX12_123 rfl sh_330 ms1_330_18 rfl (pc' := 31) rfl ?_
          refine ax_iconst dX12_next0_31 (by decide) (pc' := 32) rfl ?_
          refine ax_iadd dX12_next0_32 (by omega) (pc' := 33) rfl ?_
          refine ax_puti dX12_next0_33 flX12_123 (Or.inl rfl) sh_330 rfl (pc' := 36) rfl ?_
          refine ax_goto dX12_next0_36 (pc' := 0) (by decide) ?_
          refine ih3 (k0 + 1) (ax_up M1 330 18 (k0 + 1)) ?_ ?_ ?_ ?_ ?_
          · omega
          · intro x0 i0 hai
            exact (ax_up_miss (by omega) ((fr1 x0 i0 (by omega)).trans rfl))
          · exact (ax_up_hit _ _ _ _)
          · omega
          · exact (f_to_miss (by omega) (by unfold f_cB f_blk; omega)).symm.trans iv1_1
  refine LP1 (tn - p0 : Int).toNat.succ p0 M ?_ ?_ ?_ ?_ ?_
  · omega
  · exact fun a i _ => rfl
  · exact hp0
  · omega
  · rfl
