/-! the reference: its functions as plain functions of its row w -/
def f_R (w : Int → Int) (r f : Int) : Int := w (4 + 320 * r + f)
def f_P (w : Int → Int) (r p f : Int) : Int := w (4 + 320 * r + 8 + 13 * p + f)
def f_sR (w : Int → Int) (r f v : Int) : Int → Int := f_up w (4 + 320 * r + f) v
def f_sP (w : Int → Int) (r p f v : Int) : Int → Int := f_up w (4 + 320 * r + 8 + 13 * p + f) v
/-- lengths are lengths, ropes are there or not -/
def f_ok (w : Int → Int) : Prop := ∀ r, 0 ≤ r → r < 8 → (f_R w r 0 = 0 ∨ f_R w r 0 = 1) ∧ 0 ≤ f_R w r 1 ∧ f_R w r 1 ≤ 24
abbrev f_isR (w : Int → Int) (r : Int) : Prop := 0 ≤ r ∧ r ≤ 7 ∧ f_R w r 0 = 1
abbrev f_isP (w : Int → Int) (r p : Int) : Prop := f_isR w r ∧ 0 ≤ p ∧ p ≤ f_R w r 1 - 1
def f_hab (w : Int → Int) (r p k v since : Int) : Int → Int := f_sP (f_sP w r p (1 + k) v) r p (7 + k) (if v = 0 then 0 else since)
set_option maxRecDepth 20000 in
theorem s_X12_isIn (E : ax_Env) (l : Launch) (d : Nat) (hd : 0 ≤ d) (M : ax_Mem) (v least most : Int) : ax_G E l d iX12_isIn [.inl v, .inl least, .inl most] M (fun z0 M2 => z0 = some (.inl (f_b (least ≤ v ∧ v ≤ most))) ∧ M = M2) := by
  refine ax_start rfl (Nat.le_of_ble_eq_true rfl) (ls := [some (.inl v), some (.inl least), some (.inl most)]) rfl (fun hav hcm => ?_)
  have hc0 : -2147483648 ≤ v ∧ v < 2147483648 := hav (.inl v) (by simp)
  have hc1 : -2147483648 ≤ least ∧ least < 2147483648 := hav (.inl least) (by simp)
  have hc2 : -2147483648 ≤ most ∧ most < 2147483648 := hav (.inl most) (by simp)
  clear hav
  refine ax_iload_n dX12_isIn_0 rfl rfl (pc' := 1) rfl ?_
  refine ax_iload_n dX12_isIn_1 rfl rfl (pc' := 2) rfl ?_
  refine ax_icmp_lt (tgt := 14) dX12_isIn_2 (by decide) (pc' := 5) rfl (fun h2 => ?_) (fun h2 => ?_)
  · refine ax_iconst dX12_isIn_14 (by decide) (pc' := 15) rfl ?_
    refine ax_zret dX12_isIn_15 rfl (by decide) ?_
    refine ⟨rfl, ?_, ?_⟩
    · refine congrArg (fun z => some (Sum.inl z)) ?_
      unfold f_b; split <;> omega
    · rfl
  · refine ax_iload_n dX12_isIn_5 rfl rfl (pc' := 6) rfl ?_
    refine ax_iload_n dX12_isIn_6 rfl rfl (pc' := 7) rfl ?_
    refine ax_icmp_gt (tgt := 14) dX12_isIn_7 (by decide) (pc' := 10) rfl (fun h7 => ?_) (fun h7 => ?_)
    · refine ax_iconst dX12_isIn_14 (by decide) (pc' := 15) rfl ?_
      refine ax_zret dX12_isIn_15 rfl (by decide) ?_
      refine ⟨rfl, ?_, ?_⟩
      · refine congrArg (fun z => some (Sum.inl z)) ?_
        unfold f_b; split <;> omega
      · rfl
    · refine ax_iconst dX12_isIn_10 (by decide) (pc' := 11) rfl ?_
      refine ax_goto dX12_isIn_11 (pc' := 15) (by decide) ?_
      refine ax_zret dX12_isIn_15 rfl (by decide) ?_
      refine ⟨rfl, ?_, ?_⟩
      · refine congrArg (fun z => some (Sum.inl z)) ?_
        unfold f_b; split <;> omega
      · rfl
set_option maxRecDepth 20000 in
theorem s_X12_lesser (E : ax_Env) (l : Launch) (d : Nat) (hd : 0 ≤ d) (M : ax_Mem) (a b : Int) : ax_G E l d iX12_lesser [.inl a, .inl b] M (fun z0 M2 => z0 = some (.inl (min a b)) ∧ M = M2) := by
  refine ax_start rfl (Nat.le_of_ble_eq_true rfl) (ls := [some (.inl a), some (.inl b)]) rfl (fun hav hcm => ?_)
  have hc0 : -2147483648 ≤ a ∧ a < 2147483648 := hav (.inl a) (by simp)
  have hc1 : -2147483648 ≤ b ∧ b < 2147483648 := hav (.inl b) (by simp)
  clear hav
  refine ax_iload_n dX12_lesser_0 rfl rfl (pc' := 1) rfl ?_
  refine ax_iload_n dX12_lesser_1 rfl rfl (pc' := 2) rfl ?_
  refine ax_icmp_ge (tgt := 9) dX12_lesser_2 (by decide) (pc' := 5) rfl (fun h2 => ?_) (fun h2 => ?_)
  · refine ax_iload_n dX12_lesser_9 rfl rfl (pc' := 10) rfl ?_
    refine ax_iret dX12_lesser_10 rfl ?_
    refine ⟨rfl, ?_, ?_⟩
    · refine congrArg (fun z => some (Sum.inl z)) ?_
      omega
    · rfl
  · refine ax_iload_n dX12_lesser_5 rfl rfl (pc' := 6) rfl ?_
    refine ax_goto dX12_lesser_6 (pc' := 10) (by decide) ?_
    refine ax_iret dX12_lesser_10 rfl ?_
    refine ⟨rfl, ?_, ?_⟩
    · refine congrArg (fun z => some (Sum.inl z)) ?_
      omega
    · rfl
set_option maxRecDepth 20000 in
theorem s_X12_greater (E : ax_Env) (l : Launch) (d : Nat) (hd : 0 ≤ d) (M : ax_Mem) (a b : Int) : ax_G E l d iX12_greater [.inl a, .inl b] M (fun z0 M2 => z0 = some (.inl (max a b)) ∧ M = M2) := by
  refine ax_start rfl (Nat.le_of_ble_eq_true rfl) (ls := [some (.inl a), some (.inl b)]) rfl (fun hav hcm => ?_)
  have hc0 : -2147483648 ≤ a ∧ a < 2147483648 := hav (.inl a) (by simp)
  have hc1 : -2147483648 ≤ b ∧ b < 2147483648 := hav (.inl b) (by simp)
  clear hav
  refine ax_iload_n dX12_greater_0 rfl rfl (pc' := 1) rfl ?_
  refine ax_iload_n dX12_greater_1 rfl rfl (pc' := 2) rfl ?_
  refine ax_icmp_le (tgt := 9) dX12_greater_2 (by decide) (pc' := 5) rfl (fun h2 => ?_) (fun h2 => ?_)
  · refine ax_iload_n dX12_greater_9 rfl rfl (pc' := 10) rfl ?_
    refine ax_iret dX12_greater_10 rfl ?_
    refine ⟨rfl, ?_, ?_⟩
    · refine congrArg (fun z => some (Sum.inl z)) ?_
      omega
    · rfl
  · refine ax_iload_n dX12_greater_5 rfl rfl (pc' := 6) rfl ?_
    refine ax_goto dX12_greater_6 (pc' := 10) (by decide) ?_
    refine ax_iret dX12_greater_10 rfl ?_
    refine ⟨rfl, ?_, ?_⟩
    · refine congrArg (fun z => some (Sum.inl z)) ?_
      omega
    · rfl
set_option maxRecDepth 20000 in
theorem s_X12_ofRope (E : ax_Env) (l : Launch) (d : Nat) (hd : 0 ≤ d) (M : ax_Mem) (r f : Int) {w : Int → Int} (hw : M 331 = w) (hg0 : 0 ≤ r ∧ r < 8) (hg1 : 0 ≤ f ∧ f < 8) : ax_G E l d iX12_ofRope [.inr 330, .inl r, .inl f] M (fun z0 M2 => z0 = some (.inl (f_R w r f)) ∧ M = M2) := by
  refine ax_start rfl (Nat.le_of_ble_eq_true rfl) (ls := [some (.inr 330), some (.inl r), some (.inl f)]) rfl (fun hav hcm => ?_)
  have hc1 : -2147483648 ≤ r ∧ r < 2147483648 := hav (.inl r) (by simp)
  have hc2 : -2147483648 ≤ f ∧ f < 2147483648 := hav (.inl f) (by simp)
  clear hav
  refine ax_aload_n dX12_ofRope_0 rfl rfl (pc' := 1) rfl ?_
  refine ax_getr (v := 331) dX12_ofRope_1 flX12_7 rfl sh_330 rfl (pc' := 4) rfl ?_
  refine ax_iconst dX12_ofRope_4 (by decide) (pc' := 5) rfl ?_
  refine ax_sipush dX12_ofRope_5 (by decide) (pc' := 8) rfl ?_
  refine ax_iload_n dX12_ofRope_8 rfl rfl (pc' := 9) rfl ?_
  refine ax_imul dX12_ofRope_9 (by omega) (pc' := 10) rfl ?_
  refine ax_iadd dX12_ofRope_10 (by omega) (pc' := 11) rfl ?_
  refine ax_iload_n dX12_ofRope_11 rfl rfl (pc' := 12) rfl ?_
  refine ax_iadd dX12_ofRope_12 (by omega) (pc' := 13) rfl ?_
  refine ax_iald (v := w (4 + (320 * r) + f)) dX12_ofRope_13 sh_331 rfl (by omega) (by omega) ((congrFun hw (4 + (320 * r) + f)).trans rfl) (pc' := 14) rfl ?_
  refine ax_iret dX12_ofRope_14 rfl ?_
  refine ⟨rfl, ?_, ?_⟩
  · rfl
  · rfl
set_option maxRecDepth 20000 in
theorem s_X12_ropes (E : ax_Env) (l : Launch) (d : Nat) (hd : 0 ≤ d) (M : ax_Mem) (r f v : Int) {w : Int → Int} (hw : M 331 = w) (hg0 : 0 ≤ r ∧ r < 8) (hg1 : 0 ≤ f ∧ f < 8) : ax_G E l d iX12_ropes [.inr 330, .inl r, .inl f, .inl v] M (fun z0 M2 => z0 = none ∧ (∀ x0 i0 : Int, ¬ (x0 = 331) → M2 x0 i0 = M x0 i0) ∧ M2 331 = f_sR w r f v) := by
  refine ax_start rfl (Nat.le_of_ble_eq_true rfl) (ls := [some (.inr 330), some (.inl r), some (.inl f), some (.inl v)]) rfl (fun hav hcm => ?_)
  have hc1 : -2147483648 ≤ r ∧ r < 2147483648 := hav (.inl r) (by simp)
  have hc2 : -2147483648 ≤ f ∧ f < 2147483648 := hav (.inl f) (by simp)
  have hc3 : -2147483648 ≤ v ∧ v < 2147483648 := hav (.inl v) (by simp)
  clear hav
  refine ax_aload_n dX12_ropes_0 rfl rfl (pc' := 1) rfl ?_
  refine ax_getr (v := 331) dX12_ropes_1 flX12_7 rfl sh_330 rfl (pc' := 4) rfl ?_
  refine ax_iconst dX12_ropes_4 (by decide) (pc' := 5) rfl ?_
  refine ax_sipush dX12_ropes_5 (by decide) (pc' := 8) rfl ?_
  refine ax_iload_n dX12_ropes_8 rfl rfl (pc' := 9) rfl ?_
  refine ax_imul dX12_ropes_9 (by omega) (pc' := 10) rfl ?_
  refine ax_iadd dX12_ropes_10 (by omega) (pc' := 11) rfl ?_
  refine ax_iload_n dX12_ropes_11 rfl rfl (pc' := 12) rfl ?_
  refine ax_iadd dX12_ropes_12 (by omega) (pc' := 13) rfl ?_
  refine ax_iload_n dX12_ropes_13 rfl rfl (pc' := 14) rfl ?_
  refine ax_iast dX12_ropes_14 sh_331 rfl (by omega) (by omega) (pc' := 15) rfl ?_
  refine ax_vret dX12_ropes_15 rfl ?_
  refine ⟨rfl, rfl, ?_, ?_⟩
  · intro x0 i0 hai
    exact (ax_up_miss (by omega) rfl)
  · exact (ax_up_rowhit hw)
set_option maxRecDepth 20000 in
theorem s_X12_ofPlace (E : ax_Env) (l : Launch) (d : Nat) (hd : 0 ≤ d) (M : ax_Mem) (r p f : Int) {w : Int → Int} (hw : M 331 = w) (hg0 : 0 ≤ r ∧ r < 8) (hg1 : 0 ≤ p ∧ p < 24) (hg2 : 0 ≤ f ∧ f < 13) : ax_G E l d iX12_ofPlace [.inr 330, .inl r, .inl p, .inl f] M (fun z0 M2 => z0 = some (.inl (f_P w r p f)) ∧ M = M2) := by
  refine ax_start rfl (Nat.le_of_ble_eq_true rfl) (ls := [some (.inr 330), some (.inl r), some (.inl p), some (.inl f)]) rfl (fun hav hcm => ?_)
  have hc1 : -2147483648 ≤ r ∧ r < 2147483648 := hav (.inl r) (by simp)
  have hc2 : -2147483648 ≤ p ∧ p < 2147483648 := hav (.inl p) (by simp)
  have hc3 : -2147483648 ≤ f ∧ f < 2147483648 := hav (.inl f) (by simp)
  clear hav
  refine ax_aload_n dX12_ofPlace_0 rfl rfl (pc' := 1) rfl ?_
  refine ax_getr (v := 331) dX12_ofPlace_1 flX12_7 rfl sh_330 rfl (pc' := 4) rfl ?_
  refine ax_iconst dX12_ofPlace_4 (by decide) (pc' := 5) rfl ?_
  refine ax_sipush dX12_ofPlace_5 (by decide) (pc' := 8) rfl ?_
  refine ax_iload_n dX12_ofPlace_8 rfl rfl (pc' := 9) rfl ?_
  refine ax_imul dX12_ofPlace_9 (by omega) (pc' := 10) rfl ?_
  refine ax_iadd dX12_ofPlace_10 (by omega) (pc' := 11) rfl ?_
  refine ax_bipush dX12_ofPlace_11 (by decide) (pc' := 13) rfl ?_
  refine ax_iadd dX12_ofPlace_13 (by omega) (pc' := 14) rfl ?_
  refine ax_bipush dX12_ofPlace_14 (by decide) (pc' := 16) rfl ?_
  refine ax_iload_n dX12_ofPlace_16 rfl rfl (pc' := 17) rfl ?_
  refine ax_imul dX12_ofPlace_17 (by omega) (pc' := 18) rfl ?_
  refine ax_iadd dX12_ofPlace_18 (by omega) (pc' := 19) rfl ?_
  refine ax_iload_n dX12_ofPlace_19 rfl rfl (pc' := 20) rfl ?_
  refine ax_iadd dX12_ofPlace_20 (by omega) (pc' := 21) rfl ?_
  refine ax_iald (v := w (4 + (320 * r) + 8 + (13 * p) + f)) dX12_ofPlace_21 sh_331 rfl (by omega) (by omega) ((congrFun hw (4 + (320 * r) + 8 + (13 * p) + f)).trans rfl) (pc' := 22) rfl ?_
  refine ax_iret dX12_ofPlace_22 rfl ?_
  refine ⟨rfl, ?_, ?_⟩
  · rfl
  · rfl
set_option maxRecDepth 20000 in
theorem s_X12_places (E : ax_Env) (l : Launch) (d : Nat) (hd : 0 ≤ d) (M : ax_Mem) (r p f v : Int) {w : Int → Int} (hw : M 331 = w) (hg0 : 0 ≤ r ∧ r < 8) (hg1 : 0 ≤ p ∧ p < 24) (hg2 : 0 ≤ f ∧ f < 13) : ax_G E l d iX12_places [.inr 330, .inl r, .inl p, .inl f, .inl v] M (fun z0 M2 => z0 = none ∧ (∀ x0 i0 : Int, ¬ (x0 = 331) → M2 x0 i0 = M x0 i0) ∧ M2 331 = f_sP w r p f v) := by
  refine ax_start rfl (Nat.le_of_ble_eq_true rfl) (ls := [some (.inr 330), some (.inl r), some (.inl p), some (.inl f), some (.inl v)]) rfl (fun hav hcm => ?_)
  have hc1 : -2147483648 ≤ r ∧ r < 2147483648 := hav (.inl r) (by simp)
  have hc2 : -2147483648 ≤ p ∧ p < 2147483648 := hav (.inl p) (by simp)
  have hc3 : -2147483648 ≤ f ∧ f < 2147483648 := hav (.inl f) (by simp)
  have hc4 : -2147483648 ≤ v ∧ v < 2147483648 := hav (.inl v) (by simp)
  clear hav
  refine ax_aload_n dX12_places_0 rfl rfl (pc' := 1) rfl ?_
  refine ax_getr (v := 331) dX12_places_1 flX12_7 rfl sh_330 rfl (pc' := 4) rfl ?_
  refine ax_iconst dX12_places_4 (by decide) (pc' := 5) rfl ?_
  refine ax_sipush dX12_places_5 (by decide) (pc' := 8) rfl ?_
  refine ax_iload_n dX12_places_8 rfl rfl (pc' := 9) rfl ?_
  refine ax_imul dX12_places_9 (by omega) (pc' := 10) rfl ?_
  refine ax_iadd dX12_places_10 (by omega) (pc' := 11) rfl ?_
  refine ax_bipush dX12_places_11 (by decide) (pc' := 13) rfl ?_
  refine ax_iadd dX12_places_13 (by omega) (pc' := 14) rfl ?_
  refine ax_bipush dX12_places_14 (by decide) (pc' := 16) rfl ?_
  refine ax_iload_n dX12_places_16 rfl rfl (pc' := 17) rfl ?_
  refine ax_imul dX12_places_17 (by omega) (pc' := 18) rfl ?_
  refine ax_iadd dX12_places_18 (by omega) (pc' := 19) rfl ?_
  refine ax_iload_n dX12_places_19 rfl rfl (pc' := 20) rfl ?_
  refine ax_iadd dX12_places_20 (by omega) (pc' := 21) rfl ?_
  refine ax_iload dX12_places_21 rfl (pc' := 23) rfl ?_
  refine ax_iast dX12_places_23 sh_331 rfl (by omega) (by omega) (pc' := 24) rfl ?_
  refine ax_vret dX12_places_24 rfl ?_
  refine ⟨rfl, rfl, ?_, ?_⟩
  · intro x0 i0 hai
    exact (ax_up_miss (by omega) rfl)
  · exact (ax_up_rowhit hw)
set_option maxRecDepth 20000 in
theorem s_X12_isRope (E : ax_Env) (l : Launch) (d : Nat) (hd : 1 ≤ d) (M : ax_Mem) (r : Int) {w : Int → Int} (hw : M 331 = w) : ax_G E l d iX12_isRope [.inr 330, .inl r] M (fun z0 M2 => z0 = some (.inl (f_b (f_isR w r))) ∧ M = M2) := by
  obtain ⟨d, rfl⟩ : ∃ d0, d = d0 + 1 := ⟨d - 1, by omega⟩
  refine ax_start rfl (Nat.le_of_ble_eq_true rfl) (ls := [some (.inr 330), some (.inl r)]) rfl (fun hav hcm => ?_)
  have hc1 : -2147483648 ≤ r ∧ r < 2147483648 := hav (.inl r) (by simp)
  clear hav
  refine ax_iload_n dX12_isRope_0 rfl rfl (pc' := 1) rfl ?_
  refine ax_iconst dX12_isRope_1 (by decide) (pc' := 2) rfl ?_
  refine ax_bipush dX12_isRope_2 (by decide) (pc' := 4) rfl ?_
  refine ax_insG [.inl r, .inl 0, .inl 7] [] dX12_isRope_4 mlX12_74 rfl rfl (Nat.le_of_ble_eq_true rfl) (s_X12_isIn E l _ (by omega) _ r 0 7) (pc' := 7) rfl (fun vv M_4 hq co4 hcm4 => ?_)
  obtain ⟨rfl, rfl⟩ := hq
  refine ax_reS (st2 := [.inl (f_b (0 ≤ r ∧ r ≤ 7))]) rfl ?_
  refine ax_if_eq (tgt := 24) dX12_isRope_7 (by decide) (pc' := 10) rfl (fun h7 => ?_) (fun h7 => ?_)
  · replace h7 := f_b_0 h7
    refine ax_iconst dX12_isRope_24 (by decide) (pc' := 25) rfl ?_
    refine ax_zret dX12_isRope_25 rfl (by decide) ?_
    refine ⟨rfl, ?_, ?_⟩
    · refine congrArg (fun z => some (Sum.inl z)) ?_
      unfold f_b; split <;> omega
    · rfl
  · replace h7 := f_b_1 h7
    refine ax_aload_n dX12_isRope_10 rfl rfl (pc' := 11) rfl ?_
    refine ax_iload_n dX12_isRope_11 rfl rfl (pc' := 12) rfl ?_
    refine ax_iconst dX12_isRope_12 (by decide) (pc' := 13) rfl ?_
    refine ax_invG [.inl r, .inl 0] [] dX12_isRope_13 mlX12_78 sh_330 rfl rfl rfl (Nat.le_of_ble_eq_true rfl) (s_X12_ofRope E l _ (by omega) _ r 0 hw (by first | omega | assumption) (by first | omega | assumption)) (pc' := 16) rfl (fun vv M_13 hq co13 hcm13 => ?_)
    obtain ⟨rfl, rfl⟩ := hq
    refine ax_reS (st2 := [.inl (f_R w r 0)]) rfl ?_
    have cc13 : -2147483648 ≤ f_R w r 0 ∧ f_R w r 0 < 2147483648 := co13 _ rfl
    refine ax_iconst dX12_isRope_16 (by decide) (pc' := 17) rfl ?_
    refine ax_icmp_ne (tgt := 24) dX12_isRope_17 (by decide) (pc' := 20) rfl (fun h17 => ?_) (fun h17 => ?_)
    · refine ax_iconst dX12_isRope_24 (by decide) (pc' := 25) rfl ?_
      refine ax_zret dX12_isRope_25 rfl (by decide) ?_
      refine ⟨rfl, ?_, ?_⟩
      · refine congrArg (fun z => some (Sum.inl z)) ?_
        unfold f_b; split <;> omega
      · rfl
    · refine ax_iconst dX12_isRope_20 (by decide) (pc' := 21) rfl ?_
      refine ax_goto dX12_isRope_21 (pc' := 25) (by decide) ?_
      refine ax_zret dX12_isRope_25 rfl (by decide) ?_
      refine ⟨rfl, ?_, ?_⟩
      · refine congrArg (fun z => some (Sum.inl z)) ?_
        unfold f_b; split <;> omega
      · rfl
set_option maxRecDepth 20000 in
theorem s_X12_isPlace (E : ax_Env) (l : Launch) (d : Nat) (hd : 2 ≤ d) (M : ax_Mem) (r p : Int) {w : Int → Int} (hw : M 331 = w) (hg0 : f_ok w) : ax_G E l d iX12_isPlace [.inr 330, .inl r, .inl p] M (fun z0 M2 => z0 = some (.inl (f_b (f_isP w r p))) ∧ M = M2) := by
  obtain ⟨d, rfl⟩ : ∃ d0, d = d0 + 1 := ⟨d - 1, by omega⟩
  refine ax_start rfl (Nat.le_of_ble_eq_true rfl) (ls := [some (.inr 330), some (.inl r), some (.inl p)]) rfl (fun hav hcm => ?_)
  have hc1 : -2147483648 ≤ r ∧ r < 2147483648 := hav (.inl r) (by simp)
  have hc2 : -2147483648 ≤ p ∧ p < 2147483648 := hav (.inl p) (by simp)
  clear hav
  refine ax_aload_n dX12_isPlace_0 rfl rfl (pc' := 1) rfl ?_
  refine ax_iload_n dX12_isPlace_1 rfl rfl (pc' := 2) rfl ?_
  refine ax_invG [.inl r] [] dX12_isPlace_2 mlX12_82 sh_330 rfl rfl rfl (Nat.le_of_ble_eq_true rfl) (s_X12_isRope E l _ (by omega) _ r hw) (pc' := 5) rfl (fun vv M_2 hq co2 hcm2 => ?_)
  obtain ⟨rfl, rfl⟩ := hq
  refine ax_reS (st2 := [.inl (f_b (f_isR w r))]) rfl ?_
  refine ax_if_eq (tgt := 28) dX12_isPlace_5 (by decide) (pc' := 8) rfl (fun h5 => ?_) (fun h5 => ?_)
  · replace h5 := f_b_0 h5
    refine ax_iconst dX12_isPlace_28 (by decide) (pc' := 29) rfl ?_
    refine ax_zret dX12_isPlace_29 rfl (by decide) ?_
    refine ⟨rfl, ?_, ?_⟩
    · refine congrArg (fun z => some (Sum.inl z)) ?_
      unfold f_b; split <;> omega
    · rfl
  · replace h5 := f_b_1 h5
    have hg1 := hg0 r (by omega) (by omega)
    refine ax_iload_n dX12_isPlace_8 rfl rfl (pc' := 9) rfl ?_
    refine ax_iconst dX12_isPlace_9 (by decide) (pc' := 10) rfl ?_
    refine ax_aload_n dX12_isPlace_10 rfl rfl (pc' := 11) rfl ?_
    refine ax_iload_n dX12_isPlace_11 rfl rfl (pc' := 12) rfl ?_
    refine ax_iconst dX12_isPlace_12 (by decide) (pc' := 13) rfl ?_
    refine ax_invG [.inl r, .inl 1] [.inl 0, .inl p] dX12_isPlace_13 mlX12_78 sh_330 rfl rfl rfl (Nat.le_of_ble_eq_true rfl) (s_X12_ofRope E l _ (by omega) _ r 1 hw (by first | omega | assumption) (by first | omega | assumption)) (pc' := 16) rfl (fun vv M_13 hq co13 hcm13 => ?_)
    obtain ⟨rfl, rfl⟩ := hq
    refine ax_reS (st2 := [.inl (f_R w r 1), .inl 0, .inl p]) rfl ?_
    have cc13 : -2147483648 ≤ f_R w r 1 ∧ f_R w r 1 < 2147483648 := co13 _ rfl
    refine ax_iconst dX12_isPlace_16 (by decide) (pc' := 17) rfl ?_
    refine ax_isub dX12_isPlace_17 (by omega) (pc' := 18) rfl ?_
    refine ax_insG [.inl p, .inl 0, .inl (f_R w r 1 - 1)] [] dX12_isPlace_18 mlX12_74 rfl rfl (Nat.le_of_ble_eq_true rfl) (s_X12_isIn E l _ (by omega) _ p 0 (f_R w r 1 - 1)) (pc' := 21) rfl (fun vv M_18 hq co18 hcm18 => ?_)
    obtain ⟨rfl, rfl⟩ := hq
    refine ax_reS (st2 := [.inl (f_b (0 ≤ p ∧ p ≤ (f_R w r 1 - 1)))]) rfl ?_
    refine ax_if_eq (tgt := 28) dX12_isPlace_21 (by decide) (pc' := 24) rfl (fun h21 => ?_) (fun h21 => ?_)
    · replace h21 := f_b_0 h21
      refine ax_iconst dX12_isPlace_28 (by decide) (pc' := 29) rfl ?_
      refine ax_zret dX12_isPlace_29 rfl (by decide) ?_
      refine ⟨rfl, ?_, ?_⟩
      · refine congrArg (fun z => some (Sum.inl z)) ?_
        unfold f_b; split <;> omega
      · rfl
    · replace h21 := f_b_1 h21
      refine ax_iconst dX12_isPlace_24 (by decide) (pc' := 25) rfl ?_
      refine ax_goto dX12_isPlace_25 (pc' := 29) (by decide) ?_
      refine ax_zret dX12_isPlace_29 rfl (by decide) ?_
      refine ⟨rfl, ?_, ?_⟩
      · refine congrArg (fun z => some (Sum.inl z)) ?_
        unfold f_b; split <;> omega
      · rfl
set_option maxRecDepth 20000 in
theorem s_X12_isKnot (E : ax_Env) (l : Launch) (d : Nat) (hd : 1 ≤ d) (M : ax_Mem) (k : Int) : ax_G E l d iX12_isKnot [.inl k] M (fun z0 M2 => z0 = some (.inl (f_b (0 ≤ k ∧ k ≤ 5))) ∧ M = M2) := by
  obtain ⟨d, rfl⟩ : ∃ d0, d = d0 + 1 := ⟨d - 1, by omega⟩
  refine ax_start rfl (Nat.le_of_ble_eq_true rfl) (ls := [some (.inl k)]) rfl (fun hav hcm => ?_)
  have hc0 : -2147483648 ≤ k ∧ k < 2147483648 := hav (.inl k) (by simp)
  clear hav
  refine ax_iload_n dX12_isKnot_0 rfl rfl (pc' := 1) rfl ?_
  refine ax_iconst dX12_isKnot_1 (by decide) (pc' := 2) rfl ?_
  refine ax_iconst dX12_isKnot_2 (by decide) (pc' := 3) rfl ?_
  refine ax_insG [.inl k, .inl 0, .inl 5] [] dX12_isKnot_3 mlX12_74 rfl rfl (Nat.le_of_ble_eq_true rfl) (s_X12_isIn E l _ (by omega) _ k 0 5) (pc' := 6) rfl (fun vv M_3 hq co3 hcm3 => ?_)
  obtain ⟨rfl, rfl⟩ := hq
  refine ax_reS (st2 := [.inl (f_b (0 ≤ k ∧ k ≤ 5))]) rfl ?_
  refine ax_zret dX12_isKnot_6 rfl (f_b_01 _) ?_
  refine ⟨rfl, ?_, ?_⟩
  · rfl
  · rfl
set_option maxRecDepth 20000 in
theorem s_X12_isTied (E : ax_Env) (l : Launch) (d : Nat) (hd : 1 ≤ d) (M : ax_Mem) (r p : Int) {w : Int → Int} (hw : M 331 = w) (hg0 : 0 ≤ r ∧ r < 8) (hg1 : 0 ≤ p ∧ p < 24) : ax_G E l d iX12_isTied [.inr 330, .inl r, .inl p] M (fun z0 M2 => z0 = some (.inl (f_b (f_P w r p 0 ≠ -1))) ∧ M = M2) := by
  obtain ⟨d, rfl⟩ : ∃ d0, d = d0 + 1 := ⟨d - 1, by omega⟩
  refine ax_start rfl (Nat.le_of_ble_eq_true rfl) (ls := [some (.inr 330), some (.inl r), some (.inl p)]) rfl (fun hav hcm => ?_)
  have hc1 : -2147483648 ≤ r ∧ r < 2147483648 := hav (.inl r) (by simp)
  have hc2 : -2147483648 ≤ p ∧ p < 2147483648 := hav (.inl p) (by simp)
  clear hav
  refine ax_aload_n dX12_isTied_0 rfl rfl (pc' := 1) rfl ?_
  refine ax_iload_n dX12_isTied_1 rfl rfl (pc' := 2) rfl ?_
  refine ax_iload_n dX12_isTied_2 rfl rfl (pc' := 3) rfl ?_
  refine ax_iconst dX12_isTied_3 (by decide) (pc' := 4) rfl ?_
  refine ax_invG [.inl r, .inl p, .inl 0] [] dX12_isTied_4 mlX12_86 sh_330 rfl rfl rfl (Nat.le_of_ble_eq_true rfl) (s_X12_ofPlace E l _ (by omega) _ r p 0 hw (by first | omega | assumption) (by first | omega | assumption) (by first | omega | assumption)) (pc' := 7) rfl (fun vv M_4 hq co4 hcm4 => ?_)
  obtain ⟨rfl, rfl⟩ := hq
  refine ax_reS (st2 := [.inl (f_P w r p 0)]) rfl ?_
  have cc4 : -2147483648 ≤ f_P w r p 0 ∧ f_P w r p 0 < 2147483648 := co4 _ rfl
  refine ax_iconst dX12_isTied_7 (by decide) (pc' := 8) rfl ?_
  refine ax_icmp_eq (tgt := 15) dX12_isTied_8 (by decide) (pc' := 11) rfl (fun h8 => ?_) (fun h8 => ?_)
  · refine ax_iconst dX12_isTied_15 (by decide) (pc' := 16) rfl ?_
    refine ax_zret dX12_isTied_16 rfl (by decide) ?_
    refine ⟨rfl, ?_, ?_⟩
    · refine congrArg (fun z => some (Sum.inl z)) ?_
      unfold f_b; split <;> omega
    · rfl
  · refine ax_iconst dX12_isTied_11 (by decide) (pc' := 12) rfl ?_
    refine ax_goto dX12_isTied_12 (pc' := 16) (by decide) ?_
    refine ax_zret dX12_isTied_16 rfl (by decide) ?_
    refine ⟨rfl, ?_, ?_⟩
    · refine congrArg (fun z => some (Sum.inl z)) ?_
      unfold f_b; split <;> omega
    · rfl
set_option maxRecDepth 20000 in
theorem s_X12_habitOf (E : ax_Env) (l : Launch) (d : Nat) (hd : 1 ≤ d) (M : ax_Mem) (r p k : Int) {w : Int → Int} (hw : M 331 = w) (hg0 : 0 ≤ r ∧ r < 8) (hg1 : 0 ≤ p ∧ p < 24) (hg2 : 0 ≤ k ∧ k < 6) : ax_G E l d iX12_habitOf [.inr 330, .inl r, .inl p, .inl k] M (fun z0 M2 => z0 = some (.inl (f_P w r p (1 + k))) ∧ M = M2) := by
  obtain ⟨d, rfl⟩ : ∃ d0, d = d0 + 1 := ⟨d - 1, by omega⟩
  refine ax_start rfl (Nat.le_of_ble_eq_true rfl) (ls := [some (.inr 330), some (.inl r), some (.inl p), some (.inl k)]) rfl (fun hav hcm => ?_)
  have hc1 : -2147483648 ≤ r ∧ r < 2147483648 := hav (.inl r) (by simp)
  have hc2 : -2147483648 ≤ p ∧ p < 2147483648 := hav (.inl p) (by simp)
  have hc3 : -2147483648 ≤ k ∧ k < 2147483648 := hav (.inl k) (by simp)
  clear hav
  refine ax_aload_n dX12_habitOf_0 rfl rfl (pc' := 1) rfl ?_
  refine ax_iload_n dX12_habitOf_1 rfl rfl (pc' := 2) rfl ?_
  refine ax_iload_n dX12_habitOf_2 rfl rfl (pc' := 3) rfl ?_
  refine ax_iconst dX12_habitOf_3 (by decide) (pc' := 4) rfl ?_
  refine ax_iload_n dX12_habitOf_4 rfl rfl (pc' := 5) rfl ?_
  refine ax_iadd dX12_habitOf_5 (by omega) (pc' := 6) rfl ?_
  refine ax_invG [.inl r, .inl p, .inl (1 + k)] [] dX12_habitOf_6 mlX12_86 sh_330 rfl rfl rfl (Nat.le_of_ble_eq_true rfl) (s_X12_ofPlace E l _ (by omega) _ r p (1 + k) hw (by first | omega | assumption) (by first | omega | assumption) (by first | omega | assumption)) (pc' := 9) rfl (fun vv M_6 hq co6 hcm6 => ?_)
  obtain ⟨rfl, rfl⟩ := hq
  refine ax_reS (st2 := [.inl (f_P w r p (1 + k))]) rfl ?_
  have cc6 : -2147483648 ≤ f_P w r p (1 + k) ∧ f_P w r p (1 + k) < 2147483648 := co6 _ rfl
  refine ax_iret dX12_habitOf_9 rfl ?_
  refine ⟨rfl, ?_, ?_⟩
  · rfl
  · rfl
set_option maxRecDepth 20000 in
theorem s_X12_forgets (E : ax_Env) (l : Launch) (d : Nat) (hd : 0 ≤ d) (M : ax_Mem) : ax_G E l d iX12_forgets [.inr 330] M (fun z0 M2 => z0 = none ∧ (∀ x0 i0 : Int, ¬ ((x0 = 330 ∧ i0 = 4)) → M2 x0 i0 = M x0 i0) ∧ M2 330 4 = 0) := by
  refine ax_start rfl (Nat.le_of_ble_eq_true rfl) (ls := [some (.inr 330)]) rfl (fun hav hcm => ?_)
  clear hav
  refine ax_aload_n dX12_forgets_0 rfl rfl (pc' := 1) rfl ?_
  refine ax_iconst dX12_forgets_1 (by decide) (pc' := 2) rfl ?_
  refine ax_puti dX12_forgets_2 flX12_90 (Or.inl rfl) sh_330 rfl (pc' := 5) rfl ?_
  refine ax_vret dX12_forgets_5 rfl ?_
  refine ⟨rfl, rfl, ?_, ?_⟩
  · intro x0 i0 hai
    exact (ax_up_miss (by omega) rfl)
  · exact (ax_up_hit _ _ _ _)
set_option maxRecDepth 20000 in
theorem s_X12_state (E : ax_Env) (l : Launch) (d : Nat) (hd : 1 ≤ d) (M : ax_Mem) (v : Int) {w : Int → Int} (hw : M 331 = w) : ax_G E l d iX12_state [.inr 330, .inl v] M (fun z0 M2 => z0 = some (.inl (w 2)) ∧ (∀ x0 i0 : Int, ¬ (x0 = 331 ∨ (x0 = 330 ∧ i0 = 4)) → M2 x0 i0 = M x0 i0) ∧ M2 331 = f_up w 2 v ∧ M2 330 4 = 0) := by
  obtain ⟨d, rfl⟩ : ∃ d0, d = d0 + 1 := ⟨d - 1, by omega⟩
  refine ax_start rfl (Nat.le_of_ble_eq_true rfl) (ls := [some (.inr 330), some (.inl v), none]) rfl (fun hav hcm => ?_)
  have hc1 : -2147483648 ≤ v ∧ v < 2147483648 := hav (.inl v) (by simp)
  clear hav
  refine ax_aload_n dX12_state_0 rfl rfl (pc' := 1) rfl ?_
  refine ax_getr (v := 331) dX12_state_1 flX12_7 rfl sh_330 rfl (pc' := 4) rfl ?_
  refine ax_iconst dX12_state_4 (by decide) (pc' := 5) rfl ?_
  refine ax_iald (v := w 2) dX12_state_5 sh_331 rfl (by omega) (by omega) ((congrFun hw 2).trans rfl) (pc' := 6) rfl ?_
  refine ax_istore_n dX12_state_6 rfl (by decide) (ls' := [some (.inr 330), some (.inl v), some (.inl (w 2))]) rfl (pc' := 7) rfl ?_
  refine ax_aload_n dX12_state_7 rfl rfl (pc' := 8) rfl ?_
  refine ax_getr (v := 331) dX12_state_8 flX12_7 rfl sh_330 rfl (pc' := 11) rfl ?_
  refine ax_iconst dX12_state_11 (by decide) (pc' := 12) rfl ?_
  refine ax_iload_n dX12_state_12 rfl rfl (pc' := 13) rfl ?_
  refine ax_iast dX12_state_13 sh_331 rfl (by omega) (by omega) (pc' := 14) rfl ?_
  refine ax_aload_n dX12_state_14 rfl rfl (pc' := 15) rfl ?_
  refine ax_invG [] [] dX12_state_15 mlX12_93 sh_330 rfl rfl rfl (Nat.le_of_ble_eq_true rfl) (s_X12_forgets E l _ (by omega) _ ) (pc' := 18) rfl (fun vv M_15 hq co15 hcm15 => ?_)
  obtain ⟨rfl, frM_15, msM_15_0⟩ := hq
  refine ax_reS (st2 := []) rfl ?_
  refine ax_iload_n dX12_state_18 rfl rfl (pc' := 19) rfl ?_
  refine ax_iret dX12_state_19 rfl ?_
  refine ⟨rfl, ?_, ?_, ?_, ?_⟩
  · rfl
  · intro x0 i0 hai
    exact ((frM_15 x0 i0 (by omega)).trans (ax_up_miss (by omega) rfl))
  · exact ((funext fun i0 => frM_15 331 i0 (by omega)).trans (ax_up_rowhit hw))
  · exact msM_15_0
set_option maxRecDepth 20000 in
theorem s_X12_habits (E : ax_Env) (l : Launch) (d : Nat) (hd : 1 ≤ d) (M : ax_Mem) (r p k v since : Int) {w : Int → Int} (hw : M 331 = w) (hg0 : 0 ≤ r ∧ r < 8) (hg1 : 0 ≤ p ∧ p < 24) (hg2 : 0 ≤ k ∧ k < 6) : ax_G E l d iX12_habits [.inr 330, .inl r, .inl p, .inl k, .inl v, .inl since] M (fun z0 M2 => z0 = none ∧ (∀ x0 i0 : Int, ¬ (x0 = 331) → M2 x0 i0 = M x0 i0) ∧ M2 331 = f_hab w r p k v since) := by
  obtain ⟨d, rfl⟩ : ∃ d0, d = d0 + 1 := ⟨d - 1, by omega⟩
  refine ax_start rfl (Nat.le_of_ble_eq_true rfl) (ls := [some (.inr 330), some (.inl r), some (.inl p), some (.inl k), some (.inl v), some (.inl since)]) rfl (fun hav hcm => ?_)
  have hc1 : -2147483648 ≤ r ∧ r < 2147483648 := hav (.inl r) (by simp)
  have hc2 : -2147483648 ≤ p ∧ p < 2147483648 := hav (.inl p) (by simp)
  have hc3 : -2147483648 ≤ k ∧ k < 2147483648 := hav (.inl k) (by simp)
  have hc4 : -2147483648 ≤ v ∧ v < 2147483648 := hav (.inl v) (by simp)
  have hc5 : -2147483648 ≤ since ∧ since < 2147483648 := hav (.inl since) (by simp)
  clear hav
  refine ax_aload_n dX12_habits_0 rfl rfl (pc' := 1) rfl ?_
  refine ax_iload_n dX12_habits_1 rfl rfl (pc' := 2) rfl ?_
  refine ax_iload_n dX12_habits_2 rfl rfl (pc' := 3) rfl ?_
  refine ax_iconst dX12_habits_3 (by decide) (pc' := 4) rfl ?_
  refine ax_iload_n dX12_habits_4 rfl rfl (pc' := 5) rfl ?_
  refine ax_iadd dX12_habits_5 (by omega) (pc' := 6) rfl ?_
  refine ax_iload dX12_habits_6 rfl (pc' := 8) rfl ?_
  refine ax_invG [.inl r, .inl p, .inl (1 + k), .inl v] [] dX12_habits_8 mlX12_102 sh_330 rfl rfl rfl (Nat.le_of_ble_eq_true rfl) (s_X12_places E l _ (by omega) _ r p (1 + k) v hw (by first | omega | assumption) (by first | omega | assumption) (by first | omega | assumption)) (pc' := 11) rfl (fun vv M_8 hq co8 hcm8 => ?_)
  obtain ⟨rfl, frM_8, mrM_8_0⟩ := hq
  refine ax_reS (st2 := []) rfl ?_
  refine ax_aload_n dX12_habits_11 rfl rfl (pc' := 12) rfl ?_
  refine ax_iload_n dX12_habits_12 rfl rfl (pc' := 13) rfl ?_
  refine ax_iload_n dX12_habits_13 rfl rfl (pc' := 14) rfl ?_
  refine ax_bipush dX12_habits_14 (by decide) (pc' := 16) rfl ?_
  refine ax_iload_n dX12_habits_16 rfl rfl (pc' := 17) rfl ?_
  refine ax_iadd dX12_habits_17 (by omega) (pc' := 18) rfl ?_
  refine ax_iload dX12_habits_18 rfl (pc' := 20) rfl ?_
  refine ax_if_ne (tgt := 27) dX12_habits_20 (by decide) (pc' := 23) rfl (fun h20 => ?_) (fun h20 => ?_)
  · refine ax_iload dX12_habits_27 rfl (pc' := 29) rfl ?_
    refine ax_invG [.inl r, .inl p, .inl (7 + k), .inl since] [] dX12_habits_29 mlX12_102 sh_330 rfl rfl rfl (Nat.le_of_ble_eq_true rfl) (s_X12_places E l _ (by omega) _ r p (7 + k) since mrM_8_0 (by first | omega | assumption) (by first | omega | assumption) (by first | omega | assumption)) (pc' := 32) rfl (fun vv M_29 hq co29 hcm29 => ?_)
    obtain ⟨rfl, frM_29, mrM_29_0⟩ := hq
    refine ax_reS (st2 := []) rfl ?_
    refine ax_vret dX12_habits_32 rfl ?_
    refine ⟨rfl, rfl, ?_, ?_⟩
    · intro x0 i0 hai
      exact ((frM_29 x0 i0 (by omega)).trans ((frM_8 x0 i0 (by omega)).trans rfl))
    · refine Eq.trans mrM_29_0 ?_
      unfold f_hab; first | rw [if_pos (by assumption)] | rw [if_neg (by assumption)]
  · refine ax_iconst dX12_habits_23 (by decide) (pc' := 24) rfl ?_
    refine ax_goto dX12_habits_24 (pc' := 29) (by decide) ?_
    refine ax_invG [.inl r, .inl p, .inl (7 + k), .inl 0] [] dX12_habits_29 mlX12_102 sh_330 rfl rfl rfl (Nat.le_of_ble_eq_true rfl) (s_X12_places E l _ (by omega) _ r p (7 + k) 0 mrM_8_0 (by first | omega | assumption) (by first | omega | assumption) (by first | omega | assumption)) (pc' := 32) rfl (fun vv M_29 hq co29 hcm29 => ?_)
    obtain ⟨rfl, frM_29, mrM_29_0⟩ := hq
    refine ax_reS (st2 := []) rfl ?_
    refine ax_vret dX12_habits_32 rfl ?_
    refine ⟨rfl, rfl, ?_, ?_⟩
    · intro x0 i0 hai
      exact ((frM_29 x0 i0 (by omega)).trans ((frM_8 x0 i0 (by omega)).trans rfl))
    · refine Eq.trans mrM_29_0 ?_
      unfold f_hab; first | rw [if_pos (by assumption)] | rw [if_neg (by assumption)]
