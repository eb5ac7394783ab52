/-! many days; drills -/
theorem f_keepN_rg {m : Int} (h : 0 ≤ m ∧ m ≤ 5) : 0 ≤ f_keepN m ∧ f_keepN m ≤ 5 := by
  unfold f_keepN
  split <;> omega
abbrev f_Dd : Type := (Int → Int) × (Int → Int) × Int × Int
def f_dysS (Ls : Int → List f_Ln) (_ : Int) (s : f_Dd) : f_Dd := ((f_day Ls s.1).1, f_keep s.2.1 s.1 s.2.2.1, f_keepN s.2.2.1, s.2.2.2 + (f_day Ls s.1).2)
def f_dys (Ls : Int → List f_Ln) (w b : Int → Int) (m n : Int) : f_Dd := f_loop (f_dysS Ls) 0 n (w, b, m, 0)
abbrev f_dnP (w : Int → Int) (r kind x y : Int) : Prop := kind = 10 ∧ (f_isP w r y ∧ f_P w r y 0 = -1 ∧ 0 ≤ x ∧ x ≤ 5) ∨ kind = 11 ∧ (f_isP w r x ∧ f_P w r x 0 ≠ -1) ∨ (kind ≠ 10 ∧ kind ≠ 11)
def f_dnW (Ls : Int → List f_Ln) (w : Int → Int) (r hand kind x y : Int) : Int → Int := if kind = 10 then (if f_isP w r y ∧ f_P w r y 0 = -1 ∧ 0 ≤ x ∧ x ≤ 5 then f_tie w r y x hand else w) else if kind = 11 then (if f_isP w r x ∧ f_P w r x 0 ≠ -1 then f_sP w r x 0 (-1) else w) else if kind = 12 then f_puls Ls w r x else if kind = 13 then f_wets w r x else f_loop (fun _ z => (f_day Ls z).1) 0 x w
def f_dnH (w : Int → Int) (kind x : Int) : Prop := (10 ≤ kind ∧ kind ≤ 14) ∧ (kind = 12 → 0 ≤ x ∧ x ≤ 99) ∧ (kind = 13 → 0 ≤ x ∧ x ≤ 9) ∧ (kind = 14 → 0 ≤ x ∧ w 0 + x ≤ 9999)
theorem f_tie_sm {w : Int → Int} {r p k hand : Int} (hr : 0 ≤ r ∧ r < 8) (hp : 0 ≤ p ∧ p < 24) (hk : 0 ≤ k ∧ k < 6) (hw : f_iv w) : f_sm w (f_tie w r p k hand) := by
  have h1 : f_iv (f_sP w r p 0 k) := f_iv_tied hr hp (by omega) hw
  have h3 := h1.2.2.2.2 k hk.1 hk.2
  have h2 : f_iv (f_more (f_sP w r p 0 k) r p k (f_sP w r p 0 k (2564 + k))) := f_iv_more hr hp hk (by omega) h1
  exact f_sm_trans (f_sm_sP ⟨hr.1, hr.2, hp.1, hp.2, by omega, by omega⟩) (f_sm_trans (f_sm_hab ⟨hr.1, hr.2, hp.1, hp.2, hk.1, hk.2⟩) (f_sm_note h2.2.2.2.1))
theorem f_jv_wets {Ls : Int → List f_Ln} {w : Int → Int} {r v : Int} (hr : 0 ≤ r ∧ r < 8) (hv : 0 ≤ v ∧ v ≤ 9) (hw : f_jv Ls w) : f_jv Ls (f_wets w r v) ∧ f_k0 w (f_wets w r v) := by
  have h := hw.1.1 r hr.1 hr.2
  have h1 : f_jv Ls (f_sR w r 4 v) ∧ f_k0 w (f_sR w r 4 v) := ⟨f_jv_wet hr hv hw, f_k0_out (fun _ hi => f_sR_out ⟨hr.1, hr.2, by omega, by omega⟩ hi)⟩
  unfold f_wets
  split
  · refine f_loop_inv (P := fun x => f_jv Ls x ∧ f_k0 w x) h1 (fun p x a b hx => ?_)
    have hc := f_call_rg (w := x) (r := r) (p := p)
    have hs : f_sm x (f_wetS r p x) := by
      unfold f_wetS
      split
      · exact f_sm_refl
      · exact f_sm_hab ⟨hr.1, hr.2, by omega, by omega, by omega, by omega⟩
    exact ⟨f_jv_sm (f_iv_wetS hr (by omega) hx.1.1) hs hx.1, f_k0_trans hx.2 (f_k0_sm hs)⟩
  · exact h1
theorem f_dnW_ok {Ls : Int → List f_Ln} {w : Int → Int} {r hand kind x y : Int} (hr : f_isR w r) (h : f_dnH w kind x) (hw : f_jv Ls w) : f_jv Ls (f_dnW Ls w r hand kind x y) ∧ f_ag w (f_dnW Ls w r hand kind x y) ∧ (f_dnW Ls w r hand kind x y) 0 = w 0 + (if kind = 14 then x else 0) := by
  obtain ⟨h0, h1, h2, h3⟩ := h
  have hr8 : 0 ≤ r ∧ r < 8 := by omega
  have hl := hw.1.1 r hr8.1 hr8.2
  have hh := (hw.2.1 r hr8.1 hr8.2).2 hr.2.2
  have e : ∀ z, (f_jv Ls z ∧ f_k0 w z) → kind ≠ 14 → f_jv Ls z ∧ f_ag w z ∧ z 0 = w 0 + (if kind = 14 then x else 0) := fun z hz hk => ⟨hz.1, hz.2.2, by rw [if_neg hk, hz.2.1]; omega⟩
  unfold f_dnW
  split
  · refine e _ ?_ (by omega)
    split
    · have s := f_tie_sm (k := x) (p := y) (hand := hand) hr8 (by omega) (by omega) hw.1
      exact ⟨f_jv_sm (f_iv_tie hr8 (by omega) (by omega) hw.1) s hw, f_k0_sm s⟩
    · exact ⟨hw, f_k0_refl⟩
  · split
    · refine e _ ?_ (by omega)
      split
      · have s := f_sm_sP (w := w) (r := r) (p := x) (f := 0) (v := -1) ⟨hr8.1, hr8.2, by omega, by omega, by omega, by omega⟩
        exact ⟨f_jv_sm (f_iv_tied hr8 (by omega) (by omega) hw.1) s hw, f_k0_sm s⟩
      · exact ⟨hw, f_k0_refl⟩
    · split
      · exact e _ ⟨f_jv_puls hr8 (by omega) hw, (f_puls_ok hr8 (by omega) hw).1⟩ (by omega)
      · split
        · exact e _ (f_jv_wets hr8 (h2 (by assumption)) hw) (by omega)
        · have q := f_loop_ix (P := fun k z => f_jv Ls z ∧ f_ag w z ∧ z 0 = w 0 + k) (g := fun _ z => (f_day Ls z).1) (lo := 0) (hi := x) (a := w) (by omega) ⟨hw, fun _ _ _ => rfl, by omega⟩ (fun k z a b c => by
            have d := f_day_ok c.1 (by omega)
            exact ⟨d.1, fun i u v => (d.2.2.1 i u v).trans (c.2.1 i u v), by rw [d.2.1, c.2.2]; omega⟩)
          rw [if_pos (by omega)]
          exact q
def f_rsS (w : Int → Int) (x s : Int) : Int := s + (if w (3984 + 3 * x) = 14 then w (3984 + 3 * x + 1) else 0)
def f_rs (w : Int → Int) : Int := f_loop (f_rsS w) 0 (w 2600) 0
def f_dr (w : Int → Int) : Prop := (0 ≤ w 2600 ∧ w 2600 ≤ 150) ∧ ∀ x, 0 ≤ x → x < w 2600 → (10 ≤ w (3984 + 3 * x) ∧ w (3984 + 3 * x) ≤ 14) ∧ (w (3984 + 3 * x) = 12 → 0 ≤ w (3984 + 3 * x + 1) ∧ w (3984 + 3 * x + 1) ≤ 99) ∧ (w (3984 + 3 * x) = 13 → 0 ≤ w (3984 + 3 * x + 1) ∧ w (3984 + 3 * x + 1) ≤ 9) ∧ (w (3984 + 3 * x) = 14 → 0 ≤ w (3984 + 3 * x + 1) ∧ w (3984 + 3 * x + 1) ≤ 30)
theorem f_rs_add {w : Int → Int} {N : Int} : ∀ (n : Nat) (x s : Int), (n : Int) = N - x → f_loop (f_rsS w) x N s = s + f_loop (f_rsS w) x N 0 := by
  intro n
  induction n with
  | zero =>
    intro x s h
    rw [f_loop_done (by omega), f_loop_done (by omega)]
    omega
  | succ n ih =>
    intro x s h
    rw [f_loop_step (lo := x) (a := s) (show x < N by omega), f_loop_step (lo := x) (a := 0) (show x < N by omega), ih (x + 1) (f_rsS w x s) (by omega), ih (x + 1) (f_rsS w x 0) (by omega)]
    unfold f_rsS
    omega
theorem f_rs_step {w : Int → Int} {N x : Int} (h : x < N) : f_loop (f_rsS w) x N 0 = (if w (3984 + 3 * x) = 14 then w (3984 + 3 * x + 1) else 0) + f_loop (f_rsS w) (x + 1) N 0 := by
  rw [f_loop_step h, f_rs_add (N - (x + 1)).toNat (x + 1) _ (by omega)]
  unfold f_rsS
  omega
theorem f_rs_pos {w : Int → Int} (hd : f_dr w) : ∀ (n : Nat) (x : Int), (n : Int) = w 2600 - x → 0 ≤ x → 0 ≤ f_loop (f_rsS w) x (w 2600) 0 := by
  intro n
  induction n with
  | zero =>
    intro x h h0
    rw [f_loop_done (by omega)]
    omega
  | succ n ih =>
    intro x h h0
    have a := ih (x + 1) (by omega) (by omega)
    have b := hd.2 x h0 (by omega)
    rw [f_rs_step (by omega)]
    split
    · have c := b.2.2.2 (by assumption)
      omega
    · omega
def f_dlS (Ls : Int → List f_Ln) (w : Int → Int) (r hand x : Int) (s : f_Dy) : f_Dy := if f_isR s.1 r then (f_dnW Ls s.1 r hand (w (3984 + 3 * x)) (w (3984 + 3 * x + 1)) (w (3984 + 3 * x + 2)), s.2 + f_b (f_dnP s.1 r (w (3984 + 3 * x)) (w (3984 + 3 * x + 1)) (w (3984 + 3 * x + 2)))) else s
def f_dl (Ls : Int → List f_Ln) (w : Int → Int) (r hand : Int) : f_Dy := f_loop (f_dlS Ls w r hand) 0 (w 2600) (w, 0)
set_option maxRecDepth 20000 in
theorem s_X12_days_no (E : ax_Env) (l : Launch) (d : Nat) (hd : 8 ≤ d) (M : ax_Mem) (n : Int) {w : Int → Int} (hw : M 331 = w) (hg0 : f_iv w) (hg1 : ¬ (1 ≤ n ∧ n ≤ 60 ∧ w 0 + n ≤ 9999)) : ax_G E l d iX12_days [.inr 330, .inl n] M (fun z0 M2 => z0 = some (.inl (-1)) ∧ M = M2) := by
  obtain ⟨d, rfl⟩ : ∃ d0, d = d0 + 1 := ⟨d - 1, by omega⟩
  refine ax_start rfl (Nat.le_of_ble_eq_true rfl) (ls := [some (.inr 330), some (.inl n), none, none]) rfl (fun hav hcm => ?_)
  have hc1 : -2147483648 ≤ n ∧ n < 2147483648 := hav (.inl n) (by simp)
  clear hav
  have qa1 := hg0.2.2.1
  refine ax_iload_n dX12_days_0 rfl rfl (pc' := 1) rfl ?_
  refine ax_iconst dX12_days_1 (by decide) (pc' := 2) rfl ?_
  refine ax_bipush dX12_days_2 (by decide) (pc' := 4) rfl ?_
  refine ax_insG [.inl n, .inl 1, .inl 60] [] dX12_days_4 mlX12_74 rfl rfl (Nat.le_of_ble_eq_true rfl) (s_X12_isIn E l _ (by omega) _ n 1 60) (pc' := 7) rfl (fun vv M_4 hq co4 hcm4 => ?_)
  obtain ⟨rfl, rfl⟩ := hq
  refine ax_reS (st2 := [.inl (f_b (1 ≤ n ∧ n ≤ 60))]) rfl ?_
  refine ax_if_eq (tgt := 24) dX12_days_7 (by decide) (pc' := 10) rfl (fun h7 => ?_) (fun h7 => ?_)
  · replace h7 := f_b_0 h7
    refine ax_iconst dX12_days_24 (by decide) (pc' := 25) rfl ?_
    refine ax_iret dX12_days_25 rfl ?_
    refine ⟨rfl, ?_, ?_⟩
    · rfl
    · rfl
  · replace h7 := f_b_1 h7
    refine ax_aload_n dX12_days_10 rfl rfl (pc' := 11) rfl ?_
    refine ax_getr (v := 331) dX12_days_11 flX12_7 rfl sh_330 rfl (pc' := 14) rfl ?_
    refine ax_iconst dX12_days_14 (by decide) (pc' := 15) rfl ?_
    refine ax_iald (v := w 0) dX12_days_15 sh_331 rfl (by omega) (by omega) ((congrFun hw 0).trans rfl) (pc' := 16) rfl ?_
    refine ax_iload_n dX12_days_16 rfl rfl (pc' := 17) rfl ?_
    refine ax_iadd dX12_days_17 (by omega) (pc' := 18) rfl ?_
    refine ax_sipush dX12_days_18 (by decide) (pc' := 21) rfl ?_
    refine ax_icmp_le (tgt := 26) dX12_days_21 (by decide) (pc' := 24) rfl (fun h21 => ?_) (fun h21 => ?_)
    · exfalso
      omega
    · refine ax_iconst dX12_days_24 (by decide) (pc' := 25) rfl ?_
      refine ax_iret dX12_days_25 rfl ?_
      refine ⟨rfl, ?_, ?_⟩
      · rfl
      · rfl
set_option maxRecDepth 20000 in
theorem s_X12_days_ok (E : ax_Env) (l : Launch) (d : Nat) (hd : 8 ≤ d) (M : ax_Mem) (n : Int) (Ls : Int → List f_Ln) {w : Int → Int} (hw : M 331 = w) {pl : Int → Int} (hpl : M 340 = pl) {F : Int → Int} (hF : M 341 = F) {rw0 : Int → Int} (hrw0 : M 342 = rw0) {cv0 : Int → Int} (hcv0 : M 343 = cv0) {b : Int → Int} (hb : M 333 = b) {m : Int} (hm : M 330 4 = m) (hg0 : f_jv Ls w) (hg1 : 0 ≤ m ∧ m ≤ 5) (hg2 : 1 ≤ n ∧ n ≤ 60 ∧ w 0 + n ≤ 9999) : ax_G E l d iX12_days [.inr 330, .inl n] M (fun z0 M2 => z0 = some (.inl ((f_dys Ls w b m n).2.2.2)) ∧ (∀ x0 i0 : Int, ¬ (x0 = 331 ∨ x0 = 333 ∨ (x0 = 330 ∧ i0 = 4) ∨ x0 = 340 ∨ x0 = 341 ∨ x0 = 342 ∨ x0 = 343 ∨ (x0 = 330 ∧ i0 = 30) ∨ (x0 = 330 ∧ i0 = 31) ∨ (x0 = 330 ∧ i0 = 32) ∨ (x0 = 330 ∧ i0 = 33)) → M2 x0 i0 = M x0 i0) ∧ M2 331 = (f_dys Ls w b m n).1 ∧ M2 333 = (f_dys Ls w b m n).2.1 ∧ M2 330 4 = (f_dys Ls w b m n).2.2.1) := by
  obtain ⟨d, rfl⟩ : ∃ d0, d = d0 + 1 := ⟨d - 1, by omega⟩
  refine ax_start rfl (Nat.le_of_ble_eq_true rfl) (ls := [some (.inr 330), some (.inl n), none, none]) rfl (fun hav hcm => ?_)
  have hc1 : -2147483648 ≤ n ∧ n < 2147483648 := hav (.inl n) (by simp)
  clear hav
  have qa1 := hg0.1.2.2.1
  refine ax_iload_n dX12_days_0 rfl rfl (pc' := 1) rfl ?_
  refine ax_iconst dX12_days_1 (by decide) (pc' := 2) rfl ?_
  refine ax_bipush dX12_days_2 (by decide) (pc' := 4) rfl ?_
  refine ax_insG [.inl n, .inl 1, .inl 60] [] dX12_days_4 mlX12_74 rfl rfl (Nat.le_of_ble_eq_true rfl) (s_X12_isIn E l _ (by omega) _ n 1 60) (pc' := 7) rfl (fun vv M_4 hq co4 hcm4 => ?_)
  obtain ⟨rfl, rfl⟩ := hq
  refine ax_reS (st2 := [.inl (f_b (1 ≤ n ∧ n ≤ 60))]) rfl ?_
  refine ax_if_eq (tgt := 24) dX12_days_7 (by decide) (pc' := 10) rfl (fun h7 => ?_) (fun h7 => ?_)
  · replace h7 := f_b_0 h7
    exfalso
    omega
  · replace h7 := f_b_1 h7
    refine ax_aload_n dX12_days_10 rfl rfl (pc' := 11) rfl ?_
    refine ax_getr (v := 331) dX12_days_11 flX12_7 rfl sh_330 rfl (pc' := 14) rfl ?_
    refine ax_iconst dX12_days_14 (by decide) (pc' := 15) rfl ?_
    refine ax_iald (v := w 0) dX12_days_15 sh_331 rfl (by omega) (by omega) ((congrFun hw 0).trans rfl) (pc' := 16) rfl ?_
    refine ax_iload_n dX12_days_16 rfl rfl (pc' := 17) rfl ?_
    refine ax_iadd dX12_days_17 (by omega) (pc' := 18) rfl ?_
    refine ax_sipush dX12_days_18 (by decide) (pc' := 21) rfl ?_
    refine ax_icmp_le (tgt := 26) dX12_days_21 (by decide) (pc' := 24) rfl (fun h21 => ?_) (fun h21 => ?_)
    · refine ax_iconst dX12_days_26 (by decide) (pc' := 27) rfl ?_
      refine ax_istore_n dX12_days_27 rfl (by decide) (ls' := [some (.inr 330), some (.inl n), some (.inl 0), none]) rfl (pc' := 28) rfl ?_
      refine ax_iconst dX12_days_28 (by decide) (pc' := 29) rfl ?_
      refine ax_istore_n dX12_days_29 rfl (by decide) (ls' := [some (.inr 330), some (.inl n), some (.inl 0), some (.inl 0)]) rfl (pc' := 30) rfl ?_
      have LP1 : ∀ (kq2 : Nat) (k br : Int) (wv1 bv1 : Int → Int) (mv : Int) (M1 : ax_Mem) (hm1 : n - k < (kq2 : Nat)) (fr1 : ∀ x0 i0 : Int, ¬ (x0 = 331 ∨ x0 = 333 ∨ (x0 = 330 ∧ i0 = 4) ∨ x0 = 340 ∨ x0 = 341 ∨ x0 = 342 ∨ x0 = 343 ∨ (x0 = 330 ∧ i0 = 30) ∨ (x0 = 330 ∧ i0 = 31) ∨ (x0 = 330 ∧ i0 = 32) ∨ (x0 = 330 ∧ i0 = 33)) → M1 x0 i0 = M x0 i0) (mr1_331 : M1 331 = wv1) (mr1_333 : M1 333 = bv1) (ms1_330_4 : M1 330 4 = mv) (iv1_0 : 0 ≤ k ∧ k ≤ n) (iv1_1 : f_loop (f_dysS Ls) k n (wv1, bv1, mv, br) = f_dys Ls w b m n) (iv1_2 : f_jv Ls wv1 ∧ wv1 0 = w 0 + k) (iv1_3 : 0 ≤ mv ∧ mv ≤ 5) (iv1_4 : 0 ≤ br ∧ br ≤ 8 * k), ax_W E l (d + 1) 0 0 iX12_days 30 [some (.inr 330), some (.inl n), some (.inl br), some (.inl k)] [] SH M1 (ax_P (fun z0 M2 => z0 = some (.inl ((f_dys Ls w b m n).2.2.2)) ∧ (∀ x0 i0 : Int, ¬ (x0 = 331 ∨ x0 = 333 ∨ (x0 = 330 ∧ i0 = 4) ∨ x0 = 340 ∨ x0 = 341 ∨ x0 = 342 ∨ x0 = 343 ∨ (x0 = 330 ∧ i0 = 30) ∨ (x0 = 330 ∧ i0 = 31) ∨ (x0 = 330 ∧ i0 = 32) ∨ (x0 = 330 ∧ i0 = 33)) → M2 x0 i0 = M x0 i0) ∧ M2 331 = (f_dys Ls w b m n).1 ∧ M2 333 = (f_dys Ls w b m n).2.1 ∧ M2 330 4 = (f_dys Ls w b m n).2.2.1)) := by
        intro kq2
        induction kq2 with
        | zero =>
          intro k br wv1 bv1 mv M1 hm1 fr1 mr1_331 mr1_333 ms1_330_4 iv1_0 iv1_1 iv1_2 iv1_3 iv1_4
          exfalso
          omega
        | succ kq2 ih3 =>
          intro k br wv1 bv1 mv M1 hm1 fr1 mr1_331 mr1_333 ms1_330_4 iv1_0 iv1_1 iv1_2 iv1_3 iv1_4
          have qb1 := iv1_2.1
          have qb2 := iv1_2.2
          refine ax_iload_n dX12_days_30 rfl rfl (pc' := 31) rfl ?_
          refine ax_iload_n dX12_days_31 rfl rfl (pc' := 32) rfl ?_
          refine ax_icmp_ge (tgt := 52) dX12_days_32 (by decide) (pc' := 35) rfl (fun h32 => ?_) (fun h32 => ?_)
          · have qe : (wv1, bv1, mv, br) = f_dys Ls w b m n := (f_loop_done (by omega)).symm.trans iv1_1
            refine ax_iload_n dX12_days_52 rfl rfl (pc' := 53) rfl ?_
            refine ax_iret dX12_days_53 rfl ?_
            refine ⟨rfl, ?_, ?_, ?_, ?_, ?_⟩
            · refine congrArg (fun z => some (Sum.inl z)) ?_
              rw [← qe]
            · intro x0 i0 hai
              exact ((fr1 x0 i0 (by omega)).trans rfl)
            · refine Eq.trans mr1_331 ?_
              rw [← qe]
            · refine Eq.trans mr1_333 ?_
              rw [← qe]
            · refine Eq.trans ms1_330_4 ?_
              rw [← qe]
          · have qc := f_day_ok qb1 (by omega)
            have qc2 := qc.2.2.2
            refine ax_aload_n dX12_days_35 rfl rfl (pc' := 36) rfl ?_
            refine ax_invG [] [] dX12_days_36 mlX12_379 sh_330 rfl rfl rfl (Nat.le_of_ble_eq_true rfl) (s_X12_keeps E l _ (by omega) _ mr1_331 mr1_333 ms1_330_4 (by first | omega | assumption)) (pc' := 39) rfl (fun vv M_36 hq co36 hcm36 => ?_)
            obtain ⟨rfl, frM_36, mrM_36_0, msM_36_0⟩ := hq
            refine ax_reS (st2 := []) rfl ?_
            refine ax_iload_n dX12_days_39 rfl rfl (pc' := 40) rfl ?_
            refine ax_aload_n dX12_days_40 rfl rfl (pc' := 41) rfl ?_
            refine ax_invG [] [.inl br] dX12_days_41 mlX12_448 sh_330 rfl rfl rfl (Nat.le_of_ble_eq_true rfl) (s_X12_aDay E l _ (by omega) _ Ls ((funext fun i0 => frM_36 331 i0 (by omega)).trans mr1_331) ((funext fun i0 => frM_36 340 i0 (by omega)).trans rfl) ((funext fun i0 => frM_36 341 i0 (by omega)).trans rfl) ((funext fun i0 => frM_36 342 i0 (by omega)).trans rfl) ((funext fun i0 => frM_36 343 i0 (by omega)).trans rfl) (by first | omega | assumption) (by first | omega | assumption)) (pc' := 44) rfl (fun vv M_41 hq co41 hcm41 => ?_)
            obtain ⟨rfl, frM_41, mrM_41_0⟩ := hq
            refine ax_reS (st2 := [.inl ((f_day Ls wv1).2), .inl br]) rfl ?_
            have cc41 : -2147483648 ≤ (f_day Ls wv1).2 ∧ (f_day Ls wv1).2 < 2147483648 := co41 _ rfl
            refine ax_iadd dX12_days_44 (by omega) (pc' := 45) rfl ?_
            refine ax_istore_n dX12_days_45 rfl (by decide) (ls' := [some (.inr 330), some (.inl n), some (.inl (br + ((f_day Ls wv1).2))), some (.inl k)]) rfl (pc' := 46) rfl ?_
            refine ax_iinc dX12_days_46 rfl (by decide) (by omega) (ls' := [some (.inr 330), some (.inl n), some (.inl (br + ((f_day Ls wv1).2))), some (.inl (k + 1))]) rfl (pc' := 49) rfl ?_
            refine ax_goto dX12_days_49 (pc' := 30) (by decide) ?_
            refine ih3 (k + 1) (br + ((f_day Ls wv1).2)) ((f_day Ls wv1).1) (f_keep bv1 wv1 mv) (f_keepN mv) M_41 ?_ ?_ ?_ ?_ ?_ ?_ ?_ ?_ ?_ ?_
            · omega
            · intro x0 i0 hai
              exact ((frM_41 x0 i0 (by omega)).trans ((frM_36 x0 i0 (by omega)).trans ((fr1 x0 i0 (by omega)).trans rfl)))
            · exact mrM_41_0
            · exact ((funext fun i0 => frM_41 333 i0 (by omega)).trans mrM_36_0)
            · exact ((frM_41 330 4 (by omega)).trans msM_36_0)
            · omega
            · exact f_loop_back (by omega) iv1_1 rfl
            · exact ⟨qc.1, by rw [qc.2.1]; omega⟩
            · exact f_keepN_rg (by omega)
            · have qd := qc.2.2.2
              omega
      refine LP1 (n - 0 : Int).toNat.succ 0 0 w b m M ?_ ?_ ?_ ?_ ?_ ?_ ?_ ?_ ?_ ?_
      · omega
      · exact fun a i _ => rfl
      · exact hw
      · exact hb
      · exact hm
      · omega
      · rfl
      · exact ⟨hg0, by omega⟩
      · omega
      · omega
    · exfalso
      omega
set_option maxRecDepth 20000 in
theorem s_X12_isDone (E : ax_Env) (l : Launch) (d : Nat) (hd : 8 ≤ d) (M : ax_Mem) (r hand kind x y : Int) (Ls : Int → List f_Ln) {w : Int → Int} (hw : M 331 = w) {pl : Int → Int} (hpl : M 340 = pl) {F : Int → Int} (hF : M 341 = F) {rw0 : Int → Int} (hrw0 : M 342 = rw0) {cv0 : Int → Int} (hcv0 : M 343 = cv0) (hg0 : f_jv Ls w) (hg1 : f_isR w r) (hg2 : f_dnH w kind x) : ax_G E l d iX12_isDone [.inr 330, .inl r, .inl hand, .inl kind, .inl x, .inl y] M (fun z0 M2 => z0 = some (.inl (f_b (f_dnP w r kind x y))) ∧ (∀ x0 i0 : Int, ¬ (x0 = 331 ∨ x0 = 340 ∨ x0 = 341 ∨ x0 = 342 ∨ x0 = 343 ∨ (x0 = 330 ∧ i0 = 30) ∨ (x0 = 330 ∧ i0 = 31) ∨ (x0 = 330 ∧ i0 = 32) ∨ (x0 = 330 ∧ i0 = 33)) → M2 x0 i0 = M x0 i0) ∧ M2 331 = f_dnW Ls w r hand kind x y) := by
  obtain ⟨d, rfl⟩ : ∃ d0, d = d0 + 1 := ⟨d - 1, by omega⟩
  refine ax_start rfl (Nat.le_of_ble_eq_true rfl) (ls := [some (.inr 330), some (.inl r), some (.inl hand), some (.inl kind), some (.inl x), some (.inl y), none]) rfl (fun hav hcm => ?_)
  have hc1 : -2147483648 ≤ r ∧ r < 2147483648 := hav (.inl r) (by simp)
  have hc2 : -2147483648 ≤ hand ∧ hand < 2147483648 := hav (.inl hand) (by simp)
  have hc3 : -2147483648 ≤ kind ∧ kind < 2147483648 := hav (.inl kind) (by simp)
  have hc4 : -2147483648 ≤ x ∧ x < 2147483648 := hav (.inl x) (by simp)
  have hc5 : -2147483648 ≤ y ∧ y < 2147483648 := hav (.inl y) (by simp)
  clear hav
  have qa1 := hg0.1
  have qa2 := hg0.1.1
  have qa3 := hg0.1.1 r (by omega) (by omega)
  have qa4 := hg0.2.2
  have qa5 := (hg0.2.1 r (by omega) (by omega)).2 hg1.2.2
  obtain ⟨qh0, qh1, qh2, qh3⟩ := hg2
  refine ax_iload_n dX12_isDone_0 rfl rfl (pc' := 1) rfl ?_
  by_cases h1_10 : kind = 10
  · refine ax_reS (st2 := [.inl 10]) (by rw [h1_10]) ?_
    refine ax_tabIn (tgt := 32) dX12_isDone_1 (by decide) (by decide) rfl (by decide) ?_
    refine ax_aload_n dX12_isDone_32 rfl rfl (pc' := 33) rfl ?_
    refine ax_iload_n dX12_isDone_33 rfl rfl (pc' := 34) rfl ?_
    refine ax_iload dX12_isDone_34 rfl (pc' := 36) rfl ?_
    refine ax_iload dX12_isDone_36 rfl (pc' := 38) rfl ?_
    refine ax_invG [.inl r, .inl y, .inl x] [] dX12_isDone_38 mlX12_376 sh_330 rfl rfl rfl (Nat.le_of_ble_eq_true rfl) (s_X12_canTie E l _ (by omega) _ r y x hw (by first | omega | assumption)) (pc' := 41) rfl (fun vv M_38 hq co38 hcm38 => ?_)
    obtain ⟨rfl, rfl⟩ := hq
    refine ax_reS (st2 := [.inl (f_b (f_isP w r y ∧ f_P w r y 0 = -1 ∧ 0 ≤ x ∧ x ≤ 5))]) rfl ?_
    refine ax_if_ne (tgt := 46) dX12_isDone_41 (by decide) (pc' := 44) rfl (fun h41 => ?_) (fun h41 => ?_)
    · replace h41 := f_b_1 h41
      refine ax_aload_n dX12_isDone_46 rfl rfl (pc' := 47) rfl ?_
      refine ax_iload_n dX12_isDone_47 rfl rfl (pc' := 48) rfl ?_
      refine ax_iload dX12_isDone_48 rfl (pc' := 50) rfl ?_
      refine ax_iload dX12_isDone_50 rfl (pc' := 52) rfl ?_
      refine ax_iload_n dX12_isDone_52 rfl rfl (pc' := 53) rfl ?_
      refine ax_invG [.inl r, .inl y, .inl x, .inl hand] [] dX12_isDone_53 mlX12_382 sh_330 rfl rfl rfl (Nat.le_of_ble_eq_true rfl) (s_X12_ties E l _ (by omega) _ r y x hand hw (by first | omega | assumption) (by first | omega | assumption) (by first | omega | assumption) (by first | omega | assumption)) (pc' := 56) rfl (fun vv M_53 hq co53 hcm53 => ?_)
      obtain ⟨rfl, frM_53, mrM_53_0⟩ := hq
      refine ax_reS (st2 := []) rfl ?_
      refine ax_iconst dX12_isDone_56 (by decide) (pc' := 57) rfl ?_
      refine ax_zret dX12_isDone_57 rfl (by decide) ?_
      refine ⟨rfl, ?_, ?_, ?_⟩
      · refine congrArg (fun z => some (Sum.inl z)) ?_
        unfold f_b f_dnP
        split <;> omega
      · intro x0 i0 hai
        exact ((frM_53 x0 i0 (by omega)).trans rfl)
      · refine Eq.trans mrM_53_0 ?_
        unfold f_dnW
        first
          | (rw [if_pos h1_10]; first | rw [if_pos h41] | rw [if_neg h41])
          | (rw [if_neg h1_10, if_pos h1_11]; first | rw [if_neg (by omega)] | rw [if_pos (by omega)])
          | rw [if_neg h1_10, if_neg h1_11, if_pos h1_12]
          | rw [if_neg h1_10, if_neg h1_11, if_neg h1_12, if_pos h1_13]
          | (rw [if_neg h1_10, if_neg h1_11, if_neg h1_12, if_neg h1_13]; exact (f_loop_done (by omega)).symm.trans iv0_1)
    · replace h41 := f_b_0 h41
      refine ax_iconst dX12_isDone_44 (by decide) (pc' := 45) rfl ?_
      refine ax_zret dX12_isDone_45 rfl (by decide) ?_
      refine ⟨rfl, ?_, ?_, ?_⟩
      · refine congrArg (fun z => some (Sum.inl z)) ?_
        unfold f_b f_dnP
        split <;> omega
      · intro x0 i0 hai
        exact rfl
      · refine Eq.trans hw ?_
        unfold f_dnW
        first
          | (rw [if_pos h1_10]; first | rw [if_pos h41] | rw [if_neg h41])
          | (rw [if_neg h1_10, if_pos h1_11]; first | rw [if_neg (by omega)] | rw [if_pos (by omega)])
          | rw [if_neg h1_10, if_neg h1_11, if_pos h1_12]
          | rw [if_neg h1_10, if_neg h1_11, if_neg h1_12, if_pos h1_13]
          | (rw [if_neg h1_10, if_neg h1_11, if_neg h1_12, if_neg h1_13]; exact (f_loop_done (by omega)).symm.trans iv0_1)
  by_cases h1_11 : kind = 11
  · refine ax_reS (st2 := [.inl 11]) (by rw [h1_11]) ?_
    refine ax_tabIn (tgt := 58) dX12_isDone_1 (by decide) (by decide) rfl (by decide) ?_
    refine ax_aload_n dX12_isDone_58 rfl rfl (pc' := 59) rfl ?_
    refine ax_iload_n dX12_isDone_59 rfl rfl (pc' := 60) rfl ?_
    refine ax_iload dX12_isDone_60 rfl (pc' := 62) rfl ?_
    refine ax_invG [.inl r, .inl x] [] dX12_isDone_62 mlX12_367 sh_330 rfl rfl rfl (Nat.le_of_ble_eq_true rfl) (s_X12_isPlace E l _ (by omega) _ r x hw (by first | omega | assumption)) (pc' := 65) rfl (fun vv M_62 hq co62 hcm62 => ?_)
    obtain ⟨rfl, rfl⟩ := hq
    refine ax_reS (st2 := [.inl (f_b (f_isP w r x))]) rfl ?_
    refine ax_if_eq (tgt := 78) dX12_isDone_65 (by decide) (pc' := 68) rfl (fun h65 => ?_) (fun h65 => ?_)
    · replace h65 := f_b_0 h65
      refine ax_iconst dX12_isDone_78 (by decide) (pc' := 79) rfl ?_
      refine ax_zret dX12_isDone_79 rfl (by decide) ?_
      refine ⟨rfl, ?_, ?_, ?_⟩
      · refine congrArg (fun z => some (Sum.inl z)) ?_
        unfold f_b f_dnP
        split <;> omega
      · intro x0 i0 hai
        exact rfl
      · refine Eq.trans hw ?_
        unfold f_dnW
        first
          | (rw [if_pos h1_10]; first | rw [if_pos h41] | rw [if_neg h41])
          | (rw [if_neg h1_10, if_pos h1_11]; first | rw [if_neg (by omega)] | rw [if_pos (by omega)])
          | rw [if_neg h1_10, if_neg h1_11, if_pos h1_12]
          | rw [if_neg h1_10, if_neg h1_11, if_neg h1_12, if_pos h1_13]
          | (rw [if_neg h1_10, if_neg h1_11, if_neg h1_12, if_neg h1_13]; exact (f_loop_done (by omega)).symm.trans iv0_1)
    · replace h65 := f_b_1 h65
      refine ax_aload_n dX12_isDone_68 rfl rfl (pc' := 69) rfl ?_
      refine ax_iload_n dX12_isDone_69 rfl rfl (pc' := 70) rfl ?_
      refine ax_iload dX12_isDone_70 rfl (pc' := 72) rfl ?_
      refine ax_invG [.inl r, .inl x] [] dX12_isDone_72 mlX12_340 sh_330 rfl rfl rfl (Nat.le_of_ble_eq_true rfl) (s_X12_isTied E l _ (by omega) _ r x hw (by first | omega | assumption) (by first | omega | assumption)) (pc' := 75) rfl (fun vv M_72 hq co72 hcm72 => ?_)
      obtain ⟨rfl, rfl⟩ := hq
      refine ax_reS (st2 := [.inl (f_b (f_P w r x 0 ≠ -1))]) rfl ?_
      refine ax_if_ne (tgt := 80) dX12_isDone_75 (by decide) (pc' := 78) rfl (fun h75 => ?_) (fun h75 => ?_)
      · replace h75 := f_b_1 h75
        refine ax_aload_n dX12_isDone_80 rfl rfl (pc' := 81) rfl ?_
        refine ax_iload_n dX12_isDone_81 rfl rfl (pc' := 82) rfl ?_
        refine ax_iload dX12_isDone_82 rfl (pc' := 84) rfl ?_
        refine ax_iconst dX12_isDone_84 (by decide) (pc' := 85) rfl ?_
        refine ax_iconst dX12_isDone_85 (by decide) (pc' := 86) rfl ?_
        refine ax_invG [.inl r, .inl x, .inl 0, .inl (-1)] [] dX12_isDone_86 mlX12_102 sh_330 rfl rfl rfl (Nat.le_of_ble_eq_true rfl) (s_X12_places E l _ (by omega) _ r x 0 (-1) hw (by first | omega | assumption) (by first | omega | assumption) (by first | omega | assumption)) (pc' := 89) rfl (fun vv M_86 hq co86 hcm86 => ?_)
        obtain ⟨rfl, frM_86, mrM_86_0⟩ := hq
        refine ax_reS (st2 := []) rfl ?_
        refine ax_iconst dX12_isDone_89 (by decide) (pc' := 90) rfl ?_
        refine ax_zret dX12_isDone_90 rfl (by decide) ?_
        refine ⟨rfl, ?_, ?_, ?_⟩
        · refine congrArg (fun z => some (Sum.inl z)) ?_
          unfold f_b f_dnP
          split <;> omega
        · intro x0 i0 hai
          exact ((frM_86 x0 i0 (by omega)).trans rfl)
        · refine Eq.trans mrM_86_0 ?_
          unfold f_dnW
          first
            | (rw [if_pos h1_10]; first | rw [if_pos h41] | rw [if_neg h41])
            | (rw [if_neg h1_10, if_pos h1_11]; first | rw [if_neg (by omega)] | rw [if_pos (by omega)])
            | rw [if_neg h1_10, if_neg h1_11, if_pos h1_12]
            | rw [if_neg h1_10, if_neg h1_11, if_neg h1_12, if_pos h1_13]
            | (rw [if_neg h1_10, if_neg h1_11, if_neg h1_12, if_neg h1_13]; exact (f_loop_done (by omega)).symm.trans iv0_1)
      · replace h75 := f_b_0 h75
        refine ax_iconst dX12_isDone_78 (by decide) (pc' := 79) rfl ?_
        refine ax_zret dX12_isDone_79 rfl (by decide) ?_
        refine ⟨rfl, ?_, ?_, ?_⟩
        · refine congrArg (fun z => some (Sum.inl z)) ?_
          unfold f_b f_dnP
          split <;> omega
        · intro x0 i0 hai
          exact rfl
        · refine Eq.trans hw ?_
          unfold f_dnW
          first
            | (rw [if_pos h1_10]; first | rw [if_pos h41] | rw [if_neg h41])
            | (rw [if_neg h1_10, if_pos h1_11]; first | rw [if_neg (by omega)] | rw [if_pos (by omega)])
            | rw [if_neg h1_10, if_neg h1_11, if_pos h1_12]
            | rw [if_neg h1_10, if_neg h1_11, if_neg h1_12, if_pos h1_13]
            | (rw [if_neg h1_10, if_neg h1_11, if_neg h1_12, if_neg h1_13]; exact (f_loop_done (by omega)).symm.trans iv0_1)
  by_cases h1_12 : kind = 12
  · refine ax_reS (st2 := [.inl 12]) (by rw [h1_12]) ?_
    refine ax_tabIn (tgt := 91) dX12_isDone_1 (by decide) (by decide) rfl (by decide) ?_
    have qh4 := qh1 h1_12
    refine ax_aload_n dX12_isDone_91 rfl rfl (pc' := 92) rfl ?_
    refine ax_iload_n dX12_isDone_92 rfl rfl (pc' := 93) rfl ?_
    refine ax_iload dX12_isDone_93 rfl (pc' := 95) rfl ?_
    refine ax_invG [.inl r, .inl x] [] dX12_isDone_95 mlX12_432 sh_330 rfl rfl rfl (Nat.le_of_ble_eq_true rfl) (s_X12_pulls E l _ (by omega) _ r x Ls hw hpl hF hrw0 hcv0 (by first | omega | assumption) (by first | omega | assumption) (by first | omega | assumption) (by first | omega | assumption)) (pc' := 98) rfl (fun vv M_95 hq co95 hcm95 => ?_)
    obtain ⟨rfl, frM_95, mrM_95_0, msM_95_0, msM_95_1, msM_95_2, msM_95_3⟩ := hq
    refine ax_reS (st2 := [.inl ((f_stch Ls w r x).2.1)]) rfl ?_
    have cc95 : -2147483648 ≤ (f_stch Ls w r x).2.1 ∧ (f_stch Ls w r x).2.1 < 2147483648 := co95 _ rfl
    refine ax_pop dX12_isDone_98 (pc' := 99) rfl ?_
    refine ax_iconst dX12_isDone_99 (by decide) (pc' := 100) rfl ?_
    refine ax_zret dX12_isDone_100 rfl (by decide) ?_
    refine ⟨rfl, ?_, ?_, ?_⟩
    · refine congrArg (fun z => some (Sum.inl z)) ?_
      unfold f_b f_dnP
      split <;> omega
    · intro x0 i0 hai
      exact ((frM_95 x0 i0 (by omega)).trans rfl)
    · refine Eq.trans mrM_95_0 ?_
      unfold f_dnW
      first
        | (rw [if_pos h1_10]; first | rw [if_pos h41] | rw [if_neg h41])
        | (rw [if_neg h1_10, if_pos h1_11]; first | rw [if_neg (by omega)] | rw [if_pos (by omega)])
        | rw [if_neg h1_10, if_neg h1_11, if_pos h1_12]
        | rw [if_neg h1_10, if_neg h1_11, if_neg h1_12, if_pos h1_13]
        | (rw [if_neg h1_10, if_neg h1_11, if_neg h1_12, if_neg h1_13]; exact (f_loop_done (by omega)).symm.trans iv0_1)
  by_cases h1_13 : kind = 13
  · refine ax_reS (st2 := [.inl 13]) (by rw [h1_13]) ?_
    refine ax_tabIn (tgt := 101) dX12_isDone_1 (by decide) (by decide) rfl (by decide) ?_
    have qh4 := qh2 h1_13
    refine ax_aload_n dX12_isDone_101 rfl rfl (pc' := 102) rfl ?_
    refine ax_iload_n dX12_isDone_102 rfl rfl (pc' := 103) rfl ?_
    refine ax_iload dX12_isDone_103 rfl (pc' := 105) rfl ?_
    refine ax_invG [.inl r, .inl x] [] dX12_isDone_105 mlX12_387 sh_330 rfl rfl rfl (Nat.le_of_ble_eq_true rfl) (s_X12_wets E l _ (by omega) _ r x hw (by first | omega | assumption) (by first | omega | assumption)) (pc' := 108) rfl (fun vv M_105 hq co105 hcm105 => ?_)
    obtain ⟨rfl, frM_105, mrM_105_0⟩ := hq
    refine ax_reS (st2 := []) rfl ?_
    refine ax_iconst dX12_isDone_108 (by decide) (pc' := 109) rfl ?_
    refine ax_zret dX12_isDone_109 rfl (by decide) ?_
    refine ⟨rfl, ?_, ?_, ?_⟩
    · refine congrArg (fun z => some (Sum.inl z)) ?_
      unfold f_b f_dnP
      split <;> omega
    · intro x0 i0 hai
      exact ((frM_105 x0 i0 (by omega)).trans rfl)
    · refine Eq.trans mrM_105_0 ?_
      unfold f_dnW
      first
        | (rw [if_pos h1_10]; first | rw [if_pos h41] | rw [if_neg h41])
        | (rw [if_neg h1_10, if_pos h1_11]; first | rw [if_neg (by omega)] | rw [if_pos (by omega)])
        | rw [if_neg h1_10, if_neg h1_11, if_pos h1_12]
        | rw [if_neg h1_10, if_neg h1_11, if_neg h1_12, if_pos h1_13]
        | (rw [if_neg h1_10, if_neg h1_11, if_neg h1_12, if_neg h1_13]; exact (f_loop_done (by omega)).symm.trans iv0_1)
  refine ax_tabOut (tgt := 110) dX12_isDone_1 (by omega) (by decide) ?_
  have qk : kind = 14 := by omega
  have qh4 := qh3 qk
  refine ax_iconst dX12_isDone_110 (by decide) (pc' := 111) rfl ?_
  refine ax_istore dX12_isDone_111 (by decide) (ls' := [some (.inr 330), some (.inl r), some (.inl hand), some (.inl kind), some (.inl x), some (.inl y), some (.inl 0)]) rfl (pc' := 113) rfl ?_
  have LP1 : ∀ (kq2 : Nat) (k : Int) (wv1 : Int → Int) (M1 : ax_Mem) (hm1 : x - k < (kq2 : Nat)) (fr1 : ∀ x0 i0 : Int, ¬ (x0 = 331 ∨ x0 = 340 ∨ x0 = 341 ∨ x0 = 342 ∨ x0 = 343 ∨ (x0 = 330 ∧ i0 = 30) ∨ (x0 = 330 ∧ i0 = 31) ∨ (x0 = 330 ∧ i0 = 32) ∨ (x0 = 330 ∧ i0 = 33)) → M1 x0 i0 = M x0 i0) (mr1_331 : M1 331 = wv1) (iv1_0 : 0 ≤ k ∧ k ≤ x) (iv1_1 : f_loop (fun _ z => (f_day Ls z).1) k x wv1 = f_loop (fun _ z => (f_day Ls z).1) 0 x w) (iv1_2 : f_jv Ls wv1 ∧ wv1 0 = w 0 + k), ax_W E l (d + 1) 0 0 iX12_isDone 113 [some (.inr 330), some (.inl r), some (.inl hand), some (.inl kind), some (.inl x), some (.inl y), some (.inl k)] [] SH M1 (ax_P (fun z0 M2 => z0 = some (.inl (f_b (f_dnP w r kind x y))) ∧ (∀ x0 i0 : Int, ¬ (x0 = 331 ∨ x0 = 340 ∨ x0 = 341 ∨ x0 = 342 ∨ x0 = 343 ∨ (x0 = 330 ∧ i0 = 30) ∨ (x0 = 330 ∧ i0 = 31) ∨ (x0 = 330 ∧ i0 = 32) ∨ (x0 = 330 ∧ i0 = 33)) → M2 x0 i0 = M x0 i0) ∧ M2 331 = f_dnW Ls w r hand kind x y)) := by
    intro kq2
    induction kq2 with
    | zero =>
      intro k wv1 M1 hm1 fr1 mr1_331 iv1_0 iv1_1 iv1_2
      exfalso
      omega
    | succ kq2 ih3 =>
      intro k wv1 M1 hm1 fr1 mr1_331 iv1_0 iv1_1 iv1_2
      have qb1 := iv1_2.1
      have qb2 := iv1_2.2
      refine ax_iload dX12_isDone_113 rfl (pc' := 115) rfl ?_
      refine ax_iload dX12_isDone_115 rfl (pc' := 117) rfl ?_
      refine ax_icmp_ge (tgt := 131) dX12_isDone_117 (by decide) (pc' := 120) rfl (fun h117 => ?_) (fun h117 => ?_)
      · refine ax_iconst dX12_isDone_131 (by decide) (pc' := 132) rfl ?_
        refine ax_zret dX12_isDone_132 rfl (by decide) ?_
        refine ⟨rfl, ?_, ?_, ?_⟩
        · refine congrArg (fun z => some (Sum.inl z)) ?_
          unfold f_b f_dnP
          split <;> omega
        · intro x0 i0 hai
          exact ((fr1 x0 i0 (by omega)).trans rfl)
        · refine Eq.trans mr1_331 ?_
          unfold f_dnW
          first
            | (rw [if_pos h1_10]; first | rw [if_pos h41] | rw [if_neg h41])
            | (rw [if_neg h1_10, if_pos h1_11]; first | rw [if_neg (by omega)] | rw [if_pos (by omega)])
            | rw [if_neg h1_10, if_neg h1_11, if_pos h1_12]
            | rw [if_neg h1_10, if_neg h1_11, if_neg h1_12, if_pos h1_13]
            | (rw [if_neg h1_10, if_neg h1_11, if_neg h1_12, if_neg h1_13]; exact (f_loop_done (by omega)).symm.trans iv1_1)
      · have qc := f_day_ok qb1 (by omega)
        refine ax_aload_n dX12_isDone_120 rfl rfl (pc' := 121) rfl ?_
        refine ax_invG [] [] dX12_isDone_121 mlX12_448 sh_330 rfl rfl rfl (Nat.le_of_ble_eq_true rfl) (s_X12_aDay E l _ (by omega) _ Ls mr1_331 rfl rfl rfl rfl (by first | omega | assumption) (by first | omega | assumption)) (pc' := 124) rfl (fun vv M_121 hq co121 hcm121 => ?_)
        obtain ⟨rfl, frM_121, mrM_121_0⟩ := hq
        refine ax_reS (st2 := [.inl ((f_day Ls wv1).2)]) rfl ?_
        have cc121 : -2147483648 ≤ (f_day Ls wv1).2 ∧ (f_day Ls wv1).2 < 2147483648 := co121 _ rfl
        refine ax_pop dX12_isDone_124 (pc' := 125) rfl ?_
        refine ax_iinc dX12_isDone_125 rfl (by decide) (by omega) (ls' := [some (.inr 330), some (.inl r), some (.inl hand), some (.inl kind), some (.inl x), some (.inl y), some (.inl (k + 1))]) rfl (pc' := 128) rfl ?_
        refine ax_goto dX12_isDone_128 (pc' := 113) (by decide) ?_
        refine ih3 (k + 1) ((f_day Ls wv1).1) M_121 ?_ ?_ ?_ ?_ ?_ ?_
        · omega
        · intro x0 i0 hai
          exact ((frM_121 x0 i0 (by omega)).trans ((fr1 x0 i0 (by omega)).trans rfl))
        · exact mrM_121_0
        · omega
        · exact f_loop_back (by omega) iv1_1 rfl
        · exact ⟨qc.1, by rw [qc.2.1]; omega⟩
  refine LP1 (x - 0 : Int).toNat.succ 0 w M ?_ ?_ ?_ ?_ ?_ ?_
  · omega
  · exact fun a i _ => rfl
  · exact hw
  · omega
  · rfl
  · exact ⟨hg0, by omega⟩
set_option maxRecDepth 20000 in
theorem s_X12_drill_no (E : ax_Env) (l : Launch) (d : Nat) (hd : 9 ≤ d) (M : ax_Mem) (r hand : Int) {w : Int → Int} (hw : M 331 = w) (hg0 : f_iv w) (hg1 : f_dr w) (hg2 : ¬ (f_isR w r ∧ (0 ≤ hand ∧ hand ≤ 9) ∧ w 0 + f_rs w ≤ 9999)) : ax_G E l d iX12_drill [.inr 330, .inl r, .inl hand] M (fun z0 M2 => z0 = some (.inl (-1)) ∧ M = M2) := by
  obtain ⟨d, rfl⟩ : ∃ d0, d = d0 + 1 := ⟨d - 1, by omega⟩
  refine ax_start rfl (Nat.le_of_ble_eq_true rfl) (ls := [some (.inr 330), some (.inl r), some (.inl hand), none, none, none]) rfl (fun hav hcm => ?_)
  have hc1 : -2147483648 ≤ r ∧ r < 2147483648 := hav (.inl r) (by simp)
  have hc2 : -2147483648 ≤ hand ∧ hand < 2147483648 := hav (.inl hand) (by simp)
  clear hav
  have qa1 := hg0.2.2.1
  obtain ⟨qd1, qd2⟩ := hg1
  refine ax_iconst dX12_drill_0 (by decide) (pc' := 1) rfl ?_
  refine ax_istore_n dX12_drill_1 rfl (by decide) (ls' := [some (.inr 330), some (.inl r), some (.inl hand), some (.inl 0), none, none]) rfl (pc' := 2) rfl ?_
  refine ax_iconst dX12_drill_2 (by decide) (pc' := 3) rfl ?_
  refine ax_istore dX12_drill_3 (by decide) (ls' := [some (.inr 330), some (.inl r), some (.inl hand), some (.inl 0), some (.inl 0), none]) rfl (pc' := 5) rfl ?_
  have LP1 : ∀ (kq2 : Nat) (x s : Int) (hm1 : w 2600 - x < (kq2 : Nat)) (iv1_0 : 0 ≤ x ∧ x ≤ w 2600) (iv1_1 : f_loop (f_rsS w) x (w 2600) s = f_rs w) (iv1_2 : 0 ≤ s ∧ s ≤ 30 * x), ax_W E l (d + 1) 0 0 iX12_drill 5 [some (.inr 330), some (.inl r), some (.inl hand), some (.inl s), some (.inl x), none] [] SH M (ax_P (fun z0 M2 => z0 = some (.inl (-1)) ∧ M = M2)) := by
    intro kq2
    induction kq2 with
    | zero =>
      intro x s hm1 iv1_0 iv1_1 iv1_2
      exfalso
      omega
    | succ kq2 ih3 =>
      intro x s hm1 iv1_0 iv1_1 iv1_2
      refine ax_iload dX12_drill_5 rfl (pc' := 7) rfl ?_
      refine ax_aload_n dX12_drill_7 rfl rfl (pc' := 8) rfl ?_
      refine ax_getr (v := 331) dX12_drill_8 flX12_7 rfl sh_330 rfl (pc' := 11) rfl ?_
      refine ax_sipush dX12_drill_11 (by decide) (pc' := 14) rfl ?_
      refine ax_iald (v := w 2600) dX12_drill_14 sh_331 rfl (by omega) (by omega) ((congrFun hw 2600).trans rfl) (pc' := 15) rfl ?_
      refine ax_icmp_ge (tgt := 64) dX12_drill_15 (by decide) (pc' := 18) rfl (fun h15 => ?_) (fun h15 => ?_)
      · have qe : s = f_rs w := (f_loop_done (by omega)).symm.trans iv1_1
        refine ax_aload_n dX12_drill_64 rfl rfl (pc' := 65) rfl ?_
        refine ax_iload_n dX12_drill_65 rfl rfl (pc' := 66) rfl ?_
        refine ax_invG [.inl r] [] dX12_drill_66 mlX12_82 sh_330 rfl rfl rfl (Nat.le_of_ble_eq_true rfl) (s_X12_isRope E l _ (by omega) _ r hw) (pc' := 69) rfl (fun vv M_66 hq co66 hcm66 => ?_)
        obtain ⟨rfl, rfl⟩ := hq
        refine ax_reS (st2 := [.inl (f_b (f_isR w r))]) rfl ?_
        refine ax_if_eq (tgt := 96) dX12_drill_69 (by decide) (pc' := 72) rfl (fun h69 => ?_) (fun h69 => ?_)
        · replace h69 := f_b_0 h69
          refine ax_iconst dX12_drill_96 (by decide) (pc' := 97) rfl ?_
          refine ax_iret dX12_drill_97 rfl ?_
          refine ⟨rfl, ?_, ?_⟩
          · rfl
          · rfl
        · replace h69 := f_b_1 h69
          refine ax_iload_n dX12_drill_72 rfl rfl (pc' := 73) rfl ?_
          refine ax_iconst dX12_drill_73 (by decide) (pc' := 74) rfl ?_
          refine ax_bipush dX12_drill_74 (by decide) (pc' := 76) rfl ?_
          refine ax_insG [.inl hand, .inl 0, .inl 9] [] dX12_drill_76 mlX12_74 rfl rfl (Nat.le_of_ble_eq_true rfl) (s_X12_isIn E l _ (by omega) _ hand 0 9) (pc' := 79) rfl (fun vv M_76 hq co76 hcm76 => ?_)
          obtain ⟨rfl, rfl⟩ := hq
          refine ax_reS (st2 := [.inl (f_b (0 ≤ hand ∧ hand ≤ 9))]) rfl ?_
          refine ax_if_eq (tgt := 96) dX12_drill_79 (by decide) (pc' := 82) rfl (fun h79 => ?_) (fun h79 => ?_)
          · replace h79 := f_b_0 h79
            refine ax_iconst dX12_drill_96 (by decide) (pc' := 97) rfl ?_
            refine ax_iret dX12_drill_97 rfl ?_
            refine ⟨rfl, ?_, ?_⟩
            · rfl
            · rfl
          · replace h79 := f_b_1 h79
            refine ax_aload_n dX12_drill_82 rfl rfl (pc' := 83) rfl ?_
            refine ax_getr (v := 331) dX12_drill_83 flX12_7 rfl sh_330 rfl (pc' := 86) rfl ?_
            refine ax_iconst dX12_drill_86 (by decide) (pc' := 87) rfl ?_
            refine ax_iald (v := w 0) dX12_drill_87 sh_331 rfl (by omega) (by omega) ((congrFun hw 0).trans rfl) (pc' := 88) rfl ?_
            refine ax_iload_n dX12_drill_88 rfl rfl (pc' := 89) rfl ?_
            refine ax_iadd dX12_drill_89 (by omega) (pc' := 90) rfl ?_
            refine ax_sipush dX12_drill_90 (by decide) (pc' := 93) rfl ?_
            refine ax_icmp_le (tgt := 98) dX12_drill_93 (by decide) (pc' := 96) rfl (fun h93 => ?_) (fun h93 => ?_)
            · exfalso
              omega
            · refine ax_iconst dX12_drill_96 (by decide) (pc' := 97) rfl ?_
              refine ax_iret dX12_drill_97 rfl ?_
              refine ⟨rfl, ?_, ?_⟩
              · rfl
              · rfl
      · have qd3 := qd2 x (by omega) (by omega)
        refine ax_iload_n dX12_drill_18 rfl rfl (pc' := 19) rfl ?_
        refine ax_aload_n dX12_drill_19 rfl rfl (pc' := 20) rfl ?_
        refine ax_getr (v := 331) dX12_drill_20 flX12_7 rfl sh_330 rfl (pc' := 23) rfl ?_
        refine ax_sipush dX12_drill_23 (by decide) (pc' := 26) rfl ?_
        refine ax_iconst dX12_drill_26 (by decide) (pc' := 27) rfl ?_
        refine ax_iload dX12_drill_27 rfl (pc' := 29) rfl ?_
        refine ax_imul dX12_drill_29 (by omega) (pc' := 30) rfl ?_
        refine ax_iadd dX12_drill_30 (by omega) (pc' := 31) rfl ?_
        refine ax_iald (v := w (3984 + (3 * x))) dX12_drill_31 sh_331 rfl (by omega) (by omega) ((congrFun hw (3984 + (3 * x))).trans rfl) (pc' := 32) rfl ?_
        refine ax_bipush dX12_drill_32 (by decide) (pc' := 34) rfl ?_
        refine ax_icmp_ne (tgt := 55) dX12_drill_34 (by decide) (pc' := 37) rfl (fun h34 => ?_) (fun h34 => ?_)
        · refine ax_iconst dX12_drill_55 (by decide) (pc' := 56) rfl ?_
          refine ax_iadd dX12_drill_56 (by omega) (pc' := 57) rfl ?_
          refine ax_istore_n dX12_drill_57 rfl (by decide) (ls' := [some (.inr 330), some (.inl r), some (.inl hand), some (.inl (s + 0)), some (.inl x), none]) rfl (pc' := 58) rfl ?_
          refine ax_iinc dX12_drill_58 rfl (by decide) (by omega) (ls' := [some (.inr 330), some (.inl r), some (.inl hand), some (.inl (s + 0)), some (.inl (x + 1)), none]) rfl (pc' := 61) rfl ?_
          refine ax_goto dX12_drill_61 (pc' := 5) (by decide) ?_
          refine ih3 (x + 1) (s + 0) ?_ ?_ ?_ ?_
          · omega
          · omega
          · refine f_loop_back (by omega) iv1_1 ?_
            unfold f_rsS
            first | rw [if_pos h34] | rw [if_neg h34]
          · omega
        · have qd4 := qd3.2.2.2 h34
          refine ax_aload_n dX12_drill_37 rfl rfl (pc' := 38) rfl ?_
          refine ax_getr (v := 331) dX12_drill_38 flX12_7 rfl sh_330 rfl (pc' := 41) rfl ?_
          refine ax_sipush dX12_drill_41 (by decide) (pc' := 44) rfl ?_
          refine ax_iconst dX12_drill_44 (by decide) (pc' := 45) rfl ?_
          refine ax_iload dX12_drill_45 rfl (pc' := 47) rfl ?_
          refine ax_imul dX12_drill_47 (by omega) (pc' := 48) rfl ?_
          refine ax_iadd dX12_drill_48 (by omega) (pc' := 49) rfl ?_
          refine ax_iconst dX12_drill_49 (by decide) (pc' := 50) rfl ?_
          refine ax_iadd dX12_drill_50 (by omega) (pc' := 51) rfl ?_
          refine ax_iald (v := w (3984 + (3 * x) + 1)) dX12_drill_51 sh_331 rfl (by omega) (by omega) ((congrFun hw (3984 + (3 * x) + 1)).trans rfl) (pc' := 52) rfl ?_
          refine ax_goto dX12_drill_52 (pc' := 56) (by decide) ?_
          refine ax_iadd dX12_drill_56 (by omega) (pc' := 57) rfl ?_
          refine ax_istore_n dX12_drill_57 rfl (by decide) (ls' := [some (.inr 330), some (.inl r), some (.inl hand), some (.inl (s + (w (3984 + (3 * x) + 1)))), some (.inl x), none]) rfl (pc' := 58) rfl ?_
          refine ax_iinc dX12_drill_58 rfl (by decide) (by omega) (ls' := [some (.inr 330), some (.inl r), some (.inl hand), some (.inl (s + (w (3984 + (3 * x) + 1)))), some (.inl (x + 1)), none]) rfl (pc' := 61) rfl ?_
          refine ax_goto dX12_drill_61 (pc' := 5) (by decide) ?_
          refine ih3 (x + 1) (s + (w (3984 + (3 * x) + 1))) ?_ ?_ ?_ ?_
          · omega
          · omega
          · refine f_loop_back (by omega) iv1_1 ?_
            unfold f_rsS
            first | rw [if_pos h34] | rw [if_neg h34]
          · omega
  refine LP1 (w 2600 - 0 : Int).toNat.succ 0 0 ?_ ?_ ?_ ?_
  · omega
  · omega
  · rfl
  · omega
set_option maxRecDepth 20000 in
theorem s_X12_drill_ok (E : ax_Env) (l : Launch) (d : Nat) (hd : 9 ≤ d) (M : ax_Mem) (r hand : Int) (Ls : Int → List f_Ln) {w : Int → Int} (hw : M 331 = w) {pl : Int → Int} (hpl : M 340 = pl) {F : Int → Int} (hF : M 341 = F) {rw0 : Int → Int} (hrw0 : M 342 = rw0) {cv0 : Int → Int} (hcv0 : M 343 = cv0) {b : Int → Int} (hb : M 333 = b) {m : Int} (hm : M 330 4 = m) (hg0 : f_jv Ls w) (hg1 : 0 ≤ m ∧ m ≤ 5) (hg2 : f_dr w) (hg3 : f_isR w r ∧ (0 ≤ hand ∧ hand ≤ 9) ∧ w 0 + f_rs w ≤ 9999) : ax_G E l d iX12_drill [.inr 330, .inl r, .inl hand] M (fun z0 M2 => z0 = some (.inl ((f_dl Ls w r hand).2)) ∧ (∀ x0 i0 : Int, ¬ (x0 = 331 ∨ x0 = 333 ∨ (x0 = 330 ∧ i0 = 4) ∨ x0 = 340 ∨ x0 = 341 ∨ x0 = 342 ∨ x0 = 343 ∨ (x0 = 330 ∧ i0 = 30) ∨ (x0 = 330 ∧ i0 = 31) ∨ (x0 = 330 ∧ i0 = 32) ∨ (x0 = 330 ∧ i0 = 33)) → M2 x0 i0 = M x0 i0) ∧ M2 331 = (f_dl Ls w r hand).1 ∧ M2 333 = f_keep b w m ∧ M2 330 4 = f_keepN m) := by
  obtain ⟨d, rfl⟩ : ∃ d0, d = d0 + 1 := ⟨d - 1, by omega⟩
  refine ax_start rfl (Nat.le_of_ble_eq_true rfl) (ls := [some (.inr 330), some (.inl r), some (.inl hand), none, none, none]) rfl (fun hav hcm => ?_)
  have hc1 : -2147483648 ≤ r ∧ r < 2147483648 := hav (.inl r) (by simp)
  have hc2 : -2147483648 ≤ hand ∧ hand < 2147483648 := hav (.inl hand) (by simp)
  clear hav
  have qa1 := hg0.1.2.2.1
  have qd1 := hg2.1
  have qd2 := hg2.2
  refine ax_iconst dX12_drill_0 (by decide) (pc' := 1) rfl ?_
  refine ax_istore_n dX12_drill_1 rfl (by decide) (ls' := [some (.inr 330), some (.inl r), some (.inl hand), some (.inl 0), none, none]) rfl (pc' := 2) rfl ?_
  refine ax_iconst dX12_drill_2 (by decide) (pc' := 3) rfl ?_
  refine ax_istore dX12_drill_3 (by decide) (ls' := [some (.inr 330), some (.inl r), some (.inl hand), some (.inl 0), some (.inl 0), none]) rfl (pc' := 5) rfl ?_
  have LP1 : ∀ (kq2 : Nat) (x s : Int) (hm1 : w 2600 - x < (kq2 : Nat)) (iv1_0 : 0 ≤ x ∧ x ≤ w 2600) (iv1_1 : f_loop (f_rsS w) x (w 2600) s = f_rs w) (iv1_2 : 0 ≤ s ∧ s ≤ 30 * x), ax_W E l (d + 1) 0 0 iX12_drill 5 [some (.inr 330), some (.inl r), some (.inl hand), some (.inl s), some (.inl x), none] [] SH M (ax_P (fun z0 M2 => z0 = some (.inl ((f_dl Ls w r hand).2)) ∧ (∀ x0 i0 : Int, ¬ (x0 = 331 ∨ x0 = 333 ∨ (x0 = 330 ∧ i0 = 4) ∨ x0 = 340 ∨ x0 = 341 ∨ x0 = 342 ∨ x0 = 343 ∨ (x0 = 330 ∧ i0 = 30) ∨ (x0 = 330 ∧ i0 = 31) ∨ (x0 = 330 ∧ i0 = 32) ∨ (x0 = 330 ∧ i0 = 33)) → M2 x0 i0 = M x0 i0) ∧ M2 331 = (f_dl Ls w r hand).1 ∧ M2 333 = f_keep b w m ∧ M2 330 4 = f_keepN m)) := by
    intro kq2
    induction kq2 with
    | zero =>
      intro x s hm1 iv1_0 iv1_1 iv1_2
      exfalso
      omega
    | succ kq2 ih3 =>
      intro x s hm1 iv1_0 iv1_1 iv1_2
      refine ax_iload dX12_drill_5 rfl (pc' := 7) rfl ?_
      refine ax_aload_n dX12_drill_7 rfl rfl (pc' := 8) rfl ?_
      refine ax_getr (v := 331) dX12_drill_8 flX12_7 rfl sh_330 rfl (pc' := 11) rfl ?_
      refine ax_sipush dX12_drill_11 (by decide) (pc' := 14) rfl ?_
      refine ax_iald (v := w 2600) dX12_drill_14 sh_331 rfl (by omega) (by omega) ((congrFun hw 2600).trans rfl) (pc' := 15) rfl ?_
      refine ax_icmp_ge (tgt := 64) dX12_drill_15 (by decide) (pc' := 18) rfl (fun h15 => ?_) (fun h15 => ?_)
      · have qe : s = f_rs w := (f_loop_done (by omega)).symm.trans iv1_1
        refine ax_aload_n dX12_drill_64 rfl rfl (pc' := 65) rfl ?_
        refine ax_iload_n dX12_drill_65 rfl rfl (pc' := 66) rfl ?_
        refine ax_invG [.inl r] [] dX12_drill_66 mlX12_82 sh_330 rfl rfl rfl (Nat.le_of_ble_eq_true rfl) (s_X12_isRope E l _ (by omega) _ r hw) (pc' := 69) rfl (fun vv M_66 hq co66 hcm66 => ?_)
        obtain ⟨rfl, rfl⟩ := hq
        refine ax_reS (st2 := [.inl (f_b (f_isR w r))]) rfl ?_
        refine ax_if_eq (tgt := 96) dX12_drill_69 (by decide) (pc' := 72) rfl (fun h69 => ?_) (fun h69 => ?_)
        · replace h69 := f_b_0 h69
          exfalso
          omega
        · replace h69 := f_b_1 h69
          refine ax_iload_n dX12_drill_72 rfl rfl (pc' := 73) rfl ?_
          refine ax_iconst dX12_drill_73 (by decide) (pc' := 74) rfl ?_
          refine ax_bipush dX12_drill_74 (by decide) (pc' := 76) rfl ?_
          refine ax_insG [.inl hand, .inl 0, .inl 9] [] dX12_drill_76 mlX12_74 rfl rfl (Nat.le_of_ble_eq_true rfl) (s_X12_isIn E l _ (by omega) _ hand 0 9) (pc' := 79) rfl (fun vv M_76 hq co76 hcm76 => ?_)
          obtain ⟨rfl, rfl⟩ := hq
          refine ax_reS (st2 := [.inl (f_b (0 ≤ hand ∧ hand ≤ 9))]) rfl ?_
          refine ax_if_eq (tgt := 96) dX12_drill_79 (by decide) (pc' := 82) rfl (fun h79 => ?_) (fun h79 => ?_)
          · replace h79 := f_b_0 h79
            exfalso
            omega
          · replace h79 := f_b_1 h79
            refine ax_aload_n dX12_drill_82 rfl rfl (pc' := 83) rfl ?_
            refine ax_getr (v := 331) dX12_drill_83 flX12_7 rfl sh_330 rfl (pc' := 86) rfl ?_
            refine ax_iconst dX12_drill_86 (by decide) (pc' := 87) rfl ?_
            refine ax_iald (v := w 0) dX12_drill_87 sh_331 rfl (by omega) (by omega) ((congrFun hw 0).trans rfl) (pc' := 88) rfl ?_
            refine ax_iload_n dX12_drill_88 rfl rfl (pc' := 89) rfl ?_
            refine ax_iadd dX12_drill_89 (by omega) (pc' := 90) rfl ?_
            refine ax_sipush dX12_drill_90 (by decide) (pc' := 93) rfl ?_
            refine ax_icmp_le (tgt := 98) dX12_drill_93 (by decide) (pc' := 96) rfl (fun h93 => ?_) (fun h93 => ?_)
            · refine ax_aload_n dX12_drill_98 rfl rfl (pc' := 99) rfl ?_
              refine ax_invG [] [] dX12_drill_99 mlX12_379 sh_330 rfl rfl rfl (Nat.le_of_ble_eq_true rfl) (s_X12_keeps E l _ (by omega) _ hw hb hm (by first | omega | assumption)) (pc' := 102) rfl (fun vv M_99 hq co99 hcm99 => ?_)
              obtain ⟨rfl, frM_99, mrM_99_0, msM_99_0⟩ := hq
              refine ax_reS (st2 := []) rfl ?_
              refine ax_iconst dX12_drill_102 (by decide) (pc' := 103) rfl ?_
              refine ax_istore dX12_drill_103 (by decide) (ls' := [some (.inr 330), some (.inl r), some (.inl hand), some (.inl s), some (.inl 0), none]) rfl (pc' := 105) rfl ?_
              refine ax_iconst dX12_drill_105 (by decide) (pc' := 106) rfl ?_
              refine ax_istore dX12_drill_106 (by decide) (ls' := [some (.inr 330), some (.inl r), some (.inl hand), some (.inl s), some (.inl 0), some (.inl 0)]) rfl (pc' := 108) rfl ?_
              have LP4 : ∀ (kq5 : Nat) (x2 n : Int) (wv1 : Int → Int) (M4 : ax_Mem) (hm4 : w 2600 - x2 < (kq5 : Nat)) (fr4 : ∀ x0 i0 : Int, ¬ (x0 = 331 ∨ x0 = 340 ∨ x0 = 341 ∨ x0 = 342 ∨ x0 = 343 ∨ (x0 = 330 ∧ i0 = 30) ∨ (x0 = 330 ∧ i0 = 31) ∨ (x0 = 330 ∧ i0 = 32) ∨ (x0 = 330 ∧ i0 = 33)) → M4 x0 i0 = M_99 x0 i0) (mr4_331 : M4 331 = wv1) (iv4_0 : 0 ≤ x2 ∧ x2 ≤ w 2600) (iv4_1 : f_loop (f_dlS Ls w r hand) x2 (w 2600) (wv1, n) = f_dl Ls w r hand) (iv4_2 : f_jv Ls wv1 ∧ f_ag w wv1) (iv4_3 : wv1 0 + f_loop (f_rsS w) x2 (w 2600) 0 ≤ 9999) (iv4_4 : 0 ≤ n ∧ n ≤ x2), ax_W E l (d + 1) 0 0 iX12_drill 108 [some (.inr 330), some (.inl r), some (.inl hand), some (.inl s), some (.inl n), some (.inl x2)] [] SH M4 (ax_P (fun z0 M2 => z0 = some (.inl ((f_dl Ls w r hand).2)) ∧ (∀ x0 i0 : Int, ¬ (x0 = 331 ∨ x0 = 333 ∨ (x0 = 330 ∧ i0 = 4) ∨ x0 = 340 ∨ x0 = 341 ∨ x0 = 342 ∨ x0 = 343 ∨ (x0 = 330 ∧ i0 = 30) ∨ (x0 = 330 ∧ i0 = 31) ∨ (x0 = 330 ∧ i0 = 32) ∨ (x0 = 330 ∧ i0 = 33)) → M2 x0 i0 = M x0 i0) ∧ M2 331 = (f_dl Ls w r hand).1 ∧ M2 333 = f_keep b w m ∧ M2 330 4 = f_keepN m)) := by
                intro kq5
                induction kq5 with
                | zero =>
                  intro x2 n wv1 M4 hm4 fr4 mr4_331 iv4_0 iv4_1 iv4_2 iv4_3 iv4_4
                  exfalso
                  omega
                | succ kq5 ih6 =>
                  intro x2 n wv1 M4 hm4 fr4 mr4_331 iv4_0 iv4_1 iv4_2 iv4_3 iv4_4
                  have qb1 := iv4_2.1
                  have qb2 := iv4_2.2
                  refine ax_iload dX12_drill_108 rfl (pc' := 110) rfl ?_
                  refine ax_aload_n dX12_drill_110 rfl rfl (pc' := 111) rfl ?_
                  refine ax_getr (v := 331) dX12_drill_111 flX12_7 rfl sh_330 rfl (pc' := 114) rfl ?_
                  refine ax_sipush dX12_drill_114 (by decide) (pc' := 117) rfl ?_
                  refine ax_iald (v := wv1 2600) dX12_drill_117 sh_331 rfl (by omega) (by omega) ((congrFun mr4_331 2600).trans rfl) (pc' := 118) rfl ?_
                  refine ax_reS (st2 := [.inl (w 2600), .inl x2]) (congrArg (fun z => Sum.inl z :: _) (by exact qb2 2600 (by omega) (by omega))) ?_
                  refine ax_icmp_ge (tgt := 197) dX12_drill_118 (by decide) (pc' := 121) rfl (fun h118 => ?_) (fun h118 => ?_)
                  · have qe2 : (wv1, n) = f_dl Ls w r hand := (f_loop_done (by omega)).symm.trans iv4_1
                    refine ax_iload dX12_drill_197 rfl (pc' := 199) rfl ?_
                    refine ax_iret dX12_drill_199 rfl ?_
                    refine ⟨rfl, ?_, ?_, ?_, ?_, ?_⟩
                    · refine congrArg (fun z => some (Sum.inl z)) ?_
                      rw [← qe2]
                    · intro x0 i0 hai
                      exact ((fr4 x0 i0 (by omega)).trans ((frM_99 x0 i0 (by omega)).trans rfl))
                    · refine Eq.trans mr4_331 ?_
                      rw [← qe2]
                    · exact ((funext fun i0 => fr4 333 i0 (by omega)).trans mrM_99_0)
                    · exact ((fr4 330 4 (by omega)).trans msM_99_0)
                  · have qd3 := qd2 x2 (by omega) (by omega)
                    have qg1 := f_rs_step (w := w) (N := w 2600) (x := x2) (by omega)
                    have qg2 := f_rs_pos hg2 (w 2600 - (x2 + 1)).toNat (x2 + 1) (by omega) (by omega)
                    have qg3 : 0 ≤ (if w (3984 + 3 * x2) = 14 then w (3984 + 3 * x2 + 1) else 0) := by
                      split
                      · exact (qd3.2.2.2 (by assumption)).1
                      · omega
                    refine ax_iload dX12_drill_121 rfl (pc' := 123) rfl ?_
                    refine ax_aload_n dX12_drill_123 rfl rfl (pc' := 124) rfl ?_
                    refine ax_iload_n dX12_drill_124 rfl rfl (pc' := 125) rfl ?_
                    refine ax_invG [.inl r] [.inl n] dX12_drill_125 mlX12_82 sh_330 rfl rfl rfl (Nat.le_of_ble_eq_true rfl) (s_X12_isRope E l _ (by omega) _ r mr4_331) (pc' := 128) rfl (fun vv M_125 hq co125 hcm125 => ?_)
                    obtain ⟨rfl, rfl⟩ := hq
                    refine ax_reS (st2 := [.inl (f_b (f_isR wv1 r)), .inl n]) rfl ?_
                    refine ax_if_eq (tgt := 187) dX12_drill_128 (by decide) (pc' := 131) rfl (fun h128 => ?_) (fun h128 => ?_)
                    · replace h128 := f_b_0 h128
                      have qs : f_dlS Ls w r hand x2 (wv1, n) = (wv1, n + 0) := by
                        rw [show n + 0 = n by omega]
                        exact if_neg h128
                      refine ax_iconst dX12_drill_187 (by decide) (pc' := 188) rfl ?_
                      refine ax_iadd dX12_drill_188 (by omega) (pc' := 189) rfl ?_
                      refine ax_istore dX12_drill_189 (by decide) (ls' := [some (.inr 330), some (.inl r), some (.inl hand), some (.inl s), some (.inl (n + 0)), some (.inl x2)]) rfl (pc' := 191) rfl ?_
                      refine ax_iinc dX12_drill_191 rfl (by decide) (by omega) (ls' := [some (.inr 330), some (.inl r), some (.inl hand), some (.inl s), some (.inl (n + 0)), some (.inl (x2 + 1))]) rfl (pc' := 194) rfl ?_
                      refine ax_goto dX12_drill_194 (pc' := 108) (by decide) ?_
                      refine ih6 (x2 + 1) (n + 0) wv1 M4 ?_ ?_ ?_ ?_ ?_ ?_ ?_ ?_
                      · omega
                      · intro x0 i0 hai
                        exact ((fr4 x0 i0 (by omega)).trans rfl)
                      · exact mr4_331
                      · omega
                      · exact f_loop_back (by omega) iv4_1 qs
                      · first
                          | exact iv4_2
                          | exact ⟨qf.1, fun i u v => (qf.2.1 i u v).trans (qb2 i u v)⟩
                      · first
                          | omega
                          | (rw [qf.2.2]; omega)
                      · omega
                    · replace h128 := f_b_1 h128
                      have qh : f_dnH wv1 (w (3984 + 3 * x2)) (w (3984 + 3 * x2 + 1)) := by
                        refine ⟨qd3.1, qd3.2.1, qd3.2.2.1, fun hk => ?_⟩
                        have qq := qd3.2.2.2 hk
                        rw [if_pos hk] at qg1
                        omega
                      have qf := f_dnW_ok (hand := hand) (y := w (3984 + 3 * x2 + 2)) h128 qh qb1
                      refine ax_aload_n dX12_drill_131 rfl rfl (pc' := 132) rfl ?_
                      refine ax_iload_n dX12_drill_132 rfl rfl (pc' := 133) rfl ?_
                      refine ax_iload_n dX12_drill_133 rfl rfl (pc' := 134) rfl ?_
                      refine ax_aload_n dX12_drill_134 rfl rfl (pc' := 135) rfl ?_
                      refine ax_getr (v := 331) dX12_drill_135 flX12_7 rfl sh_330 rfl (pc' := 138) rfl ?_
                      refine ax_sipush dX12_drill_138 (by decide) (pc' := 141) rfl ?_
                      refine ax_iconst dX12_drill_141 (by decide) (pc' := 142) rfl ?_
                      refine ax_iload dX12_drill_142 rfl (pc' := 144) rfl ?_
                      refine ax_imul dX12_drill_144 (by omega) (pc' := 145) rfl ?_
                      refine ax_iadd dX12_drill_145 (by omega) (pc' := 146) rfl ?_
                      refine ax_iald (v := wv1 (3984 + (3 * x2))) dX12_drill_146 sh_331 rfl (by omega) (by omega) ((congrFun mr4_331 (3984 + (3 * x2))).trans rfl) (pc' := 147) rfl ?_
                      refine ax_reS (st2 := [.inl (w (3984 + 3 * x2)), .inl hand, .inl r, .inr 330, .inl n]) (congrArg (fun z => Sum.inl z :: _) (by exact qb2 _ (by omega) (by omega))) ?_
                      refine ax_aload_n dX12_drill_147 rfl rfl (pc' := 148) rfl ?_
                      refine ax_getr (v := 331) dX12_drill_148 flX12_7 rfl sh_330 rfl (pc' := 151) rfl ?_
                      refine ax_sipush dX12_drill_151 (by decide) (pc' := 154) rfl ?_
                      refine ax_iconst dX12_drill_154 (by decide) (pc' := 155) rfl ?_
                      refine ax_iload dX12_drill_155 rfl (pc' := 157) rfl ?_
                      refine ax_imul dX12_drill_157 (by omega) (pc' := 158) rfl ?_
                      refine ax_iadd dX12_drill_158 (by omega) (pc' := 159) rfl ?_
                      refine ax_iconst dX12_drill_159 (by decide) (pc' := 160) rfl ?_
                      refine ax_iadd dX12_drill_160 (by omega) (pc' := 161) rfl ?_
                      refine ax_iald (v := wv1 (3984 + (3 * x2) + 1)) dX12_drill_161 sh_331 rfl (by omega) (by omega) ((congrFun mr4_331 (3984 + (3 * x2) + 1)).trans rfl) (pc' := 162) rfl ?_
                      refine ax_reS (st2 := [.inl (w (3984 + 3 * x2 + 1)), .inl (w (3984 + 3 * x2)), .inl hand, .inl r, .inr 330, .inl n]) (congrArg (fun z => Sum.inl z :: _) (by exact qb2 _ (by omega) (by omega))) ?_
                      refine ax_aload_n dX12_drill_162 rfl rfl (pc' := 163) rfl ?_
                      refine ax_getr (v := 331) dX12_drill_163 flX12_7 rfl sh_330 rfl (pc' := 166) rfl ?_
                      refine ax_sipush dX12_drill_166 (by decide) (pc' := 169) rfl ?_
                      refine ax_iconst dX12_drill_169 (by decide) (pc' := 170) rfl ?_
                      refine ax_iload dX12_drill_170 rfl (pc' := 172) rfl ?_
                      refine ax_imul dX12_drill_172 (by omega) (pc' := 173) rfl ?_
                      refine ax_iadd dX12_drill_173 (by omega) (pc' := 174) rfl ?_
                      refine ax_iconst dX12_drill_174 (by decide) (pc' := 175) rfl ?_
                      refine ax_iadd dX12_drill_175 (by omega) (pc' := 176) rfl ?_
                      refine ax_iald (v := wv1 (3984 + (3 * x2) + 2)) dX12_drill_176 sh_331 rfl (by omega) (by omega) ((congrFun mr4_331 (3984 + (3 * x2) + 2)).trans rfl) (pc' := 177) rfl ?_
                      refine ax_reS (st2 := [.inl (w (3984 + 3 * x2 + 2)), .inl (w (3984 + 3 * x2 + 1)), .inl (w (3984 + 3 * x2)), .inl hand, .inl r, .inr 330, .inl n]) (congrArg (fun z => Sum.inl z :: _) (by exact qb2 _ (by omega) (by omega))) ?_
                      refine ax_invG [.inl r, .inl hand, .inl (w (3984 + 3 * x2)), .inl (w (3984 + 3 * x2 + 1)), .inl (w (3984 + 3 * x2 + 2))] [.inl n] dX12_drill_177 mlX12_451 sh_330 rfl rfl rfl (Nat.le_of_ble_eq_true rfl) (s_X12_isDone E l _ (by omega) _ r hand (w (3984 + 3 * x2)) (w (3984 + 3 * x2 + 1)) (w (3984 + 3 * x2 + 2)) Ls mr4_331 rfl rfl rfl rfl (by first | omega | assumption) (by first | omega | assumption) (by first | omega | assumption)) (pc' := 180) rfl (fun vv M_177 hq co177 hcm177 => ?_)
                      obtain ⟨rfl, frM_177, mrM_177_0⟩ := hq
                      refine ax_reS (st2 := [.inl (f_b (f_dnP wv1 r (w (3984 + 3 * x2)) (w (3984 + 3 * x2 + 1)) (w (3984 + 3 * x2 + 2)))), .inl n]) rfl ?_
                      refine ax_if_eq (tgt := 187) dX12_drill_180 (by decide) (pc' := 183) rfl (fun h180 => ?_) (fun h180 => ?_)
                      · replace h180 := f_b_0 h180
                        have qs : f_dlS Ls w r hand x2 (wv1, n) = (f_dnW Ls wv1 r hand (w (3984 + 3 * x2)) (w (3984 + 3 * x2 + 1)) (w (3984 + 3 * x2 + 2)), n + 0) := by
                          unfold f_dlS
                          rw [if_pos h128]
                          show (_, n + f_b _) = _
                          rw [f_b_f h180]
                        refine ax_iconst dX12_drill_187 (by decide) (pc' := 188) rfl ?_
                        refine ax_iadd dX12_drill_188 (by omega) (pc' := 189) rfl ?_
                        refine ax_istore dX12_drill_189 (by decide) (ls' := [some (.inr 330), some (.inl r), some (.inl hand), some (.inl s), some (.inl (n + 0)), some (.inl x2)]) rfl (pc' := 191) rfl ?_
                        refine ax_iinc dX12_drill_191 rfl (by decide) (by omega) (ls' := [some (.inr 330), some (.inl r), some (.inl hand), some (.inl s), some (.inl (n + 0)), some (.inl (x2 + 1))]) rfl (pc' := 194) rfl ?_
                        refine ax_goto dX12_drill_194 (pc' := 108) (by decide) ?_
                        refine ih6 (x2 + 1) (n + 0) (f_dnW Ls wv1 r hand (w (3984 + 3 * x2)) (w (3984 + 3 * x2 + 1)) (w (3984 + 3 * x2 + 2))) M_177 ?_ ?_ ?_ ?_ ?_ ?_ ?_ ?_
                        · omega
                        · intro x0 i0 hai
                          exact ((frM_177 x0 i0 (by omega)).trans ((fr4 x0 i0 (by omega)).trans rfl))
                        · exact mrM_177_0
                        · omega
                        · exact f_loop_back (by omega) iv4_1 qs
                        · first
                            | exact iv4_2
                            | exact ⟨qf.1, fun i u v => (qf.2.1 i u v).trans (qb2 i u v)⟩
                        · first
                            | omega
                            | (rw [qf.2.2]; omega)
                        · omega
                      · replace h180 := f_b_1 h180
                        have qs : f_dlS Ls w r hand x2 (wv1, n) = (f_dnW Ls wv1 r hand (w (3984 + 3 * x2)) (w (3984 + 3 * x2 + 1)) (w (3984 + 3 * x2 + 2)), n + 1) := by
                          unfold f_dlS
                          rw [if_pos h128]
                          show (_, n + f_b _) = _
                          rw [f_b_t h180]
                        refine ax_iconst dX12_drill_183 (by decide) (pc' := 184) rfl ?_
                        refine ax_goto dX12_drill_184 (pc' := 188) (by decide) ?_
                        refine ax_iadd dX12_drill_188 (by omega) (pc' := 189) rfl ?_
                        refine ax_istore dX12_drill_189 (by decide) (ls' := [some (.inr 330), some (.inl r), some (.inl hand), some (.inl s), some (.inl (n + 1)), some (.inl x2)]) rfl (pc' := 191) rfl ?_
                        refine ax_iinc dX12_drill_191 rfl (by decide) (by omega) (ls' := [some (.inr 330), some (.inl r), some (.inl hand), some (.inl s), some (.inl (n + 1)), some (.inl (x2 + 1))]) rfl (pc' := 194) rfl ?_
                        refine ax_goto dX12_drill_194 (pc' := 108) (by decide) ?_
                        refine ih6 (x2 + 1) (n + 1) (f_dnW Ls wv1 r hand (w (3984 + 3 * x2)) (w (3984 + 3 * x2 + 1)) (w (3984 + 3 * x2 + 2))) M_177 ?_ ?_ ?_ ?_ ?_ ?_ ?_ ?_
                        · omega
                        · intro x0 i0 hai
                          exact ((frM_177 x0 i0 (by omega)).trans ((fr4 x0 i0 (by omega)).trans rfl))
                        · exact mrM_177_0
                        · omega
                        · exact f_loop_back (by omega) iv4_1 qs
                        · first
                            | exact iv4_2
                            | exact ⟨qf.1, fun i u v => (qf.2.1 i u v).trans (qb2 i u v)⟩
                        · first
                            | omega
                            | (rw [qf.2.2]; omega)
                        · omega
              refine LP4 (w 2600 - 0 : Int).toNat.succ 0 0 w M_99 ?_ ?_ ?_ ?_ ?_ ?_ ?_ ?_
              · omega
              · exact fun a i _ => rfl
              · exact ((funext fun i0 => frM_99 331 i0 (by omega)).trans hw)
              · omega
              · rfl
              · exact ⟨hg0, fun _ _ _ => rfl⟩
              · exact hg3.2.2
              · omega
            · exfalso
              omega
      · have qd3 := qd2 x (by omega) (by omega)
        refine ax_iload_n dX12_drill_18 rfl rfl (pc' := 19) rfl ?_
        refine ax_aload_n dX12_drill_19 rfl rfl (pc' := 20) rfl ?_
        refine ax_getr (v := 331) dX12_drill_20 flX12_7 rfl sh_330 rfl (pc' := 23) rfl ?_
        refine ax_sipush dX12_drill_23 (by decide) (pc' := 26) rfl ?_
        refine ax_iconst dX12_drill_26 (by decide) (pc' := 27) rfl ?_
        refine ax_iload dX12_drill_27 rfl (pc' := 29) rfl ?_
        refine ax_imul dX12_drill_29 (by omega) (pc' := 30) rfl ?_
        refine ax_iadd dX12_drill_30 (by omega) (pc' := 31) rfl ?_
        refine ax_iald (v := w (3984 + (3 * x))) dX12_drill_31 sh_331 rfl (by omega) (by omega) ((congrFun hw (3984 + (3 * x))).trans rfl) (pc' := 32) rfl ?_
        refine ax_bipush dX12_drill_32 (by decide) (pc' := 34) rfl ?_
        refine ax_icmp_ne (tgt := 55) dX12_drill_34 (by decide) (pc' := 37) rfl (fun h34 => ?_) (fun h34 => ?_)
        · refine ax_iconst dX12_drill_55 (by decide) (pc' := 56) rfl ?_
          refine ax_iadd dX12_drill_56 (by omega) (pc' := 57) rfl ?_
          refine ax_istore_n dX12_drill_57 rfl (by decide) (ls' := [some (.inr 330), some (.inl r), some (.inl hand), some (.inl (s + 0)), some (.inl x), none]) rfl (pc' := 58) rfl ?_
          refine ax_iinc dX12_drill_58 rfl (by decide) (by omega) (ls' := [some (.inr 330), some (.inl r), some (.inl hand), some (.inl (s + 0)), some (.inl (x + 1)), none]) rfl (pc' := 61) rfl ?_
          refine ax_goto dX12_drill_61 (pc' := 5) (by decide) ?_
          refine ih3 (x + 1) (s + 0) ?_ ?_ ?_ ?_
          · omega
          · omega
          · refine f_loop_back (by omega) iv1_1 ?_
            unfold f_rsS
            first | rw [if_pos h34] | rw [if_neg h34]
          · omega
        · have qd4 := qd3.2.2.2 h34
          refine ax_aload_n dX12_drill_37 rfl rfl (pc' := 38) rfl ?_
          refine ax_getr (v := 331) dX12_drill_38 flX12_7 rfl sh_330 rfl (pc' := 41) rfl ?_
          refine ax_sipush dX12_drill_41 (by decide) (pc' := 44) rfl ?_
          refine ax_iconst dX12_drill_44 (by decide) (pc' := 45) rfl ?_
          refine ax_iload dX12_drill_45 rfl (pc' := 47) rfl ?_
          refine ax_imul dX12_drill_47 (by omega) (pc' := 48) rfl ?_
          refine ax_iadd dX12_drill_48 (by omega) (pc' := 49) rfl ?_
          refine ax_iconst dX12_drill_49 (by decide) (pc' := 50) rfl ?_
          refine ax_iadd dX12_drill_50 (by omega) (pc' := 51) rfl ?_
          refine ax_iald (v := w (3984 + (3 * x) + 1)) dX12_drill_51 sh_331 rfl (by omega) (by omega) ((congrFun hw (3984 + (3 * x) + 1)).trans rfl) (pc' := 52) rfl ?_
          refine ax_goto dX12_drill_52 (pc' := 56) (by decide) ?_
          refine ax_iadd dX12_drill_56 (by omega) (pc' := 57) rfl ?_
          refine ax_istore_n dX12_drill_57 rfl (by decide) (ls' := [some (.inr 330), some (.inl r), some (.inl hand), some (.inl (s + (w (3984 + (3 * x) + 1)))), some (.inl x), none]) rfl (pc' := 58) rfl ?_
          refine ax_iinc dX12_drill_58 rfl (by decide) (by omega) (ls' := [some (.inr 330), some (.inl r), some (.inl hand), some (.inl (s + (w (3984 + (3 * x) + 1)))), some (.inl (x + 1)), none]) rfl (pc' := 61) rfl ?_
          refine ax_goto dX12_drill_61 (pc' := 5) (by decide) ?_
          refine ih3 (x + 1) (s + (w (3984 + (3 * x) + 1))) ?_ ?_ ?_ ?_
          · omega
          · omega
          · refine f_loop_back (by omega) iv1_1 ?_
            unfold f_rsS
            first | rw [if_pos h34] | rw [if_neg h34]
          · omega
  refine LP1 (w 2600 - 0 : Int).toNat.succ 0 0 ?_ ?_ ?_ ?_
  · omega
  · omega
  · rfl
  · omega
