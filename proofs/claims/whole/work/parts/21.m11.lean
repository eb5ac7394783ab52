/-! what is only thought of -/
theorem f_iv_1 {w : Int → Int} (hw : f_iv w) : f_iv (f_up w 1 200) := by
  have e : ∀ i, i ≠ 1 → f_up w 1 200 i = w i := fun i h => by unfold f_up; rw [if_neg h]
  refine ⟨f_ok_of (fun i _ _ => e i (by omega)) hw.1, f_rg_of (fun i _ _ => e i (by omega)) hw.2.1, ?_, ?_, fun k a b => ?_⟩
  · rw [e 0 (by omega)]
    exact hw.2.2.1
  · rw [f_up_same]
    omega
  · rw [e _ (by omega)]
    exact hw.2.2.2.2 k a b
theorem f_ag_1 {w : Int → Int} : f_ag w (f_up w 1 200) := fun i a _ => by unfold f_up; rw [if_neg (by omega)]
theorem f_R_1 {w : Int → Int} {r f v : Int} (h : 0 ≤ r ∧ r < 8 ∧ 0 ≤ f ∧ f < 8) : f_R (f_up w 1 v) r f = f_R w r f := by
  unfold f_R f_up
  rw [if_neg (by omega)]
theorem f_out_more {w : Int → Int} {r p k v : Int} (h : 0 ≤ r ∧ r < 8 ∧ 0 ≤ p ∧ p < 24 ∧ 0 ≤ k ∧ k < 6) : f_out w (f_more w r p k v) := fun _ hi => f_hab_out h hi
theorem f_out_stW {w : Int → Int} {r p k : Int} (hr : 0 ≤ r ∧ r < 8) (hp : 0 ≤ p ∧ p < 24) (hk : 0 ≤ k ∧ k < 6) (h1 : w 1 = 200) : f_out w (f_stW w r p k) := by
  have a : f_out w (f_sP w r p 0 k) := fun _ hi => f_sP_out ⟨hr.1, hr.2, hp.1, hp.2, by omega, by omega⟩ hi
  have b := f_out_trans a (f_out_more (v := 1) ⟨hr.1, hr.2, hp.1, hp.2, hk.1, hk.2⟩)
  unfold f_stW f_note
  rw [if_pos ((b 1 (by omega)).trans h1)]
  exact b
theorem f_out_fold {Ls : Int → List f_Ln} {w0 : Int → Int} {r f : Int} (hr : 0 ≤ r ∧ r < 8) : ∀ (L : List Int) (s : f_St), (∀ q ∈ L, (0 ≤ q ∧ q < 24) ∧ f_cl w0 r q ≠ -1) → s.1 1 = 200 → f_out s.1 (L.foldl (f_stS Ls w0 r f) s).1 := by
  intro L
  induction L with
  | nil => exact fun s _ _ => f_out_refl
  | cons x xs ih =>
    intro s hl h
    have hq := hl x List.mem_cons_self
    have hc := f_cl_rg (w := w0) (r := r) (p := x)
    have hs : f_out s.1 (f_stS Ls w0 r f s x).1 := by
      unfold f_stS
      split
      · exact f_out_stW hr hq.1 (by omega) h
      · exact f_out_refl
    exact f_out_trans hs (ih (f_stS Ls w0 r f s x) (fun y hy => hl y (List.mem_cons_of_mem _ hy)) ((hs 1 (by omega)).trans h))
theorem f_out_stch {Ls : Int → List f_Ln} {w : Int → Int} {r f : Int} (hr : 0 ≤ r ∧ r < 8) (hw : f_iv w) (h1 : w 1 = 200) : f_out w (f_stch Ls w r f).1 := by
  have h := hw.1 r hr.1 hr.2
  refine f_out_fold (f := f) (Ls := Ls) (w0 := w) hr (f_lrow w r).reverse (w, 0, -1, -1) (fun q hq => ?_) h1
  have e := f_lrow_ok h.2.1 q (List.mem_reverse.mp hq)
  exact ⟨⟨e.1, by omega⟩, e.2.2⟩
theorem f_back {w w' ly : Int → Int} (h : f_out (f_up w 1 200) w') : f_cp (f_cp w 0 ly 0 2564) 0 w' 0 2564 = w := by
  funext i
  unfold f_cp
  by_cases hi : 0 ≤ i ∧ i < 0 + 2564
  · rw [if_pos hi, if_pos (by omega)]
    congr 1
    omega
  · rw [if_neg hi, h i (by omega)]
    unfold f_up
    rw [if_neg (by omega)]
abbrev f_thk (Ls : Int → List f_Ln) (w : Int → Int) (r f : Int) : f_St := f_stch Ls (f_up w 1 200) r f
def F_would (Ls : Int → List f_Ln) (w : Int → Int) (r f what : Int) : Int := if ¬ (f_isR w r ∧ (0 ≤ f ∧ f ≤ 99) ∧ 0 ≤ what ∧ what ≤ 3) then -2 else if what = 0 then (f_thk Ls w r f).2.1 else if what = 1 then (f_thk Ls w r f).2.2.1 else if what = 2 then (f_thk Ls w r f).2.2.2 else f_brk Ls (f_thk Ls w r f).1 r f
abbrev f_lsC (Ls : Int → List f_Ln) (w : Int → Int) (r what f : Int) : Prop := what = 0 ∧ 0 < (f_thk Ls w r f).2.1 ∨ what ≠ 0 ∧ f_brk Ls (f_thk Ls w r f).1 r f ≠ -1
def F_least (Ls : Int → List f_Ln) (w : Int → Int) (r what : Int) : Int := if ¬ (f_isR w r ∧ 0 ≤ what ∧ what ≤ 1) then -1 else f_first (f_lsC Ls w r what) 0 100
def f_trn (w : Int → Int) (r p k n : Int) : Int → Int := f_loop (fun _ x => f_more x r p k (x (2564 + k))) 0 n (f_up w 1 200)
abbrev f_trC (Ls : Int → List f_Ln) (w : Int → Int) (r p k f n : Int) : Prop := (f_stch Ls (f_trn w r p k n) r f).2.2.1 = p ∧ (f_stch Ls (f_trn w r p k n) r f).2.2.2 = k
def F_train (Ls : Int → List f_Ln) (w : Int → Int) (r p k f : Int) : Int := if ¬ ((f_isP w r p ∧ f_P w r p 0 = -1 ∧ 0 ≤ k ∧ k ≤ 5) ∧ 0 ≤ f ∧ f ≤ 99) then -1 else f_first (f_trC Ls w r p k f) 0 31
theorem f_trn_ok {w x : Int → Int} {r p k : Int} (hr : 0 ≤ r ∧ r < 8) (hp : 0 ≤ p ∧ p < 24) (hk : 0 ≤ k ∧ k < 6) (h : f_iv x ∧ f_out w x) : f_iv (f_more x r p k (x (2564 + k))) ∧ f_out w (f_more x r p k (x (2564 + k))) := by
  have e := h.1.2.2.2.2 k hk.1 hk.2
  exact ⟨f_iv_more hr hp hk (by omega) h.1, f_out_trans h.2 (f_out_more ⟨hr.1, hr.2, hp.1, hp.2, hk.1, hk.2⟩)⟩
set_option maxRecDepth 20000 in
theorem s_X12_wouldBy (E : ax_Env) (l : Launch) (d : Nat) (hd : 6 ≤ d) (M : ax_Mem) (r f : Int) (Ls : Int → List f_Ln) {w : Int → Int} (hw : M 331 = w) {pl : Int → Int} (hpl : M 340 = pl) {F : Int → Int} (hF : M 341 = F) {rw0 : Int → Int} (hrw0 : M 342 = rw0) {cv0 : Int → Int} (hcv0 : M 343 = cv0) {ly : Int → Int} (hly : M 334 = ly) (hg0 : 0 ≤ r ∧ r < 8) (hg1 : f_iv w) (hg2 : f_lw Ls w) : ax_G E l d iX12_wouldBy [.inr 330, .inl r, .inl f] M (fun z0 M2 => z0 = none ∧ (∀ x0 i0 : Int, ¬ (x0 = 331 ∨ (x0 = 330 ∧ i0 = 30) ∨ (x0 = 330 ∧ i0 = 31) ∨ (x0 = 330 ∧ i0 = 32) ∨ (x0 = 330 ∧ i0 = 33) ∨ x0 = 340 ∨ x0 = 341 ∨ x0 = 342 ∨ x0 = 343 ∨ x0 = 334) → M2 x0 i0 = M x0 i0) ∧ M2 331 = w ∧ M2 330 30 = (f_stch Ls (f_up w 1 200) r f).2.1 ∧ M2 330 31 = (f_stch Ls (f_up w 1 200) r f).2.2.1 ∧ M2 330 32 = (f_stch Ls (f_up w 1 200) r f).2.2.2 ∧ M2 330 33 = f_brk Ls (f_stch Ls (f_up w 1 200) r f).1 r f) := by
  obtain ⟨d, rfl⟩ : ∃ d0, d = d0 + 1 := ⟨d - 1, by omega⟩
  refine ax_start rfl (Nat.le_of_ble_eq_true rfl) (ls := [some (.inr 330), some (.inl r), some (.inl f)]) rfl (fun hav hcm => ?_)
  have hc1 : -2147483648 ≤ r ∧ r < 2147483648 := hav (.inl r) (by simp)
  have hc2 : -2147483648 ≤ f ∧ f < 2147483648 := hav (.inl f) (by simp)
  clear hav
  have qa1 := f_iv_1 hg1
  have qa2 := f_lw_of f_ag_1 hg2
  have qa3 := f_out_stch (Ls := Ls) (f := f) hg0 qa1 (f_up_same _ _ _)
  refine ax_aload_n dX12_wouldBy_0 rfl rfl (pc' := 1) rfl ?_
  refine ax_invG [] [] dX12_wouldBy_1 mlX12_458 sh_330 rfl rfl rfl (Nat.le_of_ble_eq_true rfl) (s_X12_laysAside E l _ (by omega) _ hw hly) (pc' := 4) rfl (fun vv M_1 hq co1 hcm1 => ?_)
  obtain ⟨rfl, frM_1, mrM_1_0, mrM_1_1⟩ := hq
  refine ax_reS (st2 := []) rfl ?_
  refine ax_aload_n dX12_wouldBy_4 rfl rfl (pc' := 5) rfl ?_
  refine ax_iload_n dX12_wouldBy_5 rfl rfl (pc' := 6) rfl ?_
  refine ax_iload_n dX12_wouldBy_6 rfl rfl (pc' := 7) rfl ?_
  refine ax_invG [.inl r, .inl f] [] dX12_wouldBy_7 mlX12_429 sh_330 rfl rfl rfl (Nat.le_of_ble_eq_true rfl) (s_X12_stretches E l _ (by omega) _ r f Ls mrM_1_1 ((funext fun i0 => frM_1 340 i0 (by omega)).trans hpl) ((funext fun i0 => frM_1 341 i0 (by omega)).trans hF) ((funext fun i0 => frM_1 342 i0 (by omega)).trans hrw0) ((funext fun i0 => frM_1 343 i0 (by omega)).trans hcv0) (by first | omega | assumption) (by first | omega | assumption) (by first | omega | assumption)) (pc' := 10) rfl (fun vv M_7 hq co7 hcm7 => ?_)
  obtain ⟨rfl, frM_7, mrM_7_0, msM_7_0, msM_7_1, msM_7_2, msM_7_3⟩ := hq
  refine ax_reS (st2 := []) rfl ?_
  refine ax_aload_n dX12_wouldBy_10 rfl rfl (pc' := 11) rfl ?_
  refine ax_invG [] [] dX12_wouldBy_11 mlX12_461 sh_330 rfl rfl rfl (Nat.le_of_ble_eq_true rfl) (s_X12_putsBack E l _ (by omega) _ mrM_7_0 ((funext fun i0 => frM_7 334 i0 (by omega)).trans mrM_1_0)) (pc' := 14) rfl (fun vv M_11 hq co11 hcm11 => ?_)
  obtain ⟨rfl, frM_11, mrM_11_0⟩ := hq
  refine ax_reS (st2 := []) rfl ?_
  refine ax_vret dX12_wouldBy_14 rfl ?_
  refine ⟨rfl, rfl, ?_, ?_, ?_, ?_, ?_, ?_⟩
  · intro x0 i0 hai
    exact ((frM_11 x0 i0 (by omega)).trans ((frM_7 x0 i0 (by omega)).trans ((frM_1 x0 i0 (by omega)).trans rfl)))
  · refine Eq.trans mrM_11_0 ?_
    exact f_back qa3
  · exact ((frM_11 330 30 (by omega)).trans msM_7_0)
  · exact ((frM_11 330 31 (by omega)).trans msM_7_1)
  · exact ((frM_11 330 32 (by omega)).trans msM_7_2)
  · exact ((frM_11 330 33 (by omega)).trans msM_7_3)
set_option maxRecDepth 20000 in
theorem s_X12_would (E : ax_Env) (l : Launch) (d : Nat) (hd : 7 ≤ d) (M : ax_Mem) (r f what : Int) (Ls : Int → List f_Ln) {w : Int → Int} (hw : M 331 = w) {pl : Int → Int} (hpl : M 340 = pl) {F : Int → Int} (hF : M 341 = F) {rw0 : Int → Int} (hrw0 : M 342 = rw0) {cv0 : Int → Int} (hcv0 : M 343 = cv0) {ly : Int → Int} (hly : M 334 = ly) (hg0 : f_iv w) (hg1 : f_lw Ls w) : ax_G E l d iX12_would [.inr 330, .inl r, .inl f, .inl what] M (fun z0 M2 => z0 = some (.inl (F_would Ls w r f what)) ∧ (∀ x0 i0 : Int, ¬ (x0 = 331 ∨ x0 = 340 ∨ x0 = 341 ∨ x0 = 342 ∨ x0 = 343 ∨ x0 = 334 ∨ (x0 = 330 ∧ i0 = 30) ∨ (x0 = 330 ∧ i0 = 31) ∨ (x0 = 330 ∧ i0 = 32) ∨ (x0 = 330 ∧ i0 = 33)) → M2 x0 i0 = M x0 i0) ∧ M2 331 = w) := by
  obtain ⟨d, rfl⟩ : ∃ d0, d = d0 + 1 := ⟨d - 1, by omega⟩
  refine ax_start rfl (Nat.le_of_ble_eq_true rfl) (ls := [some (.inr 330), some (.inl r), some (.inl f), some (.inl what)]) rfl (fun hav hcm => ?_)
  have hc1 : -2147483648 ≤ r ∧ r < 2147483648 := hav (.inl r) (by simp)
  have hc2 : -2147483648 ≤ f ∧ f < 2147483648 := hav (.inl f) (by simp)
  have hc3 : -2147483648 ≤ what ∧ what < 2147483648 := hav (.inl what) (by simp)
  clear hav
  refine ax_aload_n dX12_would_0 rfl rfl (pc' := 1) rfl ?_
  refine ax_iload_n dX12_would_1 rfl rfl (pc' := 2) rfl ?_
  refine ax_invG [.inl r] [] dX12_would_2 mlX12_82 sh_330 rfl rfl rfl (Nat.le_of_ble_eq_true rfl) (s_X12_isRope E l _ (by omega) _ r hw) (pc' := 5) rfl (fun vv M_2 hq co2 hcm2 => ?_)
  obtain ⟨rfl, rfl⟩ := hq
  refine ax_reS (st2 := [.inl (f_b (f_isR w r))]) rfl ?_
  refine ax_if_eq (tgt := 27) dX12_would_5 (by decide) (pc' := 8) rfl (fun h5 => ?_) (fun h5 => ?_)
  · replace h5 := f_b_0 h5
    refine ax_bipush dX12_would_27 (by decide) (pc' := 29) rfl ?_
    refine ax_iret dX12_would_29 rfl ?_
    refine ⟨rfl, ?_, ?_, ?_⟩
    · refine congrArg (fun z => some (Sum.inl z)) ?_
      unfold F_would
      repeat' split
      all_goals first | rfl | omega | (exfalso; omega)
    · intro x0 i0 hai
      exact rfl
    · exact hw
  · replace h5 := f_b_1 h5
    refine ax_iload_n dX12_would_8 rfl rfl (pc' := 9) rfl ?_
    refine ax_iconst dX12_would_9 (by decide) (pc' := 10) rfl ?_
    refine ax_bipush dX12_would_10 (by decide) (pc' := 12) rfl ?_
    refine ax_insG [.inl f, .inl 0, .inl 99] [] dX12_would_12 mlX12_74 rfl rfl (Nat.le_of_ble_eq_true rfl) (s_X12_isIn E l _ (by omega) _ f 0 99) (pc' := 15) rfl (fun vv M_12 hq co12 hcm12 => ?_)
    obtain ⟨rfl, rfl⟩ := hq
    refine ax_reS (st2 := [.inl (f_b (0 ≤ f ∧ f ≤ 99))]) rfl ?_
    refine ax_if_eq (tgt := 27) dX12_would_15 (by decide) (pc' := 18) rfl (fun h15 => ?_) (fun h15 => ?_)
    · replace h15 := f_b_0 h15
      refine ax_bipush dX12_would_27 (by decide) (pc' := 29) rfl ?_
      refine ax_iret dX12_would_29 rfl ?_
      refine ⟨rfl, ?_, ?_, ?_⟩
      · refine congrArg (fun z => some (Sum.inl z)) ?_
        unfold F_would
        repeat' split
        all_goals first | rfl | omega | (exfalso; omega)
      · intro x0 i0 hai
        exact rfl
      · exact hw
    · replace h15 := f_b_1 h15
      refine ax_iload_n dX12_would_18 rfl rfl (pc' := 19) rfl ?_
      refine ax_iconst dX12_would_19 (by decide) (pc' := 20) rfl ?_
      refine ax_iconst dX12_would_20 (by decide) (pc' := 21) rfl ?_
      refine ax_insG [.inl what, .inl 0, .inl 3] [] dX12_would_21 mlX12_74 rfl rfl (Nat.le_of_ble_eq_true rfl) (s_X12_isIn E l _ (by omega) _ what 0 3) (pc' := 24) rfl (fun vv M_21 hq co21 hcm21 => ?_)
      obtain ⟨rfl, rfl⟩ := hq
      refine ax_reS (st2 := [.inl (f_b (0 ≤ what ∧ what ≤ 3))]) rfl ?_
      refine ax_if_ne (tgt := 30) dX12_would_24 (by decide) (pc' := 27) rfl (fun h24 => ?_) (fun h24 => ?_)
      · replace h24 := f_b_1 h24
        refine ax_aload_n dX12_would_30 rfl rfl (pc' := 31) rfl ?_
        refine ax_iload_n dX12_would_31 rfl rfl (pc' := 32) rfl ?_
        refine ax_iload_n dX12_would_32 rfl rfl (pc' := 33) rfl ?_
        refine ax_invG [.inl r, .inl f] [] dX12_would_33 mlX12_464 sh_330 rfl rfl rfl (Nat.le_of_ble_eq_true rfl) (s_X12_wouldBy E l _ (by omega) _ r f Ls hw hpl hF hrw0 hcv0 hly (by first | omega | assumption) (by first | omega | assumption) (by first | omega | assumption)) (pc' := 36) rfl (fun vv M_33 hq co33 hcm33 => ?_)
        obtain ⟨rfl, frM_33, mrM_33_0, msM_33_0, msM_33_1, msM_33_2, msM_33_3⟩ := hq
        refine ax_reS (st2 := []) rfl ?_
        refine ax_iload_n dX12_would_36 rfl rfl (pc' := 37) rfl ?_
        refine ax_if_ne (tgt := 47) dX12_would_37 (by decide) (pc' := 40) rfl (fun h37 => ?_) (fun h37 => ?_)
        · refine ax_iload_n dX12_would_47 rfl rfl (pc' := 48) rfl ?_
          refine ax_iconst dX12_would_48 (by decide) (pc' := 49) rfl ?_
          refine ax_icmp_ne (tgt := 59) dX12_would_49 (by decide) (pc' := 52) rfl (fun h49 => ?_) (fun h49 => ?_)
          · refine ax_iload_n dX12_would_59 rfl rfl (pc' := 60) rfl ?_
            refine ax_iconst dX12_would_60 (by decide) (pc' := 61) rfl ?_
            refine ax_icmp_ne (tgt := 71) dX12_would_61 (by decide) (pc' := 64) rfl (fun h61 => ?_) (fun h61 => ?_)
            · refine ax_aload_n dX12_would_71 rfl rfl (pc' := 72) rfl ?_
              refine ax_geti (v := f_brk Ls (f_stch Ls (f_up w 1 200) r f).1 r f) dX12_would_72 flX12_426 rfl sh_330 msM_33_3 rfl (pc' := 75) rfl ?_
              refine ax_iret dX12_would_75 rfl ?_
              refine ⟨rfl, ?_, ?_, ?_⟩
              · refine congrArg (fun z => some (Sum.inl z)) ?_
                unfold F_would
                repeat' split
                all_goals first | rfl | omega | (exfalso; omega)
              · intro x0 i0 hai
                exact ((frM_33 x0 i0 (by omega)).trans rfl)
              · exact mrM_33_0
            · refine ax_aload_n dX12_would_64 rfl rfl (pc' := 65) rfl ?_
              refine ax_geti (v := (f_stch Ls (f_up w 1 200) r f).2.2.2) dX12_would_65 flX12_417 rfl sh_330 msM_33_2 rfl (pc' := 68) rfl ?_
              refine ax_goto dX12_would_68 (pc' := 75) (by decide) ?_
              refine ax_iret dX12_would_75 rfl ?_
              refine ⟨rfl, ?_, ?_, ?_⟩
              · refine congrArg (fun z => some (Sum.inl z)) ?_
                unfold F_would
                repeat' split
                all_goals first | rfl | omega | (exfalso; omega)
              · intro x0 i0 hai
                exact ((frM_33 x0 i0 (by omega)).trans rfl)
              · exact mrM_33_0
          · refine ax_aload_n dX12_would_52 rfl rfl (pc' := 53) rfl ?_
            refine ax_geti (v := (f_stch Ls (f_up w 1 200) r f).2.2.1) dX12_would_53 flX12_414 rfl sh_330 msM_33_1 rfl (pc' := 56) rfl ?_
            refine ax_goto dX12_would_56 (pc' := 75) (by decide) ?_
            refine ax_iret dX12_would_75 rfl ?_
            refine ⟨rfl, ?_, ?_, ?_⟩
            · refine congrArg (fun z => some (Sum.inl z)) ?_
              unfold F_would
              repeat' split
              all_goals first | rfl | omega | (exfalso; omega)
            · intro x0 i0 hai
              exact ((frM_33 x0 i0 (by omega)).trans rfl)
            · exact mrM_33_0
        · refine ax_aload_n dX12_would_40 rfl rfl (pc' := 41) rfl ?_
          refine ax_geti (v := (f_stch Ls (f_up w 1 200) r f).2.1) dX12_would_41 flX12_411 rfl sh_330 msM_33_0 rfl (pc' := 44) rfl ?_
          refine ax_goto dX12_would_44 (pc' := 75) (by decide) ?_
          refine ax_iret dX12_would_75 rfl ?_
          refine ⟨rfl, ?_, ?_, ?_⟩
          · refine congrArg (fun z => some (Sum.inl z)) ?_
            unfold F_would
            repeat' split
            all_goals first | rfl | omega | (exfalso; omega)
          · intro x0 i0 hai
            exact ((frM_33 x0 i0 (by omega)).trans rfl)
          · exact mrM_33_0
      · replace h24 := f_b_0 h24
        refine ax_bipush dX12_would_27 (by decide) (pc' := 29) rfl ?_
        refine ax_iret dX12_would_29 rfl ?_
        refine ⟨rfl, ?_, ?_, ?_⟩
        · refine congrArg (fun z => some (Sum.inl z)) ?_
          unfold F_would
          repeat' split
          all_goals first | rfl | omega | (exfalso; omega)
        · intro x0 i0 hai
          exact rfl
        · exact hw
set_option maxRecDepth 20000 in
theorem s_X12_least (E : ax_Env) (l : Launch) (d : Nat) (hd : 7 ≤ d) (M : ax_Mem) (r what : Int) (Ls : Int → List f_Ln) {w : Int → Int} (hw : M 331 = w) {pl : Int → Int} (hpl : M 340 = pl) {F : Int → Int} (hF : M 341 = F) {rw0 : Int → Int} (hrw0 : M 342 = rw0) {cv0 : Int → Int} (hcv0 : M 343 = cv0) {ly : Int → Int} (hly : M 334 = ly) (hg0 : f_iv w) (hg1 : f_lw Ls w) : ax_G E l d iX12_least [.inr 330, .inl r, .inl what] M (fun z0 M2 => z0 = some (.inl (F_least Ls w r what)) ∧ (∀ x0 i0 : Int, ¬ (x0 = 331 ∨ x0 = 340 ∨ x0 = 341 ∨ x0 = 342 ∨ x0 = 343 ∨ x0 = 334 ∨ (x0 = 330 ∧ i0 = 30) ∨ (x0 = 330 ∧ i0 = 31) ∨ (x0 = 330 ∧ i0 = 32) ∨ (x0 = 330 ∧ i0 = 33)) → M2 x0 i0 = M x0 i0) ∧ M2 331 = w) := by
  obtain ⟨d, rfl⟩ : ∃ d0, d = d0 + 1 := ⟨d - 1, by omega⟩
  refine ax_start rfl (Nat.le_of_ble_eq_true rfl) (ls := [some (.inr 330), some (.inl r), some (.inl what), none]) rfl (fun hav hcm => ?_)
  have hc1 : -2147483648 ≤ r ∧ r < 2147483648 := hav (.inl r) (by simp)
  have hc2 : -2147483648 ≤ what ∧ what < 2147483648 := hav (.inl what) (by simp)
  clear hav
  refine ax_aload_n dX12_least_0 rfl rfl (pc' := 1) rfl ?_
  refine ax_iload_n dX12_least_1 rfl rfl (pc' := 2) rfl ?_
  refine ax_invG [.inl r] [] dX12_least_2 mlX12_82 sh_330 rfl rfl rfl (Nat.le_of_ble_eq_true rfl) (s_X12_isRope E l _ (by omega) _ r hw) (pc' := 5) rfl (fun vv M_2 hq co2 hcm2 => ?_)
  obtain ⟨rfl, rfl⟩ := hq
  refine ax_reS (st2 := [.inl (f_b (f_isR w r))]) rfl ?_
  refine ax_if_eq (tgt := 17) dX12_least_5 (by decide) (pc' := 8) rfl (fun h5 => ?_) (fun h5 => ?_)
  · replace h5 := f_b_0 h5
    refine ax_iconst dX12_least_17 (by decide) (pc' := 18) rfl ?_
    refine ax_iret dX12_least_18 rfl ?_
    refine ⟨rfl, ?_, ?_, ?_⟩
    · refine congrArg (fun z => some (Sum.inl z)) ?_
      exact (if_pos (by omega)).symm
    · intro x0 i0 hai
      exact rfl
    · exact hw
  · replace h5 := f_b_1 h5
    refine ax_iload_n dX12_least_8 rfl rfl (pc' := 9) rfl ?_
    refine ax_iconst dX12_least_9 (by decide) (pc' := 10) rfl ?_
    refine ax_iconst dX12_least_10 (by decide) (pc' := 11) rfl ?_
    refine ax_insG [.inl what, .inl 0, .inl 1] [] dX12_least_11 mlX12_74 rfl rfl (Nat.le_of_ble_eq_true rfl) (s_X12_isIn E l _ (by omega) _ what 0 1) (pc' := 14) rfl (fun vv M_11 hq co11 hcm11 => ?_)
    obtain ⟨rfl, rfl⟩ := hq
    refine ax_reS (st2 := [.inl (f_b (0 ≤ what ∧ what ≤ 1))]) rfl ?_
    refine ax_if_ne (tgt := 19) dX12_least_14 (by decide) (pc' := 17) rfl (fun h14 => ?_) (fun h14 => ?_)
    · replace h14 := f_b_1 h14
      refine ax_iconst dX12_least_19 (by decide) (pc' := 20) rfl ?_
      refine ax_istore_n dX12_least_20 rfl (by decide) (ls' := [some (.inr 330), some (.inl r), some (.inl what), some (.inl 0)]) rfl (pc' := 21) rfl ?_
      have LP1 : ∀ (kq2 : Nat) (f : Int) (M1 : ax_Mem) (hm1 : 100 - f < (kq2 : Nat)) (fr1 : ∀ x0 i0 : Int, ¬ (x0 = 331 ∨ x0 = 340 ∨ x0 = 341 ∨ x0 = 342 ∨ x0 = 343 ∨ x0 = 334 ∨ (x0 = 330 ∧ i0 = 30) ∨ (x0 = 330 ∧ i0 = 31) ∨ (x0 = 330 ∧ i0 = 32) ∨ (x0 = 330 ∧ i0 = 33)) → M1 x0 i0 = M x0 i0) (mr1_331 : M1 331 = w) (iv1_0 : 0 ≤ f ∧ f ≤ 100) (iv1_1 : f_first (f_lsC Ls w r what) f 100 = F_least Ls w r what), ax_W E l (d + 1) 0 0 iX12_least 21 [some (.inr 330), some (.inl r), some (.inl what), some (.inl f)] [] SH M1 (ax_P (fun z0 M2 => z0 = some (.inl (F_least Ls w r what)) ∧ (∀ x0 i0 : Int, ¬ (x0 = 331 ∨ x0 = 340 ∨ x0 = 341 ∨ x0 = 342 ∨ x0 = 343 ∨ x0 = 334 ∨ (x0 = 330 ∧ i0 = 30) ∨ (x0 = 330 ∧ i0 = 31) ∨ (x0 = 330 ∧ i0 = 32) ∨ (x0 = 330 ∧ i0 = 33)) → M2 x0 i0 = M x0 i0) ∧ M2 331 = w)) := by
        intro kq2
        induction kq2 with
        | zero =>
          intro f M1 hm1 fr1 mr1_331 iv1_0 iv1_1
          exfalso
          omega
        | succ kq2 ih3 =>
          intro f M1 hm1 fr1 mr1_331 iv1_0 iv1_1
          refine ax_iload_n dX12_least_21 rfl rfl (pc' := 22) rfl ?_
          refine ax_bipush dX12_least_22 (by decide) (pc' := 24) rfl ?_
          refine ax_icmp_gt (tgt := 63) dX12_least_24 (by decide) (pc' := 27) rfl (fun h24 => ?_) (fun h24 => ?_)
          · refine ax_iconst dX12_least_63 (by decide) (pc' := 64) rfl ?_
            refine ax_iret dX12_least_64 rfl ?_
            refine ⟨rfl, ?_, ?_, ?_⟩
            · refine congrArg (fun z => some (Sum.inl z)) ?_
              exact (f_first_done (by omega)).symm.trans iv1_1
            · intro x0 i0 hai
              exact ((fr1 x0 i0 (by omega)).trans rfl)
            · exact mr1_331
          · refine ax_aload_n dX12_least_27 rfl rfl (pc' := 28) rfl ?_
            refine ax_iload_n dX12_least_28 rfl rfl (pc' := 29) rfl ?_
            refine ax_iload_n dX12_least_29 rfl rfl (pc' := 30) rfl ?_
            refine ax_invG [.inl r, .inl f] [] dX12_least_30 mlX12_464 sh_330 rfl rfl rfl (Nat.le_of_ble_eq_true rfl) (s_X12_wouldBy E l _ (by omega) _ r f Ls mr1_331 rfl rfl rfl rfl rfl (by first | omega | assumption) (by first | omega | assumption) (by first | omega | assumption)) (pc' := 33) rfl (fun vv M_30 hq co30 hcm30 => ?_)
            obtain ⟨rfl, frM_30, mrM_30_0, msM_30_0, msM_30_1, msM_30_2, msM_30_3⟩ := hq
            refine ax_reS (st2 := []) rfl ?_
            refine ax_iload_n dX12_least_33 rfl rfl (pc' := 34) rfl ?_
            refine ax_if_ne (tgt := 47) dX12_least_34 (by decide) (pc' := 37) rfl (fun h34 => ?_) (fun h34 => ?_)
            · refine ax_aload_n dX12_least_47 rfl rfl (pc' := 48) rfl ?_
              refine ax_geti (v := f_brk Ls (f_stch Ls (f_up w 1 200) r f).1 r f) dX12_least_48 flX12_426 rfl sh_330 msM_30_3 rfl (pc' := 51) rfl ?_
              refine ax_iconst dX12_least_51 (by decide) (pc' := 52) rfl ?_
              refine ax_icmp_eq (tgt := 57) dX12_least_52 (by decide) (pc' := 55) rfl (fun h52 => ?_) (fun h52 => ?_)
              · refine ax_iinc dX12_least_57 rfl (by decide) (by omega) (ls' := [some (.inr 330), some (.inl r), some (.inl what), some (.inl (f + 1))]) rfl (pc' := 60) rfl ?_
                refine ax_goto dX12_least_60 (pc' := 21) (by decide) ?_
                refine ih3 (f + 1) M_30 ?_ ?_ ?_ ?_ ?_
                · omega
                · intro x0 i0 hai
                  exact ((frM_30 x0 i0 (by omega)).trans ((fr1 x0 i0 (by omega)).trans rfl))
                · exact mrM_30_0
                · omega
                · exact (f_first_miss (by omega) (by unfold f_lsC f_thk; omega)).symm.trans iv1_1
              · refine ax_iload_n dX12_least_55 rfl rfl (pc' := 56) rfl ?_
                refine ax_iret dX12_least_56 rfl ?_
                refine ⟨rfl, ?_, ?_, ?_⟩
                · refine congrArg (fun z => some (Sum.inl z)) ?_
                  rw [← iv1_1]
                  symm
                  exact f_first_hit (by omega) (by unfold f_lsC f_thk; omega)
                · intro x0 i0 hai
                  exact ((frM_30 x0 i0 (by omega)).trans ((fr1 x0 i0 (by omega)).trans rfl))
                · exact mrM_30_0
            · refine ax_aload_n dX12_least_37 rfl rfl (pc' := 38) rfl ?_
              refine ax_geti (v := (f_stch Ls (f_up w 1 200) r f).2.1) dX12_least_38 flX12_411 rfl sh_330 msM_30_0 rfl (pc' := 41) rfl ?_
              refine ax_if_le (tgt := 57) dX12_least_41 (by decide) (pc' := 44) rfl (fun h41 => ?_) (fun h41 => ?_)
              · refine ax_iinc dX12_least_57 rfl (by decide) (by omega) (ls' := [some (.inr 330), some (.inl r), some (.inl what), some (.inl (f + 1))]) rfl (pc' := 60) rfl ?_
                refine ax_goto dX12_least_60 (pc' := 21) (by decide) ?_
                refine ih3 (f + 1) M_30 ?_ ?_ ?_ ?_ ?_
                · omega
                · intro x0 i0 hai
                  exact ((frM_30 x0 i0 (by omega)).trans ((fr1 x0 i0 (by omega)).trans rfl))
                · exact mrM_30_0
                · omega
                · exact (f_first_miss (by omega) (by unfold f_lsC f_thk; omega)).symm.trans iv1_1
              · refine ax_goto dX12_least_44 (pc' := 55) (by decide) ?_
                refine ax_iload_n dX12_least_55 rfl rfl (pc' := 56) rfl ?_
                refine ax_iret dX12_least_56 rfl ?_
                refine ⟨rfl, ?_, ?_, ?_⟩
                · refine congrArg (fun z => some (Sum.inl z)) ?_
                  rw [← iv1_1]
                  symm
                  exact f_first_hit (by omega) (by unfold f_lsC f_thk; omega)
                · intro x0 i0 hai
                  exact ((frM_30 x0 i0 (by omega)).trans ((fr1 x0 i0 (by omega)).trans rfl))
                · exact mrM_30_0
      refine LP1 (100 - 0 : Int).toNat.succ 0 M ?_ ?_ ?_ ?_ ?_
      · omega
      · exact fun a i _ => rfl
      · exact hw
      · omega
      · exact (if_neg (by omega)).symm
    · replace h14 := f_b_0 h14
      refine ax_iconst dX12_least_17 (by decide) (pc' := 18) rfl ?_
      refine ax_iret dX12_least_18 rfl ?_
      refine ⟨rfl, ?_, ?_, ?_⟩
      · refine congrArg (fun z => some (Sum.inl z)) ?_
        exact (if_pos (by omega)).symm
      · intro x0 i0 hai
        exact rfl
      · exact hw
set_option maxRecDepth 20000 in
theorem s_X12_train (E : ax_Env) (l : Launch) (d : Nat) (hd : 6 ≤ d) (M : ax_Mem) (r p k f : Int) (Ls : Int → List f_Ln) {w : Int → Int} (hw : M 331 = w) {pl : Int → Int} (hpl : M 340 = pl) {F : Int → Int} (hF : M 341 = F) {rw0 : Int → Int} (hrw0 : M 342 = rw0) {cv0 : Int → Int} (hcv0 : M 343 = cv0) {ly : Int → Int} (hly : M 334 = ly) (hg0 : f_iv w) (hg1 : f_lw Ls w) : ax_G E l d iX12_train [.inr 330, .inl r, .inl p, .inl k, .inl f] M (fun z0 M2 => z0 = some (.inl (F_train Ls w r p k f)) ∧ (∀ x0 i0 : Int, ¬ (x0 = 331 ∨ x0 = 340 ∨ x0 = 341 ∨ x0 = 342 ∨ x0 = 343 ∨ x0 = 334 ∨ (x0 = 330 ∧ i0 = 30) ∨ (x0 = 330 ∧ i0 = 31) ∨ (x0 = 330 ∧ i0 = 32) ∨ (x0 = 330 ∧ i0 = 33)) → M2 x0 i0 = M x0 i0) ∧ M2 331 = w) := by
  obtain ⟨d, rfl⟩ : ∃ d0, d = d0 + 1 := ⟨d - 1, by omega⟩
  refine ax_start rfl (Nat.le_of_ble_eq_true rfl) (ls := [some (.inr 330), some (.inl r), some (.inl p), some (.inl k), some (.inl f), none, none]) rfl (fun hav hcm => ?_)
  have hc1 : -2147483648 ≤ r ∧ r < 2147483648 := hav (.inl r) (by simp)
  have hc2 : -2147483648 ≤ p ∧ p < 2147483648 := hav (.inl p) (by simp)
  have hc3 : -2147483648 ≤ k ∧ k < 2147483648 := hav (.inl k) (by simp)
  have hc4 : -2147483648 ≤ f ∧ f < 2147483648 := hav (.inl f) (by simp)
  clear hav
  have qa1 := hg0.1
  have qa2 := f_iv_1 hg0
  refine ax_aload_n dX12_train_0 rfl rfl (pc' := 1) rfl ?_
  refine ax_iload_n dX12_train_1 rfl rfl (pc' := 2) rfl ?_
  refine ax_iload_n dX12_train_2 rfl rfl (pc' := 3) rfl ?_
  refine ax_iload_n dX12_train_3 rfl rfl (pc' := 4) rfl ?_
  refine ax_invG [.inl r, .inl p, .inl k] [] dX12_train_4 mlX12_376 sh_330 rfl rfl rfl (Nat.le_of_ble_eq_true rfl) (s_X12_canTie E l _ (by omega) _ r p k hw (by first | omega | assumption)) (pc' := 7) rfl (fun vv M_4 hq co4 hcm4 => ?_)
  obtain ⟨rfl, rfl⟩ := hq
  refine ax_reS (st2 := [.inl (f_b (f_isP w r p ∧ f_P w r p 0 = -1 ∧ 0 ≤ k ∧ k ≤ 5))]) rfl ?_
  refine ax_if_eq (tgt := 21) dX12_train_7 (by decide) (pc' := 10) rfl (fun h7 => ?_) (fun h7 => ?_)
  · replace h7 := f_b_0 h7
    refine ax_iconst dX12_train_21 (by decide) (pc' := 22) rfl ?_
    refine ax_iret dX12_train_22 rfl ?_
    refine ⟨rfl, ?_, ?_, ?_⟩
    · refine congrArg (fun z => some (Sum.inl z)) ?_
      exact (if_pos (by omega)).symm
    · intro x0 i0 hai
      exact rfl
    · exact hw
  · replace h7 := f_b_1 h7
    refine ax_iload dX12_train_10 rfl (pc' := 12) rfl ?_
    refine ax_iconst dX12_train_12 (by decide) (pc' := 13) rfl ?_
    refine ax_bipush dX12_train_13 (by decide) (pc' := 15) rfl ?_
    refine ax_insG [.inl f, .inl 0, .inl 99] [] dX12_train_15 mlX12_74 rfl rfl (Nat.le_of_ble_eq_true rfl) (s_X12_isIn E l _ (by omega) _ f 0 99) (pc' := 18) rfl (fun vv M_15 hq co15 hcm15 => ?_)
    obtain ⟨rfl, rfl⟩ := hq
    refine ax_reS (st2 := [.inl (f_b (0 ≤ f ∧ f ≤ 99))]) rfl ?_
    refine ax_if_ne (tgt := 23) dX12_train_18 (by decide) (pc' := 21) rfl (fun h18 => ?_) (fun h18 => ?_)
    · replace h18 := f_b_1 h18
      have qa3 := hg0.1 r (by omega) (by omega)
      have qr : 0 ≤ r ∧ r < 8 := by omega
      have qp : 0 ≤ p ∧ p < 24 := by omega
      have qk : 0 ≤ k ∧ k < 6 := by omega
      refine ax_iconst dX12_train_23 (by decide) (pc' := 24) rfl ?_
      refine ax_istore dX12_train_24 (by decide) (ls' := [some (.inr 330), some (.inl r), some (.inl p), some (.inl k), some (.inl f), some (.inl 0), none]) rfl (pc' := 26) rfl ?_
      have LP1 : ∀ (kq2 : Nat) (n : Int) (M1 : ax_Mem) (hm1 : 31 - n < (kq2 : Nat)) (fr1 : ∀ x0 i0 : Int, ¬ (x0 = 331 ∨ x0 = 340 ∨ x0 = 341 ∨ x0 = 342 ∨ x0 = 343 ∨ x0 = 334 ∨ (x0 = 330 ∧ i0 = 30) ∨ (x0 = 330 ∧ i0 = 31) ∨ (x0 = 330 ∧ i0 = 32) ∨ (x0 = 330 ∧ i0 = 33)) → M1 x0 i0 = M x0 i0) (mr1_331 : M1 331 = w) (iv1_0 : 0 ≤ n ∧ n ≤ 31) (iv1_1 : f_first (f_trC Ls w r p k f) n 31 = F_train Ls w r p k f), ax_W E l (d + 1) 0 0 iX12_train 26 [some (.inr 330), some (.inl r), some (.inl p), some (.inl k), some (.inl f), some (.inl n), none] [] SH M1 (ax_P (fun z0 M2 => z0 = some (.inl (F_train Ls w r p k f)) ∧ (∀ x0 i0 : Int, ¬ (x0 = 331 ∨ x0 = 340 ∨ x0 = 341 ∨ x0 = 342 ∨ x0 = 343 ∨ x0 = 334 ∨ (x0 = 330 ∧ i0 = 30) ∨ (x0 = 330 ∧ i0 = 31) ∨ (x0 = 330 ∧ i0 = 32) ∨ (x0 = 330 ∧ i0 = 33)) → M2 x0 i0 = M x0 i0) ∧ M2 331 = w)) := by
        intro kq2
        induction kq2 with
        | zero =>
          intro n M1 hm1 fr1 mr1_331 iv1_0 iv1_1
          exfalso
          omega
        | succ kq2 ih3 =>
          intro n M1 hm1 fr1 mr1_331 iv1_0 iv1_1
          refine ax_iload dX12_train_26 rfl (pc' := 28) rfl ?_
          refine ax_bipush dX12_train_28 (by decide) (pc' := 30) rfl ?_
          refine ax_icmp_gt (tgt := 106) dX12_train_30 (by decide) (pc' := 33) rfl (fun h30 => ?_) (fun h30 => ?_)
          · refine ax_iconst dX12_train_106 (by decide) (pc' := 107) rfl ?_
            refine ax_iret dX12_train_107 rfl ?_
            refine ⟨rfl, ?_, ?_, ?_⟩
            · refine congrArg (fun z => some (Sum.inl z)) ?_
              exact (f_first_done (by omega)).symm.trans iv1_1
            · intro x0 i0 hai
              exact ((fr1 x0 i0 (by omega)).trans rfl)
            · exact mr1_331
          · refine ax_aload_n dX12_train_33 rfl rfl (pc' := 34) rfl ?_
            refine ax_invG [] [] dX12_train_34 mlX12_458 sh_330 rfl rfl rfl (Nat.le_of_ble_eq_true rfl) (s_X12_laysAside E l _ (by omega) _ mr1_331 rfl) (pc' := 37) rfl (fun vv M_34 hq co34 hcm34 => ?_)
            obtain ⟨rfl, frM_34, mrM_34_0, mrM_34_1⟩ := hq
            refine ax_reS (st2 := []) rfl ?_
            refine ax_iconst dX12_train_37 (by decide) (pc' := 38) rfl ?_
            refine ax_istore dX12_train_38 (by decide) (ls' := [some (.inr 330), some (.inl r), some (.inl p), some (.inl k), some (.inl f), some (.inl n), some (.inl 0)]) rfl (pc' := 40) rfl ?_
            have LP4 : ∀ (kq5 : Nat) (j : Int) (wv1 : Int → Int) (M4 : ax_Mem) (hm4 : n - j < (kq5 : Nat)) (fr4 : ∀ x0 i0 : Int, ¬ (x0 = 331) → M4 x0 i0 = M_34 x0 i0) (mr4_331 : M4 331 = wv1) (iv4_0 : 0 ≤ j ∧ j ≤ n) (iv4_1 : f_loop (fun _ x => f_more x r p k (x (2564 + k))) j n wv1 = f_trn w r p k n) (iv4_2 : f_iv wv1 ∧ f_out (f_up w 1 200) wv1), ax_W E l (d + 1) 0 0 iX12_train 40 [some (.inr 330), some (.inl r), some (.inl p), some (.inl k), some (.inl f), some (.inl n), some (.inl j)] [] SH M4 (ax_P (fun z0 M2 => z0 = some (.inl (F_train Ls w r p k f)) ∧ (∀ x0 i0 : Int, ¬ (x0 = 331 ∨ x0 = 340 ∨ x0 = 341 ∨ x0 = 342 ∨ x0 = 343 ∨ x0 = 334 ∨ (x0 = 330 ∧ i0 = 30) ∨ (x0 = 330 ∧ i0 = 31) ∨ (x0 = 330 ∧ i0 = 32) ∨ (x0 = 330 ∧ i0 = 33)) → M2 x0 i0 = M x0 i0) ∧ M2 331 = w)) := by
              intro kq5
              induction kq5 with
              | zero =>
                intro j wv1 M4 hm4 fr4 mr4_331 iv4_0 iv4_1 iv4_2
                exfalso
                omega
              | succ kq5 ih6 =>
                intro j wv1 M4 hm4 fr4 mr4_331 iv4_0 iv4_1 iv4_2
                refine ax_iload dX12_train_40 rfl (pc' := 42) rfl ?_
                refine ax_iload dX12_train_42 rfl (pc' := 44) rfl ?_
                refine ax_icmp_ge (tgt := 70) dX12_train_44 (by decide) (pc' := 47) rfl (fun h44 => ?_) (fun h44 => ?_)
                · have qe : wv1 = f_trn w r p k n := (f_loop_done (by omega)).symm.trans iv4_1
                  have qb1 := iv4_2.1
                  have qb2 := f_lw_of (f_out_ag iv4_2.2) (f_lw_of f_ag_1 hg1)
                  have qb3 := f_out_trans iv4_2.2 (f_out_stch (Ls := Ls) (f := f) qr iv4_2.1 ((iv4_2.2 1 (by omega)).trans (f_up_same _ _ _)))
                  refine ax_aload_n dX12_train_70 rfl rfl (pc' := 71) rfl ?_
                  refine ax_iload_n dX12_train_71 rfl rfl (pc' := 72) rfl ?_
                  refine ax_iload dX12_train_72 rfl (pc' := 74) rfl ?_
                  refine ax_invG [.inl r, .inl f] [] dX12_train_74 mlX12_429 sh_330 rfl rfl rfl (Nat.le_of_ble_eq_true rfl) (s_X12_stretches E l _ (by omega) _ r f Ls mr4_331 ((funext fun i0 => fr4 340 i0 (by omega)).trans ((funext fun i0 => frM_34 340 i0 (by omega)).trans rfl)) ((funext fun i0 => fr4 341 i0 (by omega)).trans ((funext fun i0 => frM_34 341 i0 (by omega)).trans rfl)) ((funext fun i0 => fr4 342 i0 (by omega)).trans ((funext fun i0 => frM_34 342 i0 (by omega)).trans rfl)) ((funext fun i0 => fr4 343 i0 (by omega)).trans ((funext fun i0 => frM_34 343 i0 (by omega)).trans rfl)) (by first | omega | assumption) (by first | omega | assumption) (by first | omega | assumption)) (pc' := 77) rfl (fun vv M_74 hq co74 hcm74 => ?_)
                  obtain ⟨rfl, frM_74, mrM_74_0, msM_74_0, msM_74_1, msM_74_2, msM_74_3⟩ := hq
                  refine ax_reS (st2 := []) rfl ?_
                  refine ax_aload_n dX12_train_77 rfl rfl (pc' := 78) rfl ?_
                  refine ax_invG [] [] dX12_train_78 mlX12_461 sh_330 rfl rfl rfl (Nat.le_of_ble_eq_true rfl) (s_X12_putsBack E l _ (by omega) _ mrM_74_0 ((funext fun i0 => frM_74 334 i0 (by omega)).trans ((funext fun i0 => fr4 334 i0 (by omega)).trans mrM_34_0))) (pc' := 81) rfl (fun vv M_78 hq co78 hcm78 => ?_)
                  obtain ⟨rfl, frM_78, mrM_78_0⟩ := hq
                  refine ax_reS (st2 := []) rfl ?_
                  refine ax_aload_n dX12_train_81 rfl rfl (pc' := 82) rfl ?_
                  refine ax_geti (v := (f_stch Ls wv1 r f).2.2.1) dX12_train_82 flX12_414 rfl sh_330 ((frM_78 330 31 (by omega)).trans msM_74_1) rfl (pc' := 85) rfl ?_
                  refine ax_iload_n dX12_train_85 rfl rfl (pc' := 86) rfl ?_
                  refine ax_icmp_ne (tgt := 100) dX12_train_86 (by decide) (pc' := 89) rfl (fun h86 => ?_) (fun h86 => ?_)
                  · refine ax_iinc dX12_train_100 rfl (by decide) (by omega) (ls' := [some (.inr 330), some (.inl r), some (.inl p), some (.inl k), some (.inl f), some (.inl (n + 1)), some (.inl j)]) rfl (pc' := 103) rfl ?_
                    refine ax_goto dX12_train_103 (pc' := 26) (by decide) ?_
                    refine ax_less (ls2 := [some (.inr 330), some (.inl r), some (.inl p), some (.inl k), some (.inl f), some (.inl (n + 1)), none]) [true, true, true, true, true, true, false] rfl ?_
                    refine ih3 (n + 1) M_78 ?_ ?_ ?_ ?_ ?_
                    · omega
                    · intro x0 i0 hai
                      exact ((frM_78 x0 i0 (by omega)).trans ((frM_74 x0 i0 (by omega)).trans ((fr4 x0 i0 (by omega)).trans ((frM_34 x0 i0 (by omega)).trans ((fr1 x0 i0 (by omega)).trans rfl)))))
                    · refine Eq.trans mrM_78_0 ?_
                      exact f_back qb3
                    · omega
                    · rw [qe] at *
                      exact (f_first_miss (by omega) (by unfold f_trC; omega)).symm.trans iv1_1
                  · refine ax_aload_n dX12_train_89 rfl rfl (pc' := 90) rfl ?_
                    refine ax_geti (v := (f_stch Ls wv1 r f).2.2.2) dX12_train_90 flX12_417 rfl sh_330 ((frM_78 330 32 (by omega)).trans msM_74_2) rfl (pc' := 93) rfl ?_
                    refine ax_iload_n dX12_train_93 rfl rfl (pc' := 94) rfl ?_
                    refine ax_icmp_ne (tgt := 100) dX12_train_94 (by decide) (pc' := 97) rfl (fun h94 => ?_) (fun h94 => ?_)
                    · refine ax_iinc dX12_train_100 rfl (by decide) (by omega) (ls' := [some (.inr 330), some (.inl r), some (.inl p), some (.inl k), some (.inl f), some (.inl (n + 1)), some (.inl j)]) rfl (pc' := 103) rfl ?_
                      refine ax_goto dX12_train_103 (pc' := 26) (by decide) ?_
                      refine ax_less (ls2 := [some (.inr 330), some (.inl r), some (.inl p), some (.inl k), some (.inl f), some (.inl (n + 1)), none]) [true, true, true, true, true, true, false] rfl ?_
                      refine ih3 (n + 1) M_78 ?_ ?_ ?_ ?_ ?_
                      · omega
                      · intro x0 i0 hai
                        exact ((frM_78 x0 i0 (by omega)).trans ((frM_74 x0 i0 (by omega)).trans ((fr4 x0 i0 (by omega)).trans ((frM_34 x0 i0 (by omega)).trans ((fr1 x0 i0 (by omega)).trans rfl)))))
                      · refine Eq.trans mrM_78_0 ?_
                        exact f_back qb3
                      · omega
                      · rw [qe] at *
                        exact (f_first_miss (by omega) (by unfold f_trC; omega)).symm.trans iv1_1
                    · refine ax_iload dX12_train_97 rfl (pc' := 99) rfl ?_
                      refine ax_iret dX12_train_99 rfl ?_
                      refine ⟨rfl, ?_, ?_, ?_⟩
                      · refine congrArg (fun z => some (Sum.inl z)) ?_
                        rw [qe] at *
                        rw [← iv1_1]
                        symm
                        exact f_first_hit (by omega) (by unfold f_trC; omega)
                      · intro x0 i0 hai
                        exact ((frM_78 x0 i0 (by omega)).trans ((frM_74 x0 i0 (by omega)).trans ((fr4 x0 i0 (by omega)).trans ((frM_34 x0 i0 (by omega)).trans ((fr1 x0 i0 (by omega)).trans rfl)))))
                      · refine Eq.trans mrM_78_0 ?_
                        exact f_back qb3
                · have qc1 := iv4_2.1.2.1
                  have qc2 := iv4_2.1.2.2.2.2 k qk.1 qk.2
                  refine ax_aload_n dX12_train_47 rfl rfl (pc' := 48) rfl ?_
                  refine ax_iload_n dX12_train_48 rfl rfl (pc' := 49) rfl ?_
                  refine ax_iload_n dX12_train_49 rfl rfl (pc' := 50) rfl ?_
                  refine ax_iload_n dX12_train_50 rfl rfl (pc' := 51) rfl ?_
                  refine ax_aload_n dX12_train_51 rfl rfl (pc' := 52) rfl ?_
                  refine ax_getr (v := 331) dX12_train_52 flX12_7 rfl sh_330 rfl (pc' := 55) rfl ?_
                  refine ax_sipush dX12_train_55 (by decide) (pc' := 58) rfl ?_
                  refine ax_iload_n dX12_train_58 rfl rfl (pc' := 59) rfl ?_
                  refine ax_iadd dX12_train_59 (by omega) (pc' := 60) rfl ?_
                  refine ax_iald (v := wv1 (2564 + k)) dX12_train_60 sh_331 rfl (by omega) (by omega) ((congrFun mr4_331 (2564 + k)).trans rfl) (pc' := 61) rfl ?_
                  refine ax_invG [.inl r, .inl p, .inl k, .inl (wv1 (2564 + k))] [] dX12_train_61 mlX12_370 sh_330 rfl rfl rfl (Nat.le_of_ble_eq_true rfl) (s_X12_more E l _ (by omega) _ r p k (wv1 (2564 + k)) mr4_331 (by first | omega | assumption) (by first | omega | assumption) (by first | omega | assumption) (by first | omega | assumption) (by first | omega | assumption)) (pc' := 64) rfl (fun vv M_61 hq co61 hcm61 => ?_)
                  obtain ⟨rfl, frM_61, mrM_61_0⟩ := hq
                  refine ax_reS (st2 := []) rfl ?_
                  refine ax_iinc dX12_train_64 rfl (by decide) (by omega) (ls' := [some (.inr 330), some (.inl r), some (.inl p), some (.inl k), some (.inl f), some (.inl n), some (.inl (j + 1))]) rfl (pc' := 67) rfl ?_
                  refine ax_goto dX12_train_67 (pc' := 40) (by decide) ?_
                  refine ih6 (j + 1) (f_more wv1 r p k (wv1 (2564 + k))) M_61 ?_ ?_ ?_ ?_ ?_ ?_
                  · omega
                  · intro x0 i0 hai
                    exact ((frM_61 x0 i0 (by omega)).trans ((fr4 x0 i0 (by omega)).trans rfl))
                  · exact mrM_61_0
                  · omega
                  · exact f_loop_back (by omega) iv4_1 rfl
                  · exact f_trn_ok qr qp qk iv4_2
            refine LP4 (n - 0 : Int).toNat.succ 0 (f_up w 1 200) M_34 ?_ ?_ ?_ ?_ ?_ ?_
            · omega
            · exact fun a i _ => rfl
            · exact mrM_34_1
            · omega
            · rfl
            · exact ⟨qa2, f_out_refl⟩
      refine LP1 (31 - 0 : Int).toNat.succ 0 M ?_ ?_ ?_ ?_ ?_
      · omega
      · exact fun a i _ => rfl
      · exact hw
      · omega
      · exact (if_neg (by omega)).symm
    · replace h18 := f_b_0 h18
      refine ax_iconst dX12_train_21 (by decide) (pc' := 22) rfl ?_
      refine ax_iret dX12_train_22 rfl ?_
      refine ⟨rfl, ?_, ?_, ?_⟩
      · refine congrArg (fun z => some (Sum.inl z)) ?_
        exact (if_pos (by omega)).symm
      · intro x0 i0 hai
        exact rfl
      · exact hw
