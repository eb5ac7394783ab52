/-! loops as functions -/
def f_it {α : Type} (g : Int → α → α) : Nat → Int → α → α
  | 0, _, a => a
  | n + 1, i, a => f_it g n (i + 1) (g i a)
def f_loop {α : Type} (g : Int → α → α) (lo hi : Int) (a : α) : α := f_it g (hi - lo).toNat lo a
theorem f_loop_done {α : Type} {g : Int → α → α} {lo hi : Int} {a : α} (h : hi ≤ lo) : f_loop g lo hi a = a := by
  unfold f_loop
  rw [show (hi - lo).toNat = 0 by omega]
  rfl
theorem f_loop_step {α : Type} {g : Int → α → α} {lo hi : Int} {a : α} (h : lo < hi) : f_loop g lo hi a = f_loop g (lo + 1) hi (g lo a) := by
  unfold f_loop
  rw [show (hi - lo).toNat = (hi - (lo + 1)).toNat + 1 by omega]
  rfl
def f_find (c : Int → Prop) [DecidablePred c] : Nat → Int → Int
  | 0, _ => -1
  | n + 1, i => if c i then i else f_find c n (i + 1)
def f_first (c : Int → Prop) [DecidablePred c] (lo hi : Int) : Int := f_find c (hi - lo).toNat lo
theorem f_first_done {c : Int → Prop} [DecidablePred c] {lo hi : Int} (h : hi ≤ lo) : f_first c lo hi = -1 := by
  unfold f_first
  rw [show (hi - lo).toNat = 0 by omega]
  rfl
theorem f_first_hit {c : Int → Prop} [DecidablePred c] {lo hi : Int} (h : lo < hi) (hc : c lo) : f_first c lo hi = lo := by
  unfold f_first
  rw [show (hi - lo).toNat = (hi - (lo + 1)).toNat + 1 by omega]
  exact if_pos hc
theorem f_first_miss {c : Int → Prop} [DecidablePred c] {lo hi : Int} (h : lo < hi) (hc : ¬ c lo) : f_first c lo hi = f_first c (lo + 1) hi := by
  unfold f_first
  rw [show (hi - lo).toNat = (hi - (lo + 1)).toNat + 1 by omega]
  exact if_neg hc
theorem f_ushr8 (x : Int) : 0 ≤ ax_ushr x 8 := by
  unfold ax_ushr
  have h := pk_ushr (Int32.ofInt x) (Int32.ofInt 8) 8 (by decide)
  have h2 : (Int32.ofInt x).toBitVec.toNat < 2 ^ 32 := (Int32.ofInt x).toBitVec.isLt
  generalize ((Int32.ofInt x).toUInt32 >>> ((Int32.ofInt 8).toUInt32 &&& Int32.toUInt32 31)).toInt32 = y at h ⊢
  have h3 : y.toInt = y.toBitVec.toInt := rfl
  rw [h3, BitVec.toInt_eq_toNat_of_lt]
  · omega
  · omega
/-- the reference, on: draws, free numbers, a rope's beginning -/
def f_drw (w : Int → Int) : Int → Int := f_up w 2 (ax_wr (ax_wr (1664525 * w 2) + 1013904223))
def f_free (w : Int → Int) : Int := f_first (fun r => f_R w r 0 = 0) 0 8
def f_beg1 (r p : Int) (w : Int → Int) : Int → Int := f_loop (fun k w => f_hab w r p k 0 0) 0 6 (f_sP w r p 0 (-1))
def f_beg (w : Int → Int) (r n ow bo we : Int) : Int → Int := f_loop (fun p w => f_beg1 r p w) 0 24 (f_sR (f_sR (f_sR (f_sR (f_sR w r 0 1) r 1 n) r 2 ow) r 3 bo) r 4 we)
set_option maxRecDepth 20000 in
theorem s_X12_draw (E : ax_Env) (l : Launch) (d : Nat) (hd : 0 ≤ d) (M : ax_Mem) (m : Int) {w : Int → Int} (hw : M 331 = w) (hg0 : 0 < m) : ax_G E l d iX12_draw [.inr 330, .inl m] M (fun z0 M2 => z0 = some (.inl (ax_ushr (f_drw w 2) 8 % m)) ∧ (∀ x0 i0 : Int, ¬ (x0 = 331) → M2 x0 i0 = M x0 i0) ∧ M2 331 = f_drw w) := by
  refine ax_start rfl (Nat.le_of_ble_eq_true rfl) (ls := [some (.inr 330), some (.inl m)]) rfl (fun hav hcm => ?_)
  have hc1 : -2147483648 ≤ m ∧ m < 2147483648 := hav (.inl m) (by simp)
  clear hav
  refine ax_aload_n dX12_draw_0 rfl rfl (pc' := 1) rfl ?_
  refine ax_getr (v := 331) dX12_draw_1 flX12_7 rfl sh_330 rfl (pc' := 4) rfl ?_
  refine ax_iconst dX12_draw_4 (by decide) (pc' := 5) rfl ?_
  refine ax_ldc (n := 1664525) dX12_draw_5 klX12_96 (by decide) (pc' := 7) rfl ?_
  refine ax_aload_n dX12_draw_7 rfl rfl (pc' := 8) rfl ?_
  refine ax_getr (v := 331) dX12_draw_8 flX12_7 rfl sh_330 rfl (pc' := 11) rfl ?_
  refine ax_iconst dX12_draw_11 (by decide) (pc' := 12) rfl ?_
  refine ax_iald (v := w 2) dX12_draw_12 sh_331 rfl (by omega) (by omega) ((congrFun hw 2).trans rfl) (pc' := 13) rfl ?_
  refine ax_imulw dX12_draw_13 (pc' := 14) rfl ?_
  refine ax_ldc (n := 1013904223) dX12_draw_14 klX12_97 (by decide) (pc' := 16) rfl ?_
  refine ax_iaddw dX12_draw_16 (pc' := 17) rfl ?_
  refine ax_iast dX12_draw_17 sh_331 rfl (by omega) (by omega) (pc' := 18) rfl ?_
  refine ax_aload_n dX12_draw_18 rfl rfl (pc' := 19) rfl ?_
  refine ax_getr (v := 331) dX12_draw_19 flX12_7 rfl sh_330 rfl (pc' := 22) rfl ?_
  refine ax_iconst dX12_draw_22 (by decide) (pc' := 23) rfl ?_
  refine ax_iald (v := ax_wr ((ax_wr (1664525 * (w 2))) + 1013904223)) dX12_draw_23 sh_331 rfl (by omega) (by omega) ((congrFun (ax_up_rowhit hw) 2).trans (f_up_same _ _ _)) (pc' := 24) rfl ?_
  refine ax_bipush dX12_draw_24 (by decide) (pc' := 26) rfl ?_
  refine ax_iushr dX12_draw_26 (pc' := 27) rfl ?_
  refine ax_iload_n dX12_draw_27 rfl rfl (pc' := 28) rfl ?_
  refine ax_irem dX12_draw_28 (by exact f_ushr8 _) (by omega) (pc' := 29) rfl ?_
  refine ax_iret dX12_draw_29 rfl ?_
  refine ⟨rfl, ?_, ?_, ?_⟩
  · rfl
  · intro x0 i0 hai
    exact (ax_up_miss (by omega) rfl)
  · exact (ax_up_rowhit hw)
set_option maxRecDepth 20000 in
theorem s_X12_freeRope (E : ax_Env) (l : Launch) (d : Nat) (hd : 1 ≤ d) (M : ax_Mem) {w : Int → Int} (hw : M 331 = w) : ax_G E l d iX12_freeRope [.inr 330] M (fun z0 M2 => z0 = some (.inl (f_free w)) ∧ M = M2) := by
  obtain ⟨d, rfl⟩ : ∃ d0, d = d0 + 1 := ⟨d - 1, by omega⟩
  refine ax_start rfl (Nat.le_of_ble_eq_true rfl) (ls := [some (.inr 330), none]) rfl (fun hav hcm => ?_)
  clear hav
  refine ax_iconst dX12_freeRope_0 (by decide) (pc' := 1) rfl ?_
  refine ax_istore_n dX12_freeRope_1 rfl (by decide) (ls' := [some (.inr 330), some (.inl 0)]) rfl (pc' := 2) rfl ?_
  have LP1 : ∀ (kq2 : Nat) (i : Int) (hm1 : 8 - i < (kq2 : Nat)) (iv1_0 : 0 ≤ i ∧ i ≤ 8) (iv1_1 : f_first (fun r => f_R w r 0 = 0) i 8 = f_free w), ax_W E l (d + 1) 0 0 iX12_freeRope 2 [some (.inr 330), some (.inl i)] [] SH M (ax_P (fun z0 M2 => z0 = some (.inl (f_free w)) ∧ M = M2)) := by
    intro kq2
    induction kq2 with
    | zero =>
      intro i hm1 iv1_0 iv1_1
      exfalso
      omega
    | succ kq2 ih3 =>
      intro i hm1 iv1_0 iv1_1
      refine ax_iload_n dX12_freeRope_2 rfl rfl (pc' := 3) rfl ?_
      refine ax_bipush dX12_freeRope_3 (by decide) (pc' := 5) rfl ?_
      refine ax_icmp_ge (tgt := 25) dX12_freeRope_5 (by decide) (pc' := 8) rfl (fun h5 => ?_) (fun h5 => ?_)
      · refine ax_iconst dX12_freeRope_25 (by decide) (pc' := 26) rfl ?_
        refine ax_iret dX12_freeRope_26 rfl ?_
        refine ⟨rfl, ?_, ?_⟩
        · refine congrArg (fun z => some (Sum.inl z)) ?_
          exact (f_first_done (by omega)).symm.trans iv1_1
        · rfl
      · refine ax_aload_n dX12_freeRope_8 rfl rfl (pc' := 9) rfl ?_
        refine ax_iload_n dX12_freeRope_9 rfl rfl (pc' := 10) rfl ?_
        refine ax_iconst dX12_freeRope_10 (by decide) (pc' := 11) rfl ?_
        refine ax_invG [.inl i, .inl 0] [] dX12_freeRope_11 mlX12_78 sh_330 rfl rfl rfl (Nat.le_of_ble_eq_true rfl) (s_X12_ofRope E l _ (by omega) _ i 0 hw (by first | omega | assumption) (by first | omega | assumption)) (pc' := 14) rfl (fun vv M_11 hq co11 hcm11 => ?_)
        obtain ⟨rfl, rfl⟩ := hq
        refine ax_reS (st2 := [.inl (f_R w i 0)]) rfl ?_
        have cc11 : -2147483648 ≤ f_R w i 0 ∧ f_R w i 0 < 2147483648 := co11 _ rfl
        refine ax_if_ne (tgt := 19) dX12_freeRope_14 (by decide) (pc' := 17) rfl (fun h14 => ?_) (fun h14 => ?_)
        · refine ax_iinc dX12_freeRope_19 rfl (by decide) (by omega) (ls' := [some (.inr 330), some (.inl (i + 1))]) rfl (pc' := 22) rfl ?_
          refine ax_goto dX12_freeRope_22 (pc' := 2) (by decide) ?_
          refine ih3 (i + 1) ?_ ?_ ?_
          · omega
          · omega
          · rw [← iv1_1]
            symm
            exact f_first_miss (by omega) h14
        · refine ax_iload_n dX12_freeRope_17 rfl rfl (pc' := 18) rfl ?_
          refine ax_iret dX12_freeRope_18 rfl ?_
          refine ⟨rfl, ?_, ?_⟩
          · refine congrArg (fun z => some (Sum.inl z)) ?_
            rw [← iv1_1]
            symm
            exact f_first_hit (by omega) h14
          · rfl
  refine LP1 (8 - 0 : Int).toNat.succ 0 ?_ ?_ ?_
  · omega
  · omega
  · rfl
set_option maxRecDepth 20000 in
theorem s_X12_begins (E : ax_Env) (l : Launch) (d : Nat) (hd : 2 ≤ d) (M : ax_Mem) (r n ow bo we : Int) {w : Int → Int} (hw : M 331 = w) (hg0 : 0 ≤ r ∧ r < 8) : ax_G E l d iX12_begins [.inr 330, .inl r, .inl n, .inl ow, .inl bo, .inl we] M (fun z0 M2 => z0 = none ∧ (∀ x0 i0 : Int, ¬ (x0 = 331) → M2 x0 i0 = M x0 i0) ∧ M2 331 = f_beg w r n ow bo we) := by
  obtain ⟨d, rfl⟩ : ∃ d0, d = d0 + 1 := ⟨d - 1, by omega⟩
  refine ax_start rfl (Nat.le_of_ble_eq_true rfl) (ls := [some (.inr 330), some (.inl r), some (.inl n), some (.inl ow), some (.inl bo), some (.inl we), none, none]) rfl (fun hav hcm => ?_)
  have hc1 : -2147483648 ≤ r ∧ r < 2147483648 := hav (.inl r) (by simp)
  have hc2 : -2147483648 ≤ n ∧ n < 2147483648 := hav (.inl n) (by simp)
  have hc3 : -2147483648 ≤ ow ∧ ow < 2147483648 := hav (.inl ow) (by simp)
  have hc4 : -2147483648 ≤ bo ∧ bo < 2147483648 := hav (.inl bo) (by simp)
  have hc5 : -2147483648 ≤ we ∧ we < 2147483648 := hav (.inl we) (by simp)
  clear hav
  refine ax_aload_n dX12_begins_0 rfl rfl (pc' := 1) rfl ?_
  refine ax_iload_n dX12_begins_1 rfl rfl (pc' := 2) rfl ?_
  refine ax_iconst dX12_begins_2 (by decide) (pc' := 3) rfl ?_
  refine ax_iconst dX12_begins_3 (by decide) (pc' := 4) rfl ?_
  refine ax_invG [.inl r, .inl 0, .inl 1] [] dX12_begins_4 mlX12_98 sh_330 rfl rfl rfl (Nat.le_of_ble_eq_true rfl) (s_X12_ropes E l _ (by omega) _ r 0 1 hw (by first | omega | assumption) (by first | omega | assumption)) (pc' := 7) rfl (fun vv M_4 hq co4 hcm4 => ?_)
  obtain ⟨rfl, frM_4, mrM_4_0⟩ := hq
  refine ax_reS (st2 := []) rfl ?_
  refine ax_aload_n dX12_begins_7 rfl rfl (pc' := 8) rfl ?_
  refine ax_iload_n dX12_begins_8 rfl rfl (pc' := 9) rfl ?_
  refine ax_iconst dX12_begins_9 (by decide) (pc' := 10) rfl ?_
  refine ax_iload_n dX12_begins_10 rfl rfl (pc' := 11) rfl ?_
  refine ax_invG [.inl r, .inl 1, .inl n] [] dX12_begins_11 mlX12_98 sh_330 rfl rfl rfl (Nat.le_of_ble_eq_true rfl) (s_X12_ropes E l _ (by omega) _ r 1 n mrM_4_0 (by first | omega | assumption) (by first | omega | assumption)) (pc' := 14) rfl (fun vv M_11 hq co11 hcm11 => ?_)
  obtain ⟨rfl, frM_11, mrM_11_0⟩ := hq
  refine ax_reS (st2 := []) rfl ?_
  refine ax_aload_n dX12_begins_14 rfl rfl (pc' := 15) rfl ?_
  refine ax_iload_n dX12_begins_15 rfl rfl (pc' := 16) rfl ?_
  refine ax_iconst dX12_begins_16 (by decide) (pc' := 17) rfl ?_
  refine ax_iload_n dX12_begins_17 rfl rfl (pc' := 18) rfl ?_
  refine ax_invG [.inl r, .inl 2, .inl ow] [] dX12_begins_18 mlX12_98 sh_330 rfl rfl rfl (Nat.le_of_ble_eq_true rfl) (s_X12_ropes E l _ (by omega) _ r 2 ow mrM_11_0 (by first | omega | assumption) (by first | omega | assumption)) (pc' := 21) rfl (fun vv M_18 hq co18 hcm18 => ?_)
  obtain ⟨rfl, frM_18, mrM_18_0⟩ := hq
  refine ax_reS (st2 := []) rfl ?_
  refine ax_aload_n dX12_begins_21 rfl rfl (pc' := 22) rfl ?_
  refine ax_iload_n dX12_begins_22 rfl rfl (pc' := 23) rfl ?_
  refine ax_iconst dX12_begins_23 (by decide) (pc' := 24) rfl ?_
  refine ax_iload dX12_begins_24 rfl (pc' := 26) rfl ?_
  refine ax_invG [.inl r, .inl 3, .inl bo] [] dX12_begins_26 mlX12_98 sh_330 rfl rfl rfl (Nat.le_of_ble_eq_true rfl) (s_X12_ropes E l _ (by omega) _ r 3 bo mrM_18_0 (by first | omega | assumption) (by first | omega | assumption)) (pc' := 29) rfl (fun vv M_26 hq co26 hcm26 => ?_)
  obtain ⟨rfl, frM_26, mrM_26_0⟩ := hq
  refine ax_reS (st2 := []) rfl ?_
  refine ax_aload_n dX12_begins_29 rfl rfl (pc' := 30) rfl ?_
  refine ax_iload_n dX12_begins_30 rfl rfl (pc' := 31) rfl ?_
  refine ax_iconst dX12_begins_31 (by decide) (pc' := 32) rfl ?_
  refine ax_iload dX12_begins_32 rfl (pc' := 34) rfl ?_
  refine ax_invG [.inl r, .inl 4, .inl we] [] dX12_begins_34 mlX12_98 sh_330 rfl rfl rfl (Nat.le_of_ble_eq_true rfl) (s_X12_ropes E l _ (by omega) _ r 4 we mrM_26_0 (by first | omega | assumption) (by first | omega | assumption)) (pc' := 37) rfl (fun vv M_34 hq co34 hcm34 => ?_)
  obtain ⟨rfl, frM_34, mrM_34_0⟩ := hq
  refine ax_reS (st2 := []) rfl ?_
  refine ax_iconst dX12_begins_37 (by decide) (pc' := 38) rfl ?_
  refine ax_istore dX12_begins_38 (by decide) (ls' := [some (.inr 330), some (.inl r), some (.inl n), some (.inl ow), some (.inl bo), some (.inl we), some (.inl 0), none]) rfl (pc' := 40) rfl ?_
  have LP1 : ∀ (kq2 : Nat) (i : Int) (wv1 : Int → Int) (M1 : ax_Mem) (hm1 : 24 - i < (kq2 : Nat)) (fr1 : ∀ x0 i0 : Int, ¬ (x0 = 331) → M1 x0 i0 = M_34 x0 i0) (mr1_331 : M1 331 = wv1) (iv1_0 : 0 ≤ i ∧ i ≤ 24) (iv1_1 : f_loop (fun p w => f_beg1 r p w) i 24 wv1 = f_beg w r n ow bo we), ax_W E l (d + 1) 0 0 iX12_begins 40 [some (.inr 330), some (.inl r), some (.inl n), some (.inl ow), some (.inl bo), some (.inl we), some (.inl i), none] [] SH M1 (ax_P (fun z0 M2 => z0 = none ∧ (∀ x0 i0 : Int, ¬ (x0 = 331) → M2 x0 i0 = M x0 i0) ∧ M2 331 = f_beg w r n ow bo we)) := by
    intro kq2
    induction kq2 with
    | zero =>
      intro i wv1 M1 hm1 fr1 mr1_331 iv1_0 iv1_1
      exfalso
      omega
    | succ kq2 ih3 =>
      intro i wv1 M1 hm1 fr1 mr1_331 iv1_0 iv1_1
      refine ax_iload dX12_begins_40 rfl (pc' := 42) rfl ?_
      refine ax_bipush dX12_begins_42 (by decide) (pc' := 44) rfl ?_
      refine ax_icmp_ge (tgt := 89) dX12_begins_44 (by decide) (pc' := 47) rfl (fun h44 => ?_) (fun h44 => ?_)
      · refine ax_vret dX12_begins_89 rfl ?_
        refine ⟨rfl, rfl, ?_, ?_⟩
        · intro x0 i0 hai
          exact ((fr1 x0 i0 (by omega)).trans ((frM_34 x0 i0 (by omega)).trans ((frM_26 x0 i0 (by omega)).trans ((frM_18 x0 i0 (by omega)).trans ((frM_11 x0 i0 (by omega)).trans ((frM_4 x0 i0 (by omega)).trans rfl))))))
        · refine Eq.trans mr1_331 ?_
          exact (f_loop_done (by omega)).symm.trans iv1_1
      · refine ax_aload_n dX12_begins_47 rfl rfl (pc' := 48) rfl ?_
        refine ax_iload_n dX12_begins_48 rfl rfl (pc' := 49) rfl ?_
        refine ax_iload dX12_begins_49 rfl (pc' := 51) rfl ?_
        refine ax_iconst dX12_begins_51 (by decide) (pc' := 52) rfl ?_
        refine ax_iconst dX12_begins_52 (by decide) (pc' := 53) rfl ?_
        refine ax_invG [.inl r, .inl i, .inl 0, .inl (-1)] [] dX12_begins_53 mlX12_102 sh_330 rfl rfl rfl (Nat.le_of_ble_eq_true rfl) (s_X12_places E l _ (by omega) _ r i 0 (-1) mr1_331 (by first | omega | assumption) (by first | omega | assumption) (by first | omega | assumption)) (pc' := 56) rfl (fun vv M_53 hq co53 hcm53 => ?_)
        obtain ⟨rfl, frM_53, mrM_53_0⟩ := hq
        refine ax_reS (st2 := []) rfl ?_
        refine ax_iconst dX12_begins_56 (by decide) (pc' := 57) rfl ?_
        refine ax_istore dX12_begins_57 (by decide) (ls' := [some (.inr 330), some (.inl r), some (.inl n), some (.inl ow), some (.inl bo), some (.inl we), some (.inl i), some (.inl 0)]) rfl (pc' := 59) rfl ?_
        have LP4 : ∀ (kq5 : Nat) (k : Int) (wv2 : Int → Int) (M4 : ax_Mem) (hm4 : 6 - k < (kq5 : Nat)) (fr4 : ∀ x0 i0 : Int, ¬ (x0 = 331) → M4 x0 i0 = M_53 x0 i0) (mr4_331 : M4 331 = wv2) (iv4_0 : 0 ≤ k ∧ k ≤ 6) (iv4_1 : f_loop (fun k w => f_hab w r i k 0 0) k 6 wv2 = f_beg1 r i wv1), ax_W E l (d + 1) 0 0 iX12_begins 59 [some (.inr 330), some (.inl r), some (.inl n), some (.inl ow), some (.inl bo), some (.inl we), some (.inl i), some (.inl k)] [] SH M4 (ax_P (fun z0 M2 => z0 = none ∧ (∀ x0 i0 : Int, ¬ (x0 = 331) → M2 x0 i0 = M x0 i0) ∧ M2 331 = f_beg w r n ow bo we)) := by
          intro kq5
          induction kq5 with
          | zero =>
            intro k wv2 M4 hm4 fr4 mr4_331 iv4_0 iv4_1
            exfalso
            omega
          | succ kq5 ih6 =>
            intro k wv2 M4 hm4 fr4 mr4_331 iv4_0 iv4_1
            refine ax_iload dX12_begins_59 rfl (pc' := 61) rfl ?_
            refine ax_bipush dX12_begins_61 (by decide) (pc' := 63) rfl ?_
            refine ax_icmp_ge (tgt := 83) dX12_begins_63 (by decide) (pc' := 66) rfl (fun h63 => ?_) (fun h63 => ?_)
            · refine ax_iinc dX12_begins_83 rfl (by decide) (by omega) (ls' := [some (.inr 330), some (.inl r), some (.inl n), some (.inl ow), some (.inl bo), some (.inl we), some (.inl (i + 1)), some (.inl k)]) rfl (pc' := 86) rfl ?_
              refine ax_goto dX12_begins_86 (pc' := 40) (by decide) ?_
              refine ax_less (ls2 := [some (.inr 330), some (.inl r), some (.inl n), some (.inl ow), some (.inl bo), some (.inl we), some (.inl (i + 1)), none]) [true, true, true, true, true, true, true, false] rfl ?_
              refine ih3 (i + 1) wv2 M4 ?_ ?_ ?_ ?_ ?_
              · omega
              · intro x0 i0 hai
                exact ((fr4 x0 i0 (by omega)).trans ((frM_53 x0 i0 (by omega)).trans ((fr1 x0 i0 (by omega)).trans rfl)))
              · exact mr4_331
              · omega
              · rw [f_loop_done (by omega)] at iv4_1
                rw [iv4_1]
                exact (f_loop_step (by omega)).symm.trans iv1_1
            · refine ax_aload_n dX12_begins_66 rfl rfl (pc' := 67) rfl ?_
              refine ax_iload_n dX12_begins_67 rfl rfl (pc' := 68) rfl ?_
              refine ax_iload dX12_begins_68 rfl (pc' := 70) rfl ?_
              refine ax_iload dX12_begins_70 rfl (pc' := 72) rfl ?_
              refine ax_iconst dX12_begins_72 (by decide) (pc' := 73) rfl ?_
              refine ax_iconst dX12_begins_73 (by decide) (pc' := 74) rfl ?_
              refine ax_invG [.inl r, .inl i, .inl k, .inl 0, .inl 0] [] dX12_begins_74 mlX12_106 sh_330 rfl rfl rfl (Nat.le_of_ble_eq_true rfl) (s_X12_habits E l _ (by omega) _ r i k 0 0 mr4_331 (by first | omega | assumption) (by first | omega | assumption) (by first | omega | assumption)) (pc' := 77) rfl (fun vv M_74 hq co74 hcm74 => ?_)
              obtain ⟨rfl, frM_74, mrM_74_0⟩ := hq
              refine ax_reS (st2 := []) rfl ?_
              refine ax_iinc dX12_begins_77 rfl (by decide) (by omega) (ls' := [some (.inr 330), some (.inl r), some (.inl n), some (.inl ow), some (.inl bo), some (.inl we), some (.inl i), some (.inl (k + 1))]) rfl (pc' := 80) rfl ?_
              refine ax_goto dX12_begins_80 (pc' := 59) (by decide) ?_
              refine ih6 (k + 1) (f_hab wv2 r i k 0 0) M_74 ?_ ?_ ?_ ?_ ?_
              · omega
              · intro x0 i0 hai
                exact ((frM_74 x0 i0 (by omega)).trans ((fr4 x0 i0 (by omega)).trans rfl))
              · exact mrM_74_0
              · omega
              · exact (f_loop_step (by omega)).symm.trans iv4_1
        refine LP4 (6 - 0 : Int).toNat.succ 0 (f_sP wv1 r i 0 (-1)) M_53 ?_ ?_ ?_ ?_ ?_
        · omega
        · exact fun a i _ => rfl
        · exact mrM_53_0
        · omega
        · rfl
  refine LP1 (24 - 0 : Int).toNat.succ 0 (f_sR (f_sR (f_sR (f_sR (f_sR w r 0 1) r 1 n) r 2 ow) r 3 bo) r 4 we) M_34 ?_ ?_ ?_ ?_ ?_
  · omega
  · exact fun a i _ => rfl
  · exact mrM_34_0
  · omega
  · rfl
