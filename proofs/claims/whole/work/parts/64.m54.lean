/-! drills of the class -/
def f_kd (k : Int) : Int := if k = 10 then 0 else if k = 11 then 2 else if k = 12 then 3 else if k = 13 then 4 else 5
theorem f_kd_cs {k : Int} (h : 10 ≤ k ∧ k ≤ 14) : k = 10 ∧ f_kd k = 0 ∨ k = 11 ∧ f_kd k = 2 ∨ k = 12 ∧ f_kd k = 3 ∨ k = 13 ∧ f_kd k = 4 ∨ k = 14 ∧ f_kd k = 5 := by
  unfold f_kd
  repeat' split
  all_goals omega
def f_dm (M : ax_Mem) (c : Int) (w : Int → Int) : Prop := M c 0 = w 2600 ∧ ∀ i, 0 ≤ i → i < w 2600 → M (c + 1) i = f_kd (w (3984 + 3 * i)) ∧ M (c + 2) i = w (3984 + 3 * i + 1) ∧ M (c + 3) i = w (3984 + 3 * i + 2)
def f_dr2 (w : Int → Int) : Prop := ∀ x, 0 ≤ x → x < w 2600 → w (3984 + 3 * x) = 10 → 0 ≤ w (3984 + 3 * x + 1) ∧ w (3984 + 3 * x + 1) ≤ 5
set_option maxRecDepth 20000 in
theorem s_X1_restDays (E : ax_Env) (l : Launch) (d : Nat) (hd : 0 ≤ d) (M : ax_Mem) (w : Int → Int) (hg0 : f_dm M 41 w) (hg1 : f_dr w) : ax_G E l d iX1_restDays [.inr 41] M (fun z0 M2 => z0 = some (.inl (f_rs w)) ∧ M = M2 ∧ (0 ≤ f_rs w ∧ f_rs w ≤ 4500)) := by
  refine ax_start rfl (Nat.le_of_ble_eq_true rfl) (ls := [some (.inr 41), none, none]) rfl (fun hav hcm => ?_)
  clear hav
  have qc : M 41 0 = w 2600 := hg0.1
  have qd1 := hg1.1
  refine ax_iconst dX1_restDays_0 (by decide) (pc' := 1) rfl ?_
  refine ax_istore_n dX1_restDays_1 rfl (by decide) (ls' := [some (.inr 41), some (.inl 0), none]) rfl (pc' := 2) rfl ?_
  refine ax_iconst dX1_restDays_2 (by decide) (pc' := 3) rfl ?_
  refine ax_istore_n dX1_restDays_3 rfl (by decide) (ls' := [some (.inr 41), some (.inl 0), some (.inl 0)]) rfl (pc' := 4) rfl ?_
  have LP1 : ∀ (kq2 : Nat) (i s : Int) (hm1 : w 2600 - i < (kq2 : Nat)) (iv1_0 : 0 ≤ i ∧ i ≤ w 2600) (iv1_1 : f_loop (f_rsS w) i (w 2600) s = f_rs w) (iv1_2 : 0 ≤ s ∧ s ≤ 30 * i), ax_W E l d 0 0 iX1_restDays 4 [some (.inr 41), some (.inl s), some (.inl i)] [] SH M (ax_P (fun z0 M2 => z0 = some (.inl (f_rs w)) ∧ M = M2 ∧ (0 ≤ f_rs w ∧ f_rs w ≤ 4500))) := by
    intro kq2
    induction kq2 with
    | zero =>
      intro i s hm1 iv1_0 iv1_1 iv1_2
      exfalso
      omega
    | succ kq2 ih3 =>
      intro i s hm1 iv1_0 iv1_1 iv1_2
      refine ax_iload_n dX1_restDays_4 rfl rfl (pc' := 5) rfl ?_
      refine ax_aload_n dX1_restDays_5 rfl rfl (pc' := 6) rfl ?_
      refine ax_geti (v := M 41 0) dX1_restDays_6 flX1_27 rfl sh_41 rfl rfl (pc' := 9) rfl ?_
      refine ax_icmp_ge (tgt := 41) dX1_restDays_9 (by decide) (pc' := 12) rfl (fun h9 => ?_) (fun h9 => ?_)
      · refine ax_iload_n dX1_restDays_41 rfl rfl (pc' := 42) rfl ?_
        refine ax_iret dX1_restDays_42 rfl ?_
        refine ⟨rfl, ?_, ?_, ?_⟩
        · refine congrArg (fun z => some (Sum.inl z)) ?_
          exact (f_loop_done (by omega)).symm.trans iv1_1
        · rfl
        · rw [← iv1_1, f_loop_done (by omega)]
          omega
      · have qt := hg0.2 i (by omega) (by omega)
        have qd3 := hg1.2 i (by omega) (by omega)
        have qk := f_kd_cs qd3.1
        have qt1 : M 42 i = f_kd (w (3984 + 3 * i)) := qt.1
        have qt2 : M 43 i = w (3984 + 3 * i + 1) := qt.2.1
        refine ax_iload_n dX1_restDays_12 rfl rfl (pc' := 13) rfl ?_
        refine ax_aload_n dX1_restDays_13 rfl rfl (pc' := 14) rfl ?_
        refine ax_getr (v := 42) dX1_restDays_14 flX1_11 rfl sh_41 rfl (pc' := 17) rfl ?_
        refine ax_iload_n dX1_restDays_17 rfl rfl (pc' := 18) rfl ?_
        refine ax_iald (v := (M 42) i) dX1_restDays_18 sh_42 rfl (by omega) (by omega) ((congrFun rfl i).trans rfl) (pc' := 19) rfl ?_
        refine ax_iconst dX1_restDays_19 (by decide) (pc' := 20) rfl ?_
        refine ax_icmp_ne (tgt := 32) dX1_restDays_20 (by decide) (pc' := 23) rfl (fun h20 => ?_) (fun h20 => ?_)
        · have qv : f_rsS w i s = s + 0 := by
            unfold f_rsS
            rw [if_neg (by omega)]
          refine ax_iconst dX1_restDays_32 (by decide) (pc' := 33) rfl ?_
          refine ax_iadd dX1_restDays_33 (by omega) (pc' := 34) rfl ?_
          refine ax_istore_n dX1_restDays_34 rfl (by decide) (ls' := [some (.inr 41), some (.inl (s + 0)), some (.inl i)]) rfl (pc' := 35) rfl ?_
          refine ax_iinc dX1_restDays_35 rfl (by decide) (by omega) (ls' := [some (.inr 41), some (.inl (s + 0)), some (.inl (i + 1))]) rfl (pc' := 38) rfl ?_
          refine ax_goto dX1_restDays_38 (pc' := 4) (by decide) ?_
          refine ih3 (i + 1) (s + 0) ?_ ?_ ?_ ?_
          · omega
          · omega
          · rw [← iv1_1, f_loop_step (lo := i) (by omega), qv]
          · omega
        · have qd4 := qd3.2.2.2 (by omega)
          have qv : f_rsS w i s = s + (M 43 i) := by
            unfold f_rsS
            rw [if_pos (by omega), qt2]
          refine ax_aload_n dX1_restDays_23 rfl rfl (pc' := 24) rfl ?_
          refine ax_getr (v := 43) dX1_restDays_24 flX1_15 rfl sh_41 rfl (pc' := 27) rfl ?_
          refine ax_iload_n dX1_restDays_27 rfl rfl (pc' := 28) rfl ?_
          refine ax_iald (v := (M 43) i) dX1_restDays_28 sh_43 rfl (by omega) (by omega) ((congrFun rfl i).trans rfl) (pc' := 29) rfl ?_
          refine ax_goto dX1_restDays_29 (pc' := 33) (by decide) ?_
          refine ax_iadd dX1_restDays_33 (by omega) (pc' := 34) rfl ?_
          refine ax_istore_n dX1_restDays_34 rfl (by decide) (ls' := [some (.inr 41), some (.inl (s + ((M 43) i))), some (.inl i)]) rfl (pc' := 35) rfl ?_
          refine ax_iinc dX1_restDays_35 rfl (by decide) (by omega) (ls' := [some (.inr 41), some (.inl (s + ((M 43) i))), some (.inl (i + 1))]) rfl (pc' := 38) rfl ?_
          refine ax_goto dX1_restDays_38 (pc' := 4) (by decide) ?_
          refine ih3 (i + 1) (s + ((M 43) i)) ?_ ?_ ?_ ?_
          · omega
          · omega
          · rw [← iv1_1, f_loop_step (lo := i) (by omega), qv]
          · omega
  refine LP1 (w 2600 - 0 : Int).toNat.succ 0 0 ?_ ?_ ?_ ?_
  · omega
  · omega
  · rfl
  · omega
set_option maxRecDepth 20000 in
theorem s_X11_doStep (E : ax_Env) (l : Launch) (d : Nat) (hd : 6 ≤ d) (M : ax_Mem) (r hand i : Int) (Ls : Int → List f_Ln) (w : Int → Int) (kd xx yy : Int) (hg0 : f_nb M w) (hg1 : f_jv Ls w) (hg2 : f_lrn M 52 Ls) (hg3 : M 42 i = f_kd kd ∧ M 43 i = xx ∧ M 44 i = yy) (hg4 : 0 ≤ i ∧ i < 150) (hg5 : f_dnH w kd xx) (hg6 : kd = 10 → 0 ≤ xx ∧ xx ≤ 5) : ax_G E l d iX11_doStep [.inr 0, .inl r, .inl hand, .inl i] M (fun z0 M2 => z0 = some (.inl (if f_isR w r then f_b (f_dnP w r kd xx yy) else 0)) ∧ (∀ x0 i0 : Int, ¬ ((1 ≤ x0 ∧ x0 < 39) ∨ x0 = 72 ∨ x0 = 73 ∨ x0 = 76 ∨ x0 = 77 ∨ (x0 = 75 ∧ i0 = 3) ∨ (x0 = 75 ∧ i0 = 4)) → M2 x0 i0 = M x0 i0) ∧ (f_nb M2 (if f_isR w r then f_dnW Ls w r hand kd xx yy else w))) := by
  obtain ⟨d, rfl⟩ : ∃ d0, d = d0 + 1 := ⟨d - 1, by omega⟩
  refine ax_start rfl (Nat.le_of_ble_eq_true rfl) (ls := [some (.inr 0), some (.inl r), some (.inl hand), some (.inl i), none, none, none]) rfl (fun hav hcm => ?_)
  have hc1 : -2147483648 ≤ r ∧ r < 2147483648 := hav (.inl r) (by simp)
  have hc2 : -2147483648 ≤ hand ∧ hand < 2147483648 := hav (.inl hand) (by simp)
  have hc3 : -2147483648 ≤ i ∧ i < 2147483648 := hav (.inl i) (by simp)
  clear hav
  have qlo := hg1.1.2.2.1
  have qlb := hg1.1.2.2.2.1
  have qk := f_kd_cs hg5.1
  have qH1 := hg5.2.1
  have qH2 := hg5.2.2.1
  have qH3 := hg5.2.2.2
  have qd : M 1 0 = w 0 := hg0.1.1.1
  refine ax_aload_n dX11_doStep_0 rfl rfl (pc' := 1) rfl ?_
  refine ax_getr (v := 1) dX11_doStep_1 flX11_10 rfl sh_0 rfl (pc' := 4) rfl ?_
  refine ax_iload_n dX11_doStep_4 rfl rfl (pc' := 5) rfl ?_
  by_cases hir : f_isR w r
  · refine ax_invG [.inl r] [] dX11_doStep_5 mlX11_139 sh_1 rfl rfl rfl (Nat.le_of_ble_eq_true rfl) (s_X9_ropeAt_ok E l _ (by omega) _ r w hg0.1 hg1.1.1 hir) (pc' := 8) rfl (fun vv M_5 hq co5 hcm5 => ?_)
    obtain ⟨rfl, rfl⟩ := hq
    refine ax_reS (st2 := [.inr (5 + 4 * r)]) rfl ?_
    have hgr : 0 ≤ r ∧ r < 8 := ⟨hir.1, by omega⟩
    have qrm := f_wm_rm hg0.1 hir
    have ql : M (5 + 4 * r) 1 = f_R w r 1 := qrm.1
    have qlr := (hg1.1.1 r hgr.1 hgr.2).2
    refine ax_astore dX11_doStep_8 (by decide) (ls' := [some (.inr 0), some (.inl r), some (.inl hand), some (.inl i), some (.inr (5 + 4 * r)), none, none]) rfl (pc' := 10) rfl ?_
    refine ax_aload dX11_doStep_10 rfl (pc' := 12) rfl ?_
    refine ax_ifnonnull (tgt := 17) dX11_doStep_12 (by omega) (by decide) (pc' := 15) rfl (fun h12 => ?_) (fun h12 => ?_)
    · refine ax_aload_n dX11_doStep_17 rfl rfl (pc' := 18) rfl ?_
      refine ax_getr (v := 39) dX11_doStep_18 flX11_26 rfl sh_0 rfl (pc' := 21) rfl ?_
      refine ax_getr (v := 41) dX11_doStep_21 flX11_234 rfl sh_39 rfl (pc' := 24) rfl ?_
      refine ax_getr (v := 43) dX11_doStep_24 flX11_404 rfl sh_41 rfl (pc' := 27) rfl ?_
      refine ax_iload_n dX11_doStep_27 rfl rfl (pc' := 28) rfl ?_
      refine ax_iald (v := (M 43) i) dX11_doStep_28 sh_43 rfl (by omega) (by omega) ((congrFun rfl i).trans rfl) (pc' := 29) rfl ?_
      refine ax_reS (st2 := [.inl xx]) (congrArg (fun z => Sum.inl z :: _) (by exact hg3.2.1)) ?_
      refine ax_istore dX11_doStep_29 (by decide) (ls' := [some (.inr 0), some (.inl r), some (.inl hand), some (.inl i), some (.inr (5 + 4 * r)), some (.inl xx), none]) rfl (pc' := 31) rfl ?_
      refine ax_aload_n dX11_doStep_31 rfl rfl (pc' := 32) rfl ?_
      refine ax_getr (v := 39) dX11_doStep_32 flX11_26 rfl sh_0 rfl (pc' := 35) rfl ?_
      refine ax_getr (v := 41) dX11_doStep_35 flX11_234 rfl sh_39 rfl (pc' := 38) rfl ?_
      refine ax_getr (v := 42) dX11_doStep_38 flX11_407 rfl sh_41 rfl (pc' := 41) rfl ?_
      refine ax_iload_n dX11_doStep_41 rfl rfl (pc' := 42) rfl ?_
      refine ax_iald (v := (M 42) i) dX11_doStep_42 sh_42 rfl (by omega) (by omega) ((congrFun rfl i).trans rfl) (pc' := 43) rfl ?_
      refine ax_reS (st2 := [.inl (f_kd kd)]) (congrArg (fun z => Sum.inl z :: _) (by exact hg3.1)) ?_
      by_cases h43_0 : f_kd kd = 0
      · refine ax_reS (st2 := [.inl 0]) (by rw [h43_0]) ?_
        refine ax_tabIn (tgt := 76) dX11_doStep_43 (by decide) (by decide) rfl (by decide) ?_
        have qk0 : kd = 10 := by omega
        have qx5 := hg6 qk0
        refine ax_aload dX11_doStep_76 rfl (pc' := 78) rfl ?_
        refine ax_aload_n dX11_doStep_78 rfl rfl (pc' := 79) rfl ?_
        refine ax_getr (v := 39) dX11_doStep_79 flX11_26 rfl sh_0 rfl (pc' := 82) rfl ?_
        refine ax_getr (v := 41) dX11_doStep_82 flX11_234 rfl sh_39 rfl (pc' := 85) rfl ?_
        refine ax_getr (v := 44) dX11_doStep_85 flX11_410 rfl sh_41 rfl (pc' := 88) rfl ?_
        refine ax_iload_n dX11_doStep_88 rfl rfl (pc' := 89) rfl ?_
        refine ax_iald (v := (M 44) i) dX11_doStep_89 sh_44 rfl (by omega) (by omega) ((congrFun rfl i).trans rfl) (pc' := 90) rfl ?_
        refine ax_reS (st2 := [.inl yy, .inr (5 + 4 * r)]) (congrArg (fun z => Sum.inl z :: _) (by exact hg3.2.2)) ?_
        refine ax_invG [.inl yy] [] dX11_doStep_90 mlX11_143 (f_rp_now ⟨by omega, by omega⟩).1 rfl rfl rfl (Nat.le_of_ble_eq_true rfl) (s_X7_isUntied E l _ (by omega) _ (5 + 4 * r) yy w r (f_rp_now hgr) qrm hg1.1 hgr) (pc' := 93) rfl (fun vv M_90 hq co90 hcm90 => ?_)
        obtain ⟨rfl, rfl⟩ := hq
        refine ax_reS (st2 := [.inl (f_b (0 ≤ yy ∧ yy < f_R w r 1 ∧ f_P w r yy 0 = -1))]) rfl ?_
        refine ax_if_ne (tgt := 98) dX11_doStep_93 (by decide) (pc' := 96) rfl (fun h93 => ?_) (fun h93 => ?_)
        · replace h93 := f_b_1 h93
          have qcy : f_isP w r yy ∧ f_P w r yy 0 = -1 ∧ 0 ≤ xx ∧ xx ≤ 5 := ⟨⟨hir, h93.1, by omega⟩, h93.2.2, by omega, by omega⟩
          have qP : f_dnP w r kd xx yy := Or.inl ⟨qk0, qcy⟩
          have qW : f_dnW Ls w r hand kd xx yy = f_tie w r yy xx hand := by
            unfold f_dnW
            rw [if_pos qk0, if_pos qcy]
          refine ax_aload_n dX11_doStep_98 rfl rfl (pc' := 99) rfl ?_
          refine ax_iload_n dX11_doStep_99 rfl rfl (pc' := 100) rfl ?_
          refine ax_aload_n dX11_doStep_100 rfl rfl (pc' := 101) rfl ?_
          refine ax_getr (v := 39) dX11_doStep_101 flX11_26 rfl sh_0 rfl (pc' := 104) rfl ?_
          refine ax_getr (v := 41) dX11_doStep_104 flX11_234 rfl sh_39 rfl (pc' := 107) rfl ?_
          refine ax_getr (v := 44) dX11_doStep_107 flX11_410 rfl sh_41 rfl (pc' := 110) rfl ?_
          refine ax_iload_n dX11_doStep_110 rfl rfl (pc' := 111) rfl ?_
          refine ax_iald (v := (M 44) i) dX11_doStep_111 sh_44 rfl (by omega) (by omega) ((congrFun rfl i).trans rfl) (pc' := 112) rfl ?_
          refine ax_reS (st2 := [.inl yy, .inl r, .inr 0]) (congrArg (fun z => Sum.inl z :: _) (by exact hg3.2.2)) ?_
          refine ax_iload dX11_doStep_112 rfl (pc' := 114) rfl ?_
          refine ax_iload_n dX11_doStep_114 rfl rfl (pc' := 115) rfl ?_
          refine ax_invG [.inl r, .inl yy, .inl xx, .inl hand] [] dX11_doStep_115 mlX11_150 sh_0 rfl rfl rfl (Nat.le_of_ble_eq_true rfl) (s_X11_tieByHand E l _ (by omega) _ r yy xx hand Ls w hg0 hg1 hir ⟨by omega, by omega⟩ ⟨by omega, by omega⟩) (pc' := 118) rfl (fun vv M_115 hq co115 hcm115 => ?_)
          obtain ⟨rfl, frM_115, fa115_0⟩ := hq
          refine ax_reS (st2 := []) rfl ?_
          refine ax_iconst dX11_doStep_118 (by decide) (pc' := 119) rfl ?_
          refine ax_zret dX11_doStep_119 rfl (by decide) ?_
          refine ⟨rfl, ?_, ?_, ?_⟩
          · refine congrArg (fun z => some (Sum.inl z)) ?_
            rw [if_pos hir]
            unfold f_b
            rw [if_pos qP]
          · intro x0 i0 hai
            exact ((frM_115 x0 i0 (fun h => hai (Or.inl h))).trans rfl)
          · rw [if_pos hir, qW]
            exact fa115_0
        · replace h93 := f_b_0 h93
          have qcn : ¬ (f_isP w r yy ∧ f_P w r yy 0 = -1 ∧ 0 ≤ xx ∧ xx ≤ 5) := fun z => h93 ⟨z.1.2.1, by have := z.1.2.2; omega, z.2.1⟩
          have qP : ¬ f_dnP w r kd xx yy := fun z => by
            rcases z with z | z | z
            · exact qcn z.2
            · omega
            · omega
          have qW : f_dnW Ls w r hand kd xx yy = w := by
            unfold f_dnW
            rw [if_pos qk0, if_neg qcn]
          refine ax_iconst dX11_doStep_96 (by decide) (pc' := 97) rfl ?_
          refine ax_zret dX11_doStep_97 rfl (by decide) ?_
          refine ⟨rfl, ?_, ?_, ?_⟩
          · refine congrArg (fun z => some (Sum.inl z)) ?_
            rw [if_pos hir]
            unfold f_b
            rw [if_neg qP]
          · intro x0 i0 hai
            exact rfl
          · rw [if_pos hir, qW]
            exact hg0
      by_cases h43_2 : f_kd kd = 2
      · refine ax_reS (st2 := [.inl 2]) (by rw [h43_2]) ?_
        refine ax_tabIn (tgt := 120) dX11_doStep_43 (by decide) (by decide) rfl (by decide) ?_
        have qk0 : kd = 11 := by omega
        refine ax_aload dX11_doStep_120 rfl (pc' := 122) rfl ?_
        refine ax_iload dX11_doStep_122 rfl (pc' := 124) rfl ?_
        refine ax_invG [.inl xx] [] dX11_doStep_124 mlX11_154 (f_rp_now ⟨by omega, by omega⟩).1 rfl rfl rfl (Nat.le_of_ble_eq_true rfl) (s_X7_isTied E l _ (by omega) _ (5 + 4 * r) xx w r (f_rp_now hgr) qrm hg1.1 hgr) (pc' := 127) rfl (fun vv M_124 hq co124 hcm124 => ?_)
        obtain ⟨rfl, rfl⟩ := hq
        refine ax_reS (st2 := [.inl (f_b (0 ≤ xx ∧ xx < f_R w r 1 ∧ f_P w r xx 0 ≠ -1))]) rfl ?_
        refine ax_if_ne (tgt := 132) dX11_doStep_127 (by decide) (pc' := 130) rfl (fun h127 => ?_) (fun h127 => ?_)
        · replace h127 := f_b_1 h127
          have qcy : f_isP w r xx ∧ f_P w r xx 0 ≠ -1 := ⟨⟨hir, h127.1, by omega⟩, h127.2.2⟩
          have qP : f_dnP w r kd xx yy := Or.inr (Or.inl ⟨qk0, qcy⟩)
          have qon : f_onl r w (f_sP w r xx 0 (-1)) := f_onl_sP ⟨by omega, by omega⟩ (by omega)
          have qW : f_dnW Ls w r hand kd xx yy = f_sP w r xx 0 (-1) := by
            unfold f_dnW
            rw [if_neg (by omega), if_pos qk0, if_pos qcy]
          refine ax_aload dX11_doStep_132 rfl (pc' := 134) rfl ?_
          refine ax_getr (v := 5 + 4 * r + 1) dX11_doStep_134 flX11_157 rfl (f_rp_now ⟨by omega, by omega⟩).1 rfl (pc' := 137) rfl ?_
          refine ax_iload dX11_doStep_137 rfl (pc' := 139) rfl ?_
          refine ax_iconst dX11_doStep_139 (by decide) (pc' := 140) rfl ?_
          refine ax_iast dX11_doStep_140 (f_rp_now ⟨by omega, by omega⟩).2.1 rfl (by omega) (by omega) (pc' := 141) rfl ?_
          refine ax_iconst dX11_doStep_141 (by decide) (pc' := 142) rfl ?_
          refine ax_zret dX11_doStep_142 rfl (by decide) ?_
          refine ⟨rfl, ?_, ?_, ?_⟩
          · refine congrArg (fun z => some (Sum.inl z)) ?_
            rw [if_pos hir]
            unfold f_b
            rw [if_pos qP]
          · intro x0 i0 hai
            exact (ax_up_miss (by omega) rfl)
          · rw [if_pos hir, qW]
            refine f_nb_onl hgr hg1.1 hg0 qon (fun x0 i0 x1 x2 x3 => (ax_up_miss (by omega) rfl)) (Eq.trans (ax_up_miss (by omega) rfl) ((f_wm_th hg0.1 hgr).trans (f_R_sP ⟨hgr.1, hgr.2, by omega, by omega, by decide, by decide⟩ ⟨hgr.1, hgr.2, by decide, by decide⟩).symm)) (fun _ => ?_)
            refine f_rr_eq (show (ax_up M (5 + 4 * r + 1) xx (-1)) (5 + 4 * r) 1 = M (5 + 4 * r) 1 from (ax_up_miss (by omega) rfl)) (show (ax_up M (5 + 4 * r + 1) xx (-1)) (5 + 4 * r) 2 = M (5 + 4 * r) 2 from (ax_up_miss (by omega) rfl)) (show (ax_up M (5 + 4 * r + 1) xx (-1)) (5 + 4 * r) 3 = M (5 + 4 * r) 3 from (ax_up_miss (by omega) rfl)) (show (ax_up M (5 + 4 * r + 1) xx (-1)) (5 + 4 * r) 4 = M (5 + 4 * r) 4 from (ax_up_miss (by omega) rfl)) (show (ax_up M (5 + 4 * r + 1) xx (-1)) (5 + 4 * r + 1) = f_up (M (5 + 4 * r + 1)) xx (-1) from (ax_up_rowhit rfl)) (show (ax_up M (5 + 4 * r + 1) xx (-1)) (5 + 4 * r + 2) = M (5 + 4 * r + 2) from (ax_up_rowmiss (by omega) rfl)) (show (ax_up M (5 + 4 * r + 1) xx (-1)) (5 + 4 * r + 3) = M (5 + 4 * r + 3) from (ax_up_rowmiss (by omega) rfl)) ?_
            exact f_rr_sP0 hgr ⟨by omega, by omega⟩ (by omega) (fun x hx => f_up_o hx) (f_up_same _ _ _) qrm
        · replace h127 := f_b_0 h127
          have qcn : ¬ (f_isP w r xx ∧ f_P w r xx 0 ≠ -1) := fun z => h127 ⟨z.1.2.1, by have := z.1.2.2; omega, z.2⟩
          have qP : ¬ f_dnP w r kd xx yy := fun z => by
            rcases z with z | z | z
            · omega
            · exact qcn z.2
            · omega
          have qW : f_dnW Ls w r hand kd xx yy = w := by
            unfold f_dnW
            rw [if_neg (by omega), if_pos qk0, if_neg qcn]
          refine ax_iconst dX11_doStep_130 (by decide) (pc' := 131) rfl ?_
          refine ax_zret dX11_doStep_131 rfl (by decide) ?_
          refine ⟨rfl, ?_, ?_, ?_⟩
          · refine congrArg (fun z => some (Sum.inl z)) ?_
            rw [if_pos hir]
            unfold f_b
            rw [if_neg qP]
          · intro x0 i0 hai
            exact rfl
          · rw [if_pos hir, qW]
            exact hg0
      by_cases h43_3 : f_kd kd = 3
      · refine ax_reS (st2 := [.inl 3]) (by rw [h43_3]) ?_
        refine ax_tabIn (tgt := 143) dX11_doStep_43 (by decide) (by decide) rfl (by decide) ?_
        have qk0 : kd = 12 := by omega
        have qP : f_dnP w r kd xx yy := Or.inr (Or.inr ⟨by omega, by omega⟩)
        have qW : f_dnW Ls w r hand kd xx yy = f_puls Ls w r xx := by
          unfold f_dnW
          rw [if_neg (by omega), if_neg (by omega), if_pos qk0]
        refine ax_aload_n dX11_doStep_143 rfl rfl (pc' := 144) rfl ?_
        refine ax_iload_n dX11_doStep_144 rfl rfl (pc' := 145) rfl ?_
        refine ax_iload dX11_doStep_145 rfl (pc' := 147) rfl ?_
        refine ax_invG [.inl r, .inl xx] [] dX11_doStep_147 mlX11_160 sh_0 rfl rfl rfl (Nat.le_of_ble_eq_true rfl) (s_X11_pullNow E l _ (by omega) _ r xx Ls w hg0 hg1 hir hg2) (pc' := 150) rfl (fun vv M_147 hq co147 hcm147 => ?_)
        obtain ⟨rfl, frM_147, fa147_0, fa147_1⟩ := hq
        refine ax_reS (st2 := [.inl (f_b (f_brk Ls (f_stch Ls w r xx).1 r xx ≠ -1))]) rfl ?_
        refine ax_pop dX11_doStep_150 (pc' := 151) rfl ?_
        refine ax_iconst dX11_doStep_151 (by decide) (pc' := 152) rfl ?_
        refine ax_zret dX11_doStep_152 rfl (by decide) ?_
        refine ⟨rfl, ?_, ?_, ?_⟩
        · refine congrArg (fun z => some (Sum.inl z)) ?_
          rw [if_pos hir]
          unfold f_b
          rw [if_pos qP]
        · intro x0 i0 hai
          exact ((frM_147 x0 i0 (fun h => h.elim (fun h => hai (Or.inl h)) (fun h => h.elim (fun h => hai (Or.inr (Or.inl h))) (fun h => h.elim (fun h => hai (Or.inr (Or.inr (Or.inl h)))) (fun h => h.elim (fun h => hai (Or.inr (Or.inr (Or.inr (Or.inl h))))) (fun h => h.elim (fun h => hai (Or.inr (Or.inr (Or.inr (Or.inr (Or.inl h)))))) (fun h => h.elim (fun h => hai (Or.inr (Or.inr (Or.inr (Or.inr (Or.inr (Or.inl h))))))) (fun h => hai (Or.inr (Or.inr (Or.inr (Or.inr (Or.inr (Or.inr h)))))))))))))).trans rfl)
        · rw [if_pos hir, qW]
          exact fa147_0
      by_cases h43_4 : f_kd kd = 4
      · refine ax_reS (st2 := [.inl 4]) (by rw [h43_4]) ?_
        refine ax_tabIn (tgt := 153) dX11_doStep_43 (by decide) (by decide) rfl (by decide) ?_
        have qk0 : kd = 13 := by omega
        have qP : f_dnP w r kd xx yy := Or.inr (Or.inr ⟨by omega, by omega⟩)
        have qW : f_dnW Ls w r hand kd xx yy = f_wets w r xx := by
          unfold f_dnW
          rw [if_neg (by omega), if_neg (by omega), if_neg (by omega), if_pos qk0]
        refine ax_aload dX11_doStep_153 rfl (pc' := 155) rfl ?_
        refine ax_iload dX11_doStep_155 rfl (pc' := 157) rfl ?_
        refine ax_aload_n dX11_doStep_157 rfl rfl (pc' := 158) rfl ?_
        refine ax_getr (v := 1) dX11_doStep_158 flX11_10 rfl sh_0 rfl (pc' := 161) rfl ?_
        refine ax_geti (v := M 1 0) dX11_doStep_161 flX11_122 rfl sh_1 rfl rfl (pc' := 164) rfl ?_
        refine ax_invG [.inl xx, .inl (M 1 0)] [] dX11_doStep_164 mlX11_166 (f_rp_now ⟨by omega, by omega⟩).1 rfl rfl rfl (Nat.le_of_ble_eq_true rfl) (s_X7_wetTo E l _ (by omega) _ (5 + 4 * r) xx (M 1 0) w r (f_rp_now hgr) qrm hg1.1 hgr qd) (pc' := 167) rfl (fun vv M_164 hq co164 hcm164 => ?_)
        obtain ⟨rfl, frM_164, fa164_0⟩ := hq
        refine ax_reS (st2 := []) rfl ?_
        refine ax_iconst dX11_doStep_167 (by decide) (pc' := 168) rfl ?_
        refine ax_zret dX11_doStep_168 rfl (by decide) ?_
        refine ⟨rfl, ?_, ?_, ?_⟩
        · refine congrArg (fun z => some (Sum.inl z)) ?_
          rw [if_pos hir]
          unfold f_b
          rw [if_pos qP]
        · intro x0 i0 hai
          exact ((frM_164 x0 i0 (by omega)).trans rfl)
        · rw [if_pos hir, qW]
          exact f_nb_onl hgr hg1.1 hg0 (f_onl_wets (by omega)) (fun x0 i0 x1 x2 x3 => ((frM_164 x0 i0 (by omega)).trans rfl)) (Eq.trans ((frM_164 (5 + 4 * r) 0 (by omega)).trans rfl) ((f_wm_th hg0.1 hgr).trans (f_wets_0 hgr (by omega)).symm)) (fun _ => fa164_0)
      refine ax_tabOut (tgt := 169) dX11_doStep_43 (by omega) (by decide) ?_
      have qk0 : kd = 14 := by omega
      have qP : f_dnP w r kd xx yy := Or.inr (Or.inr ⟨by omega, by omega⟩)
      have qx14 := qH3 qk0
      have qW : f_dnW Ls w r hand kd xx yy = f_loop (fun _ z => (f_day Ls z).1) 0 xx w := by
        unfold f_dnW
        rw [if_neg (by omega), if_neg (by omega), if_neg (by omega), if_neg (by omega)]
      refine ax_iconst dX11_doStep_169 (by decide) (pc' := 170) rfl ?_
      refine ax_istore dX11_doStep_170 (by decide) (ls' := [some (.inr 0), some (.inl r), some (.inl hand), some (.inl i), some (.inr (5 + 4 * r)), some (.inl xx), some (.inl 0)]) rfl (pc' := 172) rfl ?_
      have LP1 : ∀ (kq2 : Nat) (j : Int) (y : Int → Int) (M1 : ax_Mem) (hm1 : xx - j < (kq2 : Nat)) (fr1 : ∀ x0 i0 : Int, ¬ ((1 ≤ x0 ∧ x0 < 39) ∨ x0 = 72 ∨ x0 = 73 ∨ x0 = 76 ∨ x0 = 77 ∨ (x0 = 75 ∧ i0 = 3) ∨ (x0 = 75 ∧ i0 = 4)) → M1 x0 i0 = M x0 i0) (iv1_0 : 0 ≤ j ∧ j ≤ xx) (iv1_1 : f_loop (fun _ z => (f_day Ls z).1) j xx y = f_loop (fun _ z => (f_day Ls z).1) 0 xx w) (iv1_2 : f_nb M1 y) (iv1_3 : f_jv Ls y) (iv1_4 : y 0 = w 0 + j), ax_W E l (d + 1) 0 0 iX11_doStep 172 [some (.inr 0), some (.inl r), some (.inl hand), some (.inl i), some (.inr (5 + 4 * r)), some (.inl xx), some (.inl j)] [] SH M1 (ax_P (fun z0 M2 => z0 = some (.inl (if f_isR w r then f_b (f_dnP w r kd xx yy) else 0)) ∧ (∀ x0 i0 : Int, ¬ ((1 ≤ x0 ∧ x0 < 39) ∨ x0 = 72 ∨ x0 = 73 ∨ x0 = 76 ∨ x0 = 77 ∨ (x0 = 75 ∧ i0 = 3) ∨ (x0 = 75 ∧ i0 = 4)) → M2 x0 i0 = M x0 i0) ∧ (f_nb M2 (if f_isR w r then f_dnW Ls w r hand kd xx yy else w)))) := by
        intro kq2
        induction kq2 with
        | zero =>
          intro j y M1 hm1 fr1 iv1_0 iv1_1 iv1_2 iv1_3 iv1_4
          exfalso
          omega
        | succ kq2 ih3 =>
          intro j y M1 hm1 fr1 iv1_0 iv1_1 iv1_2 iv1_3 iv1_4
          refine ax_iload dX11_doStep_172 rfl (pc' := 174) rfl ?_
          refine ax_iload dX11_doStep_174 rfl (pc' := 176) rfl ?_
          refine ax_icmp_ge (tgt := 190) dX11_doStep_176 (by decide) (pc' := 179) rfl (fun h176 => ?_) (fun h176 => ?_)
          · have qz : f_loop (fun _ z => (f_day Ls z).1) 0 xx w = y := by
              rw [← iv1_1, f_loop_done (by omega)]
            refine ax_iconst dX11_doStep_190 (by decide) (pc' := 191) rfl ?_
            refine ax_zret dX11_doStep_191 rfl (by decide) ?_
            refine ⟨rfl, ?_, ?_, ?_⟩
            · refine congrArg (fun z => some (Sum.inl z)) ?_
              rw [if_pos hir]
              unfold f_b
              rw [if_pos qP]
            · intro x0 i0 hai
              exact ((fr1 x0 i0 (fun h => h.elim (fun h => hai (Or.inl h)) (fun h => h.elim (fun h => hai (Or.inr (Or.inl h))) (fun h => h.elim (fun h => hai (Or.inr (Or.inr (Or.inl h)))) (fun h => h.elim (fun h => hai (Or.inr (Or.inr (Or.inr (Or.inl h))))) (fun h => h.elim (fun h => hai (Or.inr (Or.inr (Or.inr (Or.inr (Or.inl h)))))) (fun h => h.elim (fun h => hai (Or.inr (Or.inr (Or.inr (Or.inr (Or.inr (Or.inl h))))))) (fun h => hai (Or.inr (Or.inr (Or.inr (Or.inr (Or.inr (Or.inr h)))))))))))))).trans rfl)
            · rw [if_pos hir, qW]
              rw [qz]
              exact iv1_2
          · refine ax_aload_n dX11_doStep_179 rfl rfl (pc' := 180) rfl ?_
            refine ax_invG [] [] dX11_doStep_180 mlX11_192 sh_0 rfl rfl rfl (Nat.le_of_ble_eq_true rfl) (s_X11_passDay E l _ (by omega) _ Ls y iv1_2 iv1_3 (f_lrn_fr (M := M) (fun x0 i0 hx => ((fr1 x0 i0 (by omega)).trans rfl)) hg2)) (pc' := 183) rfl (fun vv M_180 hq co180 hcm180 => ?_)
            obtain ⟨rfl, frM_180, fa180_0⟩ := hq
            refine ax_reS (st2 := [.inl ((f_day Ls y).2)]) rfl ?_
            have cc180 : -2147483648 ≤ (f_day Ls y).2 ∧ (f_day Ls y).2 < 2147483648 := co180 _ rfl
            have qdo := f_day_ok (Ls := Ls) (w := y) iv1_3 (by omega)
            refine ax_pop dX11_doStep_183 (pc' := 184) rfl ?_
            refine ax_iinc dX11_doStep_184 rfl (by decide) (by omega) (ls' := [some (.inr 0), some (.inl r), some (.inl hand), some (.inl i), some (.inr (5 + 4 * r)), some (.inl xx), some (.inl (j + 1))]) rfl (pc' := 187) rfl ?_
            refine ax_goto dX11_doStep_187 (pc' := 172) (by decide) ?_
            refine ih3 (j + 1) ((f_day Ls y).1) M_180 ?_ ?_ ?_ ?_ ?_ ?_ ?_
            · omega
            · intro x0 i0 hai
              exact ((frM_180 x0 i0 (fun h => h.elim (fun h => hai (Or.inl h)) (fun h => h.elim (fun h => hai (Or.inr (Or.inl h))) (fun h => h.elim (fun h => hai (Or.inr (Or.inr (Or.inl h)))) (fun h => h.elim (fun h => hai (Or.inr (Or.inr (Or.inr (Or.inl h))))) (fun h => h.elim (fun h => hai (Or.inr (Or.inr (Or.inr (Or.inr (Or.inl h)))))) (fun h => h.elim (fun h => hai (Or.inr (Or.inr (Or.inr (Or.inr (Or.inr (Or.inl h))))))) (fun h => hai (Or.inr (Or.inr (Or.inr (Or.inr (Or.inr (Or.inr h)))))))))))))).trans ((fr1 x0 i0 (fun h => h.elim (fun h => hai (Or.inl h)) (fun h => h.elim (fun h => hai (Or.inr (Or.inl h))) (fun h => h.elim (fun h => hai (Or.inr (Or.inr (Or.inl h)))) (fun h => h.elim (fun h => hai (Or.inr (Or.inr (Or.inr (Or.inl h))))) (fun h => h.elim (fun h => hai (Or.inr (Or.inr (Or.inr (Or.inr (Or.inl h)))))) (fun h => h.elim (fun h => hai (Or.inr (Or.inr (Or.inr (Or.inr (Or.inr (Or.inl h))))))) (fun h => hai (Or.inr (Or.inr (Or.inr (Or.inr (Or.inr (Or.inr h)))))))))))))).trans rfl))
            · omega
            · exact (f_loop_step (by omega)).symm.trans iv1_1
            · exact fa180_0
            · exact qdo.1
            · rw [qdo.2.1]
              omega
      refine LP1 (xx - 0 : Int).toNat.succ 0 w M ?_ ?_ ?_ ?_ ?_ ?_ ?_
      · omega
      · exact fun a i _ => rfl
      · omega
      · rfl
      · exact hg0
      · exact hg1
      · omega
    · exfalso
      omega
  · refine ax_invG [.inl r] [] dX11_doStep_5 mlX11_139 sh_1 rfl rfl rfl (Nat.le_of_ble_eq_true rfl) (s_X9_ropeAt_no E l _ (by omega) _ r w hg0.1 hg1.1.1 hir) (pc' := 8) rfl (fun vv M_5 hq co5 hcm5 => ?_)
    obtain ⟨rfl, rfl⟩ := hq
    refine ax_reS (st2 := [.inr (-1)]) rfl ?_
    refine ax_astore dX11_doStep_8 (by decide) (ls' := [some (.inr 0), some (.inl r), some (.inl hand), some (.inl i), some (.inr (-1)), none, none]) rfl (pc' := 10) rfl ?_
    refine ax_aload dX11_doStep_10 rfl (pc' := 12) rfl ?_
    refine ax_ifnonnull (tgt := 17) dX11_doStep_12 (by decide) (by decide) (pc' := 15) rfl (fun h12 => ?_) (fun h12 => ?_)
    · exfalso
      omega
    · refine ax_iconst dX11_doStep_15 (by decide) (pc' := 16) rfl ?_
      refine ax_zret dX11_doStep_16 rfl (by decide) ?_
      refine ⟨rfl, ?_, ?_, ?_⟩
      · refine congrArg (fun z => some (Sum.inl z)) ?_
        rw [if_neg hir]
      · intro x0 i0 hai
        exact rfl
      · rw [if_neg hir]
        exact hg0
