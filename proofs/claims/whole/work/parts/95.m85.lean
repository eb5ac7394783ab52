/-! moves: marks stay -/
def f_ct (l : Int) : List Int → Int
  | [] => 0
  | x :: tl => f_b (x = l) + f_ct l tl
theorem f_ct_app (l : Int) : ∀ (A B : List Int), f_ct l (A ++ B) = f_ct l A + f_ct l B
  | [], B => (Int.zero_add _).symm
  | x :: tl, B => by
    show f_b (x = l) + f_ct l (tl ++ B) = f_b (x = l) + f_ct l tl + f_ct l B
    rw [f_ct_app l tl B]
    omega
def f_mq (L : List Int) : Int × Int := (f_ct 0 L - f_ct 1 L, f_ct 2 L % 2)
def f_mkI (m : Int × Int) (s : f_Bf) : Prop := ∀ L, f_vl L → s.1 (f_code L) ≠ -1 → f_mq L = m
theorem f_mkI_rch {m : Int × Int} {s : f_Bf} {K : List Int} {step : Int} (h : f_mkI m s) (hk : f_vl K) (hm : f_mq K = m) : f_mkI m (f_rch (f_code K) step s) := by
  intro L hL hn
  unfold f_rch at hn
  split at hn
  · have hn2 : f_up s.1 (f_code K) step (f_code L) ≠ -1 := hn
    by_cases e : L = K
    · rw [e]
      exact hm
    · unfold f_up at hn2
      rw [if_neg (fun q => e (f_code_inj hL hk q))] at hn2
      exact h L hL hn2
  · exact h L hL hn
theorem f_b01 (p : Prop) [Decidable p] : f_b p = 0 ∨ f_b p = 1 := by
  unfold f_b
  split <;> omega
theorem f_mq_swap {A B : List Int} {x y : Int} : f_mq (A ++ y :: x :: B) = f_mq (A ++ x :: y :: B) := by
  unfold f_mq
  have e : ∀ l, f_ct l (A ++ y :: x :: B) = f_ct l (A ++ x :: y :: B) := by
    intro l
    rw [f_ct_app, f_ct_app]
    show f_ct l A + (f_b (y = l) + (f_b (x = l) + f_ct l B)) = f_ct l A + (f_b (x = l) + (f_b (y = l) + f_ct l B))
    omega
  rw [e, e, e]
theorem f_mq_pair {A B : List Int} {x y : Int} (h : (x = 2 ∧ y = 2) ∨ (x = 0 ∧ y = 1) ∨ (x = 1 ∧ y = 0)) : f_mq (A ++ x :: y :: B) = f_mq (A ++ B) := by
  unfold f_mq
  have e : ∀ l, f_ct l (A ++ x :: y :: B) = f_ct l (A ++ B) + f_b (x = l) + f_b (y = l) := by
    intro l
    rw [f_ct_app, f_ct_app]
    show f_ct l A + (f_b (x = l) + (f_b (y = l) + f_ct l B)) = _
    omega
  rw [e, e, e]
  rcases h with ⟨rfl, rfl⟩ | ⟨rfl, rfl⟩ | ⟨rfl, rfl⟩
  · refine Prod.ext ?_ ?_
    · show f_ct 0 (A ++ B) + 0 + 0 - (f_ct 1 (A ++ B) + 0 + 0) = f_ct 0 (A ++ B) - f_ct 1 (A ++ B)
      omega
    · show (f_ct 2 (A ++ B) + 1 + 1) % 2 = f_ct 2 (A ++ B) % 2
      omega
  · refine Prod.ext ?_ ?_
    · show f_ct 0 (A ++ B) + 1 + 0 - (f_ct 1 (A ++ B) + 0 + 1) = f_ct 0 (A ++ B) - f_ct 1 (A ++ B)
      omega
    · show (f_ct 2 (A ++ B) + 0 + 0) % 2 = f_ct 2 (A ++ B) % 2
      omega
  · refine Prod.ext ?_ ?_
    · show f_ct 0 (A ++ B) + 0 + 1 - (f_ct 1 (A ++ B) + 1 + 0) = f_ct 0 (A ++ B) - f_ct 1 (A ++ B)
      omega
    · show (f_ct 2 (A ++ B) + 0 + 0) % 2 = f_ct 2 (A ++ B) % 2
      omega
theorem f_mkI_gc {m : Int × Int} {step : Int} : ∀ (R A : List Int) (s : f_Bf), f_vl (A ++ R) → f_mq (A ++ R) = m → f_mkI m s → f_mkI m (f_gc step A R s)
  | [], A, s, _, _, h => by
    rw [f_gc_1 (R := []) (by decide)]
    exact h
  | [x], A, s, _, _, h => by
    rw [f_gc_1 (R := [x]) (by simp only [List.length_cons, List.length_nil]; omega)]
    exact h
  | x :: y :: B, A, s, hv, hm, h => by
    rw [f_gc_2]
    have hAB := f_vl_AB hv
    have hx : (0 ≤ x ∧ x ≤ 2) ∧ 0 ≤ y ∧ y ≤ 2 := by
      have q := f_lt3_cons.mp (f_lt3_app.mp hv.1).2
      exact ⟨q.1, (f_lt3_cons.mp q.2).1⟩
    have h1 : f_mkI m (f_goe step A x y B s) := by
      unfold f_goe
      split
      · refine f_mkI_rch h hAB.1 ?_
        rw [← hm]
        exact (f_mq_pair (by omega)).symm
      · exact h
    have h2 : f_mkI m (f_chg step A x y B (f_goe step A x y B s)) := by
      unfold f_chg
      split
      · exact f_mkI_rch h1 hAB.2 (f_mq_swap.trans hm)
      · exact h1
    exact f_mkI_gc (y :: B) (A ++ [x]) _ (by rw [List.append_assoc]; exact hv) (by rw [List.append_assoc]; exact hm) h2
theorem f_mkI_cm3 {m : Int × Int} {step : Int} {A B : List Int} {s : f_Bf} (hl : f_lt3 (A ++ B)) (hl2 : ((A ++ B).length : Int) ≤ 5) (hm : f_mq (A ++ B) = m) (h : f_mkI m s) : f_mkI m (f_cm3 step A B s) := f_mkI_rch (f_mkI_rch (f_mkI_rch h (f_vl_in hl hl2 (by omega) (by omega)) ((f_mq_pair (by omega)).trans hm)) (f_vl_in hl hl2 (by omega) (by omega)) ((f_mq_pair (by omega)).trans hm)) (f_vl_in hl hl2 (by omega) (by omega)) ((f_mq_pair (by omega)).trans hm)
theorem f_mkI_cm {m : Int × Int} {step : Int} : ∀ (R A : List Int) (s : f_Bf), f_lt3 (A ++ R) → ((A ++ R).length : Int) ≤ 5 → f_mq (A ++ R) = m → f_mkI m s → f_mkI m (f_cm step A R s)
  | [], A, s, h1, h2, hm, h => f_mkI_cm3 h1 h2 hm h
  | x :: B, A, s, h1, h2, hm, h => f_mkI_cm B (A ++ [x]) _ (by rw [List.append_assoc]; exact h1) (by rw [List.append_assoc]; exact h2) (by rw [List.append_assoc]; exact hm) (f_mkI_cm3 h1 h2 hm h)
theorem f_mkI_mo {m : Int × Int} {step : Int} {L : List Int} {s : f_Bf} (hl : f_vl L) (hm : f_mq L = m) (h : f_mkI m s) : f_mkI m (f_mo step L s) := by
  have a := f_mkI_gc (step := step) L [] s hl hm h
  unfold f_mo
  split
  · exact f_mkI_cm L [] _ hl.1 (by show (L.length : Int) ≤ 5; omega) hm a
  · exact a
theorem f_mkI_bfs {m : Int × Int} {goal : Int} : ∀ (g : Nat) (i : Int) (s : f_Bf), 0 ≤ i → f_bfI s → f_mkI m s → f_mkI m (f_bfs goal g i s)
  | 0, i, s, _, _, h => h
  | g + 1, i, s, hi, hb, h => by
    show f_mkI m (if i < s.2.2 ∧ s.1 goal = -1 ∧ s.1 (s.2.1 i) < 12 then f_bfs goal g (i + 1) (f_mo (s.1 (s.2.1 i) + 1) (f_dec (s.2.1 i)) s) else s)
    split
    · rename_i hc
      obtain ⟨⟨L, q1, q2⟩, q3⟩ := f_bf_at hb ⟨hi, hc.1⟩
      rw [q1] at q3 hc ⊢
      rw [f_dec_code q2]
      have hm : f_mq L = m := h L q2 (by omega)
      exact f_mkI_bfs g (i + 1) _ (by omega) (f_bf_mo (by omega) q2 hb) (f_mkI_mo q2 hm h)
    · exact h
theorem F_moves_mk {mv qv w : Int → Int} {x y : Int} (hx : f_vl (f_shL w x)) (hy : f_vl (f_shL w y)) (h : f_mq (f_shL w y) ≠ f_mq (f_shL w x)) : F_moves mv qv w x y = -1 := by
  have h0 : f_mkI (f_mq (f_shL w x)) (f_bf0 mv qv w x) := by
    refine f_mkI_rch (fun L hL hn => ?_) hx rfl
    have hr := f_vl_rg hL
    have e : f_fil mv 17496 (f_code L) = -1 := if_pos hr
    exact absurd e hn
  have h1 := f_mkI_bfs (goal := f_code (f_shL w y)) 17496 0 _ (Int.le_refl 0) (f_bf_0 hx) h0
  by_cases e : F_moves mv qv w x y = -1
  · exact e
  · exact absurd (h1 _ hy e) h
theorem f_cnL_ct {w : Int → Int} {k l : Int} (h : 0 ≤ w (2601 + k)) : f_cnL w k l = f_ct l (f_shL w k) := by
  have key : ∀ (n : Nat) (i v : Int), f_loop (f_cnS w k l) i (i + (n : Int)) v = v + f_ct l (f_lst (fun i => w (2606 + 7 * k + i)) n i) := by
    intro n
    induction n with
    | zero =>
      intro i v
      rw [f_loop_done (by omega)]
      exact (Int.add_zero v).symm
    | succ n ih =>
      intro i v
      rw [f_loop_step (by omega), show i + ((n + 1 : Nat) : Int) = i + 1 + (n : Int) by omega, ih]
      show v + f_b (w (2606 + 7 * k + i) = l) + _ = v + (f_b (w (2606 + 7 * k + i) = l) + _)
      omega
  have e := key (w (2601 + k)).toNat 0 0
  rw [show 0 + (((w (2601 + k)).toNat : Nat) : Int) = w (2601 + k) by omega, Int.zero_add] at e
  exact e
theorem f_mark_mq {w : Int → Int} {k : Int} (h : f_shp w) (hk : 0 ≤ k ∧ k < 4) : f_mq (f_shL w k) = (f_mark w k 1, f_mark w k 2) := by
  have e := h k hk.1 hk.2
  rw [f_mark_1 e.1.1, f_mark_2 e.1.1 e.2, f_cnL_ct e.1.1, f_cnL_ct e.1.1, f_cnL_ct e.1.1]
  rfl
theorem f_rl_0 {mv qv fa qu : Int → Int} : f_rl (f_fil mv 17496, qv, 0) (f_flv fa 3280 (-1), qu, 0) := by
  refine ⟨rfl, fun L hL => ?_, [], rfl, List.nodup_nil, fun L h => absurd h List.not_mem_nil, trivial, trivial⟩
  have h1 := f_vl_rg hL
  have h2 := f_c3_rg hL
  show f_fil mv 17496 (f_code L) = f_flv fa 3280 (-1) (f_c3 L)
  unfold f_fil f_flv
  rw [if_pos h1, if_pos h2]
set_option maxRecDepth 20000 in
theorem s_X5_fewest (E : ax_Env) (l : Launch) (d : Nat) (hd : 3 ≤ d) (M : ax_Mem) (fm to : Int) (mv qv : Int → Int) (La Lb : List Int) {fa : Int → Int} (hfa : M 89 = fa) {qu : Int → Int} (hqu : M 90 = qu) {lt : Int → Int} (hlt : M 91 = lt) (hg0 : fm = f_c3 La) (hg1 : to = f_c3 Lb) (hg2 : f_vl La) (hg3 : f_vl Lb) : ax_G E l d iX5_fewest [.inr 88, .inl fm, .inl to] M (fun z0 M2 => z0 = some (.inl ((f_bfs (f_code Lb) 17496 0 (f_rch (f_code La) 0 (f_fil mv 17496, qv, 0))).1 (f_code Lb))) ∧ (∀ x0 i0 : Int, ¬ (x0 = 89 ∨ x0 = 90 ∨ x0 = 91 ∨ (x0 = 88 ∧ i0 = 3) ∨ (x0 = 88 ∧ i0 = 4)) → M2 x0 i0 = M x0 i0)) := by
  obtain ⟨d, rfl⟩ : ∃ d0, d = d0 + 1 := ⟨d - 1, by omega⟩
  refine ax_start rfl (Nat.le_of_ble_eq_true rfl) (ls := [some (.inr 88), some (.inl fm), some (.inl to), none, none]) rfl (fun hav hcm => ?_)
  have hc1 : -2147483648 ≤ fm ∧ fm < 2147483648 := hav (.inl fm) (by simp)
  have hc2 : -2147483648 ≤ to ∧ to < 2147483648 := hav (.inl to) (by simp)
  clear hav
  have qa := f_c3_rg hg2
  have qb := f_c3_rg hg3
  refine ax_iload_n dX5_fewest_0 rfl rfl (pc' := 1) rfl ?_
  refine ax_sipush dX5_fewest_1 (by decide) (pc' := 4) rfl ?_
  refine ax_insG [.inl fm, .inl 3280] [] dX5_fewest_4 mlX5_21 rfl rfl (Nat.le_of_ble_eq_true rfl) (s_X11_isIn E l _ (by omega) _ fm 3280) (pc' := 7) rfl (fun vv M_4 hq co4 hcm4 => ?_)
  obtain ⟨rfl, rfl⟩ := hq
  refine ax_reS (st2 := [.inl (f_b (0 ≤ fm ∧ fm < 3280))]) rfl ?_
  refine ax_if_eq (tgt := 20) dX5_fewest_7 (by decide) (pc' := 10) rfl (fun h7 => ?_) (fun h7 => ?_)
  · replace h7 := f_b_0 h7
    exfalso
    omega
  · replace h7 := f_b_1 h7
    refine ax_iload_n dX5_fewest_10 rfl rfl (pc' := 11) rfl ?_
    refine ax_sipush dX5_fewest_11 (by decide) (pc' := 14) rfl ?_
    refine ax_insG [.inl to, .inl 3280] [] dX5_fewest_14 mlX5_21 rfl rfl (Nat.le_of_ble_eq_true rfl) (s_X11_isIn E l _ (by omega) _ to 3280) (pc' := 17) rfl (fun vv M_14 hq co14 hcm14 => ?_)
    obtain ⟨rfl, rfl⟩ := hq
    refine ax_reS (st2 := [.inl (f_b (0 ≤ to ∧ to < 3280))]) rfl ?_
    refine ax_if_ne (tgt := 22) dX5_fewest_17 (by decide) (pc' := 20) rfl (fun h17 => ?_) (fun h17 => ?_)
    · replace h17 := f_b_1 h17
      refine ax_aload_n dX5_fewest_22 rfl rfl (pc' := 23) rfl ?_
      refine ax_getr (v := 89) dX5_fewest_23 flX5_11 rfl sh_88 rfl (pc' := 26) rfl ?_
      refine ax_iconst dX5_fewest_26 (by decide) (pc' := 27) rfl ?_
      refine ax_insG [.inr 89, .inl (-1)] [] dX5_fewest_27 mlX5_25 rfl rfl (Nat.le_of_ble_eq_true rfl) (s_J7_fill_53178 E l _ (by omega) _ 89 (-1) 3280 hfa sh_89 (by decide)) (pc' := 30) rfl (fun vv M_27 hq co27 hcm27 => ?_)
      obtain ⟨rfl, frM_27, mrM_27_0⟩ := hq
      refine ax_reS (st2 := []) rfl ?_
      refine ax_aload_n dX5_fewest_30 rfl rfl (pc' := 31) rfl ?_
      refine ax_getr (v := 89) dX5_fewest_31 flX5_11 rfl sh_88 rfl (pc' := 34) rfl ?_
      refine ax_iload_n dX5_fewest_34 rfl rfl (pc' := 35) rfl ?_
      refine ax_iconst dX5_fewest_35 (by decide) (pc' := 36) rfl ?_
      refine ax_iast dX5_fewest_36 sh_89 rfl (by omega) (by omega) (pc' := 37) rfl ?_
      refine ax_aload_n dX5_fewest_37 rfl rfl (pc' := 38) rfl ?_
      refine ax_getr (v := 90) dX5_fewest_38 flX5_15 rfl sh_88 rfl (pc' := 41) rfl ?_
      refine ax_iconst dX5_fewest_41 (by decide) (pc' := 42) rfl ?_
      refine ax_iload_n dX5_fewest_42 rfl rfl (pc' := 43) rfl ?_
      refine ax_iast dX5_fewest_43 sh_90 rfl (by omega) (by omega) (pc' := 44) rfl ?_
      refine ax_aload_n dX5_fewest_44 rfl rfl (pc' := 45) rfl ?_
      refine ax_iconst dX5_fewest_45 (by decide) (pc' := 46) rfl ?_
      refine ax_puti dX5_fewest_46 flX5_31 (Or.inl rfl) sh_88 rfl (pc' := 49) rfl ?_
      refine ax_iconst dX5_fewest_49 (by decide) (pc' := 50) rfl ?_
      refine ax_istore_n dX5_fewest_50 rfl (by decide) (ls' := [some (.inr 88), some (.inl fm), some (.inl to), some (.inl 0), none]) rfl (pc' := 51) rfl ?_
      have LP1 : ∀ (kq2 : Nat) (i : Int) (fa1 qu1 : Int → Int) (n1 : Int) (s1 : f_Bf) (M1 : ax_Mem) (hm1 : 3280 - i < (kq2 : Nat)) (fr1 : ∀ x0 i0 : Int, ¬ (x0 = 89 ∨ x0 = 90 ∨ (x0 = 88 ∧ i0 = 4) ∨ x0 = 91 ∨ (x0 = 88 ∧ i0 = 3)) → M1 x0 i0 = (ax_up (ax_up (ax_up M_27 89 fm 0) 90 0 fm) 88 4 1) x0 i0) (mr1_89 : M1 89 = fa1) (mr1_90 : M1 90 = qu1) (ms1_88_4 : M1 88 4 = n1) (iv1_0 : 0 ≤ i ∧ i ≤ 3280) (iv1_1 : f_rl s1 (fa1, qu1, n1)) (iv1_2 : (f_bfs (f_code Lb) (17496 - i).toNat i s1).1 (f_code Lb) = (f_bfs (f_code Lb) 17496 0 (f_rch (f_code La) 0 (f_fil mv 17496, qv, 0))).1 (f_code Lb)), ax_W E l (d + 1) 0 0 iX5_fewest 51 [some (.inr 88), some (.inl fm), some (.inl to), some (.inl i), none] [] SH M1 (ax_P (fun z0 M2 => z0 = some (.inl ((f_bfs (f_code Lb) 17496 0 (f_rch (f_code La) 0 (f_fil mv 17496, qv, 0))).1 (f_code Lb))) ∧ (∀ x0 i0 : Int, ¬ (x0 = 89 ∨ x0 = 90 ∨ x0 = 91 ∨ (x0 = 88 ∧ i0 = 3) ∨ (x0 = 88 ∧ i0 = 4)) → M2 x0 i0 = M x0 i0))) := by
        intro kq2
        induction kq2 with
        | zero =>
          intro i fa1 qu1 n1 s1 M1 hm1 fr1 mr1_89 mr1_90 ms1_88_4 iv1_0 iv1_1 iv1_2
          exfalso
          omega
        | succ kq2 ih3 =>
          intro i fa1 qu1 n1 s1 M1 hm1 fr1 mr1_89 mr1_90 ms1_88_4 iv1_0 iv1_1 iv1_2
          refine ax_iload_n dX5_fewest_51 rfl rfl (pc' := 52) rfl ?_
          refine ax_sipush dX5_fewest_52 (by decide) (pc' := 55) rfl ?_
          refine ax_icmp_ge (tgt := 122) dX5_fewest_55 (by decide) (pc' := 58) rfl (fun h55 => ?_) (fun h55 => ?_)
          · have qn := f_rl_le iv1_1
            have qn2 : n1 ≤ 3280 := qn.2
            have qz : fa1 to = (f_bfs (f_code Lb) 17496 0 (f_rch (f_code La) 0 (f_fil mv 17496, qv, 0))).1 (f_code Lb) := by
              rw [← iv1_2, f_bfs_stop (fun q => (by have q1 : i < s1.2.2 := q.1; have q2 : s1.2.2 = n1 := iv1_1.1; omega)), hg1]
              exact (iv1_1.2.1 Lb hg3).symm
            refine ax_aload_n dX5_fewest_122 rfl rfl (pc' := 123) rfl ?_
            refine ax_getr (v := 89) dX5_fewest_123 flX5_11 rfl sh_88 rfl (pc' := 126) rfl ?_
            refine ax_iload_n dX5_fewest_126 rfl rfl (pc' := 127) rfl ?_
            refine ax_iald (v := fa1 to) dX5_fewest_127 sh_89 rfl (by omega) (by omega) ((congrFun mr1_89 to).trans rfl) (pc' := 128) rfl ?_
            refine ax_iret dX5_fewest_128 rfl ?_
            refine ⟨rfl, ?_, ?_⟩
            · refine congrArg (fun z => some (Sum.inl z)) ?_
              exact qz
            · intro x0 i0 hai
              exact ((fr1 x0 i0 (fun h => h.elim (fun h => hai (Or.inl h)) (fun h => h.elim (fun h => hai (Or.inr (Or.inl h))) (fun h => h.elim (fun h => hai (Or.inr (Or.inr (Or.inr (Or.inr h))))) (fun h => h.elim (fun h => hai (Or.inr (Or.inr (Or.inl h)))) (fun h => hai (Or.inr (Or.inr (Or.inr (Or.inl h)))))))))).trans (ax_up_miss (fun h => hai (Or.inr (Or.inr (Or.inr (Or.inr h))))) (ax_up_miss (fun h => hai (Or.inr (Or.inl h.1))) (ax_up_miss (fun h => hai (Or.inl h.1)) ((frM_27 x0 i0 (fun h => hai (Or.inl h))).trans rfl)))))
          · refine ax_iload_n dX5_fewest_58 rfl rfl (pc' := 59) rfl ?_
            refine ax_aload_n dX5_fewest_59 rfl rfl (pc' := 60) rfl ?_
            refine ax_geti (v := n1) dX5_fewest_60 flX5_31 rfl sh_88 ms1_88_4 rfl (pc' := 63) rfl ?_
            refine ax_icmp_ge (tgt := 122) dX5_fewest_63 (by decide) (pc' := 66) rfl (fun h63 => ?_) (fun h63 => ?_)
            · have qz : fa1 to = (f_bfs (f_code Lb) 17496 0 (f_rch (f_code La) 0 (f_fil mv 17496, qv, 0))).1 (f_code Lb) := by
                rw [← iv1_2, f_bfs_stop (fun q => (by have q1 : i < s1.2.2 := q.1; have q2 : s1.2.2 = n1 := iv1_1.1; omega)), hg1]
                exact (iv1_1.2.1 Lb hg3).symm
              refine ax_aload_n dX5_fewest_122 rfl rfl (pc' := 123) rfl ?_
              refine ax_getr (v := 89) dX5_fewest_123 flX5_11 rfl sh_88 rfl (pc' := 126) rfl ?_
              refine ax_iload_n dX5_fewest_126 rfl rfl (pc' := 127) rfl ?_
              refine ax_iald (v := fa1 to) dX5_fewest_127 sh_89 rfl (by omega) (by omega) ((congrFun mr1_89 to).trans rfl) (pc' := 128) rfl ?_
              refine ax_iret dX5_fewest_128 rfl ?_
              refine ⟨rfl, ?_, ?_⟩
              · refine congrArg (fun z => some (Sum.inl z)) ?_
                exact qz
              · intro x0 i0 hai
                exact ((fr1 x0 i0 (fun h => h.elim (fun h => hai (Or.inl h)) (fun h => h.elim (fun h => hai (Or.inr (Or.inl h))) (fun h => h.elim (fun h => hai (Or.inr (Or.inr (Or.inr (Or.inr h))))) (fun h => h.elim (fun h => hai (Or.inr (Or.inr (Or.inl h)))) (fun h => hai (Or.inr (Or.inr (Or.inr (Or.inl h)))))))))).trans (ax_up_miss (fun h => hai (Or.inr (Or.inr (Or.inr (Or.inr h))))) (ax_up_miss (fun h => hai (Or.inr (Or.inl h.1))) (ax_up_miss (fun h => hai (Or.inl h.1)) ((frM_27 x0 i0 (fun h => hai (Or.inl h))).trans rfl)))))
            · refine ax_aload_n dX5_fewest_66 rfl rfl (pc' := 67) rfl ?_
              refine ax_getr (v := 89) dX5_fewest_67 flX5_11 rfl sh_88 rfl (pc' := 70) rfl ?_
              refine ax_iload_n dX5_fewest_70 rfl rfl (pc' := 71) rfl ?_
              refine ax_iald (v := fa1 to) dX5_fewest_71 sh_89 rfl (by omega) (by omega) ((congrFun mr1_89 to).trans rfl) (pc' := 72) rfl ?_
              refine ax_iconst dX5_fewest_72 (by decide) (pc' := 73) rfl ?_
              refine ax_icmp_ne (tgt := 122) dX5_fewest_73 (by decide) (pc' := 76) rfl (fun h73 => ?_) (fun h73 => ?_)
              · have qz : fa1 to = (f_bfs (f_code Lb) 17496 0 (f_rch (f_code La) 0 (f_fil mv 17496, qv, 0))).1 (f_code Lb) := by
                  rw [← iv1_2, f_bfs_stop (fun q => h73 (by rw [hg1]; exact (iv1_1.2.1 Lb hg3).symm.trans q.2.1)), hg1]
                  exact (iv1_1.2.1 Lb hg3).symm
                refine ax_aload_n dX5_fewest_122 rfl rfl (pc' := 123) rfl ?_
                refine ax_getr (v := 89) dX5_fewest_123 flX5_11 rfl sh_88 rfl (pc' := 126) rfl ?_
                refine ax_iload_n dX5_fewest_126 rfl rfl (pc' := 127) rfl ?_
                refine ax_iald (v := fa1 to) dX5_fewest_127 sh_89 rfl (by omega) (by omega) ((congrFun mr1_89 to).trans rfl) (pc' := 128) rfl ?_
                refine ax_iret dX5_fewest_128 rfl ?_
                refine ⟨rfl, ?_, ?_⟩
                · refine congrArg (fun z => some (Sum.inl z)) ?_
                  exact qz
                · intro x0 i0 hai
                  exact ((fr1 x0 i0 (fun h => h.elim (fun h => hai (Or.inl h)) (fun h => h.elim (fun h => hai (Or.inr (Or.inl h))) (fun h => h.elim (fun h => hai (Or.inr (Or.inr (Or.inr (Or.inr h))))) (fun h => h.elim (fun h => hai (Or.inr (Or.inr (Or.inl h)))) (fun h => hai (Or.inr (Or.inr (Or.inr (Or.inl h)))))))))).trans (ax_up_miss (fun h => hai (Or.inr (Or.inr (Or.inr (Or.inr h))))) (ax_up_miss (fun h => hai (Or.inr (Or.inl h.1))) (ax_up_miss (fun h => hai (Or.inl h.1)) ((frM_27 x0 i0 (fun h => hai (Or.inl h))).trans rfl)))))
              · obtain ⟨L9, qv9, qs9, qt9, q0, q12⟩ := f_rl_at iv1_1 ⟨by omega, h63⟩
                have qc9 := f_c3_rg qv9
                have q0f : 0 ≤ fa1 (f_c3 L9) := q0
                have q12f : fa1 (f_c3 L9) ≤ 12 := q12
                have qs91 : s1.1 (f_code L9) = fa1 (f_c3 L9) := iv1_1.2.1 L9 qv9
                refine ax_aload_n dX5_fewest_76 rfl rfl (pc' := 77) rfl ?_
                refine ax_getr (v := 89) dX5_fewest_77 flX5_11 rfl sh_88 rfl (pc' := 80) rfl ?_
                refine ax_aload_n dX5_fewest_80 rfl rfl (pc' := 81) rfl ?_
                refine ax_getr (v := 90) dX5_fewest_81 flX5_15 rfl sh_88 rfl (pc' := 84) rfl ?_
                refine ax_iload_n dX5_fewest_84 rfl rfl (pc' := 85) rfl ?_
                refine ax_iald (v := qu1 i) dX5_fewest_85 sh_90 rfl (by omega) (by omega) ((congrFun mr1_90 i).trans rfl) (pc' := 86) rfl ?_
                refine ax_reS (st2 := [.inl (f_c3 L9), .inr 89]) (congrArg (fun z => Sum.inl z :: _) (by exact qt9)) ?_
                refine ax_iald (v := fa1 (f_c3 L9)) dX5_fewest_86 sh_89 rfl (by omega) (by omega) ((congrFun mr1_89 (f_c3 L9)).trans rfl) (pc' := 87) rfl ?_
                refine ax_istore dX5_fewest_87 (by decide) (ls' := [some (.inr 88), some (.inl fm), some (.inl to), some (.inl i), some (.inl (fa1 (f_c3 L9)))]) rfl (pc' := 89) rfl ?_
                refine ax_iload dX5_fewest_89 rfl (pc' := 91) rfl ?_
                refine ax_bipush dX5_fewest_91 (by decide) (pc' := 93) rfl ?_
                refine ax_icmp_lt (tgt := 98) dX5_fewest_93 (by decide) (pc' := 96) rfl (fun h93 => ?_) (fun h93 => ?_)
                · have qst : f_bfs (f_code Lb) (17496 - i).toNat i s1 = f_bfs (f_code Lb) (17496 - (i + 1)).toNat (i + 1) (f_mo (fa1 (f_c3 L9) + 1) L9 s1) := by
                    rw [show (17496 - i).toNat = (17496 - (i + 1)).toNat + 1 by omega]
                    have q2 : i < s1.2.2 ∧ s1.1 (f_code Lb) = -1 ∧ s1.1 (s1.2.1 i) < 12 := ⟨by rw [iv1_1.1]; exact h63, by rw [iv1_1.2.1 Lb hg3]; rw [← hg1]; exact h73, by rw [qs9, qs91]; omega⟩
                    refine (if_pos q2).trans ?_
                    rw [qs9, qs91, f_dec_code qv9]
                  refine ax_aload_n dX5_fewest_98 rfl rfl (pc' := 99) rfl ?_
                  refine ax_aload_n dX5_fewest_99 rfl rfl (pc' := 100) rfl ?_
                  refine ax_getr (v := 90) dX5_fewest_100 flX5_15 rfl sh_88 rfl (pc' := 103) rfl ?_
                  refine ax_iload_n dX5_fewest_103 rfl rfl (pc' := 104) rfl ?_
                  refine ax_iald (v := qu1 i) dX5_fewest_104 sh_90 rfl (by omega) (by omega) ((congrFun mr1_90 i).trans rfl) (pc' := 105) rfl ?_
                  refine ax_reS (st2 := [.inl (f_c3 L9), .inr 88]) (congrArg (fun z => Sum.inl z :: _) (by exact qt9)) ?_
                  refine ax_invG [.inl (f_c3 L9)] [] dX5_fewest_105 mlX5_35 sh_88 rfl rfl rfl (Nat.le_of_ble_eq_true rfl) (s_X5_spell E l _ (by omega) _ (f_c3 L9) L9 rfl rfl qv9) (pc' := 108) rfl (fun vv M_105 hq co105 hcm105 => ?_)
                  obtain ⟨rfl, frM_105, msM_105_0, fa105_0⟩ := hq
                  refine ax_reS (st2 := []) rfl ?_
                  refine ax_aload_n dX5_fewest_108 rfl rfl (pc' := 109) rfl ?_
                  refine ax_iload dX5_fewest_109 rfl (pc' := 111) rfl ?_
                  refine ax_iconst dX5_fewest_111 (by decide) (pc' := 112) rfl ?_
                  refine ax_iadd dX5_fewest_112 (by omega) (pc' := 113) rfl ?_
                  refine ax_invG [.inl (fa1 (f_c3 L9) + 1)] [] dX5_fewest_113 mlX5_39 sh_88 rfl rfl rfl (Nat.le_of_ble_eq_true rfl) (s_X5_reachAll E l _ (by omega) _ (fa1 (f_c3 L9) + 1) s1 L9 ((funext fun i0 => frM_105 89 i0 (fun h => h.elim (fun h => absurd h.1 (by decide)) (fun h => absurd h (by decide)))).trans mr1_89) ((funext fun i0 => frM_105 90 i0 (fun h => h.elim (fun h => absurd h.1 (by decide)) (fun h => absurd h (by decide)))).trans mr1_90) rfl msM_105_0 ((frM_105 88 4 (fun h => h.elim (fun h => absurd h.2 (by decide)) (fun h => absurd h (by decide)))).trans ms1_88_4) iv1_1 qv9 fa105_0 rfl (by omega) (by rw [qs91]; omega)) (pc' := 116) rfl (fun vv M_113 hq co113 hcm113 => ?_)
                  obtain ⟨rfl, frM_113, fa113_0⟩ := hq
                  refine ax_reS (st2 := []) rfl ?_
                  refine ax_iinc dX5_fewest_116 rfl (by decide) (by omega) (ls' := [some (.inr 88), some (.inl fm), some (.inl to), some (.inl (i + 1)), some (.inl (fa1 (f_c3 L9)))]) rfl (pc' := 119) rfl ?_
                  refine ax_goto dX5_fewest_119 (pc' := 51) (by decide) ?_
                  refine ax_less (ls2 := [some (.inr 88), some (.inl fm), some (.inl to), some (.inl (i + 1)), none]) [true, true, true, true, false] rfl ?_
                  refine ih3 (i + 1) (M_113 89) (M_113 90) (M_113 88 4) (f_mo (fa1 (f_c3 L9) + 1) L9 s1) M_113 ?_ ?_ ?_ ?_ ?_ ?_ ?_ ?_
                  · omega
                  · intro x0 i0 hai
                    exact ((frM_113 x0 i0 (fun h => h.elim (fun h => hai (Or.inl h)) (fun h => h.elim (fun h => hai (Or.inr (Or.inl h))) (fun h => hai (Or.inr (Or.inr (Or.inl h))))))).trans ((frM_105 x0 i0 (fun h => h.elim (fun h => hai (Or.inr (Or.inr (Or.inr (Or.inr h))))) (fun h => hai (Or.inr (Or.inr (Or.inr (Or.inl h))))))).trans ((fr1 x0 i0 (fun h => h.elim (fun h => hai (Or.inl h)) (fun h => h.elim (fun h => hai (Or.inr (Or.inl h))) (fun h => h.elim (fun h => hai (Or.inr (Or.inr (Or.inl h)))) (fun h => h.elim (fun h => hai (Or.inr (Or.inr (Or.inr (Or.inl h))))) (fun h => hai (Or.inr (Or.inr (Or.inr (Or.inr h)))))))))).trans rfl)))
                  · exact rfl
                  · exact rfl
                  · exact rfl
                  · omega
                  · exact fa113_0
                  · rw [← iv1_2, qst]
                · have qz : fa1 to = (f_bfs (f_code Lb) 17496 0 (f_rch (f_code La) 0 (f_fil mv 17496, qv, 0))).1 (f_code Lb) := by
                    rw [← iv1_2, f_bfs_stop (fun q => (by have q1 := q.2.2; rw [qs9, qs91] at q1; omega)), hg1]
                    exact (iv1_1.2.1 Lb hg3).symm
                  refine ax_iconst dX5_fewest_96 (by decide) (pc' := 97) rfl ?_
                  refine ax_iret dX5_fewest_97 rfl ?_
                  refine ⟨rfl, ?_, ?_⟩
                  · refine congrArg (fun z => some (Sum.inl z)) ?_
                    rw [← qz]
                    exact h73.symm
                  · intro x0 i0 hai
                    exact ((fr1 x0 i0 (fun h => h.elim (fun h => hai (Or.inl h)) (fun h => h.elim (fun h => hai (Or.inr (Or.inl h))) (fun h => h.elim (fun h => hai (Or.inr (Or.inr (Or.inr (Or.inr h))))) (fun h => h.elim (fun h => hai (Or.inr (Or.inr (Or.inl h)))) (fun h => hai (Or.inr (Or.inr (Or.inr (Or.inl h)))))))))).trans (ax_up_miss (fun h => hai (Or.inr (Or.inr (Or.inr (Or.inr h))))) (ax_up_miss (fun h => hai (Or.inr (Or.inl h.1))) (ax_up_miss (fun h => hai (Or.inl h.1)) ((frM_27 x0 i0 (fun h => hai (Or.inl h))).trans rfl)))))
      refine LP1 (3280 - 0 : Int).toNat.succ 0 (f_up (f_flv fa (3280 : Int) (-1)) fm 0) (f_up qu 0 fm) 1 (f_rch (f_code La) 0 (f_fil mv 17496, qv, 0)) (ax_up (ax_up (ax_up M_27 89 fm 0) 90 0 fm) 88 4 1) ?_ ?_ ?_ ?_ ?_ ?_ ?_ ?_
      · omega
      · exact fun a i _ => rfl
      · exact (ax_up_rowmiss (by decide) (ax_up_rowmiss (by decide) (ax_up_rowhit mrM_27_0)))
      · exact (ax_up_rowmiss (by decide) (ax_up_rowhit (ax_up_rowmiss (by decide) ((funext fun i0 => frM_27 90 i0 (fun h => absurd h (by decide))).trans hqu))))
      · exact (ax_up_hit _ _ _ _)
      · omega
      · have q := f_rl_rch (step := 0) (by omega) (f_rl_0 (mv := mv) (qv := qv) (fa := fa) (qu := qu)) hg2
        have q1 : (f_flv fa 3280 (-1), qu, (0 : Int)).1 (f_c3 La) = -1 := if_pos qa
        rw [show f_rch (f_c3 La) 0 (f_flv fa 3280 (-1), qu, 0) = (f_up (f_flv fa 3280 (-1)) (f_c3 La) 0, f_up qu 0 (f_c3 La), 0 + 1) from if_pos q1, ← hg0] at q
        exact q
      · rfl
    · replace h17 := f_b_0 h17
      exfalso
      omega
set_option maxRecDepth 20000 in
theorem s_X4_codeOf (E : ax_Env) (l : Launch) (d : Nat) (hd : 1 ≤ d) (M : ax_Mem) (k : Int) (w : Int → Int) (hg0 : f_lt M 39 w) (hg1 : f_shp w) (hg2 : 0 ≤ k ∧ k < 4) : ax_G E l d iX4_codeOf [.inr 39, .inl k] M (fun z0 M2 => z0 = some (.inl (f_c3 (f_shL w k))) ∧ M = M2) := by
  obtain ⟨d, rfl⟩ : ∃ d0, d = d0 + 1 := ⟨d - 1, by omega⟩
  refine ax_start rfl (Nat.le_of_ble_eq_true rfl) (ls := [some (.inr 39), some (.inl k), none, none]) rfl (fun hav hcm => ?_)
  have hc1 : -2147483648 ≤ k ∧ k < 2147483648 := hav (.inl k) (by simp)
  clear hav
  have qsh := f_shL_ok hg1 hg2
  have ql7 := qsh.1.2
  have qlt := hg0 k hg2.1 hg2.2
  have qlc : M 48 k = ((f_shL w k).length : Int) := by
    have q := qlt.1
    rw [show (39 + 9 : Int) = 48 by decide] at q
    rw [qsh.2.1]
    exact q
  refine ax_iconst dX4_codeOf_0 (by decide) (pc' := 1) rfl ?_
  refine ax_istore_n dX4_codeOf_1 rfl (by decide) (ls' := [some (.inr 39), some (.inl k), some (.inl 0), none]) rfl (pc' := 2) rfl ?_
  refine ax_iconst dX4_codeOf_2 (by decide) (pc' := 3) rfl ?_
  refine ax_istore_n dX4_codeOf_3 rfl (by decide) (ls' := [some (.inr 39), some (.inl k), some (.inl 0), some (.inl 0)]) rfl (pc' := 4) rfl ?_
  have LP1 : ∀ (kq2 : Nat) (cd i : Int) (D : List Int) (R : List Int) (hm1 : ((f_shL w k).length : Int) - i < (kq2 : Nat)) (iv1_0 : i = (D.length : Int) ∧ i + (R.length : Int) = ((f_shL w k).length : Int)) (iv1_1 : D ++ R = f_shL w k) (iv1_2 : cd = f_c3 D) (iv1_3 : f_fwd (fun i => w (2606 + 7 * k + i)) i R), ax_W E l (d + 1) 0 0 iX4_codeOf 4 [some (.inr 39), some (.inl k), some (.inl cd), some (.inl i)] [] SH M (ax_P (fun z0 M2 => z0 = some (.inl (f_c3 (f_shL w k))) ∧ M = M2)) := by
    intro kq2
    induction kq2 with
    | zero =>
      intro cd i D R hm1 iv1_0 iv1_1 iv1_2 iv1_3
      exfalso
      omega
    | succ kq2 ih3 =>
      intro cd i D R hm1 iv1_0 iv1_1 iv1_2 iv1_3
      refine ax_iload_n dX4_codeOf_4 rfl rfl (pc' := 5) rfl ?_
      refine ax_aload_n dX4_codeOf_5 rfl rfl (pc' := 6) rfl ?_
      refine ax_getr (v := 48) dX4_codeOf_6 flX4_28 rfl sh_39 rfl (pc' := 9) rfl ?_
      refine ax_iload_n dX4_codeOf_9 rfl rfl (pc' := 10) rfl ?_
      refine ax_iald (v := (M 48) k) dX4_codeOf_10 sh_48 rfl (by omega) (by omega) ((congrFun rfl k).trans rfl) (pc' := 11) rfl ?_
      refine ax_reS (st2 := [.inl ((f_shL w k).length : Int), .inl i]) (congrArg (fun z => Sum.inl z :: _) (by exact qlc)) ?_
      refine ax_icmp_ge (tgt := 36) dX4_codeOf_11 (by decide) (pc' := 14) rfl (fun h11 => ?_) (fun h11 => ?_)
      · have qd : R = [] := List.eq_nil_of_length_eq_zero (by omega)
        have qDA : D = f_shL w k := by
          rw [← iv1_1, qd, List.append_nil]
        refine ax_iload_n dX4_codeOf_36 rfl rfl (pc' := 37) rfl ?_
        refine ax_iret dX4_codeOf_37 rfl ?_
        refine ⟨rfl, ?_, ?_⟩
        · refine congrArg (fun z => some (Sum.inl z)) ?_
          rw [iv1_2, qDA]
        · rfl
      · obtain ⟨x2, R2, qd⟩ : ∃ x0 y0, R = x0 :: y0 := by
          cases R with
          | nil =>
            exfalso
            have q := iv1_0.2
            rw [List.length_nil] at q
            omega
          | cons x0 y0 => exact ⟨x0, y0, rfl⟩
        have qd2 : R.length = R2.length + 1 := by rw [qd]; rfl
        have qf : f_fwd (fun i => w (2606 + 7 * k + i)) i (x2 :: R2) := qd ▸ iv1_3
        have qvD : f_vl (D ++ x2 :: R2) := by
          rw [← qd, iv1_1]
          exact qsh.1
        have qx2 := (f_lt3_cons.mp (f_lt3_app.mp qvD.1).2).1
        have qcD := f_c3_rg (f_vl_pre qvD)
        have qx : M 47 (k * 7 + i) = x2 := by
          have q := qlt.2 i (by omega) (by rw [← qsh.2.1]; omega)
          rw [show (39 + 8 : Int) = 47 by decide] at q
          exact q.trans qf.1
        refine ax_iload_n dX4_codeOf_14 rfl rfl (pc' := 15) rfl ?_
        refine ax_aload_n dX4_codeOf_15 rfl rfl (pc' := 16) rfl ?_
        refine ax_getr (v := 47) dX4_codeOf_16 flX4_24 rfl sh_39 rfl (pc' := 19) rfl ?_
        refine ax_iload_n dX4_codeOf_19 rfl rfl (pc' := 20) rfl ?_
        refine ax_bipush dX4_codeOf_20 (by decide) (pc' := 22) rfl ?_
        refine ax_imul dX4_codeOf_22 (by omega) (pc' := 23) rfl ?_
        refine ax_iload_n dX4_codeOf_23 rfl rfl (pc' := 24) rfl ?_
        refine ax_iadd dX4_codeOf_24 (by omega) (pc' := 25) rfl ?_
        refine ax_iald (v := (M 47) (k * 7 + i)) dX4_codeOf_25 sh_47 rfl (by omega) (by omega) ((congrFun rfl (k * 7 + i)).trans rfl) (pc' := 26) rfl ?_
        refine ax_reS (st2 := [.inl x2, .inl cd]) (congrArg (fun z => Sum.inl z :: _) (by exact qx)) ?_
        refine ax_insG [.inl cd, .inl x2] [] dX4_codeOf_26 mlX4_91 rfl rfl (Nat.le_of_ble_eq_true rfl) (s_X5_behind E l _ (by omega) _ cd x2 (by first | omega | assumption) (by first | omega | assumption)) (pc' := 29) rfl (fun vv M_26 hq co26 hcm26 => ?_)
        obtain ⟨rfl, rfl⟩ := hq
        refine ax_reS (st2 := [.inl (cd * 3 + x2 + 1)]) rfl ?_
        have cc26 : -2147483648 ≤ cd * 3 + x2 + 1 ∧ cd * 3 + x2 + 1 < 2147483648 := co26 _ rfl
        refine ax_istore_n dX4_codeOf_29 rfl (by decide) (ls' := [some (.inr 39), some (.inl k), some (.inl (cd * 3 + x2 + 1)), some (.inl i)]) rfl (pc' := 30) rfl ?_
        refine ax_iinc dX4_codeOf_30 rfl (by decide) (by omega) (ls' := [some (.inr 39), some (.inl k), some (.inl (cd * 3 + x2 + 1)), some (.inl (i + 1))]) rfl (pc' := 33) rfl ?_
        refine ax_goto dX4_codeOf_33 (pc' := 4) (by decide) ?_
        refine ih3 (cd * 3 + x2 + 1) (i + 1) (D ++ [x2]) R2 ?_ ?_ ?_ ?_ ?_
        · omega
        · rw [List.length_append, List.length_cons, List.length_nil]
          omega
        · rw [← iv1_1, qd, List.append_assoc]
          rfl
        · rw [f_c3_sn, iv1_2]
        · exact qf.2
  refine LP1 (((f_shL w k).length : Int) - 0 : Int).toNat.succ 0 0 ([]) (f_shL w k) ?_ ?_ ?_ ?_ ?_
  · omega
  · exact ⟨rfl, Int.zero_add _⟩
  · rfl
  · rfl
  · exact qsh.2.2
set_option maxRecDepth 20000 in
theorem s_X11_moves (E : ax_Env) (l : Launch) (d : Nat) (hd : 4 ≤ d) (M : ax_Mem) (x y : Int) (w mv qv : Int → Int) (hg0 : f_lt M 39 w) (hg1 : f_shp w) : ax_G E l d iX11_moves [.inr 0, .inl x, .inl y] M (fun z0 M2 => z0 = some (.inl (if (0 ≤ x ∧ x ≤ 3) ∧ 0 ≤ y ∧ y ≤ 3 then F_moves mv qv w x y else -1)) ∧ (∀ x0 i0 : Int, ¬ (x0 = 89 ∨ x0 = 90 ∨ x0 = 91 ∨ (x0 = 88 ∧ i0 = 3) ∨ (x0 = 88 ∧ i0 = 4)) → M2 x0 i0 = M x0 i0)) := by
  obtain ⟨d, rfl⟩ : ∃ d0, d = d0 + 1 := ⟨d - 1, by omega⟩
  refine ax_start rfl (Nat.le_of_ble_eq_true rfl) (ls := [some (.inr 0), some (.inl x), some (.inl y)]) rfl (fun hav hcm => ?_)
  have hc1 : -2147483648 ≤ x ∧ x < 2147483648 := hav (.inl x) (by simp)
  have hc2 : -2147483648 ≤ y ∧ y < 2147483648 := hav (.inl y) (by simp)
  clear hav
  refine ax_iload_n dX11_moves_0 rfl rfl (pc' := 1) rfl ?_
  refine ax_iconst dX11_moves_1 (by decide) (pc' := 2) rfl ?_
  refine ax_insG [.inl x, .inl 4] [] dX11_moves_2 mlX11_114 rfl rfl (Nat.le_of_ble_eq_true rfl) (s_X11_isIn E l _ (by omega) _ x 4) (pc' := 5) rfl (fun vv M_2 hq co2 hcm2 => ?_)
  obtain ⟨rfl, rfl⟩ := hq
  refine ax_reS (st2 := [.inl (f_b (0 ≤ x ∧ x < 4))]) rfl ?_
  refine ax_if_eq (tgt := 28) dX11_moves_5 (by decide) (pc' := 8) rfl (fun h5 => ?_) (fun h5 => ?_)
  · replace h5 := f_b_0 h5
    have qz : (if (0 ≤ x ∧ x ≤ 3) ∧ 0 ≤ y ∧ y ≤ 3 then F_moves mv qv w x y else -1) = -1 := if_neg (by omega)
    refine ax_iconst dX11_moves_28 (by decide) (pc' := 29) rfl ?_
    refine ax_iret dX11_moves_29 rfl ?_
    refine ⟨rfl, ?_, ?_⟩
    · refine congrArg (fun z => some (Sum.inl z)) ?_
      exact qz.symm
    · intro x0 i0 hai
      exact rfl
  · replace h5 := f_b_1 h5
    refine ax_iload_n dX11_moves_8 rfl rfl (pc' := 9) rfl ?_
    refine ax_iconst dX11_moves_9 (by decide) (pc' := 10) rfl ?_
    refine ax_insG [.inl y, .inl 4] [] dX11_moves_10 mlX11_114 rfl rfl (Nat.le_of_ble_eq_true rfl) (s_X11_isIn E l _ (by omega) _ y 4) (pc' := 13) rfl (fun vv M_10 hq co10 hcm10 => ?_)
    obtain ⟨rfl, rfl⟩ := hq
    refine ax_reS (st2 := [.inl (f_b (0 ≤ y ∧ y < 4))]) rfl ?_
    refine ax_if_eq (tgt := 28) dX11_moves_13 (by decide) (pc' := 16) rfl (fun h13 => ?_) (fun h13 => ?_)
    · replace h13 := f_b_0 h13
      have qz : (if (0 ≤ x ∧ x ≤ 3) ∧ 0 ≤ y ∧ y ≤ 3 then F_moves mv qv w x y else -1) = -1 := if_neg (by omega)
      refine ax_iconst dX11_moves_28 (by decide) (pc' := 29) rfl ?_
      refine ax_iret dX11_moves_29 rfl ?_
      refine ⟨rfl, ?_, ?_⟩
      · refine congrArg (fun z => some (Sum.inl z)) ?_
        exact qz.symm
      · intro x0 i0 hai
        exact rfl
    · replace h13 := f_b_1 h13
      refine ax_aload_n dX11_moves_16 rfl rfl (pc' := 17) rfl ?_
      refine ax_getr (v := 39) dX11_moves_17 flX11_26 rfl sh_0 rfl (pc' := 20) rfl ?_
      refine ax_iload_n dX11_moves_20 rfl rfl (pc' := 21) rfl ?_
      refine ax_iload_n dX11_moves_21 rfl rfl (pc' := 22) rfl ?_
      refine ax_invG [.inl x, .inl y] [] dX11_moves_22 mlX11_353 sh_39 rfl rfl rfl (Nat.le_of_ble_eq_true rfl) (s_X4_marksDiffer E l _ (by omega) _ x y w hg0 hg1 h5 h13) (pc' := 25) rfl (fun vv M_22 hq co22 hcm22 => ?_)
      obtain ⟨rfl, rfl⟩ := hq
      refine ax_reS (st2 := [.inl (f_b (f_mark w x 1 ≠ f_mark w y 1 ∨ f_mark w x 2 ≠ f_mark w y 2))]) rfl ?_
      refine ax_if_eq (tgt := 30) dX11_moves_25 (by decide) (pc' := 28) rfl (fun h25 => ?_) (fun h25 => ?_)
      · replace h25 := f_b_0 h25
        refine ax_aload_n dX11_moves_30 rfl rfl (pc' := 31) rfl ?_
        refine ax_getr (v := 88) dX11_moves_31 flX11_86 rfl sh_0 rfl (pc' := 34) rfl ?_
        refine ax_aload_n dX11_moves_34 rfl rfl (pc' := 35) rfl ?_
        refine ax_getr (v := 39) dX11_moves_35 flX11_26 rfl sh_0 rfl (pc' := 38) rfl ?_
        refine ax_iload_n dX11_moves_38 rfl rfl (pc' := 39) rfl ?_
        refine ax_invG [.inl x] [.inr 88] dX11_moves_39 mlX11_356 sh_39 rfl rfl rfl (Nat.le_of_ble_eq_true rfl) (s_X4_codeOf E l _ (by omega) _ x w hg0 hg1 h5) (pc' := 42) rfl (fun vv M_39 hq co39 hcm39 => ?_)
        obtain ⟨rfl, rfl⟩ := hq
        refine ax_reS (st2 := [.inl (f_c3 (f_shL w x)), .inr 88]) rfl ?_
        have cc39 : -2147483648 ≤ f_c3 (f_shL w x) ∧ f_c3 (f_shL w x) < 2147483648 := co39 _ rfl
        refine ax_aload_n dX11_moves_42 rfl rfl (pc' := 43) rfl ?_
        refine ax_getr (v := 39) dX11_moves_43 flX11_26 rfl sh_0 rfl (pc' := 46) rfl ?_
        refine ax_iload_n dX11_moves_46 rfl rfl (pc' := 47) rfl ?_
        refine ax_invG [.inl y] [.inl (f_c3 (f_shL w x)), .inr 88] dX11_moves_47 mlX11_356 sh_39 rfl rfl rfl (Nat.le_of_ble_eq_true rfl) (s_X4_codeOf E l _ (by omega) _ y w hg0 hg1 h13) (pc' := 50) rfl (fun vv M_47 hq co47 hcm47 => ?_)
        obtain ⟨rfl, rfl⟩ := hq
        refine ax_reS (st2 := [.inl (f_c3 (f_shL w y)), .inl (f_c3 (f_shL w x)), .inr 88]) rfl ?_
        have cc47 : -2147483648 ≤ f_c3 (f_shL w y) ∧ f_c3 (f_shL w y) < 2147483648 := co47 _ rfl
        refine ax_invG [.inl (f_c3 (f_shL w x)), .inl (f_c3 (f_shL w y))] [] dX11_moves_50 mlX11_359 sh_88 rfl rfl rfl (Nat.le_of_ble_eq_true rfl) (s_X5_fewest E l _ (by omega) _ (f_c3 (f_shL w x)) (f_c3 (f_shL w y)) mv qv (f_shL w x) (f_shL w y) rfl rfl rfl rfl rfl (f_shL_ok hg1 h5).1 (f_shL_ok hg1 h13).1) (pc' := 53) rfl (fun vv M_50 hq co50 hcm50 => ?_)
        obtain ⟨rfl, frM_50⟩ := hq
        refine ax_reS (st2 := [.inl ((f_bfs (f_code (f_shL w y)) 17496 0 (f_rch (f_code (f_shL w x)) 0 (f_fil mv 17496, qv, 0))).1 (f_code (f_shL w y)))]) rfl ?_
        have cc50 : -2147483648 ≤ (f_bfs (f_code (f_shL w y)) 17496 0 (f_rch (f_code (f_shL w x)) 0 (f_fil mv 17496, qv, 0))).1 (f_code (f_shL w y)) ∧ (f_bfs (f_code (f_shL w y)) 17496 0 (f_rch (f_code (f_shL w x)) 0 (f_fil mv 17496, qv, 0))).1 (f_code (f_shL w y)) < 2147483648 := co50 _ rfl
        refine ax_iret dX11_moves_53 rfl ?_
        refine ⟨rfl, ?_, ?_⟩
        · refine congrArg (fun z => some (Sum.inl z)) ?_
          rw [if_pos (by omega)]
          rfl
        · intro x0 i0 hai
          exact ((frM_50 x0 i0 (fun h => h.elim (fun h => hai (Or.inl h)) (fun h => h.elim (fun h => hai (Or.inr (Or.inl h))) (fun h => h.elim (fun h => hai (Or.inr (Or.inr (Or.inl h)))) (fun h => h.elim (fun h => hai (Or.inr (Or.inr (Or.inr (Or.inl h))))) (fun h => hai (Or.inr (Or.inr (Or.inr (Or.inr h)))))))))).trans rfl)
      · replace h25 := f_b_1 h25
        have qz : (if (0 ≤ x ∧ x ≤ 3) ∧ 0 ≤ y ∧ y ≤ 3 then F_moves mv qv w x y else -1) = -1 := by
          rw [if_pos (by omega)]
          refine F_moves_mk (f_shL_ok hg1 h5).1 (f_shL_ok hg1 h13).1 ?_
          rw [f_mark_mq hg1 h5, f_mark_mq hg1 h13]
          intro e
          have e1 := (Prod.mk.inj e).1
          have e2 := (Prod.mk.inj e).2
          omega
        refine ax_iconst dX11_moves_28 (by decide) (pc' := 29) rfl ?_
        refine ax_iret dX11_moves_29 rfl ?_
        refine ⟨rfl, ?_, ?_⟩
        · refine congrArg (fun z => some (Sum.inl z)) ?_
          exact qz.symm
        · intro x0 i0 hai
          exact rfl
