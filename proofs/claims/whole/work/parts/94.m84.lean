/-! the class's search: all that is reached -/
theorem f_rch_keep {c d step : Int} {s : f_Bf} (h : s.1 d ≠ -1) (hs : 0 ≤ step) : (f_rch c step s).1 d ≠ -1 := by
  unfold f_rch
  split
  · show f_up s.1 c step d ≠ -1
    unfold f_up
    split
    · omega
    · exact h
  · exact h
theorem f_rch_old {c step : Int} {s : f_Bf} (h : s.1 c ≠ -1) : f_rch c step s = s := if_neg h
theorem f_bfs_stop {goal i : Int} {s : f_Bf} (h : ¬ (i < s.2.2 ∧ s.1 goal = -1 ∧ s.1 (s.2.1 i) < 12)) : ∀ {g : Nat}, f_bfs goal g i s = s
  | 0 => rfl
  | g + 1 => if_neg h
set_option maxRecDepth 20000 in
theorem s_X5_reachAll (E : ax_Env) (l : Launch) (d : Nat) (hd : 2 ≤ d) (M : ax_Mem) (mo : Int) (s : f_Bf) (L : List Int) {fa : Int → Int} (hfa : M 89 = fa) {qu : Int → Int} (hqu : M 90 = qu) {lt : Int → Int} (hlt : M 91 = lt) {cn : Int} (hcn : M 88 3 = cn) {n : Int} (hn : M 88 4 = n) (hg0 : f_rl s (fa, qu, n)) (hg1 : f_vl L) (hg2 : f_fwd lt 0 L) (hg3 : cn = (L.length : Int)) (hg4 : 0 ≤ mo ∧ mo ≤ 12) (hg5 : s.1 (f_code L) ≠ -1) : ax_G E l d iX5_reachAll [.inr 88, .inl mo] M (fun z0 M2 => z0 = none ∧ (∀ x0 i0 : Int, ¬ (x0 = 89 ∨ x0 = 90 ∨ (x0 = 88 ∧ i0 = 4)) → M2 x0 i0 = M x0 i0) ∧ (f_rl (f_mo mo L s) (M2 89, M2 90, M2 88 4))) := by
  obtain ⟨d, rfl⟩ : ∃ d0, d = d0 + 1 := ⟨d - 1, by omega⟩
  refine ax_start rfl (Nat.le_of_ble_eq_true rfl) (ls := [some (.inr 88), some (.inl mo), none, none, none]) rfl (fun hav hcm => ?_)
  have hc1 : -2147483648 ≤ mo ∧ mo < 2147483648 := hav (.inl mo) (by simp)
  clear hav
  have ql7 := hg1.2
  refine ax_iconst dX5_reachAll_0 (by decide) (pc' := 1) rfl ?_
  refine ax_istore_n dX5_reachAll_1 rfl (by decide) (ls' := [some (.inr 88), some (.inl mo), some (.inl 0), none, none]) rfl (pc' := 2) rfl ?_
  have LP1 : ∀ (kq2 : Nat) (i : Int) (fa1 qu1 : Int → Int) (n1 : Int) (A : List Int) (R : List Int) (s1 : f_Bf) (M1 : ax_Mem) (hm1 : (L.length : Int) - i < (kq2 : Nat)) (fr1 : ∀ x0 i0 : Int, ¬ (x0 = 89 ∨ x0 = 90 ∨ (x0 = 88 ∧ i0 = 4)) → M1 x0 i0 = M x0 i0) (mr1_89 : M1 89 = fa1) (mr1_90 : M1 90 = qu1) (ms1_88_4 : M1 88 4 = n1) (iv1_0 : i = (A.length : Int) ∧ i + (R.length : Int) = (L.length : Int)) (iv1_1 : A ++ R = L) (iv1_2 : f_rl s1 (fa1, qu1, n1)) (iv1_3 : f_gc mo A R s1 = f_gc mo [] L s) (iv1_4 : s1.1 (f_code L) ≠ -1) (iv1_5 : f_fwd lt 0 A ∧ f_fwd lt i R), ax_W E l (d + 1) 0 0 iX5_reachAll 2 [some (.inr 88), some (.inl mo), some (.inl i), none, none] [] SH M1 (ax_P (fun z0 M2 => z0 = none ∧ (∀ x0 i0 : Int, ¬ (x0 = 89 ∨ x0 = 90 ∨ (x0 = 88 ∧ i0 = 4)) → M2 x0 i0 = M x0 i0) ∧ (f_rl (f_mo mo L s) (M2 89, M2 90, M2 88 4)))) := by
    intro kq2
    induction kq2 with
    | zero =>
      intro i fa1 qu1 n1 A R s1 M1 hm1 fr1 mr1_89 mr1_90 ms1_88_4 iv1_0 iv1_1 iv1_2 iv1_3 iv1_4 iv1_5
      exfalso
      omega
    | succ kq2 ih3 =>
      intro i fa1 qu1 n1 A R s1 M1 hm1 fr1 mr1_89 mr1_90 ms1_88_4 iv1_0 iv1_1 iv1_2 iv1_3 iv1_4 iv1_5
      refine ax_iload_n dX5_reachAll_2 rfl rfl (pc' := 3) rfl ?_
      refine ax_iconst dX5_reachAll_3 (by decide) (pc' := 4) rfl ?_
      refine ax_iadd dX5_reachAll_4 (by omega) (pc' := 5) rfl ?_
      refine ax_aload_n dX5_reachAll_5 rfl rfl (pc' := 6) rfl ?_
      refine ax_geti (v := cn) dX5_reachAll_6 flX5_42 rfl sh_88 ((fr1 88 3 (fun h => h.elim (fun h => absurd h (by decide)) (fun h => h.elim (fun h => absurd h (by decide)) (fun h => absurd h.2 (by decide))))).trans hcn) rfl (pc' := 9) rfl ?_
      refine ax_icmp_ge (tgt := 91) dX5_reachAll_9 (by decide) (pc' := 12) rfl (fun h9 => ?_) (fun h9 => ?_)
      · have qg : f_gc mo [] L s = s1 := by
          rw [← iv1_3]
          exact f_gc_1 (by omega)
        have qmo : f_mo mo L s = if (L.length : Int) + 2 ≤ 7 then f_cm mo [] L s1 else s1 := by
          unfold f_mo
          rw [qg]
        refine ax_iconst dX5_reachAll_91 (by decide) (pc' := 92) rfl ?_
        refine ax_istore_n dX5_reachAll_92 rfl (by decide) (ls' := [some (.inr 88), some (.inl mo), some (.inl 0), none, none]) rfl (pc' := 93) rfl ?_
        have LP4 : ∀ (kq5 : Nat) (k : Int) (fa2 qu2 : Int → Int) (n2 : Int) (A9 : List Int) (B9 : List Int) (s3 : f_Bf) (M4 : ax_Mem) (hm4 : cn + 1 - k < (kq5 : Nat)) (fr4 : ∀ x0 i0 : Int, ¬ (x0 = 89 ∨ x0 = 90 ∨ (x0 = 88 ∧ i0 = 4)) → M4 x0 i0 = M1 x0 i0) (mr4_89 : M4 89 = fa2) (mr4_90 : M4 90 = qu2) (ms4_88_4 : M4 88 4 = n2) (iv4_0 : (0 ≤ k ∧ k ≤ cn + 1) ∧ (k = 0 ∨ cn + 2 ≤ 7)) (iv4_1 : f_rl s3 (fa2, qu2, n2)) (iv4_2 : (k = (A9.length : Int) ∧ A9 ++ B9 = L ∧ f_cm mo A9 B9 s3 = f_cm mo [] L s1) ∨ (k = cn + 1 ∧ s3 = f_cm mo [] L s1)) (iv4_3 : k = 0 → s3 = s1), ax_W E l (d + 1) 0 0 iX5_reachAll 93 [some (.inr 88), some (.inl mo), some (.inl k), none, none] [] SH M4 (ax_P (fun z0 M2 => z0 = none ∧ (∀ x0 i0 : Int, ¬ (x0 = 89 ∨ x0 = 90 ∨ (x0 = 88 ∧ i0 = 4)) → M2 x0 i0 = M x0 i0) ∧ (f_rl (f_mo mo L s) (M2 89, M2 90, M2 88 4)))) := by
          intro kq5
          induction kq5 with
          | zero =>
            intro k fa2 qu2 n2 A9 B9 s3 M4 hm4 fr4 mr4_89 mr4_90 ms4_88_4 iv4_0 iv4_1 iv4_2 iv4_3
            exfalso
            omega
          | succ kq5 ih6 =>
            intro k fa2 qu2 n2 A9 B9 s3 M4 hm4 fr4 mr4_89 mr4_90 ms4_88_4 iv4_0 iv4_1 iv4_2 iv4_3
            refine ax_iload_n dX5_reachAll_93 rfl rfl (pc' := 94) rfl ?_
            refine ax_aload_n dX5_reachAll_94 rfl rfl (pc' := 95) rfl ?_
            refine ax_geti (v := cn) dX5_reachAll_95 flX5_42 rfl sh_88 ((fr4 88 3 (fun h => h.elim (fun h => absurd h (by decide)) (fun h => h.elim (fun h => absurd h (by decide)) (fun h => absurd h.2 (by decide))))).trans ((fr1 88 3 (fun h => h.elim (fun h => absurd h (by decide)) (fun h => h.elim (fun h => absurd h (by decide)) (fun h => absurd h.2 (by decide))))).trans hcn)) rfl (pc' := 98) rfl ?_
            refine ax_icmp_gt (tgt := 145) dX5_reachAll_98 (by decide) (pc' := 101) rfl (fun h98 => ?_) (fun h98 => ?_)
            · have qz : f_mo mo L s = s3 := by
                rcases iv4_2 with q | q
                · have q2 := congrArg List.length q.2.1
                  rw [List.length_append] at q2
                  omega
                · rw [qmo, if_pos (by omega), q.2]
              refine ax_vret dX5_reachAll_145 rfl ?_
              refine ⟨rfl, rfl, ?_, ?_⟩
              · intro x0 i0 hai
                exact ((fr4 x0 i0 (fun h => h.elim (fun h => hai (Or.inl h)) (fun h => h.elim (fun h => hai (Or.inr (Or.inl h))) (fun h => hai (Or.inr (Or.inr h)))))).trans ((fr1 x0 i0 (fun h => h.elim (fun h => hai (Or.inl h)) (fun h => h.elim (fun h => hai (Or.inr (Or.inl h))) (fun h => hai (Or.inr (Or.inr h)))))).trans rfl))
              · rw [qz]
                exact f_rl_eq mr4_89 mr4_90 ms4_88_4 iv4_1
            · refine ax_aload_n dX5_reachAll_101 rfl rfl (pc' := 102) rfl ?_
              refine ax_geti (v := cn) dX5_reachAll_102 flX5_42 rfl sh_88 ((fr4 88 3 (fun h => h.elim (fun h => absurd h (by decide)) (fun h => h.elim (fun h => absurd h (by decide)) (fun h => absurd h.2 (by decide))))).trans ((fr1 88 3 (fun h => h.elim (fun h => absurd h (by decide)) (fun h => h.elim (fun h => absurd h (by decide)) (fun h => absurd h.2 (by decide))))).trans hcn)) rfl (pc' := 105) rfl ?_
              refine ax_iconst dX5_reachAll_105 (by decide) (pc' := 106) rfl ?_
              refine ax_iadd dX5_reachAll_106 (by omega) (pc' := 107) rfl ?_
              refine ax_bipush dX5_reachAll_107 (by decide) (pc' := 109) rfl ?_
              refine ax_icmp_gt (tgt := 145) dX5_reachAll_109 (by decide) (pc' := 112) rfl (fun h109 => ?_) (fun h109 => ?_)
              · have qz : f_mo mo L s = s3 := by
                  rw [qmo, if_neg (by omega), iv4_3 (by omega)]
                refine ax_vret dX5_reachAll_145 rfl ?_
                refine ⟨rfl, rfl, ?_, ?_⟩
                · intro x0 i0 hai
                  exact ((fr4 x0 i0 (fun h => h.elim (fun h => hai (Or.inl h)) (fun h => h.elim (fun h => hai (Or.inr (Or.inl h))) (fun h => hai (Or.inr (Or.inr h)))))).trans ((fr1 x0 i0 (fun h => h.elim (fun h => hai (Or.inl h)) (fun h => h.elim (fun h => hai (Or.inr (Or.inl h))) (fun h => hai (Or.inr (Or.inr h)))))).trans rfl))
                · rw [qz]
                  exact f_rl_eq mr4_89 mr4_90 ms4_88_4 iv4_1
              · have qc9 : k = (A9.length : Int) ∧ A9 ++ B9 = L ∧ f_cm mo A9 B9 s3 = f_cm mo [] L s1 := by
                  rcases iv4_2 with q | q
                  · exact q
                  · omega
                have qlen : A9.length + B9.length = L.length := by
                  have q2 := congrArg List.length qc9.2.1
                  rw [List.length_append] at q2
                  exact q2
                have qfw := f_fwd_app (pl := lt) (A := A9) (B := B9) (i := 0) (by rw [qc9.2.1]; exact hg2)
                have qfB9 : f_fwd lt k B9 := by
                  have q := qfw.2
                  rw [show 0 + (A9.length : Int) = k by omega] at q
                  exact q
                have qvm : ∀ a b : Int, (0 ≤ a ∧ a ≤ 2) → (0 ≤ b ∧ b ≤ 2) → f_vl (A9 ++ [a, b] ++ B9) := by
                  intro a b ha hb
                  rw [List.append_assoc]
                  have q : f_vl (A9 ++ a :: b :: B9) := by
                    refine f_vl_in (A := A9) (B := B9) ?_ ?_ ha hb
                    · rw [qc9.2.1]
                      exact hg1.1
                    · rw [qc9.2.1]
                      omega
                  exact q
                refine ax_aload_n dX5_reachAll_112 rfl rfl (pc' := 113) rfl ?_
                refine ax_iload_n dX5_reachAll_113 rfl rfl (pc' := 114) rfl ?_
                refine ax_iload_n dX5_reachAll_114 rfl rfl (pc' := 115) rfl ?_
                refine ax_iconst dX5_reachAll_115 (by decide) (pc' := 116) rfl ?_
                refine ax_iconst dX5_reachAll_116 (by decide) (pc' := 117) rfl ?_
                refine ax_iload_n dX5_reachAll_117 rfl rfl (pc' := 118) rfl ?_
                refine ax_invG [.inl mo, .inl k, .inl 0, .inl 1, .inl k] [] dX5_reachAll_118 mlX5_45 sh_88 rfl rfl rfl (Nat.le_of_ble_eq_true rfl) (s_X5_reach E l _ (by omega) _ mo k 0 1 k s3 A9 ([0, 1]) B9 mr4_89 mr4_90 ((funext fun i0 => fr4 91 i0 (fun h => h.elim (fun h => absurd h (by decide)) (fun h => h.elim (fun h => absurd h (by decide)) (fun h => absurd h.1 (by decide))))).trans ((funext fun i0 => fr1 91 i0 (fun h => h.elim (fun h => absurd h (by decide)) (fun h => h.elim (fun h => absurd h (by decide)) (fun h => absurd h.1 (by decide))))).trans hlt)) ((fr4 88 3 (fun h => h.elim (fun h => absurd h (by decide)) (fun h => h.elim (fun h => absurd h (by decide)) (fun h => absurd h.2 (by decide))))).trans ((fr1 88 3 (fun h => h.elim (fun h => absurd h (by decide)) (fun h => h.elim (fun h => absurd h (by decide)) (fun h => absurd h.2 (by decide))))).trans hcn)) ms4_88_4 iv4_1 (qvm _ _ (by decide) (by decide)) hg4 ⟨by omega, qfw.1⟩ ⟨qfB9, by omega⟩ (Or.inr ⟨by decide, rfl⟩)) (pc' := 121) rfl (fun vv M_118 hq co118 hcm118 => ?_)
                obtain ⟨rfl, frM_118, fa118_0⟩ := hq
                refine ax_reS (st2 := []) rfl ?_
                refine ax_aload_n dX5_reachAll_121 rfl rfl (pc' := 122) rfl ?_
                refine ax_iload_n dX5_reachAll_122 rfl rfl (pc' := 123) rfl ?_
                refine ax_iload_n dX5_reachAll_123 rfl rfl (pc' := 124) rfl ?_
                refine ax_iconst dX5_reachAll_124 (by decide) (pc' := 125) rfl ?_
                refine ax_iconst dX5_reachAll_125 (by decide) (pc' := 126) rfl ?_
                refine ax_iload_n dX5_reachAll_126 rfl rfl (pc' := 127) rfl ?_
                refine ax_invG [.inl mo, .inl k, .inl 1, .inl 0, .inl k] [] dX5_reachAll_127 mlX5_45 sh_88 rfl rfl rfl (Nat.le_of_ble_eq_true rfl) (s_X5_reach E l _ (by omega) _ mo k 1 0 k (f_rch (f_code (A9 ++ [0, 1] ++ B9)) mo s3) A9 ([1, 0]) B9 rfl rfl ((funext fun i0 => frM_118 91 i0 (fun h => h.elim (fun h => absurd h (by decide)) (fun h => h.elim (fun h => absurd h (by decide)) (fun h => absurd h.1 (by decide))))).trans ((funext fun i0 => fr4 91 i0 (fun h => h.elim (fun h => absurd h (by decide)) (fun h => h.elim (fun h => absurd h (by decide)) (fun h => absurd h.1 (by decide))))).trans ((funext fun i0 => fr1 91 i0 (fun h => h.elim (fun h => absurd h (by decide)) (fun h => h.elim (fun h => absurd h (by decide)) (fun h => absurd h.1 (by decide))))).trans hlt))) ((frM_118 88 3 (fun h => h.elim (fun h => absurd h (by decide)) (fun h => h.elim (fun h => absurd h (by decide)) (fun h => absurd h.2 (by decide))))).trans ((fr4 88 3 (fun h => h.elim (fun h => absurd h (by decide)) (fun h => h.elim (fun h => absurd h (by decide)) (fun h => absurd h.2 (by decide))))).trans ((fr1 88 3 (fun h => h.elim (fun h => absurd h (by decide)) (fun h => h.elim (fun h => absurd h (by decide)) (fun h => absurd h.2 (by decide))))).trans hcn))) rfl fa118_0 (qvm _ _ (by decide) (by decide)) hg4 ⟨by omega, qfw.1⟩ ⟨qfB9, by omega⟩ (Or.inr ⟨by decide, rfl⟩)) (pc' := 130) rfl (fun vv M_127 hq co127 hcm127 => ?_)
                obtain ⟨rfl, frM_127, fa127_0⟩ := hq
                refine ax_reS (st2 := []) rfl ?_
                refine ax_aload_n dX5_reachAll_130 rfl rfl (pc' := 131) rfl ?_
                refine ax_iload_n dX5_reachAll_131 rfl rfl (pc' := 132) rfl ?_
                refine ax_iload_n dX5_reachAll_132 rfl rfl (pc' := 133) rfl ?_
                refine ax_iconst dX5_reachAll_133 (by decide) (pc' := 134) rfl ?_
                refine ax_iconst dX5_reachAll_134 (by decide) (pc' := 135) rfl ?_
                refine ax_iload_n dX5_reachAll_135 rfl rfl (pc' := 136) rfl ?_
                refine ax_invG [.inl mo, .inl k, .inl 2, .inl 2, .inl k] [] dX5_reachAll_136 mlX5_45 sh_88 rfl rfl rfl (Nat.le_of_ble_eq_true rfl) (s_X5_reach E l _ (by omega) _ mo k 2 2 k (f_rch (f_code (A9 ++ [1, 0] ++ B9)) mo (f_rch (f_code (A9 ++ [0, 1] ++ B9)) mo s3)) A9 ([2, 2]) B9 rfl rfl ((funext fun i0 => frM_127 91 i0 (fun h => h.elim (fun h => absurd h (by decide)) (fun h => h.elim (fun h => absurd h (by decide)) (fun h => absurd h.1 (by decide))))).trans ((funext fun i0 => frM_118 91 i0 (fun h => h.elim (fun h => absurd h (by decide)) (fun h => h.elim (fun h => absurd h (by decide)) (fun h => absurd h.1 (by decide))))).trans ((funext fun i0 => fr4 91 i0 (fun h => h.elim (fun h => absurd h (by decide)) (fun h => h.elim (fun h => absurd h (by decide)) (fun h => absurd h.1 (by decide))))).trans ((funext fun i0 => fr1 91 i0 (fun h => h.elim (fun h => absurd h (by decide)) (fun h => h.elim (fun h => absurd h (by decide)) (fun h => absurd h.1 (by decide))))).trans hlt)))) ((frM_127 88 3 (fun h => h.elim (fun h => absurd h (by decide)) (fun h => h.elim (fun h => absurd h (by decide)) (fun h => absurd h.2 (by decide))))).trans ((frM_118 88 3 (fun h => h.elim (fun h => absurd h (by decide)) (fun h => h.elim (fun h => absurd h (by decide)) (fun h => absurd h.2 (by decide))))).trans ((fr4 88 3 (fun h => h.elim (fun h => absurd h (by decide)) (fun h => h.elim (fun h => absurd h (by decide)) (fun h => absurd h.2 (by decide))))).trans ((fr1 88 3 (fun h => h.elim (fun h => absurd h (by decide)) (fun h => h.elim (fun h => absurd h (by decide)) (fun h => absurd h.2 (by decide))))).trans hcn)))) rfl fa127_0 (qvm _ _ (by decide) (by decide)) hg4 ⟨by omega, qfw.1⟩ ⟨qfB9, by omega⟩ (Or.inr ⟨by decide, rfl⟩)) (pc' := 139) rfl (fun vv M_136 hq co136 hcm136 => ?_)
                obtain ⟨rfl, frM_136, fa136_0⟩ := hq
                refine ax_reS (st2 := []) rfl ?_
                obtain ⟨s4, qs4⟩ : ∃ z, z = f_rch (f_code (A9 ++ [2, 2] ++ B9)) mo (f_rch (f_code (A9 ++ [1, 0] ++ B9)) mo (f_rch (f_code (A9 ++ [0, 1] ++ B9)) mo s3)) := ⟨_, rfl⟩
                have qb1 := fa136_0
                rw [← qs4] at qb1
                have qs5 : s4 = f_cm3 mo A9 B9 s3 := by
                  rw [qs4]
                  unfold f_cm3
                  simp only [List.append_assoc]
                  rfl
                obtain ⟨A10, B10, qb2⟩ : ∃ A10 B10, (k + 1 = (A10.length : Int) ∧ A10 ++ B10 = L ∧ f_cm mo A10 B10 s4 = f_cm mo [] L s1) ∨ (k + 1 = cn + 1 ∧ s4 = f_cm mo [] L s1) := by
                  obtain ⟨q1, q2, q3⟩ := qc9
                  cases B9 with
                  | nil =>
                    refine ⟨[], [], Or.inr ⟨?_, ?_⟩⟩
                    · rw [List.length_nil] at qlen
                      omega
                    · rw [← q3, qs5]
                      rfl
                  | cons x0 y0 =>
                    refine ⟨A9 ++ [x0], y0, Or.inl ⟨?_, ?_, ?_⟩⟩
                    · rw [List.length_append, List.length_cons, List.length_nil]
                      omega
                    · rw [List.append_assoc]
                      exact q2
                    · rw [← q3, qs5]
                      rfl
                refine ax_iinc dX5_reachAll_139 rfl (by decide) (by omega) (ls' := [some (.inr 88), some (.inl mo), some (.inl (k + 1)), none, none]) rfl (pc' := 142) rfl ?_
                refine ax_goto dX5_reachAll_142 (pc' := 93) (by decide) ?_
                refine ih6 (k + 1) (M_136 89) (M_136 90) (M_136 88 4) A10 B10 s4 M_136 ?_ ?_ ?_ ?_ ?_ ?_ ?_ ?_ ?_
                · omega
                · intro x0 i0 hai
                  exact ((frM_136 x0 i0 (fun h => h.elim (fun h => hai (Or.inl h)) (fun h => h.elim (fun h => hai (Or.inr (Or.inl h))) (fun h => hai (Or.inr (Or.inr h)))))).trans ((frM_127 x0 i0 (fun h => h.elim (fun h => hai (Or.inl h)) (fun h => h.elim (fun h => hai (Or.inr (Or.inl h))) (fun h => hai (Or.inr (Or.inr h)))))).trans ((frM_118 x0 i0 (fun h => h.elim (fun h => hai (Or.inl h)) (fun h => h.elim (fun h => hai (Or.inr (Or.inl h))) (fun h => hai (Or.inr (Or.inr h)))))).trans ((fr4 x0 i0 (fun h => h.elim (fun h => hai (Or.inl h)) (fun h => h.elim (fun h => hai (Or.inr (Or.inl h))) (fun h => hai (Or.inr (Or.inr h)))))).trans rfl))))
                · exact rfl
                · exact rfl
                · exact rfl
                · omega
                · exact qb1
                · exact qb2
                · intro h
                  omega
        refine LP4 (cn + 1 - 0 : Int).toNat.succ 0 fa1 qu1 n1 ([]) L s1 M1 ?_ ?_ ?_ ?_ ?_ ?_ ?_ ?_ ?_
        · omega
        · exact fun a i _ => rfl
        · exact mr1_89
        · exact mr1_90
        · exact ms1_88_4
        · omega
        · exact iv1_2
        · exact Or.inl ⟨rfl, rfl, rfl⟩
        · exact fun _ => rfl
      · obtain ⟨x2, y2, B2, qd⟩ : ∃ x0 y0 z0, R = x0 :: y0 :: z0 := by
          match R, iv1_0 with
          | [], q => exact absurd q.2 (by rw [List.length_nil]; omega)
          | [a0], q => exact absurd q.2 (by rw [List.length_cons, List.length_nil]; omega)
          | x0 :: y0 :: z0, _ => exact ⟨x0, y0, z0, rfl⟩
        have qd2 : R.length = B2.length + 2 := by rw [qd]; rfl
        have qf : lt i = x2 ∧ lt (i + 1) = y2 ∧ f_fwd lt (i + 1 + 1) B2 := by
          have q := iv1_5.2
          rw [qd] at q
          exact q
        have qL : A ++ x2 :: y2 :: B2 = L := by rw [← qd]; exact iv1_1
        have qvL : f_vl (A ++ x2 :: y2 :: B2) := by rw [qL]; exact hg1
        have qx : (0 ≤ x2 ∧ x2 ≤ 2) ∧ 0 ≤ y2 ∧ y2 ≤ 2 := by
          have q := f_lt3_cons.mp (f_lt3_app.mp qvL.1).2
          exact ⟨q.1, (f_lt3_cons.mp q.2).1⟩
        have qAB := f_vl_AB qvL
        have qfB : f_fwd lt (i + 2) B2 := by
          rw [show i + 2 = i + 1 + 1 by omega]
          exact qf.2.2
        have qkk : s1.1 (f_code (A ++ x2 :: y2 :: B2)) ≠ -1 := by rw [qL]; exact iv1_4
        refine ax_aload_n dX5_reachAll_12 rfl rfl (pc' := 13) rfl ?_
        refine ax_getr (v := 91) dX5_reachAll_13 flX5_18 rfl sh_88 rfl (pc' := 16) rfl ?_
        refine ax_iload_n dX5_reachAll_16 rfl rfl (pc' := 17) rfl ?_
        refine ax_iald (v := lt i) dX5_reachAll_17 sh_91 rfl (by omega) (by omega) ((congrFun ((funext fun i0 => fr1 91 i0 (fun h => h.elim (fun h => absurd h (by decide)) (fun h => h.elim (fun h => absurd h (by decide)) (fun h => absurd h.1 (by decide))))).trans hlt) i).trans rfl) (pc' := 18) rfl ?_
        refine ax_reS (st2 := [.inl x2]) (congrArg (fun z => Sum.inl z :: _) (by exact qf.1)) ?_
        refine ax_istore_n dX5_reachAll_18 rfl (by decide) (ls' := [some (.inr 88), some (.inl mo), some (.inl i), some (.inl x2), none]) rfl (pc' := 19) rfl ?_
        refine ax_aload_n dX5_reachAll_19 rfl rfl (pc' := 20) rfl ?_
        refine ax_getr (v := 91) dX5_reachAll_20 flX5_18 rfl sh_88 rfl (pc' := 23) rfl ?_
        refine ax_iload_n dX5_reachAll_23 rfl rfl (pc' := 24) rfl ?_
        refine ax_iconst dX5_reachAll_24 (by decide) (pc' := 25) rfl ?_
        refine ax_iadd dX5_reachAll_25 (by omega) (pc' := 26) rfl ?_
        refine ax_iald (v := lt (i + 1)) dX5_reachAll_26 sh_91 rfl (by omega) (by omega) ((congrFun ((funext fun i0 => fr1 91 i0 (fun h => h.elim (fun h => absurd h (by decide)) (fun h => h.elim (fun h => absurd h (by decide)) (fun h => absurd h.1 (by decide))))).trans hlt) (i + 1)).trans rfl) (pc' := 27) rfl ?_
        refine ax_reS (st2 := [.inl y2]) (congrArg (fun z => Sum.inl z :: _) (by exact qf.2.1)) ?_
        refine ax_istore dX5_reachAll_27 (by decide) (ls' := [some (.inr 88), some (.inl mo), some (.inl i), some (.inl x2), some (.inl y2)]) rfl (pc' := 29) rfl ?_
        refine ax_iload_n dX5_reachAll_29 rfl rfl (pc' := 30) rfl ?_
        refine ax_iload dX5_reachAll_30 rfl (pc' := 32) rfl ?_
        refine ax_iadd dX5_reachAll_32 (by omega) (pc' := 33) rfl ?_
        refine ax_iconst dX5_reachAll_33 (by decide) (pc' := 34) rfl ?_
        refine ax_icmp_eq (tgt := 48) dX5_reachAll_34 (by decide) (pc' := 37) rfl (fun h34 => ?_) (fun h34 => ?_)
        · refine ax_aload_n dX5_reachAll_48 rfl rfl (pc' := 49) rfl ?_
          refine ax_iload_n dX5_reachAll_49 rfl rfl (pc' := 50) rfl ?_
          refine ax_iload_n dX5_reachAll_50 rfl rfl (pc' := 51) rfl ?_
          refine ax_iconst dX5_reachAll_51 (by decide) (pc' := 52) rfl ?_
          refine ax_iconst dX5_reachAll_52 (by decide) (pc' := 53) rfl ?_
          refine ax_iload_n dX5_reachAll_53 rfl rfl (pc' := 54) rfl ?_
          refine ax_iconst dX5_reachAll_54 (by decide) (pc' := 55) rfl ?_
          refine ax_iadd dX5_reachAll_55 (by omega) (pc' := 56) rfl ?_
          refine ax_invG [.inl mo, .inl i, .inl (-1), .inl (-1), .inl (i + 2)] [] dX5_reachAll_56 mlX5_45 sh_88 rfl rfl rfl (Nat.le_of_ble_eq_true rfl) (s_X5_reach E l _ (by omega) _ mo i (-1) (-1) (i + 2) s1 A ([]) B2 mr1_89 mr1_90 ((funext fun i0 => fr1 91 i0 (fun h => h.elim (fun h => absurd h (by decide)) (fun h => h.elim (fun h => absurd h (by decide)) (fun h => absurd h.1 (by decide))))).trans hlt) ((fr1 88 3 (fun h => h.elim (fun h => absurd h (by decide)) (fun h => h.elim (fun h => absurd h (by decide)) (fun h => absurd h.2 (by decide))))).trans hcn) ms1_88_4 iv1_2 (by rw [List.append_nil]; exact qAB.1) hg4 ⟨iv1_0.1, iv1_5.1⟩ ⟨qfB, by omega⟩ (Or.inl ⟨rfl, rfl⟩)) (pc' := 59) rfl (fun vv M_56 hq co56 hcm56 => ?_)
          obtain ⟨rfl, frM_56, fa56_0⟩ := hq
          refine ax_reS (st2 := []) rfl ?_
          refine ax_goto dX5_reachAll_59 (pc' := 85) (by decide) ?_
          have qrl2 : f_rl (f_rch (f_code (A ++ B2)) mo s1) (M_56 89, M_56 90, M_56 88 4) := by
            have q := fa56_0
            rw [List.append_nil] at q
            exact q
          obtain ⟨s2, qs2⟩ : ∃ z, z = f_rch (f_code (A ++ B2)) mo s1 := ⟨_, rfl⟩
          have qgc : f_chg mo A x2 y2 B2 (f_goe mo A x2 y2 B2 s1) = s2 := by
            have hgo : f_goe mo A x2 y2 B2 s1 = f_rch (f_code (A ++ B2)) mo s1 := if_pos (by omega)
            rw [qs2, hgo]
            exact if_neg (by omega)
          have qk2 : s2.1 (f_code L) ≠ -1 := by
            rw [qs2]
            exact f_rch_keep iv1_4 hg4.1
          rw [← qs2] at qrl2
          refine ax_iinc dX5_reachAll_85 rfl (by decide) (by omega) (ls' := [some (.inr 88), some (.inl mo), some (.inl (i + 1)), some (.inl x2), some (.inl y2)]) rfl (pc' := 88) rfl ?_
          refine ax_goto dX5_reachAll_88 (pc' := 2) (by decide) ?_
          refine ax_less (ls2 := [some (.inr 88), some (.inl mo), some (.inl (i + 1)), none, none]) [true, true, true, false, false] rfl ?_
          refine ih3 (i + 1) (M_56 89) (M_56 90) (M_56 88 4) (A ++ [x2]) (y2 :: B2) s2 M_56 ?_ ?_ ?_ ?_ ?_ ?_ ?_ ?_ ?_ ?_ ?_
          · omega
          · intro x0 i0 hai
            exact ((frM_56 x0 i0 (fun h => h.elim (fun h => hai (Or.inl h)) (fun h => h.elim (fun h => hai (Or.inr (Or.inl h))) (fun h => hai (Or.inr (Or.inr h)))))).trans ((fr1 x0 i0 (fun h => h.elim (fun h => hai (Or.inl h)) (fun h => h.elim (fun h => hai (Or.inr (Or.inl h))) (fun h => hai (Or.inr (Or.inr h)))))).trans rfl))
          · exact rfl
          · exact rfl
          · exact rfl
          · rw [List.length_append, List.length_cons, List.length_cons, List.length_nil]
            omega
          · rw [List.append_assoc]
            exact qL
          · exact qrl2
          · rw [← iv1_3, qd, f_gc_2, qgc]
          · exact qk2
          · exact ⟨f_fwd_cat iv1_5.1 ⟨(by rw [show 0 + (A.length : Int) = i by omega]; exact qf.1), trivial⟩, qf.2.1, qf.2.2⟩
        · refine ax_iload_n dX5_reachAll_37 rfl rfl (pc' := 38) rfl ?_
          refine ax_iconst dX5_reachAll_38 (by decide) (pc' := 39) rfl ?_
          refine ax_icmp_ne (tgt := 62) dX5_reachAll_39 (by decide) (pc' := 42) rfl (fun h39 => ?_) (fun h39 => ?_)
          · refine ax_iload_n dX5_reachAll_62 rfl rfl (pc' := 63) rfl ?_
            refine ax_iconst dX5_reachAll_63 (by decide) (pc' := 64) rfl ?_
            refine ax_icmp_eq (tgt := 73) dX5_reachAll_64 (by decide) (pc' := 67) rfl (fun h64 => ?_) (fun h64 => ?_)
            · exfalso
              omega
            · refine ax_iload dX5_reachAll_67 rfl (pc' := 69) rfl ?_
              refine ax_iconst dX5_reachAll_69 (by decide) (pc' := 70) rfl ?_
              refine ax_icmp_ne (tgt := 85) dX5_reachAll_70 (by decide) (pc' := 73) rfl (fun h70 => ?_) (fun h70 => ?_)
              · obtain ⟨s2, qs2⟩ : ∃ z, z = s1 := ⟨_, rfl⟩
                have qrl2 := iv1_2
                have qgc : f_chg mo A x2 y2 B2 (f_goe mo A x2 y2 B2 s1) = s2 := by
                  have hgo : f_goe mo A x2 y2 B2 s1 = s1 := if_neg (by omega)
                  rw [qs2, hgo]
                  exact if_neg (by omega)
                have qk2 : s2.1 (f_code L) ≠ -1 := by
                  rw [qs2]
                  exact iv1_4
                rw [← qs2] at qrl2
                refine ax_iinc dX5_reachAll_85 rfl (by decide) (by omega) (ls' := [some (.inr 88), some (.inl mo), some (.inl (i + 1)), some (.inl x2), some (.inl y2)]) rfl (pc' := 88) rfl ?_
                refine ax_goto dX5_reachAll_88 (pc' := 2) (by decide) ?_
                refine ax_less (ls2 := [some (.inr 88), some (.inl mo), some (.inl (i + 1)), none, none]) [true, true, true, false, false] rfl ?_
                refine ih3 (i + 1) fa1 qu1 n1 (A ++ [x2]) (y2 :: B2) s2 M1 ?_ ?_ ?_ ?_ ?_ ?_ ?_ ?_ ?_ ?_ ?_
                · omega
                · intro x0 i0 hai
                  exact ((fr1 x0 i0 (fun h => h.elim (fun h => hai (Or.inl h)) (fun h => h.elim (fun h => hai (Or.inr (Or.inl h))) (fun h => hai (Or.inr (Or.inr h)))))).trans rfl)
                · exact mr1_89
                · exact mr1_90
                · exact ms1_88_4
                · rw [List.length_append, List.length_cons, List.length_cons, List.length_nil]
                  omega
                · rw [List.append_assoc]
                  exact qL
                · exact qrl2
                · rw [← iv1_3, qd, f_gc_2, qgc]
                · exact qk2
                · exact ⟨f_fwd_cat iv1_5.1 ⟨(by rw [show 0 + (A.length : Int) = i by omega]; exact qf.1), trivial⟩, qf.2.1, qf.2.2⟩
              · refine ax_aload_n dX5_reachAll_73 rfl rfl (pc' := 74) rfl ?_
                refine ax_iload_n dX5_reachAll_74 rfl rfl (pc' := 75) rfl ?_
                refine ax_iload_n dX5_reachAll_75 rfl rfl (pc' := 76) rfl ?_
                refine ax_iload dX5_reachAll_76 rfl (pc' := 78) rfl ?_
                refine ax_iload_n dX5_reachAll_78 rfl rfl (pc' := 79) rfl ?_
                refine ax_iload_n dX5_reachAll_79 rfl rfl (pc' := 80) rfl ?_
                refine ax_iconst dX5_reachAll_80 (by decide) (pc' := 81) rfl ?_
                refine ax_iadd dX5_reachAll_81 (by omega) (pc' := 82) rfl ?_
                refine ax_invG [.inl mo, .inl i, .inl y2, .inl x2, .inl (i + 2)] [] dX5_reachAll_82 mlX5_45 sh_88 rfl rfl rfl (Nat.le_of_ble_eq_true rfl) (s_X5_reach E l _ (by omega) _ mo i y2 x2 (i + 2) s1 A ([y2, x2]) B2 mr1_89 mr1_90 ((funext fun i0 => fr1 91 i0 (fun h => h.elim (fun h => absurd h (by decide)) (fun h => h.elim (fun h => absurd h (by decide)) (fun h => absurd h.1 (by decide))))).trans hlt) ((fr1 88 3 (fun h => h.elim (fun h => absurd h (by decide)) (fun h => h.elim (fun h => absurd h (by decide)) (fun h => absurd h.2 (by decide))))).trans hcn) ms1_88_4 iv1_2 (by rw [List.append_assoc]; exact qAB.2) hg4 ⟨iv1_0.1, iv1_5.1⟩ ⟨qfB, by omega⟩ (Or.inr ⟨by omega, rfl⟩)) (pc' := 85) rfl (fun vv M_82 hq co82 hcm82 => ?_)
                obtain ⟨rfl, frM_82, fa82_0⟩ := hq
                refine ax_reS (st2 := []) rfl ?_
                have qrl2 : f_rl (f_rch (f_code (A ++ y2 :: x2 :: B2)) mo s1) (M_82 89, M_82 90, M_82 88 4) := by
                  have q := fa82_0
                  rw [List.append_assoc] at q
                  exact q
                obtain ⟨s2, qs2⟩ : ∃ z, z = f_rch (f_code (A ++ y2 :: x2 :: B2)) mo s1 := ⟨_, rfl⟩
                have qgc : f_chg mo A x2 y2 B2 (f_goe mo A x2 y2 B2 s1) = s2 := by
                  have hgo : f_goe mo A x2 y2 B2 s1 = s1 := if_neg (by omega)
                  rw [qs2, hgo]
                  exact if_pos (by omega)
                have qk2 : s2.1 (f_code L) ≠ -1 := by
                  rw [qs2]
                  exact f_rch_keep iv1_4 hg4.1
                rw [← qs2] at qrl2
                refine ax_iinc dX5_reachAll_85 rfl (by decide) (by omega) (ls' := [some (.inr 88), some (.inl mo), some (.inl (i + 1)), some (.inl x2), some (.inl y2)]) rfl (pc' := 88) rfl ?_
                refine ax_goto dX5_reachAll_88 (pc' := 2) (by decide) ?_
                refine ax_less (ls2 := [some (.inr 88), some (.inl mo), some (.inl (i + 1)), none, none]) [true, true, true, false, false] rfl ?_
                refine ih3 (i + 1) (M_82 89) (M_82 90) (M_82 88 4) (A ++ [x2]) (y2 :: B2) s2 M_82 ?_ ?_ ?_ ?_ ?_ ?_ ?_ ?_ ?_ ?_ ?_
                · omega
                · intro x0 i0 hai
                  exact ((frM_82 x0 i0 (fun h => h.elim (fun h => hai (Or.inl h)) (fun h => h.elim (fun h => hai (Or.inr (Or.inl h))) (fun h => hai (Or.inr (Or.inr h)))))).trans ((fr1 x0 i0 (fun h => h.elim (fun h => hai (Or.inl h)) (fun h => h.elim (fun h => hai (Or.inr (Or.inl h))) (fun h => hai (Or.inr (Or.inr h)))))).trans rfl))
                · exact rfl
                · exact rfl
                · exact rfl
                · rw [List.length_append, List.length_cons, List.length_cons, List.length_nil]
                  omega
                · rw [List.append_assoc]
                  exact qL
                · exact qrl2
                · rw [← iv1_3, qd, f_gc_2, qgc]
                · exact qk2
                · exact ⟨f_fwd_cat iv1_5.1 ⟨(by rw [show 0 + (A.length : Int) = i by omega]; exact qf.1), trivial⟩, qf.2.1, qf.2.2⟩
          · refine ax_iload dX5_reachAll_42 rfl (pc' := 44) rfl ?_
            refine ax_iconst dX5_reachAll_44 (by decide) (pc' := 45) rfl ?_
            refine ax_icmp_ne (tgt := 62) dX5_reachAll_45 (by decide) (pc' := 48) rfl (fun h45 => ?_) (fun h45 => ?_)
            · refine ax_iload_n dX5_reachAll_62 rfl rfl (pc' := 63) rfl ?_
              refine ax_iconst dX5_reachAll_63 (by decide) (pc' := 64) rfl ?_
              refine ax_icmp_eq (tgt := 73) dX5_reachAll_64 (by decide) (pc' := 67) rfl (fun h64 => ?_) (fun h64 => ?_)
              · refine ax_aload_n dX5_reachAll_73 rfl rfl (pc' := 74) rfl ?_
                refine ax_iload_n dX5_reachAll_74 rfl rfl (pc' := 75) rfl ?_
                refine ax_iload_n dX5_reachAll_75 rfl rfl (pc' := 76) rfl ?_
                refine ax_iload dX5_reachAll_76 rfl (pc' := 78) rfl ?_
                refine ax_iload_n dX5_reachAll_78 rfl rfl (pc' := 79) rfl ?_
                refine ax_iload_n dX5_reachAll_79 rfl rfl (pc' := 80) rfl ?_
                refine ax_iconst dX5_reachAll_80 (by decide) (pc' := 81) rfl ?_
                refine ax_iadd dX5_reachAll_81 (by omega) (pc' := 82) rfl ?_
                refine ax_invG [.inl mo, .inl i, .inl y2, .inl x2, .inl (i + 2)] [] dX5_reachAll_82 mlX5_45 sh_88 rfl rfl rfl (Nat.le_of_ble_eq_true rfl) (s_X5_reach E l _ (by omega) _ mo i y2 x2 (i + 2) s1 A ([y2, x2]) B2 mr1_89 mr1_90 ((funext fun i0 => fr1 91 i0 (fun h => h.elim (fun h => absurd h (by decide)) (fun h => h.elim (fun h => absurd h (by decide)) (fun h => absurd h.1 (by decide))))).trans hlt) ((fr1 88 3 (fun h => h.elim (fun h => absurd h (by decide)) (fun h => h.elim (fun h => absurd h (by decide)) (fun h => absurd h.2 (by decide))))).trans hcn) ms1_88_4 iv1_2 (by rw [List.append_assoc]; exact qAB.2) hg4 ⟨iv1_0.1, iv1_5.1⟩ ⟨qfB, by omega⟩ (Or.inr ⟨by omega, rfl⟩)) (pc' := 85) rfl (fun vv M_82 hq co82 hcm82 => ?_)
                obtain ⟨rfl, frM_82, fa82_0⟩ := hq
                refine ax_reS (st2 := []) rfl ?_
                have qrl2 : f_rl (f_rch (f_code (A ++ y2 :: x2 :: B2)) mo s1) (M_82 89, M_82 90, M_82 88 4) := by
                  have q := fa82_0
                  rw [List.append_assoc] at q
                  exact q
                obtain ⟨s2, qs2⟩ : ∃ z, z = f_rch (f_code (A ++ y2 :: x2 :: B2)) mo s1 := ⟨_, rfl⟩
                have qgc : f_chg mo A x2 y2 B2 (f_goe mo A x2 y2 B2 s1) = s2 := by
                  have hgo : f_goe mo A x2 y2 B2 s1 = s1 := if_neg (by omega)
                  rw [qs2, hgo]
                  exact if_pos (by omega)
                have qk2 : s2.1 (f_code L) ≠ -1 := by
                  rw [qs2]
                  exact f_rch_keep iv1_4 hg4.1
                rw [← qs2] at qrl2
                refine ax_iinc dX5_reachAll_85 rfl (by decide) (by omega) (ls' := [some (.inr 88), some (.inl mo), some (.inl (i + 1)), some (.inl x2), some (.inl y2)]) rfl (pc' := 88) rfl ?_
                refine ax_goto dX5_reachAll_88 (pc' := 2) (by decide) ?_
                refine ax_less (ls2 := [some (.inr 88), some (.inl mo), some (.inl (i + 1)), none, none]) [true, true, true, false, false] rfl ?_
                refine ih3 (i + 1) (M_82 89) (M_82 90) (M_82 88 4) (A ++ [x2]) (y2 :: B2) s2 M_82 ?_ ?_ ?_ ?_ ?_ ?_ ?_ ?_ ?_ ?_ ?_
                · omega
                · intro x0 i0 hai
                  exact ((frM_82 x0 i0 (fun h => h.elim (fun h => hai (Or.inl h)) (fun h => h.elim (fun h => hai (Or.inr (Or.inl h))) (fun h => hai (Or.inr (Or.inr h)))))).trans ((fr1 x0 i0 (fun h => h.elim (fun h => hai (Or.inl h)) (fun h => h.elim (fun h => hai (Or.inr (Or.inl h))) (fun h => hai (Or.inr (Or.inr h)))))).trans rfl))
                · exact rfl
                · exact rfl
                · exact rfl
                · rw [List.length_append, List.length_cons, List.length_cons, List.length_nil]
                  omega
                · rw [List.append_assoc]
                  exact qL
                · exact qrl2
                · rw [← iv1_3, qd, f_gc_2, qgc]
                · exact qk2
                · exact ⟨f_fwd_cat iv1_5.1 ⟨(by rw [show 0 + (A.length : Int) = i by omega]; exact qf.1), trivial⟩, qf.2.1, qf.2.2⟩
              · exfalso
                omega
            · refine ax_aload_n dX5_reachAll_48 rfl rfl (pc' := 49) rfl ?_
              refine ax_iload_n dX5_reachAll_49 rfl rfl (pc' := 50) rfl ?_
              refine ax_iload_n dX5_reachAll_50 rfl rfl (pc' := 51) rfl ?_
              refine ax_iconst dX5_reachAll_51 (by decide) (pc' := 52) rfl ?_
              refine ax_iconst dX5_reachAll_52 (by decide) (pc' := 53) rfl ?_
              refine ax_iload_n dX5_reachAll_53 rfl rfl (pc' := 54) rfl ?_
              refine ax_iconst dX5_reachAll_54 (by decide) (pc' := 55) rfl ?_
              refine ax_iadd dX5_reachAll_55 (by omega) (pc' := 56) rfl ?_
              refine ax_invG [.inl mo, .inl i, .inl (-1), .inl (-1), .inl (i + 2)] [] dX5_reachAll_56 mlX5_45 sh_88 rfl rfl rfl (Nat.le_of_ble_eq_true rfl) (s_X5_reach E l _ (by omega) _ mo i (-1) (-1) (i + 2) s1 A ([]) B2 mr1_89 mr1_90 ((funext fun i0 => fr1 91 i0 (fun h => h.elim (fun h => absurd h (by decide)) (fun h => h.elim (fun h => absurd h (by decide)) (fun h => absurd h.1 (by decide))))).trans hlt) ((fr1 88 3 (fun h => h.elim (fun h => absurd h (by decide)) (fun h => h.elim (fun h => absurd h (by decide)) (fun h => absurd h.2 (by decide))))).trans hcn) ms1_88_4 iv1_2 (by rw [List.append_nil]; exact qAB.1) hg4 ⟨iv1_0.1, iv1_5.1⟩ ⟨qfB, by omega⟩ (Or.inl ⟨rfl, rfl⟩)) (pc' := 59) rfl (fun vv M_56 hq co56 hcm56 => ?_)
              obtain ⟨rfl, frM_56, fa56_0⟩ := hq
              refine ax_reS (st2 := []) rfl ?_
              refine ax_goto dX5_reachAll_59 (pc' := 85) (by decide) ?_
              have qrl2 : f_rl (f_rch (f_code (A ++ B2)) mo s1) (M_56 89, M_56 90, M_56 88 4) := by
                have q := fa56_0
                rw [List.append_nil] at q
                exact q
              obtain ⟨s2, qs2⟩ : ∃ z, z = f_rch (f_code (A ++ B2)) mo s1 := ⟨_, rfl⟩
              have qgc : f_chg mo A x2 y2 B2 (f_goe mo A x2 y2 B2 s1) = s2 := by
                have hgo : f_goe mo A x2 y2 B2 s1 = f_rch (f_code (A ++ B2)) mo s1 := if_pos (by omega)
                rw [qs2, hgo]
                exact (if_pos (Or.inl h39)).trans (f_rch_old (f_rch_keep (by have q := qkk; rw [h39, h45] at q; rw [h39, h45]; exact q) hg4.1))
              have qk2 : s2.1 (f_code L) ≠ -1 := by
                rw [qs2]
                exact f_rch_keep iv1_4 hg4.1
              rw [← qs2] at qrl2
              refine ax_iinc dX5_reachAll_85 rfl (by decide) (by omega) (ls' := [some (.inr 88), some (.inl mo), some (.inl (i + 1)), some (.inl x2), some (.inl y2)]) rfl (pc' := 88) rfl ?_
              refine ax_goto dX5_reachAll_88 (pc' := 2) (by decide) ?_
              refine ax_less (ls2 := [some (.inr 88), some (.inl mo), some (.inl (i + 1)), none, none]) [true, true, true, false, false] rfl ?_
              refine ih3 (i + 1) (M_56 89) (M_56 90) (M_56 88 4) (A ++ [x2]) (y2 :: B2) s2 M_56 ?_ ?_ ?_ ?_ ?_ ?_ ?_ ?_ ?_ ?_ ?_
              · omega
              · intro x0 i0 hai
                exact ((frM_56 x0 i0 (fun h => h.elim (fun h => hai (Or.inl h)) (fun h => h.elim (fun h => hai (Or.inr (Or.inl h))) (fun h => hai (Or.inr (Or.inr h)))))).trans ((fr1 x0 i0 (fun h => h.elim (fun h => hai (Or.inl h)) (fun h => h.elim (fun h => hai (Or.inr (Or.inl h))) (fun h => hai (Or.inr (Or.inr h)))))).trans rfl))
              · exact rfl
              · exact rfl
              · exact rfl
              · rw [List.length_append, List.length_cons, List.length_cons, List.length_nil]
                omega
              · rw [List.append_assoc]
                exact qL
              · exact qrl2
              · rw [← iv1_3, qd, f_gc_2, qgc]
              · exact qk2
              · exact ⟨f_fwd_cat iv1_5.1 ⟨(by rw [show 0 + (A.length : Int) = i by omega]; exact qf.1), trivial⟩, qf.2.1, qf.2.2⟩
  refine LP1 ((L.length : Int) - 0 : Int).toNat.succ 0 fa qu n ([]) L s M ?_ ?_ ?_ ?_ ?_ ?_ ?_ ?_ ?_ ?_ ?_
  · omega
  · exact fun a i _ => rfl
  · exact hfa
  · exact hqu
  · exact hn
  · exact ⟨rfl, Int.zero_add _⟩
  · rfl
  · exact hg0
  · rfl
  · exact hg5
  · exact ⟨trivial, hg2⟩
