/-! rows filled; beginnings; tails -/
def f_flv (g : Int → Int) (n v : Int) : Int → Int := fun j => if 0 ≤ j ∧ j < n then v else g j
theorem f_flv_up {g : Int → Int} {i v : Int} (hi : 0 ≤ i) : f_up (f_flv g i v) i v = f_flv g (i + 1) v := by
  funext j
  unfold f_up
  by_cases hj : j = i
  · rw [if_pos hj]
    show v = if 0 ≤ j ∧ j < i + 1 then v else g j
    rw [if_pos (by omega)]
  · rw [if_neg hj]
    show (if 0 ≤ j ∧ j < i then v else g j) = if 0 ≤ j ∧ j < i + 1 then v else g j
    by_cases h : 0 ≤ j ∧ j < i
    · rw [if_pos h, if_pos (by omega)]
    · rw [if_neg h, if_neg (by omega)]
def f_fgt (ha : Int → Int) (p k : Int) : Int → Int := fun x => if p * 6 ≤ x ∧ x < p * 6 + k then 0 else if 0 < p ∧ (p - 1) * 6 ≤ x ∧ x < (p - 1) * 6 + k then ha x / 2 else ha x
theorem f_fgt_0 {ha : Int → Int} {p : Int} : ha = f_fgt ha p 0 := by
  funext x
  unfold f_fgt
  rw [if_neg (by omega), if_neg (by omega)]
theorem f_fgt_z {ha : Int → Int} {p k : Int} (hp : ¬ 0 < p) (h0 : 0 ≤ p) (hk : 0 ≤ k ∧ k < 6) : f_up (f_fgt ha p k) (p * 6 + k) 0 = f_fgt ha p (k + 1) := by
  funext x
  unfold f_up
  by_cases hx : x = p * 6 + k
  · rw [if_pos hx]
    unfold f_fgt
    rw [if_pos (by omega)]
  · rw [if_neg hx]
    unfold f_fgt
    by_cases h1 : p * 6 ≤ x ∧ x < p * 6 + k
    · rw [if_pos h1, if_pos (by omega)]
    · rw [if_neg h1, if_neg (by omega), if_neg (by omega), if_neg (by omega)]
theorem f_fgt_s {ha : Int → Int} {p k : Int} (hp : 0 < p) (hk : 0 ≤ k ∧ k < 6) : f_up (f_up (f_fgt ha p k) (p * 6 + k) 0) ((p - 1) * 6 + k) (ha ((p - 1) * 6 + k) / 2) = f_fgt ha p (k + 1) := by
  funext x
  unfold f_up
  by_cases hy : x = (p - 1) * 6 + k
  · rw [if_pos hy]
    unfold f_fgt
    rw [if_neg (by omega), if_pos (by omega), hy]
  · rw [if_neg hy]
    by_cases hx : x = p * 6 + k
    · rw [if_pos hx]
      unfold f_fgt
      rw [if_pos (by omega)]
    · rw [if_neg hx]
      unfold f_fgt
      by_cases h1 : p * 6 ≤ x ∧ x < p * 6 + k
      · rw [if_pos h1, if_pos (by omega)]
      · by_cases h2 : 0 < p ∧ (p - 1) * 6 ≤ x ∧ x < (p - 1) * 6 + k
        · rw [if_neg h1, if_pos h2, if_neg (by omega), if_pos (by omega)]
        · rw [if_neg h1, if_neg h2, if_neg (by omega), if_neg (by omega)]
theorem f_fgt_at {ha : Int → Int} {p k : Int} (hp : 0 < p) (hk : 0 ≤ k ∧ k < 6) : f_up (f_fgt ha p k) (p * 6 + k) 0 ((p - 1) * 6 + k) = ha ((p - 1) * 6 + k) := by
  rw [f_up_o (by omega)]
  unfold f_fgt
  rw [if_neg (by omega), if_neg (by omega)]
set_option maxRecDepth 20000 in
theorem s_J7_fill_53178 (E : ax_Env) (l : Launch) (d : Nat) (hd : 0 ≤ d) (M : ax_Mem) (b v : Int) (n : Nat) {g : Int → Int} (hg : M b = g) (hg0 : ax_sh SH b = some (13, n, [])) (hg1 : n < 100000) : ax_G E l d iJ7_fill_53178 [.inr b, .inl v] M (fun z0 M2 => z0 = none ∧ (∀ x0 i0 : Int, ¬ (x0 = b) → M2 x0 i0 = M x0 i0) ∧ M2 b = f_flv g (n : Int) v) := by
  refine ax_start rfl (Nat.le_of_ble_eq_true rfl) (ls := [some (.inr b), some (.inl v), none, none]) rfl (fun hav hcm => ?_)
  have hc1 : -2147483648 ≤ v ∧ v < 2147483648 := hav (.inl v) (by simp)
  clear hav
  refine ax_iconst dJ7_fill_53178_0 (by decide) (pc' := 1) rfl ?_
  refine ax_istore_n dJ7_fill_53178_1 rfl (by decide) (ls' := [some (.inr b), some (.inl v), some (.inl 0), none]) rfl (pc' := 2) rfl ?_
  refine ax_aload_n dJ7_fill_53178_2 rfl rfl (pc' := 3) rfl ?_
  refine ax_alen dJ7_fill_53178_3 hg0 (by omega) (pc' := 4) rfl ?_
  refine ax_istore_n dJ7_fill_53178_4 rfl (by decide) (ls' := [some (.inr b), some (.inl v), some (.inl 0), some (.inl (n : Int))]) rfl (pc' := 5) rfl ?_
  have LP1 : ∀ (kq2 : Nat) (i : Int) (g1 : Int → Int) (M1 : ax_Mem) (hm1 : (n : Int) - i < (kq2 : Nat)) (fr1 : ∀ x0 i0 : Int, ¬ (x0 = b) → M1 x0 i0 = M x0 i0) (mr1_b : M1 b = g1) (iv1_0 : 0 ≤ i ∧ i ≤ (n : Int)) (iv1_1 : g1 = f_flv g i v), ax_W E l d 0 0 iJ7_fill_53178 5 [some (.inr b), some (.inl v), some (.inl i), some (.inl (n : Int))] [] SH M1 (ax_P (fun z0 M2 => z0 = none ∧ (∀ x0 i0 : Int, ¬ (x0 = b) → M2 x0 i0 = M x0 i0) ∧ M2 b = f_flv g (n : Int) v)) := by
    intro kq2
    induction kq2 with
    | zero =>
      intro i g1 M1 hm1 fr1 mr1_b iv1_0 iv1_1
      exfalso
      omega
    | succ kq2 ih3 =>
      intro i g1 M1 hm1 fr1 mr1_b iv1_0 iv1_1
      refine ax_iload_n dJ7_fill_53178_5 rfl rfl (pc' := 6) rfl ?_
      refine ax_iload_n dJ7_fill_53178_6 rfl rfl (pc' := 7) rfl ?_
      refine ax_icmp_ge (tgt := 20) dJ7_fill_53178_7 (by decide) (pc' := 10) rfl (fun h7 => ?_) (fun h7 => ?_)
      · refine ax_vret dJ7_fill_53178_20 rfl ?_
        refine ⟨rfl, rfl, ?_, ?_⟩
        · intro x0 i0 hai
          exact ((fr1 x0 i0 (fun h => hai h)).trans rfl)
        · refine Eq.trans mr1_b ?_
          rw [iv1_1, show i = (n : Int) by omega]
      · refine ax_aload_n dJ7_fill_53178_10 rfl rfl (pc' := 11) rfl ?_
        refine ax_iload_n dJ7_fill_53178_11 rfl rfl (pc' := 12) rfl ?_
        refine ax_iload_n dJ7_fill_53178_12 rfl rfl (pc' := 13) rfl ?_
        refine ax_iast dJ7_fill_53178_13 hg0 rfl (by omega) (by omega) (pc' := 14) rfl ?_
        refine ax_iinc dJ7_fill_53178_14 rfl (by decide) (by omega) (ls' := [some (.inr b), some (.inl v), some (.inl (i + 1)), some (.inl (n : Int))]) rfl (pc' := 17) rfl ?_
        refine ax_goto dJ7_fill_53178_17 (pc' := 5) (by decide) ?_
        refine ih3 (i + 1) (f_up g1 i v) (ax_up M1 b i v) ?_ ?_ ?_ ?_ ?_
        · omega
        · intro x0 i0 hai
          exact (ax_up_miss (fun h => hai h.1) ((fr1 x0 i0 (fun h => hai h)).trans rfl))
        · exact (ax_up_rowhit mr1_b)
        · omega
        · rw [iv1_1]
          exact f_flv_up (by omega)
  refine LP1 ((n : Int) - 0 : Int).toNat.succ 0 g M ?_ ?_ ?_ ?_ ?_
  · omega
  · exact fun a i _ => rfl
  · exact hg
  · omega
  · funext j
    unfold f_flv
    rw [if_neg (by omega)]
set_option maxRecDepth 20000 in
theorem s_X7_begin (E : ax_Env) (l : Launch) (d : Nat) (hd : 1 ≤ d) (M : ax_Mem) (a n ow dy : Int) {ti : Int → Int} (hti : M (a + 1) = ti) {ha : Int → Int} (hha : M (a + 2) = ha) {si : Int → Int} (hsi : M (a + 3) = si) (hg0 : f_rp a) : ax_G E l d iX7_begin [.inr a, .inl n, .inl ow, .inl dy] M (fun z0 M2 => z0 = none ∧ (∀ x0 i0 : Int, ¬ (x0 = a + 1 ∨ x0 = a + 2 ∨ x0 = a + 3 ∨ (x0 = a ∧ i0 = 0) ∨ (x0 = a ∧ i0 = 1) ∨ (x0 = a ∧ i0 = 2) ∨ (x0 = a ∧ i0 = 3) ∨ (x0 = a ∧ i0 = 4)) → M2 x0 i0 = M x0 i0) ∧ M2 (a + 1) = f_flv ti 24 (-1) ∧ M2 (a + 2) = f_flv ha 144 0 ∧ M2 (a + 3) = f_flv si 144 0 ∧ M2 a 0 = 1 ∧ M2 a 1 = n ∧ M2 a 2 = ow ∧ M2 a 3 = dy ∧ M2 a 4 = 0) := by
  obtain ⟨d, rfl⟩ : ∃ d0, d = d0 + 1 := ⟨d - 1, by omega⟩
  refine ax_start rfl (Nat.le_of_ble_eq_true rfl) (ls := [some (.inr a), some (.inl n), some (.inl ow), some (.inl dy)]) rfl (fun hav hcm => ?_)
  have hc1 : -2147483648 ≤ n ∧ n < 2147483648 := hav (.inl n) (by simp)
  have hc2 : -2147483648 ≤ ow ∧ ow < 2147483648 := hav (.inl ow) (by simp)
  have hc3 : -2147483648 ≤ dy ∧ dy < 2147483648 := hav (.inl dy) (by simp)
  clear hav
  refine ax_aload_n dX7_begin_0 rfl rfl (pc' := 1) rfl ?_
  refine ax_iconst dX7_begin_1 (by decide) (pc' := 2) rfl ?_
  refine ax_puti dX7_begin_2 flX7_21 (Or.inr ⟨rfl, by first | exact Or.inl rfl | exact Or.inr rfl | omega⟩) hg0.1 rfl (pc' := 5) rfl ?_
  refine ax_aload_n dX7_begin_5 rfl rfl (pc' := 6) rfl ?_
  refine ax_iload_n dX7_begin_6 rfl rfl (pc' := 7) rfl ?_
  refine ax_puti dX7_begin_7 flX7_25 (Or.inl rfl) hg0.1 rfl (pc' := 10) rfl ?_
  refine ax_aload_n dX7_begin_10 rfl rfl (pc' := 11) rfl ?_
  refine ax_iload_n dX7_begin_11 rfl rfl (pc' := 12) rfl ?_
  refine ax_puti dX7_begin_12 flX7_29 (Or.inl rfl) hg0.1 rfl (pc' := 15) rfl ?_
  refine ax_aload_n dX7_begin_15 rfl rfl (pc' := 16) rfl ?_
  refine ax_iload_n dX7_begin_16 rfl rfl (pc' := 17) rfl ?_
  refine ax_puti dX7_begin_17 flX7_32 (Or.inl rfl) hg0.1 rfl (pc' := 20) rfl ?_
  refine ax_aload_n dX7_begin_20 rfl rfl (pc' := 21) rfl ?_
  refine ax_iconst dX7_begin_21 (by decide) (pc' := 22) rfl ?_
  refine ax_puti dX7_begin_22 flX7_35 (Or.inl rfl) hg0.1 rfl (pc' := 25) rfl ?_
  refine ax_aload_n dX7_begin_25 rfl rfl (pc' := 26) rfl ?_
  refine ax_getr (v := a + 1) dX7_begin_26 flX7_9 rfl hg0.1 rfl (pc' := 29) rfl ?_
  refine ax_iconst dX7_begin_29 (by decide) (pc' := 30) rfl ?_
  refine ax_insG [.inr (a + 1), .inl (-1)] [] dX7_begin_30 mlX7_44 rfl rfl (Nat.le_of_ble_eq_true rfl) (s_J7_fill_53178 E l _ (by omega) _ (a + 1) (-1) 24 (ax_up_rowmiss (by omega) (ax_up_rowmiss (by omega) (ax_up_rowmiss (by omega) (ax_up_rowmiss (by omega) (ax_up_rowmiss (by omega) hti))))) hg0.2.1 (by decide)) (pc' := 33) rfl (fun vv M_30 hq co30 hcm30 => ?_)
  obtain ⟨rfl, frM_30, mrM_30_0⟩ := hq
  refine ax_reS (st2 := []) rfl ?_
  refine ax_aload_n dX7_begin_33 rfl rfl (pc' := 34) rfl ?_
  refine ax_getr (v := a + 2) dX7_begin_34 flX7_15 rfl hg0.1 rfl (pc' := 37) rfl ?_
  refine ax_iconst dX7_begin_37 (by decide) (pc' := 38) rfl ?_
  refine ax_insG [.inr (a + 2), .inl 0] [] dX7_begin_38 mlX7_44 rfl rfl (Nat.le_of_ble_eq_true rfl) (s_J7_fill_53178 E l _ (by omega) _ (a + 2) 0 144 ((funext fun i0 => frM_30 (a + 2) i0 (by omega)).trans (ax_up_rowmiss (by omega) (ax_up_rowmiss (by omega) (ax_up_rowmiss (by omega) (ax_up_rowmiss (by omega) (ax_up_rowmiss (by omega) hha)))))) hg0.2.2.1 (by decide)) (pc' := 41) rfl (fun vv M_38 hq co38 hcm38 => ?_)
  obtain ⟨rfl, frM_38, mrM_38_0⟩ := hq
  refine ax_reS (st2 := []) rfl ?_
  refine ax_aload_n dX7_begin_41 rfl rfl (pc' := 42) rfl ?_
  refine ax_getr (v := a + 3) dX7_begin_42 flX7_18 rfl hg0.1 rfl (pc' := 45) rfl ?_
  refine ax_iconst dX7_begin_45 (by decide) (pc' := 46) rfl ?_
  refine ax_insG [.inr (a + 3), .inl 0] [] dX7_begin_46 mlX7_44 rfl rfl (Nat.le_of_ble_eq_true rfl) (s_J7_fill_53178 E l _ (by omega) _ (a + 3) 0 144 ((funext fun i0 => frM_38 (a + 3) i0 (by omega)).trans ((funext fun i0 => frM_30 (a + 3) i0 (by omega)).trans (ax_up_rowmiss (by omega) (ax_up_rowmiss (by omega) (ax_up_rowmiss (by omega) (ax_up_rowmiss (by omega) (ax_up_rowmiss (by omega) hsi))))))) hg0.2.2.2 (by decide)) (pc' := 49) rfl (fun vv M_46 hq co46 hcm46 => ?_)
  obtain ⟨rfl, frM_46, mrM_46_0⟩ := hq
  refine ax_reS (st2 := []) rfl ?_
  refine ax_vret dX7_begin_49 rfl ?_
  refine ⟨rfl, rfl, ?_, ?_, ?_, ?_, ?_, ?_, ?_, ?_, ?_⟩
  · intro x0 i0 hai
    exact ((frM_46 x0 i0 (fun h => hai (Or.inr (Or.inr (Or.inl h))))).trans ((frM_38 x0 i0 (fun h => hai (Or.inr (Or.inl h)))).trans ((frM_30 x0 i0 (fun h => hai (Or.inl h))).trans (ax_up_miss (fun h => hai (Or.inr (Or.inr (Or.inr (Or.inr (Or.inr (Or.inr (Or.inr h)))))))) (ax_up_miss (fun h => hai (Or.inr (Or.inr (Or.inr (Or.inr (Or.inr (Or.inr (Or.inl h)))))))) (ax_up_miss (fun h => hai (Or.inr (Or.inr (Or.inr (Or.inr (Or.inr (Or.inl h))))))) (ax_up_miss (fun h => hai (Or.inr (Or.inr (Or.inr (Or.inr (Or.inl h)))))) (ax_up_miss (fun h => hai (Or.inr (Or.inr (Or.inr (Or.inl h))))) rfl))))))))
  · exact ((funext fun i0 => frM_46 (a + 1) i0 (by omega)).trans ((funext fun i0 => frM_38 (a + 1) i0 (by omega)).trans mrM_30_0))
  · exact ((funext fun i0 => frM_46 (a + 2) i0 (by omega)).trans mrM_38_0)
  · exact mrM_46_0
  · exact ((frM_46 a 0 (by omega)).trans ((frM_38 a 0 (by omega)).trans ((frM_30 a 0 (by omega)).trans (ax_up_miss (fun h => absurd h.2 (by decide)) (ax_up_miss (fun h => absurd h.2 (by decide)) (ax_up_miss (fun h => absurd h.2 (by decide)) (ax_up_miss (fun h => absurd h.2 (by decide)) (ax_up_hit _ _ _ _))))))))
  · exact ((frM_46 a 1 (by omega)).trans ((frM_38 a 1 (by omega)).trans ((frM_30 a 1 (by omega)).trans (ax_up_miss (fun h => absurd h.2 (by decide)) (ax_up_miss (fun h => absurd h.2 (by decide)) (ax_up_miss (fun h => absurd h.2 (by decide)) (ax_up_hit _ _ _ _)))))))
  · exact ((frM_46 a 2 (by omega)).trans ((frM_38 a 2 (by omega)).trans ((frM_30 a 2 (by omega)).trans (ax_up_miss (fun h => absurd h.2 (by decide)) (ax_up_miss (fun h => absurd h.2 (by decide)) (ax_up_hit _ _ _ _))))))
  · exact ((frM_46 a 3 (by omega)).trans ((frM_38 a 3 (by omega)).trans ((frM_30 a 3 (by omega)).trans (ax_up_miss (fun h => absurd h.2 (by decide)) (ax_up_hit _ _ _ _)))))
  · exact ((frM_46 a 4 (by omega)).trans ((frM_38 a 4 (by omega)).trans ((frM_30 a 4 (by omega)).trans (ax_up_hit _ _ _ _))))
set_option maxRecDepth 20000 in
theorem s_X7_forgetBeside (E : ax_Env) (l : Launch) (d : Nat) (hd : 0 ≤ d) (M : ax_Mem) (a p : Int) {ha : Int → Int} (hha : M (a + 2) = ha) (hg0 : f_rp a) (hg1 : 0 ≤ p ∧ p < 24) (hg2 : 0 < p → ∀ k, 0 ≤ k → k < 6 → 0 ≤ ha ((p - 1) * 6 + k)) : ax_G E l d iX7_forgetBeside [.inr a, .inl p] M (fun z0 M2 => z0 = none ∧ (∀ x0 i0 : Int, ¬ (x0 = a + 2) → M2 x0 i0 = M x0 i0) ∧ M2 (a + 2) = f_fgt ha p 6) := by
  refine ax_start rfl (Nat.le_of_ble_eq_true rfl) (ls := [some (.inr a), some (.inl p), none]) rfl (fun hav hcm => ?_)
  have hc1 : -2147483648 ≤ p ∧ p < 2147483648 := hav (.inl p) (by simp)
  clear hav
  refine ax_iconst dX7_forgetBeside_0 (by decide) (pc' := 1) rfl ?_
  refine ax_istore_n dX7_forgetBeside_1 rfl (by decide) (ls' := [some (.inr a), some (.inl p), some (.inl 0)]) rfl (pc' := 2) rfl ?_
  have LP1 : ∀ (kq2 : Nat) (k : Int) (g1 : Int → Int) (M1 : ax_Mem) (hm1 : 6 - k < (kq2 : Nat)) (fr1 : ∀ x0 i0 : Int, ¬ (x0 = a + 2) → M1 x0 i0 = M x0 i0) (mr1_a2 : M1 (a + 2) = g1) (iv1_0 : 0 ≤ k ∧ k ≤ 6) (iv1_1 : g1 = f_fgt ha p k), ax_W E l d 0 0 iX7_forgetBeside 2 [some (.inr a), some (.inl p), some (.inl k)] [] SH M1 (ax_P (fun z0 M2 => z0 = none ∧ (∀ x0 i0 : Int, ¬ (x0 = a + 2) → M2 x0 i0 = M x0 i0) ∧ M2 (a + 2) = f_fgt ha p 6)) := by
    intro kq2
    induction kq2 with
    | zero =>
      intro k g1 M1 hm1 fr1 mr1_a2 iv1_0 iv1_1
      exfalso
      omega
    | succ kq2 ih3 =>
      intro k g1 M1 hm1 fr1 mr1_a2 iv1_0 iv1_1
      refine ax_iload_n dX7_forgetBeside_2 rfl rfl (pc' := 3) rfl ?_
      refine ax_bipush dX7_forgetBeside_3 (by decide) (pc' := 5) rfl ?_
      refine ax_icmp_ge (tgt := 47) dX7_forgetBeside_5 (by decide) (pc' := 8) rfl (fun h5 => ?_) (fun h5 => ?_)
      · refine ax_vret dX7_forgetBeside_47 rfl ?_
        refine ⟨rfl, rfl, ?_, ?_⟩
        · intro x0 i0 hai
          exact ((fr1 x0 i0 (fun h => hai h)).trans rfl)
        · refine Eq.trans mr1_a2 ?_
          rw [iv1_1, show k = 6 by omega]
      · refine ax_aload_n dX7_forgetBeside_8 rfl rfl (pc' := 9) rfl ?_
        refine ax_getr (v := a + 2) dX7_forgetBeside_9 flX7_15 rfl hg0.1 rfl (pc' := 12) rfl ?_
        refine ax_iload_n dX7_forgetBeside_12 rfl rfl (pc' := 13) rfl ?_
        refine ax_bipush dX7_forgetBeside_13 (by decide) (pc' := 15) rfl ?_
        refine ax_imul dX7_forgetBeside_15 (by omega) (pc' := 16) rfl ?_
        refine ax_iload_n dX7_forgetBeside_16 rfl rfl (pc' := 17) rfl ?_
        refine ax_iadd dX7_forgetBeside_17 (by omega) (pc' := 18) rfl ?_
        refine ax_iconst dX7_forgetBeside_18 (by decide) (pc' := 19) rfl ?_
        refine ax_iast dX7_forgetBeside_19 hg0.2.2.1 rfl (by omega) (by omega) (pc' := 20) rfl ?_
        refine ax_iload_n dX7_forgetBeside_20 rfl rfl (pc' := 21) rfl ?_
        refine ax_if_le (tgt := 41) dX7_forgetBeside_21 (by decide) (pc' := 24) rfl (fun h21 => ?_) (fun h21 => ?_)
        · have qb : f_up g1 (p * 6 + k) 0 = f_fgt ha p (k + 1) := by
            rw [iv1_1]
            exact f_fgt_z (by omega) (by omega) ⟨by omega, by omega⟩
          refine ax_iinc dX7_forgetBeside_41 rfl (by decide) (by omega) (ls' := [some (.inr a), some (.inl p), some (.inl (k + 1))]) rfl (pc' := 44) rfl ?_
          refine ax_goto dX7_forgetBeside_44 (pc' := 2) (by decide) ?_
          refine ih3 (k + 1) (f_up g1 (p * 6 + k) 0) (ax_up M1 (a + 2) (p * 6 + k) 0) ?_ ?_ ?_ ?_ ?_
          · omega
          · intro x0 i0 hai
            exact (ax_up_miss (fun h => hai h.1) ((fr1 x0 i0 (fun h => hai h)).trans rfl))
          · exact (ax_up_rowhit mr1_a2)
          · omega
          · exact qb
        · have qb : f_up (f_up g1 (p * 6 + k) 0) ((p - 1) * 6 + k) (ha ((p - 1) * 6 + k) / 2) = f_fgt ha p (k + 1) := by
            rw [iv1_1]
            exact f_fgt_s (by omega) ⟨by omega, by omega⟩
          have qh := hg2 (by omega) k (by omega) (by omega)
          refine ax_aload_n dX7_forgetBeside_24 rfl rfl (pc' := 25) rfl ?_
          refine ax_getr (v := a + 2) dX7_forgetBeside_25 flX7_15 rfl hg0.1 rfl (pc' := 28) rfl ?_
          refine ax_iload_n dX7_forgetBeside_28 rfl rfl (pc' := 29) rfl ?_
          refine ax_iconst dX7_forgetBeside_29 (by decide) (pc' := 30) rfl ?_
          refine ax_isub dX7_forgetBeside_30 (by omega) (pc' := 31) rfl ?_
          refine ax_bipush dX7_forgetBeside_31 (by decide) (pc' := 33) rfl ?_
          refine ax_imul dX7_forgetBeside_33 (by omega) (pc' := 34) rfl ?_
          refine ax_iload_n dX7_forgetBeside_34 rfl rfl (pc' := 35) rfl ?_
          refine ax_iadd dX7_forgetBeside_35 (by omega) (pc' := 36) rfl ?_
          refine ax_dup2 dX7_forgetBeside_36 (pc' := 37) rfl ?_
          refine ax_iald (v := (f_up g1 (p * 6 + k) 0) ((p - 1) * 6 + k)) dX7_forgetBeside_37 hg0.2.2.1 rfl (by omega) (by omega) ((congrFun (ax_up_rowhit mr1_a2) ((p - 1) * 6 + k)).trans rfl) (pc' := 38) rfl ?_
          refine ax_reS (st2 := [.inl (ha ((p - 1) * 6 + k)), .inl ((p - 1) * 6 + k), .inr (a + 2)]) (congrArg (fun z => Sum.inl z :: _) (by rw [iv1_1]; exact f_fgt_at (by omega) ⟨by omega, by omega⟩)) ?_
          refine ax_iconst dX7_forgetBeside_38 (by decide) (pc' := 39) rfl ?_
          refine ax_idiv dX7_forgetBeside_39 (by omega) (by omega) (pc' := 40) rfl ?_
          refine ax_iast dX7_forgetBeside_40 hg0.2.2.1 rfl (by omega) (by omega) (pc' := 41) rfl ?_
          refine ax_iinc dX7_forgetBeside_41 rfl (by decide) (by omega) (ls' := [some (.inr a), some (.inl p), some (.inl (k + 1))]) rfl (pc' := 44) rfl ?_
          refine ax_goto dX7_forgetBeside_44 (pc' := 2) (by decide) ?_
          refine ih3 (k + 1) (f_up (f_up g1 (p * 6 + k) 0) ((p - 1) * 6 + k) ((ha ((p - 1) * 6 + k)) / 2)) (ax_up (ax_up M1 (a + 2) (p * 6 + k) 0) (a + 2) ((p - 1) * 6 + k) ((ha ((p - 1) * 6 + k)) / 2)) ?_ ?_ ?_ ?_ ?_
          · omega
          · intro x0 i0 hai
            exact (ax_up_miss (fun h => hai h.1) (ax_up_miss (fun h => hai h.1) ((fr1 x0 i0 (fun h => hai h)).trans rfl)))
          · exact (ax_up_rowhit (ax_up_rowhit mr1_a2))
          · omega
          · exact qb
  refine LP1 (6 - 0 : Int).toNat.succ 0 ha M ?_ ?_ ?_ ?_ ?_
  · omega
  · exact fun a i _ => rfl
  · exact hha
  · omega
  · exact f_fgt_0
set_option maxRecDepth 20000 in
theorem s_X7_copyPlaces (E : ax_Env) (l : Launch) (d : Nat) (hd : 1 ≤ d) (M : ax_Mem) (a b st to mn : Int) {ti : Int → Int} (hti : M (a + 1) = ti) {ha : Int → Int} (hha : M (a + 2) = ha) {si : Int → Int} (hsi : M (a + 3) = si) {tib : Int → Int} (htib : M (b + 1) = tib) {hab : Int → Int} (hhab : M (b + 2) = hab) {sib : Int → Int} (hsib : M (b + 3) = sib) (hg0 : f_rp a) (hg1 : f_rp b) (hg2 : a + 4 ≤ b ∨ b + 4 ≤ a) (hg3 : 0 ≤ st ∧ 0 ≤ to ∧ 0 ≤ mn ∧ st + mn ≤ 24 ∧ to + mn ≤ 24) : ax_G E l d iX7_copyPlaces [.inr a, .inr b, .inl st, .inl to, .inl mn] M (fun z0 M2 => z0 = none ∧ (∀ x0 i0 : Int, ¬ (x0 = a + 1 ∨ x0 = a + 2 ∨ x0 = a + 3) → M2 x0 i0 = M x0 i0) ∧ M2 (a + 1) = f_cp tib st ti to mn ∧ M2 (a + 2) = f_cp hab (st * 6) ha (to * 6) (mn * 6) ∧ M2 (a + 3) = f_cp sib (st * 6) si (to * 6) (mn * 6)) := by
  obtain ⟨d, rfl⟩ : ∃ d0, d = d0 + 1 := ⟨d - 1, by omega⟩
  refine ax_start rfl (Nat.le_of_ble_eq_true rfl) (ls := [some (.inr a), some (.inr b), some (.inl st), some (.inl to), some (.inl mn)]) rfl (fun hav hcm => ?_)
  have hc2 : -2147483648 ≤ st ∧ st < 2147483648 := hav (.inl st) (by simp)
  have hc3 : -2147483648 ≤ to ∧ to < 2147483648 := hav (.inl to) (by simp)
  have hc4 : -2147483648 ≤ mn ∧ mn < 2147483648 := hav (.inl mn) (by simp)
  clear hav
  refine ax_aload_n dX7_copyPlaces_0 rfl rfl (pc' := 1) rfl ?_
  refine ax_getr (v := b + 1) dX7_copyPlaces_1 flX7_9 rfl hg1.1 rfl (pc' := 4) rfl ?_
  refine ax_iload_n dX7_copyPlaces_4 rfl rfl (pc' := 5) rfl ?_
  refine ax_aload_n dX7_copyPlaces_5 rfl rfl (pc' := 6) rfl ?_
  refine ax_getr (v := a + 1) dX7_copyPlaces_6 flX7_9 rfl hg0.1 rfl (pc' := 9) rfl ?_
  refine ax_iload_n dX7_copyPlaces_9 rfl rfl (pc' := 10) rfl ?_
  refine ax_iload dX7_copyPlaces_10 rfl (pc' := 12) rfl ?_
  refine ax_copy dX7_copyPlaces_12 mlX7_38 hg1.2.1 hg0.2.1 rfl rfl (by omega) (by omega) (by omega) (by omega) (by omega) (Nat.le_of_ble_eq_true rfl) (pc' := 15) rfl ?_
  obtain ⟨MC1, eMC1⟩ : ∃ z, z = ax_cp M (b + 1) st (a + 1) to mn := ⟨_, rfl⟩
  change ax_W _ _ _ _ _ _ _ _ _ _ (ax_cp M (b + 1) st (a + 1) to mn) _
  rw [← eMC1]
  have fMC1 := ax_cp_fr eMC1
  have rMC1 := ax_cp_row eMC1 htib hti
  refine ax_aload_n dX7_copyPlaces_15 rfl rfl (pc' := 16) rfl ?_
  refine ax_getr (v := b + 2) dX7_copyPlaces_16 flX7_15 rfl hg1.1 rfl (pc' := 19) rfl ?_
  refine ax_iload_n dX7_copyPlaces_19 rfl rfl (pc' := 20) rfl ?_
  refine ax_bipush dX7_copyPlaces_20 (by decide) (pc' := 22) rfl ?_
  refine ax_imul dX7_copyPlaces_22 (by omega) (pc' := 23) rfl ?_
  refine ax_aload_n dX7_copyPlaces_23 rfl rfl (pc' := 24) rfl ?_
  refine ax_getr (v := a + 2) dX7_copyPlaces_24 flX7_15 rfl hg0.1 rfl (pc' := 27) rfl ?_
  refine ax_iload_n dX7_copyPlaces_27 rfl rfl (pc' := 28) rfl ?_
  refine ax_bipush dX7_copyPlaces_28 (by decide) (pc' := 30) rfl ?_
  refine ax_imul dX7_copyPlaces_30 (by omega) (pc' := 31) rfl ?_
  refine ax_iload dX7_copyPlaces_31 rfl (pc' := 33) rfl ?_
  refine ax_bipush dX7_copyPlaces_33 (by decide) (pc' := 35) rfl ?_
  refine ax_imul dX7_copyPlaces_35 (by omega) (pc' := 36) rfl ?_
  refine ax_copy dX7_copyPlaces_36 mlX7_38 hg1.2.2.1 hg0.2.2.1 rfl rfl (by omega) (by omega) (by omega) (by omega) (by omega) (Nat.le_of_ble_eq_true rfl) (pc' := 39) rfl ?_
  obtain ⟨MC2, eMC2⟩ : ∃ z, z = ax_cp MC1 (b + 2) (st * 6) (a + 2) (to * 6) (mn * 6) := ⟨_, rfl⟩
  change ax_W _ _ _ _ _ _ _ _ _ _ (ax_cp MC1 (b + 2) (st * 6) (a + 2) (to * 6) (mn * 6)) _
  rw [← eMC2]
  have fMC2 := ax_cp_fr eMC2
  have rMC2 := ax_cp_row eMC2 ((funext fun i0 => fMC1 (b + 2) i0 (by omega)).trans hhab) ((funext fun i0 => fMC1 (a + 2) i0 (by omega)).trans hha)
  refine ax_aload_n dX7_copyPlaces_39 rfl rfl (pc' := 40) rfl ?_
  refine ax_getr (v := b + 3) dX7_copyPlaces_40 flX7_18 rfl hg1.1 rfl (pc' := 43) rfl ?_
  refine ax_iload_n dX7_copyPlaces_43 rfl rfl (pc' := 44) rfl ?_
  refine ax_bipush dX7_copyPlaces_44 (by decide) (pc' := 46) rfl ?_
  refine ax_imul dX7_copyPlaces_46 (by omega) (pc' := 47) rfl ?_
  refine ax_aload_n dX7_copyPlaces_47 rfl rfl (pc' := 48) rfl ?_
  refine ax_getr (v := a + 3) dX7_copyPlaces_48 flX7_18 rfl hg0.1 rfl (pc' := 51) rfl ?_
  refine ax_iload_n dX7_copyPlaces_51 rfl rfl (pc' := 52) rfl ?_
  refine ax_bipush dX7_copyPlaces_52 (by decide) (pc' := 54) rfl ?_
  refine ax_imul dX7_copyPlaces_54 (by omega) (pc' := 55) rfl ?_
  refine ax_iload dX7_copyPlaces_55 rfl (pc' := 57) rfl ?_
  refine ax_bipush dX7_copyPlaces_57 (by decide) (pc' := 59) rfl ?_
  refine ax_imul dX7_copyPlaces_59 (by omega) (pc' := 60) rfl ?_
  refine ax_copy dX7_copyPlaces_60 mlX7_38 hg1.2.2.2 hg0.2.2.2 rfl rfl (by omega) (by omega) (by omega) (by omega) (by omega) (Nat.le_of_ble_eq_true rfl) (pc' := 63) rfl ?_
  obtain ⟨MC3, eMC3⟩ : ∃ z, z = ax_cp MC2 (b + 3) (st * 6) (a + 3) (to * 6) (mn * 6) := ⟨_, rfl⟩
  change ax_W _ _ _ _ _ _ _ _ _ _ (ax_cp MC2 (b + 3) (st * 6) (a + 3) (to * 6) (mn * 6)) _
  rw [← eMC3]
  have fMC3 := ax_cp_fr eMC3
  have rMC3 := ax_cp_row eMC3 ((funext fun i0 => fMC2 (b + 3) i0 (by omega)).trans ((funext fun i0 => fMC1 (b + 3) i0 (by omega)).trans hsib)) ((funext fun i0 => fMC2 (a + 3) i0 (by omega)).trans ((funext fun i0 => fMC1 (a + 3) i0 (by omega)).trans hsi))
  refine ax_vret dX7_copyPlaces_63 rfl ?_
  refine ⟨rfl, rfl, ?_, ?_, ?_, ?_⟩
  · intro x0 i0 hai
    exact ((fMC3 x0 i0 (fun h => hai (Or.inr (Or.inr h)))).trans ((fMC2 x0 i0 (fun h => hai (Or.inr (Or.inl h)))).trans ((fMC1 x0 i0 (fun h => hai (Or.inl h))).trans rfl)))
  · exact ((funext fun i0 => fMC3 (a + 1) i0 (by omega)).trans ((funext fun i0 => fMC2 (a + 1) i0 (by omega)).trans rMC1))
  · exact ((funext fun i0 => fMC3 (a + 2) i0 (by omega)).trans rMC2)
  · exact rMC3
set_option maxRecDepth 20000 in
theorem s_X7_takeTail (E : ax_Env) (l : Launch) (d : Nat) (hd : 2 ≤ d) (M : ax_Mem) (a b p : Int) {ti : Int → Int} (hti : M (a + 1) = ti) {ha : Int → Int} (hha : M (a + 2) = ha) {si : Int → Int} (hsi : M (a + 3) = si) {tib : Int → Int} (htib : M (b + 1) = tib) {hab : Int → Int} (hhab : M (b + 2) = hab) {sib : Int → Int} (hsib : M (b + 3) = sib) {ln : Int} (hln : M b 1 = ln) {ow : Int} (how : M b 2 = ow) {bo : Int} (hbo : M b 3 = bo) {we : Int} (hwe : M b 4 = we) (hg0 : f_rp a) (hg1 : f_rp b) (hg2 : a + 4 ≤ b ∨ b + 4 ≤ a) (hg3 : 0 ≤ p ∧ p ≤ ln ∧ ln ≤ 24) : ax_G E l d iX7_takeTail [.inr a, .inr b, .inl p] M (fun z0 M2 => z0 = none ∧ (∀ x0 i0 : Int, ¬ (x0 = a + 1 ∨ x0 = a + 2 ∨ x0 = a + 3 ∨ (x0 = a ∧ i0 = 0) ∨ (x0 = a ∧ i0 = 1) ∨ (x0 = a ∧ i0 = 2) ∨ (x0 = a ∧ i0 = 3) ∨ (x0 = a ∧ i0 = 4)) → M2 x0 i0 = M x0 i0) ∧ M2 (a + 1) = f_cp tib p (f_flv ti 24 (-1)) 0 (ln - p) ∧ M2 (a + 2) = f_cp hab (p * 6) (f_flv ha 144 0) (0 * 6) ((ln - p) * 6) ∧ M2 (a + 3) = f_cp sib (p * 6) (f_flv si 144 0) (0 * 6) ((ln - p) * 6) ∧ M2 a 0 = 1 ∧ M2 a 1 = ln - p ∧ M2 a 2 = ow ∧ M2 a 3 = bo ∧ M2 a 4 = we) := by
  obtain ⟨d, rfl⟩ : ∃ d0, d = d0 + 1 := ⟨d - 1, by omega⟩
  refine ax_start rfl (Nat.le_of_ble_eq_true rfl) (ls := [some (.inr a), some (.inr b), some (.inl p)]) rfl (fun hav hcm => ?_)
  have hc2 : -2147483648 ≤ p ∧ p < 2147483648 := hav (.inl p) (by simp)
  clear hav
  refine ax_aload_n dX7_takeTail_0 rfl rfl (pc' := 1) rfl ?_
  refine ax_aload_n dX7_takeTail_1 rfl rfl (pc' := 2) rfl ?_
  refine ax_geti (v := ln) dX7_takeTail_2 flX7_25 rfl hg1.1 hln rfl (pc' := 5) rfl ?_
  refine ax_iload_n dX7_takeTail_5 rfl rfl (pc' := 6) rfl ?_
  refine ax_isub dX7_takeTail_6 (by omega) (pc' := 7) rfl ?_
  refine ax_aload_n dX7_takeTail_7 rfl rfl (pc' := 8) rfl ?_
  refine ax_geti (v := ow) dX7_takeTail_8 flX7_29 rfl hg1.1 how rfl (pc' := 11) rfl ?_
  refine ax_aload_n dX7_takeTail_11 rfl rfl (pc' := 12) rfl ?_
  refine ax_geti (v := bo) dX7_takeTail_12 flX7_32 rfl hg1.1 hbo rfl (pc' := 15) rfl ?_
  refine ax_invG [.inl (ln - p), .inl ow, .inl bo] [] dX7_takeTail_15 mlX7_71 hg0.1 rfl rfl rfl (Nat.le_of_ble_eq_true rfl) (s_X7_begin E l _ (by omega) _ a (ln - p) ow bo hti hha hsi (by first | omega | assumption)) (pc' := 18) rfl (fun vv M_15 hq co15 hcm15 => ?_)
  obtain ⟨rfl, frM_15, mrM_15_0, mrM_15_1, mrM_15_2, msM_15_0, msM_15_1, msM_15_2, msM_15_3, msM_15_4⟩ := hq
  refine ax_reS (st2 := []) rfl ?_
  refine ax_aload_n dX7_takeTail_18 rfl rfl (pc' := 19) rfl ?_
  refine ax_aload_n dX7_takeTail_19 rfl rfl (pc' := 20) rfl ?_
  refine ax_geti (v := we) dX7_takeTail_20 flX7_35 rfl hg1.1 ((frM_15 b 4 (by omega)).trans hwe) rfl (pc' := 23) rfl ?_
  refine ax_puti dX7_takeTail_23 flX7_35 (Or.inl rfl) hg0.1 rfl (pc' := 26) rfl ?_
  refine ax_aload_n dX7_takeTail_26 rfl rfl (pc' := 27) rfl ?_
  refine ax_aload_n dX7_takeTail_27 rfl rfl (pc' := 28) rfl ?_
  refine ax_iload_n dX7_takeTail_28 rfl rfl (pc' := 29) rfl ?_
  refine ax_iconst dX7_takeTail_29 (by decide) (pc' := 30) rfl ?_
  refine ax_aload_n dX7_takeTail_30 rfl rfl (pc' := 31) rfl ?_
  refine ax_geti (v := (ln - p)) dX7_takeTail_31 flX7_25 rfl hg0.1 (show (ax_up M_15 a 4 we) a 1 = (ln - p) from (ax_up_miss (fun h => absurd h.2 (by decide)) msM_15_1)) rfl (pc' := 34) rfl ?_
  refine ax_invG [.inr b, .inl p, .inl 0, .inl (ln - p)] [] dX7_takeTail_34 mlX7_75 hg0.1 rfl rfl rfl (Nat.le_of_ble_eq_true rfl) (s_X7_copyPlaces E l _ (by omega) _ a b p 0 (ln - p) (ax_up_rowmiss (by omega) mrM_15_0) (ax_up_rowmiss (by omega) mrM_15_1) (ax_up_rowmiss (by omega) mrM_15_2) (ax_up_rowmiss (by omega) ((funext fun i0 => frM_15 (b + 1) i0 (by omega)).trans htib)) (ax_up_rowmiss (by omega) ((funext fun i0 => frM_15 (b + 2) i0 (by omega)).trans hhab)) (ax_up_rowmiss (by omega) ((funext fun i0 => frM_15 (b + 3) i0 (by omega)).trans hsib)) (by first | omega | assumption) (by first | omega | assumption) (by first | omega | assumption) (by first | omega | assumption)) (pc' := 37) rfl (fun vv M_34 hq co34 hcm34 => ?_)
  obtain ⟨rfl, frM_34, mrM_34_0, mrM_34_1, mrM_34_2⟩ := hq
  refine ax_reS (st2 := []) rfl ?_
  refine ax_vret dX7_takeTail_37 rfl ?_
  refine ⟨rfl, rfl, ?_, ?_, ?_, ?_, ?_, ?_, ?_, ?_, ?_⟩
  · intro x0 i0 hai
    exact ((frM_34 x0 i0 (fun h => h.elim (fun h => hai (Or.inl h)) (fun h => h.elim (fun h => hai (Or.inr (Or.inl h))) (fun h => hai (Or.inr (Or.inr (Or.inl h))))))).trans (ax_up_miss (fun h => hai (Or.inr (Or.inr (Or.inr (Or.inr (Or.inr (Or.inr (Or.inr h)))))))) ((frM_15 x0 i0 (fun h => h.elim (fun h => hai (Or.inl h)) (fun h => h.elim (fun h => hai (Or.inr (Or.inl h))) (fun h => h.elim (fun h => hai (Or.inr (Or.inr (Or.inl h)))) (fun h => h.elim (fun h => hai (Or.inr (Or.inr (Or.inr (Or.inl h))))) (fun h => h.elim (fun h => hai (Or.inr (Or.inr (Or.inr (Or.inr (Or.inl h)))))) (fun h => h.elim (fun h => hai (Or.inr (Or.inr (Or.inr (Or.inr (Or.inr (Or.inl h))))))) (fun h => h.elim (fun h => hai (Or.inr (Or.inr (Or.inr (Or.inr (Or.inr (Or.inr (Or.inl h)))))))) (fun h => hai (Or.inr (Or.inr (Or.inr (Or.inr (Or.inr (Or.inr (Or.inr h)))))))))))))))).trans rfl)))
  · exact mrM_34_0
  · exact mrM_34_1
  · exact mrM_34_2
  · exact ((frM_34 a 0 (by omega)).trans (ax_up_miss (fun h => absurd h.2 (by decide)) msM_15_0))
  · exact ((frM_34 a 1 (by omega)).trans (ax_up_miss (fun h => absurd h.2 (by decide)) msM_15_1))
  · exact ((frM_34 a 2 (by omega)).trans (ax_up_miss (fun h => absurd h.2 (by decide)) msM_15_2))
  · exact ((frM_34 a 3 (by omega)).trans (ax_up_miss (fun h => absurd h.2 (by decide)) msM_15_3))
  · exact ((frM_34 a 4 (by omega)).trans (ax_up_hit _ _ _ _))
