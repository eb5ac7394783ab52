/-! copies of worlds -/
def f_wp (b : Int) : Prop := ax_sh SH b = some (9, 7, [none, none, none, none, some (b + 1), some (b + 2), some (b + 3)]) ∧ ax_sh SH (b + 1) = some (13, 6, []) ∧ ax_sh SH (b + 2) = some (13, 6, []) ∧ ax_sh SH (b + 3) = some (14, 8, [some (b + 4), some (b + 8), some (b + 12), some (b + 16), some (b + 20), some (b + 24), some (b + 28), some (b + 32)]) ∧ ∀ i, 0 ≤ i → i < 8 → f_rp (b + 4 + 4 * i)
theorem f_av_w {b n : Int} (f : Int → Int) (h : 0 ≤ n ∧ n < 8) : ax_val (14, 8, [some (b + 4), some (b + 8), some (b + 12), some (b + 16), some (b + 20), some (b + 24), some (b + 28), some (b + 32)]) f n.toNat = b + 4 + 4 * n := by
  rcases (by omega : n = 0 ∨ n = 1 ∨ n = 2 ∨ n = 3 ∨ n = 4 ∨ n = 5 ∨ n = 6 ∨ n = 7) with rfl | rfl | rfl | rfl | rfl | rfl | rfl | rfl
  · show b + 4 = b + 4 + 4 * 0
    omega
  · show b + 8 = b + 4 + 4 * 1
    omega
  · show b + 12 = b + 4 + 4 * 2
    omega
  · show b + 16 = b + 4 + 4 * 3
    omega
  · show b + 20 = b + 4 + 4 * 4
    omega
  · show b + 24 = b + 4 + 4 * 5
    omega
  · show b + 28 = b + 4 + 4 * 6
    omega
  · show b + 32 = b + 4 + 4 * 7
    omega
def f_cw (M : ax_Mem) (b : Int) (w : Int → Int) (n : Int) : Prop := ∀ j, 0 ≤ j → j < n → M (b + 4 + 4 * j) 0 = f_R w j 0 ∧ (f_R w j 0 = 1 → f_rm M (b + 4 + 4 * j) w j)
theorem f_cw_up {M N : ax_Mem} {b : Int} {w : Int → Int} {i : Int} (h : f_cw M b w i) (hf : ∀ x j, ¬ (b + 4 + 4 * i ≤ x ∧ x < b + 4 + 4 * i + 4) → N x j = M x j) (h1 : N (b + 4 + 4 * i) 0 = f_R w i 0) (h2 : f_R w i 0 = 1 → f_rm N (b + 4 + 4 * i) w i) : f_cw N b w (i + 1) := by
  intro j j1 j2
  by_cases e : j = i
  · rw [e]
    exact ⟨h1, h2⟩
  · have h3 := h j j1 (by omega)
    rw [hf _ 0 (by omega)]
    exact ⟨h3.1, fun h4 => f_rm_fr (fun x k hx => hf x k (by omega)) (h3.2 h4)⟩
/-! the book -/
def f_bk (M : ax_Mem) (b : Int) (w : Int → Int) : Prop := ∀ x, 0 ≤ x → x < 6 * w 1 → M b x = w (2640 + x)
theorem f_bk_note {M N : ax_Mem} {w : Int → Int} {b r p what how hand : Int} (h0 : 0 ≤ w 1 ∧ w 1 < 200) (h : f_bk M b w) (hr : N b = f_up (f_up (f_up (f_up (f_up (f_up (M b) (w 1 * 6) (w 0)) (w 1 * 6 + 1) r) (w 1 * 6 + 2) p) (w 1 * 6 + 3) what) (w 1 * 6 + 4) how) (w 1 * 6 + 5) hand) : f_bk N b (f_note w r p what how hand) := by
  intro x x1 x2
  have e1 : f_note w r p what how hand = f_up (f_up (f_up (f_up (f_up (f_up (f_up w (2640 + 6 * w 1) (w 0)) (2640 + 6 * w 1 + 1) r) (2640 + 6 * w 1 + 2) p) (2640 + 6 * w 1 + 3) what) (2640 + 6 * w 1 + 4) how) (2640 + 6 * w 1 + 5) hand) 1 (w 1 + 1) := by
    unfold f_note
    rw [if_neg (by omega)]
  rw [f_note_1, if_neg (by omega)] at x2
  rw [hr, e1, f_up_o (i := 1) (by omega)]
  by_cases h5 : x = 6 * w 1 + 5
  · rw [show w 1 * 6 + 5 = x by omega, show 2640 + 6 * w 1 + 5 = 2640 + x by omega, f_up_same, f_up_same]
  · rw [f_up_o (by omega), f_up_o (j := 2640 + x) (by omega)]
    by_cases h4 : x = 6 * w 1 + 4
    · rw [show w 1 * 6 + 4 = x by omega, show 2640 + 6 * w 1 + 4 = 2640 + x by omega, f_up_same, f_up_same]
    · rw [f_up_o (by omega), f_up_o (j := 2640 + x) (by omega)]
      by_cases h3 : x = 6 * w 1 + 3
      · rw [show w 1 * 6 + 3 = x by omega, show 2640 + 6 * w 1 + 3 = 2640 + x by omega, f_up_same, f_up_same]
      · rw [f_up_o (by omega), f_up_o (j := 2640 + x) (by omega)]
        by_cases h2 : x = 6 * w 1 + 2
        · rw [show w 1 * 6 + 2 = x by omega, show 2640 + 6 * w 1 + 2 = 2640 + x by omega, f_up_same, f_up_same]
        · rw [f_up_o (by omega), f_up_o (j := 2640 + x) (by omega)]
          by_cases h1 : x = 6 * w 1 + 1
          · rw [show w 1 * 6 + 1 = x by omega, show 2640 + 6 * w 1 + 1 = 2640 + x by omega, f_up_same, f_up_same]
          · rw [f_up_o (by omega), f_up_o (j := 2640 + x) (by omega)]
            by_cases h6 : x = 6 * w 1
            · rw [show w 1 * 6 = x by omega, show 2640 + 6 * w 1 = 2640 + x by omega, f_up_same, f_up_same]
            · rw [f_up_o (by omega), f_up_o (j := 2640 + x) (by omega)]
              exact h x x1 (by omega)
set_option maxRecDepth 20000 in
theorem s_X9_copyFrom (E : ax_Env) (l : Launch) (d : Nat) (hd : 2 ≤ d) (M : ax_Mem) (b c : Int) (w : Int → Int) (hg0 : f_wp b) (hg1 : f_wp c) (hg2 : b + 36 ≤ c ∨ c + 36 ≤ b) (hg3 : f_wm M c w) (hg4 : f_ok w) : ax_G E l d iX9_copyFrom [.inr b, .inr c] M (fun z0 M2 => z0 = none ∧ (∀ x0 i0 : Int, ¬ ((b ≤ x0 ∧ x0 < b + 36)) → M2 x0 i0 = M x0 i0) ∧ (f_wm M2 b w)) := by
  obtain ⟨d, rfl⟩ : ∃ d0, d = d0 + 1 := ⟨d - 1, by omega⟩
  refine ax_start rfl (Nat.le_of_ble_eq_true rfl) (ls := [some (.inr b), some (.inr c), none]) rfl (fun hav hcm => ?_)
  clear hav
  refine ax_aload_n dX9_copyFrom_0 rfl rfl (pc' := 1) rfl ?_
  refine ax_aload_n dX9_copyFrom_1 rfl rfl (pc' := 2) rfl ?_
  refine ax_geti (v := M c 0) dX9_copyFrom_2 flX9_31 rfl hg1.1 rfl rfl (pc' := 5) rfl ?_
  refine ax_puti dX9_copyFrom_5 flX9_31 (Or.inl rfl) hg0.1 rfl (pc' := 8) rfl ?_
  refine ax_aload_n dX9_copyFrom_8 rfl rfl (pc' := 9) rfl ?_
  refine ax_aload_n dX9_copyFrom_9 rfl rfl (pc' := 10) rfl ?_
  refine ax_geti (v := M c 1) dX9_copyFrom_10 flX9_35 rfl hg1.1 (show (ax_up M b 0 (M c 0)) c 1 = M c 1 from (ax_up_miss (by omega) rfl)) rfl (pc' := 13) rfl ?_
  refine ax_puti dX9_copyFrom_13 flX9_35 (Or.inl rfl) hg0.1 rfl (pc' := 16) rfl ?_
  refine ax_aload_n dX9_copyFrom_16 rfl rfl (pc' := 17) rfl ?_
  refine ax_aload_n dX9_copyFrom_17 rfl rfl (pc' := 18) rfl ?_
  refine ax_geti (v := M c 2) dX9_copyFrom_18 flX9_38 rfl hg1.1 (show (ax_up (ax_up M b 0 (M c 0)) b 1 (M c 1)) c 2 = M c 2 from (ax_up_miss (by omega) (ax_up_miss (by omega) rfl))) rfl (pc' := 21) rfl ?_
  refine ax_puti dX9_copyFrom_21 flX9_38 (Or.inl rfl) hg0.1 rfl (pc' := 24) rfl ?_
  refine ax_aload_n dX9_copyFrom_24 rfl rfl (pc' := 25) rfl ?_
  refine ax_aload_n dX9_copyFrom_25 rfl rfl (pc' := 26) rfl ?_
  refine ax_geti (v := M c 3) dX9_copyFrom_26 flX9_41 rfl hg1.1 (show (ax_up (ax_up (ax_up M b 0 (M c 0)) b 1 (M c 1)) b 2 (M c 2)) c 3 = M c 3 from (ax_up_miss (by omega) (ax_up_miss (by omega) (ax_up_miss (by omega) rfl)))) rfl (pc' := 29) rfl ?_
  refine ax_puti dX9_copyFrom_29 flX9_41 (Or.inl rfl) hg0.1 rfl (pc' := 32) rfl ?_
  refine ax_aload_n dX9_copyFrom_32 rfl rfl (pc' := 33) rfl ?_
  refine ax_getr (v := c + 1) dX9_copyFrom_33 flX9_9 rfl hg1.1 rfl (pc' := 36) rfl ?_
  refine ax_iconst dX9_copyFrom_36 (by decide) (pc' := 37) rfl ?_
  refine ax_aload_n dX9_copyFrom_37 rfl rfl (pc' := 38) rfl ?_
  refine ax_getr (v := b + 1) dX9_copyFrom_38 flX9_9 rfl hg0.1 rfl (pc' := 41) rfl ?_
  refine ax_iconst dX9_copyFrom_41 (by decide) (pc' := 42) rfl ?_
  refine ax_bipush dX9_copyFrom_42 (by decide) (pc' := 44) rfl ?_
  refine ax_copy dX9_copyFrom_44 mlX9_44 hg1.2.1 hg0.2.1 rfl rfl (by omega) (by omega) (by omega) (by omega) (by omega) (Nat.le_of_ble_eq_true rfl) (pc' := 47) rfl ?_
  obtain ⟨MC1, eMC1⟩ : ∃ z, z = ax_cp (ax_up (ax_up (ax_up (ax_up M b 0 (M c 0)) b 1 (M c 1)) b 2 (M c 2)) b 3 (M c 3)) (c + 1) 0 (b + 1) 0 6 := ⟨_, rfl⟩
  change ax_W _ _ _ _ _ _ _ _ _ _ (ax_cp (ax_up (ax_up (ax_up (ax_up M b 0 (M c 0)) b 1 (M c 1)) b 2 (M c 2)) b 3 (M c 3)) (c + 1) 0 (b + 1) 0 6) _
  rw [← eMC1]
  have fMC1 := ax_cp_fr eMC1
  have rMC1 := ax_cp_row eMC1 (ax_up_rowmiss (by omega) (ax_up_rowmiss (by omega) (ax_up_rowmiss (by omega) (ax_up_rowmiss (by omega) rfl)))) (ax_up_rowmiss (by omega) (ax_up_rowmiss (by omega) (ax_up_rowmiss (by omega) (ax_up_rowmiss (by omega) rfl))))
  refine ax_aload_n dX9_copyFrom_47 rfl rfl (pc' := 48) rfl ?_
  refine ax_getr (v := c + 2) dX9_copyFrom_48 flX9_15 rfl hg1.1 rfl (pc' := 51) rfl ?_
  refine ax_iconst dX9_copyFrom_51 (by decide) (pc' := 52) rfl ?_
  refine ax_aload_n dX9_copyFrom_52 rfl rfl (pc' := 53) rfl ?_
  refine ax_getr (v := b + 2) dX9_copyFrom_53 flX9_15 rfl hg0.1 rfl (pc' := 56) rfl ?_
  refine ax_iconst dX9_copyFrom_56 (by decide) (pc' := 57) rfl ?_
  refine ax_bipush dX9_copyFrom_57 (by decide) (pc' := 59) rfl ?_
  refine ax_copy dX9_copyFrom_59 mlX9_44 hg1.2.2.1 hg0.2.2.1 rfl rfl (by omega) (by omega) (by omega) (by omega) (by omega) (Nat.le_of_ble_eq_true rfl) (pc' := 62) rfl ?_
  obtain ⟨MC2, eMC2⟩ : ∃ z, z = ax_cp MC1 (c + 2) 0 (b + 2) 0 6 := ⟨_, rfl⟩
  change ax_W _ _ _ _ _ _ _ _ _ _ (ax_cp MC1 (c + 2) 0 (b + 2) 0 6) _
  rw [← eMC2]
  have fMC2 := ax_cp_fr eMC2
  have rMC2 := ax_cp_row eMC2 ((funext fun i0 => fMC1 (c + 2) i0 (by omega)).trans (ax_up_rowmiss (by omega) (ax_up_rowmiss (by omega) (ax_up_rowmiss (by omega) (ax_up_rowmiss (by omega) rfl))))) ((funext fun i0 => fMC1 (b + 2) i0 (by omega)).trans (ax_up_rowmiss (by omega) (ax_up_rowmiss (by omega) (ax_up_rowmiss (by omega) (ax_up_rowmiss (by omega) rfl)))))
  refine ax_iconst dX9_copyFrom_62 (by decide) (pc' := 63) rfl ?_
  refine ax_istore_n dX9_copyFrom_63 rfl (by decide) (ls' := [some (.inr b), some (.inr c), some (.inl 0)]) rfl (pc' := 64) rfl ?_
  have LP3 : ∀ (kq4 : Nat) (i : Int) (M3 : ax_Mem) (hm3 : 8 - i < (kq4 : Nat)) (fr3 : ∀ x0 i0 : Int, ¬ ((b + 4 ≤ x0 ∧ x0 < b + 36)) → M3 x0 i0 = MC2 x0 i0) (iv3_0 : 0 ≤ i ∧ i ≤ 8) (iv3_1 : f_cw M3 b w i), ax_W E l (d + 1) 0 0 iX9_copyFrom 64 [some (.inr b), some (.inr c), some (.inl i)] [] SH M3 (ax_P (fun z0 M2 => z0 = none ∧ (∀ x0 i0 : Int, ¬ ((b ≤ x0 ∧ x0 < b + 36)) → M2 x0 i0 = M x0 i0) ∧ (f_wm M2 b w))) := by
    intro kq4
    induction kq4 with
    | zero =>
      intro i M3 hm3 fr3 iv3_0 iv3_1
      exfalso
      omega
    | succ kq4 ih5 =>
      intro i M3 hm3 fr3 iv3_0 iv3_1
      refine ax_iload_n dX9_copyFrom_64 rfl rfl (pc' := 65) rfl ?_
      refine ax_bipush dX9_copyFrom_65 (by decide) (pc' := 67) rfl ?_
      refine ax_icmp_ge (tgt := 116) dX9_copyFrom_67 (by decide) (pc' := 70) rfl (fun h67 => ?_) (fun h67 => ?_)
      · refine ax_vret dX9_copyFrom_116 rfl ?_
        refine ⟨rfl, rfl, ?_, ?_⟩
        · intro x0 i0 hai
          exact ((fr3 x0 i0 (by omega)).trans ((fMC2 x0 i0 (by omega)).trans ((fMC1 x0 i0 (by omega)).trans (ax_up_miss (by omega) (ax_up_miss (by omega) (ax_up_miss (by omega) (ax_up_miss (by omega) rfl)))))))
        · refine ⟨⟨Eq.trans ((fr3 b 0 (by omega)).trans ((fMC2 b 0 (by omega)).trans ((fMC1 b 0 (by omega)).trans (ax_up_miss (fun h => absurd h.2 (by decide)) (ax_up_miss (fun h => absurd h.2 (by decide)) (ax_up_miss (fun h => absurd h.2 (by decide)) (ax_up_hit _ _ _ _))))))) hg3.1.1, Eq.trans ((fr3 b 1 (by omega)).trans ((fMC2 b 1 (by omega)).trans ((fMC1 b 1 (by omega)).trans (ax_up_miss (fun h => absurd h.2 (by decide)) (ax_up_miss (fun h => absurd h.2 (by decide)) (ax_up_hit _ _ _ _)))))) hg3.1.2.1, Eq.trans ((fr3 b 2 (by omega)).trans ((fMC2 b 2 (by omega)).trans ((fMC1 b 2 (by omega)).trans (ax_up_miss (fun h => absurd h.2 (by decide)) (ax_up_hit _ _ _ _))))) hg3.1.2.2.1, Eq.trans ((fr3 b 3 (by omega)).trans ((fMC2 b 3 (by omega)).trans ((fMC1 b 3 (by omega)).trans (ax_up_hit _ _ _ _)))) hg3.1.2.2.2⟩, fun k k1 k2 => ?_, fun j j1 j2 => iv3_1 j j1 (by omega)⟩
          rw [show M3 (b + 1) = _ from ((funext fun i0 => fr3 (b + 1) i0 (by omega)).trans ((funext fun i0 => fMC2 (b + 1) i0 (by omega)).trans rMC1)), show M3 (b + 2) = _ from ((funext fun i0 => fr3 (b + 2) i0 (by omega)).trans rMC2)]
          unfold f_cp
          rw [if_pos (by omega), if_pos (by omega), show 0 + (k - 0) = k by omega]
          exact hg3.2.1 k k1 k2
      · have qt := (hg3.2.2 i (by omega) (by omega)).1
        have qk := (hg4 i (by omega) (by omega)).1
        refine ax_aload_n dX9_copyFrom_70 rfl rfl (pc' := 71) rfl ?_
        refine ax_getr (v := c + 3) dX9_copyFrom_71 flX9_20 rfl hg1.1 rfl (pc' := 74) rfl ?_
        refine ax_iload_n dX9_copyFrom_74 rfl rfl (pc' := 75) rfl ?_
        refine ax_aald (v := c + 4 + 4 * i) dX9_copyFrom_75 hg1.2.2.2.1 (by decide) (by omega) (by omega) (f_av_w _ ⟨by omega, by omega⟩) (pc' := 76) rfl ?_
        refine ax_geti (v := M (c + 4 + 4 * i) 0) dX9_copyFrom_76 flX9_50 rfl (hg1.2.2.2.2 i (by omega) (by omega)).1 (show M3 (c + 4 + 4 * i) 0 = M (c + 4 + 4 * i) 0 from ((fr3 (c + 4 + 4 * i) 0 (by omega)).trans ((fMC2 (c + 4 + 4 * i) 0 (by omega)).trans ((fMC1 (c + 4 + 4 * i) 0 (by omega)).trans (ax_up_miss (by omega) (ax_up_miss (by omega) (ax_up_miss (by omega) (ax_up_miss (by omega) rfl)))))))) rfl (pc' := 79) rfl ?_
        refine ax_if_eq (tgt := 100) dX9_copyFrom_79 (by decide) (pc' := 82) rfl (fun h79 => ?_) (fun h79 => ?_)
        · refine ax_aload_n dX9_copyFrom_100 rfl rfl (pc' := 101) rfl ?_
          refine ax_getr (v := b + 3) dX9_copyFrom_101 flX9_20 rfl hg0.1 rfl (pc' := 104) rfl ?_
          refine ax_iload_n dX9_copyFrom_104 rfl rfl (pc' := 105) rfl ?_
          refine ax_aald (v := b + 4 + 4 * i) dX9_copyFrom_105 hg0.2.2.2.1 (by decide) (by omega) (by omega) (f_av_w _ ⟨by omega, by omega⟩) (pc' := 106) rfl ?_
          refine ax_iconst dX9_copyFrom_106 (by decide) (pc' := 107) rfl ?_
          refine ax_puti dX9_copyFrom_107 flX9_50 (Or.inr ⟨rfl, by first | exact Or.inl rfl | exact Or.inr rfl | omega⟩) (hg0.2.2.2.2 i (by omega) (by omega)).1 rfl (pc' := 110) rfl ?_
          have qcw : f_cw (ax_up M3 (b + 4 + 4 * i) 0 0) b w (i + 1) := f_cw_up iv3_1 (fun x0 i0 hx => (ax_up_miss (by omega) rfl)) (Eq.trans (ax_up_hit _ _ _ _) (by omega)) (fun z => by omega)
          refine ax_iinc dX9_copyFrom_110 rfl (by decide) (by omega) (ls' := [some (.inr b), some (.inr c), some (.inl (i + 1))]) rfl (pc' := 113) rfl ?_
          refine ax_goto dX9_copyFrom_113 (pc' := 64) (by decide) ?_
          refine ih5 (i + 1) (ax_up M3 (b + 4 + 4 * i) 0 0) ?_ ?_ ?_ ?_
          · omega
          · intro x0 i0 hai
            exact (ax_up_miss (by omega) ((fr3 x0 i0 (fun h => hai h)).trans rfl))
          · omega
          · exact qcw
        · have qm : M3 (c + 4 + 4 * i) 0 = M (c + 4 + 4 * i) 0 := ((fr3 (c + 4 + 4 * i) 0 (by omega)).trans ((fMC2 (c + 4 + 4 * i) 0 (by omega)).trans ((fMC1 (c + 4 + 4 * i) 0 (by omega)).trans (ax_up_miss (by omega) (ax_up_miss (by omega) (ax_up_miss (by omega) (ax_up_miss (by omega) rfl)))))))
          refine ax_aload_n dX9_copyFrom_82 rfl rfl (pc' := 83) rfl ?_
          refine ax_getr (v := b + 3) dX9_copyFrom_83 flX9_20 rfl hg0.1 rfl (pc' := 86) rfl ?_
          refine ax_iload_n dX9_copyFrom_86 rfl rfl (pc' := 87) rfl ?_
          refine ax_aald (v := b + 4 + 4 * i) dX9_copyFrom_87 hg0.2.2.2.1 (by decide) (by omega) (by omega) (f_av_w _ ⟨by omega, by omega⟩) (pc' := 88) rfl ?_
          refine ax_aload_n dX9_copyFrom_88 rfl rfl (pc' := 89) rfl ?_
          refine ax_getr (v := c + 3) dX9_copyFrom_89 flX9_20 rfl hg1.1 rfl (pc' := 92) rfl ?_
          refine ax_iload_n dX9_copyFrom_92 rfl rfl (pc' := 93) rfl ?_
          refine ax_aald (v := c + 4 + 4 * i) dX9_copyFrom_93 hg1.2.2.2.1 (by decide) (by omega) (by omega) (f_av_w _ ⟨by omega, by omega⟩) (pc' := 94) rfl ?_
          refine ax_invG [.inr (c + 4 + 4 * i)] [] dX9_copyFrom_94 mlX9_54 (hg0.2.2.2.2 i (by omega) (by omega)).1 rfl rfl rfl (Nat.le_of_ble_eq_true rfl) (s_X7_copyFrom E l _ (by omega) _ (b + 4 + 4 * i) (c + 4 + 4 * i) w i (hg0.2.2.2.2 i (by omega) (by omega)) (hg1.2.2.2.2 i (by omega) (by omega)) (by omega) (f_rm_fr (M := M) (fun x0 i0 hx => ((fr3 x0 i0 (by omega)).trans ((fMC2 x0 i0 (by omega)).trans ((fMC1 x0 i0 (by omega)).trans (ax_up_miss (by omega) (ax_up_miss (by omega) (ax_up_miss (by omega) (ax_up_miss (by omega) rfl)))))))) ((hg3.2.2 i (by omega) (by omega)).2 (by omega))) (hg4 i (by omega) (by omega)).2.2 (by omega)) (pc' := 97) rfl (fun vv M_94 hq co94 hcm94 => ?_)
          obtain ⟨rfl, frM_94, fa94_0, fa94_1⟩ := hq
          refine ax_reS (st2 := []) rfl ?_
          refine ax_goto dX9_copyFrom_97 (pc' := 110) (by decide) ?_
          have qcw : f_cw M_94 b w (i + 1) := f_cw_up iv3_1 (fun x0 i0 hx => ((frM_94 x0 i0 (by omega)).trans rfl)) (Eq.trans fa94_1 (by omega)) (fun _ => fa94_0)
          refine ax_iinc dX9_copyFrom_110 rfl (by decide) (by omega) (ls' := [some (.inr b), some (.inr c), some (.inl (i + 1))]) rfl (pc' := 113) rfl ?_
          refine ax_goto dX9_copyFrom_113 (pc' := 64) (by decide) ?_
          refine ih5 (i + 1) M_94 ?_ ?_ ?_ ?_
          · omega
          · intro x0 i0 hai
            exact ((frM_94 x0 i0 (by omega)).trans ((fr3 x0 i0 (fun h => hai h)).trans rfl))
          · omega
          · exact qcw
  refine LP3 (8 - 0 : Int).toNat.succ 0 MC2 ?_ ?_ ?_ ?_
  · omega
  · exact fun a i _ => rfl
  · omega
  · intro j j1 j2
    omega
set_option maxRecDepth 20000 in
theorem s_X0_write (E : ax_Env) (l : Launch) (d : Nat) (hd : 0 ≤ d) (M : ax_Mem) (r p q how hand : Int) (w : Int → Int) (hg0 : f_wm M 1 w) (hg1 : f_bk M 38 w) (hg2 : 0 ≤ w 1 ∧ w 1 ≤ 200) (hg3 : f_ok w) : ax_G E l d iX0_write [.inr 37, .inr 1, .inl r, .inl p, .inl q, .inl how, .inl hand] M (fun z0 M2 => z0 = none ∧ (∀ x0 i0 : Int, ¬ (x0 = 38 ∨ (x0 = 1 ∧ i0 = 3)) → M2 x0 i0 = M x0 i0) ∧ (f_wm M2 1 (f_note w r p q how hand)) ∧ (f_bk M2 38 (f_note w r p q how hand))) := by
  refine ax_start rfl (Nat.le_of_ble_eq_true rfl) (ls := [some (.inr 37), some (.inr 1), some (.inl r), some (.inl p), some (.inl q), some (.inl how), some (.inl hand), none]) rfl (fun hav hcm => ?_)
  have hc2 : -2147483648 ≤ r ∧ r < 2147483648 := hav (.inl r) (by simp)
  have hc3 : -2147483648 ≤ p ∧ p < 2147483648 := hav (.inl p) (by simp)
  have hc4 : -2147483648 ≤ q ∧ q < 2147483648 := hav (.inl q) (by simp)
  have hc5 : -2147483648 ≤ how ∧ how < 2147483648 := hav (.inl how) (by simp)
  have hc6 : -2147483648 ≤ hand ∧ hand < 2147483648 := hav (.inl hand) (by simp)
  clear hav
  have ql : M 1 3 = w 1 := hg0.1.2.2.2
  have qd : M 1 0 = w 0 := hg0.1.1
  refine ax_aload_n dX0_write_0 rfl rfl (pc' := 1) rfl ?_
  refine ax_geti (v := M 1 3) dX0_write_1 flX0_21 rfl sh_1 rfl rfl (pc' := 4) rfl ?_
  refine ax_sipush dX0_write_4 (by decide) (pc' := 7) rfl ?_
  refine ax_icmp_lt (tgt := 11) dX0_write_7 (by decide) (pc' := 10) rfl (fun h7 => ?_) (fun h7 => ?_)
  · refine ax_aload_n dX0_write_11 rfl rfl (pc' := 12) rfl ?_
    refine ax_geti (v := M 1 3) dX0_write_12 flX0_21 rfl sh_1 rfl rfl (pc' := 15) rfl ?_
    refine ax_bipush dX0_write_15 (by decide) (pc' := 17) rfl ?_
    refine ax_imul dX0_write_17 (by omega) (pc' := 18) rfl ?_
    refine ax_istore dX0_write_18 (by decide) (ls' := [some (.inr 37), some (.inr 1), some (.inl r), some (.inl p), some (.inl q), some (.inl how), some (.inl hand), some (.inl ((M 1 3) * 6))]) rfl (pc' := 20) rfl ?_
    refine ax_aload_n dX0_write_20 rfl rfl (pc' := 21) rfl ?_
    refine ax_getr (v := 38) dX0_write_21 flX0_11 rfl sh_37 rfl (pc' := 24) rfl ?_
    refine ax_iload dX0_write_24 rfl (pc' := 26) rfl ?_
    refine ax_aload_n dX0_write_26 rfl rfl (pc' := 27) rfl ?_
    refine ax_geti (v := M 1 0) dX0_write_27 flX0_27 rfl sh_1 rfl rfl (pc' := 30) rfl ?_
    refine ax_iast dX0_write_30 sh_38 rfl (by omega) (by omega) (pc' := 31) rfl ?_
    refine ax_aload_n dX0_write_31 rfl rfl (pc' := 32) rfl ?_
    refine ax_getr (v := 38) dX0_write_32 flX0_11 rfl sh_37 rfl (pc' := 35) rfl ?_
    refine ax_iload dX0_write_35 rfl (pc' := 37) rfl ?_
    refine ax_iconst dX0_write_37 (by decide) (pc' := 38) rfl ?_
    refine ax_iadd dX0_write_38 (by omega) (pc' := 39) rfl ?_
    refine ax_iload_n dX0_write_39 rfl rfl (pc' := 40) rfl ?_
    refine ax_iast dX0_write_40 sh_38 rfl (by omega) (by omega) (pc' := 41) rfl ?_
    refine ax_aload_n dX0_write_41 rfl rfl (pc' := 42) rfl ?_
    refine ax_getr (v := 38) dX0_write_42 flX0_11 rfl sh_37 rfl (pc' := 45) rfl ?_
    refine ax_iload dX0_write_45 rfl (pc' := 47) rfl ?_
    refine ax_iconst dX0_write_47 (by decide) (pc' := 48) rfl ?_
    refine ax_iadd dX0_write_48 (by omega) (pc' := 49) rfl ?_
    refine ax_iload_n dX0_write_49 rfl rfl (pc' := 50) rfl ?_
    refine ax_iast dX0_write_50 sh_38 rfl (by omega) (by omega) (pc' := 51) rfl ?_
    refine ax_aload_n dX0_write_51 rfl rfl (pc' := 52) rfl ?_
    refine ax_getr (v := 38) dX0_write_52 flX0_11 rfl sh_37 rfl (pc' := 55) rfl ?_
    refine ax_iload dX0_write_55 rfl (pc' := 57) rfl ?_
    refine ax_iconst dX0_write_57 (by decide) (pc' := 58) rfl ?_
    refine ax_iadd dX0_write_58 (by omega) (pc' := 59) rfl ?_
    refine ax_iload dX0_write_59 rfl (pc' := 61) rfl ?_
    refine ax_iast dX0_write_61 sh_38 rfl (by omega) (by omega) (pc' := 62) rfl ?_
    refine ax_aload_n dX0_write_62 rfl rfl (pc' := 63) rfl ?_
    refine ax_getr (v := 38) dX0_write_63 flX0_11 rfl sh_37 rfl (pc' := 66) rfl ?_
    refine ax_iload dX0_write_66 rfl (pc' := 68) rfl ?_
    refine ax_iconst dX0_write_68 (by decide) (pc' := 69) rfl ?_
    refine ax_iadd dX0_write_69 (by omega) (pc' := 70) rfl ?_
    refine ax_iload dX0_write_70 rfl (pc' := 72) rfl ?_
    refine ax_iast dX0_write_72 sh_38 rfl (by omega) (by omega) (pc' := 73) rfl ?_
    refine ax_aload_n dX0_write_73 rfl rfl (pc' := 74) rfl ?_
    refine ax_getr (v := 38) dX0_write_74 flX0_11 rfl sh_37 rfl (pc' := 77) rfl ?_
    refine ax_iload dX0_write_77 rfl (pc' := 79) rfl ?_
    refine ax_iconst dX0_write_79 (by decide) (pc' := 80) rfl ?_
    refine ax_iadd dX0_write_80 (by omega) (pc' := 81) rfl ?_
    refine ax_iload dX0_write_81 rfl (pc' := 83) rfl ?_
    refine ax_iast dX0_write_83 sh_38 rfl (by omega) (by omega) (pc' := 84) rfl ?_
    refine ax_aload_n dX0_write_84 rfl rfl (pc' := 85) rfl ?_
    refine ax_dup dX0_write_85 (pc' := 86) rfl ?_
    refine ax_geti (v := M 1 3) dX0_write_86 flX0_21 rfl sh_1 (show (ax_up (ax_up (ax_up (ax_up (ax_up (ax_up M 38 ((M 1 3) * 6) (M 1 0)) 38 ((M 1 3) * 6 + 1) r) 38 ((M 1 3) * 6 + 2) p) 38 ((M 1 3) * 6 + 3) q) 38 ((M 1 3) * 6 + 4) how) 38 ((M 1 3) * 6 + 5) hand) 1 3 = M 1 3 from (ax_up_miss (fun h => absurd h.1 (by decide)) (ax_up_miss (fun h => absurd h.1 (by decide)) (ax_up_miss (fun h => absurd h.1 (by decide)) (ax_up_miss (fun h => absurd h.1 (by decide)) (ax_up_miss (fun h => absurd h.1 (by decide)) (ax_up_miss (fun h => absurd h.1 (by decide)) rfl))))))) rfl (pc' := 89) rfl ?_
    refine ax_iconst dX0_write_89 (by decide) (pc' := 90) rfl ?_
    refine ax_iadd dX0_write_90 (by omega) (pc' := 91) rfl ?_
    refine ax_puti dX0_write_91 flX0_21 (Or.inl rfl) sh_1 rfl (pc' := 94) rfl ?_
    refine ax_vret dX0_write_94 rfl ?_
    refine ⟨rfl, rfl, ?_, ?_, ?_⟩
    · intro x0 i0 hai
      exact (ax_up_miss (fun h => hai (Or.inr h)) (ax_up_miss (fun h => hai (Or.inl h.1)) (ax_up_miss (fun h => hai (Or.inl h.1)) (ax_up_miss (fun h => hai (Or.inl h.1)) (ax_up_miss (fun h => hai (Or.inl h.1)) (ax_up_miss (fun h => hai (Or.inl h.1)) (ax_up_miss (fun h => hai (Or.inl h.1)) rfl)))))))
    · refine f_wm_hd hg3 hg0 (fun i i1 i2 => f_note_at (by omega) (by omega)) (fun x0 i0 x1 x2 => (ax_up_miss (by omega) (ax_up_miss (by omega) (ax_up_miss (by omega) (ax_up_miss (by omega) (ax_up_miss (by omega) (ax_up_miss (by omega) (ax_up_miss (by omega) rfl)))))))) ⟨Eq.trans (ax_up_miss (by decide) (ax_up_miss (fun h => absurd h.1 (by decide)) (ax_up_miss (fun h => absurd h.1 (by decide)) (ax_up_miss (fun h => absurd h.1 (by decide)) (ax_up_miss (fun h => absurd h.1 (by decide)) (ax_up_miss (fun h => absurd h.1 (by decide)) (ax_up_miss (fun h => absurd h.1 (by decide)) rfl))))))) (qd.trans (f_note_at (by decide) (by omega)).symm), Eq.trans (ax_up_miss (by decide) (ax_up_miss (fun h => absurd h.1 (by decide)) (ax_up_miss (fun h => absurd h.1 (by decide)) (ax_up_miss (fun h => absurd h.1 (by decide)) (ax_up_miss (fun h => absurd h.1 (by decide)) (ax_up_miss (fun h => absurd h.1 (by decide)) (ax_up_miss (fun h => absurd h.1 (by decide)) rfl))))))) (hg0.1.2.1.trans (f_note_at (by decide) (by omega)).symm), Eq.trans (ax_up_miss (by decide) (ax_up_miss (fun h => absurd h.1 (by decide)) (ax_up_miss (fun h => absurd h.1 (by decide)) (ax_up_miss (fun h => absurd h.1 (by decide)) (ax_up_miss (fun h => absurd h.1 (by decide)) (ax_up_miss (fun h => absurd h.1 (by decide)) (ax_up_miss (fun h => absurd h.1 (by decide)) rfl))))))) (hg0.1.2.2.1.trans (f_note_at (by decide) (by omega)).symm), Eq.trans (ax_up_hit _ _ _ _) ?_⟩
      rw [f_note_1, if_neg (by omega), ql]
    · refine f_bk_note (M := M) ⟨by omega, by omega⟩ hg1 (Eq.trans (ax_up_rowmiss (by decide) (ax_up_rowhit (ax_up_rowhit (ax_up_rowhit (ax_up_rowhit (ax_up_rowhit (ax_up_rowhit rfl))))))) ?_)
      rw [ql, qd]
  · have qn : f_note w r p q how hand = w := by
      unfold f_note
      rw [if_pos (by omega)]
    refine ax_vret dX0_write_10 rfl ?_
    refine ⟨rfl, rfl, ?_, ?_, ?_⟩
    · intro x0 i0 hai
      exact rfl
    · rw [qn]
      exact hg0
    · rw [qn]
      exact hg1
set_option maxRecDepth 20000 in
theorem s_X0_entry (E : ax_Env) (l : Launch) (d : Nat) (hd : 0 ≤ d) (M : ax_Mem) (i c : Int) {g : Int → Int} (hg : M 38 = g) (hg0 : 0 ≤ i ∧ i < 200) (hg1 : 0 ≤ c ∧ c < 6) : ax_G E l d iX0_entry [.inr 37, .inl i, .inl c] M (fun z0 M2 => z0 = some (.inl (g (i * 6 + c))) ∧ M = M2) := by
  refine ax_start rfl (Nat.le_of_ble_eq_true rfl) (ls := [some (.inr 37), some (.inl i), some (.inl c)]) rfl (fun hav hcm => ?_)
  have hc1 : -2147483648 ≤ i ∧ i < 2147483648 := hav (.inl i) (by simp)
  have hc2 : -2147483648 ≤ c ∧ c < 2147483648 := hav (.inl c) (by simp)
  clear hav
  refine ax_aload_n dX0_entry_0 rfl rfl (pc' := 1) rfl ?_
  refine ax_getr (v := 38) dX0_entry_1 flX0_11 rfl sh_37 rfl (pc' := 4) rfl ?_
  refine ax_iload_n dX0_entry_4 rfl rfl (pc' := 5) rfl ?_
  refine ax_bipush dX0_entry_5 (by decide) (pc' := 7) rfl ?_
  refine ax_imul dX0_entry_7 (by omega) (pc' := 8) rfl ?_
  refine ax_iload_n dX0_entry_8 rfl rfl (pc' := 9) rfl ?_
  refine ax_iadd dX0_entry_9 (by omega) (pc' := 10) rfl ?_
  refine ax_iald (v := g (i * 6 + c)) dX0_entry_10 sh_38 rfl (by omega) (by omega) ((congrFun hg (i * 6 + c)).trans rfl) (pc' := 11) rfl ?_
  refine ax_iret dX0_entry_11 rfl ?_
  refine ⟨rfl, ?_, ?_⟩
  · rfl
  · rfl
set_option maxRecDepth 20000 in
theorem s_X0_latestHand (E : ax_Env) (l : Launch) (d : Nat) (hd : 1 ≤ d) (M : ax_Mem) (n r p : Int) (w : Int → Int) (hg0 : f_bk M 38 w) (hg1 : 0 ≤ w 1 ∧ w 1 ≤ 200) (hg2 : n = w 1) : ax_G E l d iX0_latestHand [.inr 37, .inl n, .inl r, .inl p] M (fun z0 M2 => z0 = some (.inl (f_loop (f_whH w r p) 0 (w 1) (-1))) ∧ M = M2) := by
  obtain ⟨d, rfl⟩ : ∃ d0, d = d0 + 1 := ⟨d - 1, by omega⟩
  refine ax_start rfl (Nat.le_of_ble_eq_true rfl) (ls := [some (.inr 37), some (.inl n), some (.inl r), some (.inl p), none]) rfl (fun hav hcm => ?_)
  have hc1 : -2147483648 ≤ n ∧ n < 2147483648 := hav (.inl n) (by simp)
  have hc2 : -2147483648 ≤ r ∧ r < 2147483648 := hav (.inl r) (by simp)
  have hc3 : -2147483648 ≤ p ∧ p < 2147483648 := hav (.inl p) (by simp)
  clear hav
  refine ax_iload_n dX0_latestHand_0 rfl rfl (pc' := 1) rfl ?_
  refine ax_iconst dX0_latestHand_1 (by decide) (pc' := 2) rfl ?_
  refine ax_isub dX0_latestHand_2 (by omega) (pc' := 3) rfl ?_
  refine ax_istore dX0_latestHand_3 (by decide) (ls' := [some (.inr 37), some (.inl n), some (.inl r), some (.inl p), some (.inl (n - 1))]) rfl (pc' := 5) rfl ?_
  have LP1 : ∀ (kq2 : Nat) (i : Int) (hm1 : i + 1 < (kq2 : Nat)) (iv1_0 : -1 ≤ i ∧ i < w 1) (iv1_1 : f_loop (f_whH w r p) 0 (w 1) (-1) = f_loop (f_whH w r p) 0 (i + 1) (-1)), ax_W E l (d + 1) 0 0 iX0_latestHand 5 [some (.inr 37), some (.inl n), some (.inl r), some (.inl p), some (.inl i)] [] SH M (ax_P (fun z0 M2 => z0 = some (.inl (f_loop (f_whH w r p) 0 (w 1) (-1))) ∧ M = M2)) := by
    intro kq2
    induction kq2 with
    | zero =>
      intro i hm1 iv1_0 iv1_1
      exfalso
      omega
    | succ kq2 ih3 =>
      intro i hm1 iv1_0 iv1_1
      refine ax_iload dX0_latestHand_5 rfl (pc' := 7) rfl ?_
      refine ax_if_lt (tgt := 56) dX0_latestHand_7 (by decide) (pc' := 10) rfl (fun h7 => ?_) (fun h7 => ?_)
      · refine ax_iconst dX0_latestHand_56 (by decide) (pc' := 57) rfl ?_
        refine ax_iret dX0_latestHand_57 rfl ?_
        refine ⟨rfl, ?_, ?_⟩
        · refine congrArg (fun z => some (Sum.inl z)) ?_
          rw [iv1_1, f_loop_done (by omega)]
        · rfl
      · have qe : ∀ c, 0 ≤ c → c < 6 → M 38 (i * 6 + c) = w (2640 + 6 * i + c) := fun c c1 c2 => by
          rw [hg0 (i * 6 + c) (by omega) (by omega), show 2640 + (i * 6 + c) = 2640 + 6 * i + c by omega]
        have qe1 := qe 1 (by decide) (by decide)
        have qe2 := qe 2 (by decide) (by decide)
        have qe4 := qe 4 (by decide) (by decide)
        have qe5 := qe 5 (by decide) (by decide)
        refine ax_aload_n dX0_latestHand_10 rfl rfl (pc' := 11) rfl ?_
        refine ax_iload dX0_latestHand_11 rfl (pc' := 13) rfl ?_
        refine ax_iconst dX0_latestHand_13 (by decide) (pc' := 14) rfl ?_
        refine ax_invG [.inl i, .inl 4] [] dX0_latestHand_14 mlX0_30 sh_37 rfl rfl rfl (Nat.le_of_ble_eq_true rfl) (s_X0_entry E l _ (by omega) _ i 4 rfl (by first | omega | assumption) (by first | omega | assumption)) (pc' := 17) rfl (fun vv M_14 hq co14 hcm14 => ?_)
        obtain ⟨rfl, rfl⟩ := hq
        refine ax_reS (st2 := [.inl ((M 38) (i * 6 + 4))]) rfl ?_
        have cc14 : -2147483648 ≤ (M 38) (i * 6 + 4) ∧ (M 38) (i * 6 + 4) < 2147483648 := co14 _ rfl
        refine ax_if_ne (tgt := 50) dX0_latestHand_17 (by decide) (pc' := 20) rfl (fun h17 => ?_) (fun h17 => ?_)
        · have qm : f_whH w r p i (f_loop (f_whH w r p) 0 i (-1)) = f_loop (f_whH w r p) 0 i (-1) := by
            unfold f_whH
            rw [if_neg (by omega)]
          refine ax_iinc dX0_latestHand_50 rfl (by decide) (by omega) (ls' := [some (.inr 37), some (.inl n), some (.inl r), some (.inl p), some (.inl (i + (-1)))]) rfl (pc' := 53) rfl ?_
          refine ax_goto dX0_latestHand_53 (pc' := 5) (by decide) ?_
          refine ih3 (i + (-1)) ?_ ?_ ?_
          · omega
          · omega
          · rw [iv1_1, f_loop_last (by omega), qm, show i + (-1) + 1 = i by omega]
        · refine ax_aload_n dX0_latestHand_20 rfl rfl (pc' := 21) rfl ?_
          refine ax_iload dX0_latestHand_21 rfl (pc' := 23) rfl ?_
          refine ax_iconst dX0_latestHand_23 (by decide) (pc' := 24) rfl ?_
          refine ax_invG [.inl i, .inl 1] [] dX0_latestHand_24 mlX0_30 sh_37 rfl rfl rfl (Nat.le_of_ble_eq_true rfl) (s_X0_entry E l _ (by omega) _ i 1 rfl (by first | omega | assumption) (by first | omega | assumption)) (pc' := 27) rfl (fun vv M_24 hq co24 hcm24 => ?_)
          obtain ⟨rfl, rfl⟩ := hq
          refine ax_reS (st2 := [.inl ((M 38) (i * 6 + 1))]) rfl ?_
          have cc24 : -2147483648 ≤ (M 38) (i * 6 + 1) ∧ (M 38) (i * 6 + 1) < 2147483648 := co24 _ rfl
          refine ax_iload_n dX0_latestHand_27 rfl rfl (pc' := 28) rfl ?_
          refine ax_icmp_ne (tgt := 50) dX0_latestHand_28 (by decide) (pc' := 31) rfl (fun h28 => ?_) (fun h28 => ?_)
          · have qm : f_whH w r p i (f_loop (f_whH w r p) 0 i (-1)) = f_loop (f_whH w r p) 0 i (-1) := by
              unfold f_whH
              rw [if_neg (by omega)]
            refine ax_iinc dX0_latestHand_50 rfl (by decide) (by omega) (ls' := [some (.inr 37), some (.inl n), some (.inl r), some (.inl p), some (.inl (i + (-1)))]) rfl (pc' := 53) rfl ?_
            refine ax_goto dX0_latestHand_53 (pc' := 5) (by decide) ?_
            refine ih3 (i + (-1)) ?_ ?_ ?_
            · omega
            · omega
            · rw [iv1_1, f_loop_last (by omega), qm, show i + (-1) + 1 = i by omega]
          · refine ax_aload_n dX0_latestHand_31 rfl rfl (pc' := 32) rfl ?_
            refine ax_iload dX0_latestHand_32 rfl (pc' := 34) rfl ?_
            refine ax_iconst dX0_latestHand_34 (by decide) (pc' := 35) rfl ?_
            refine ax_invG [.inl i, .inl 2] [] dX0_latestHand_35 mlX0_30 sh_37 rfl rfl rfl (Nat.le_of_ble_eq_true rfl) (s_X0_entry E l _ (by omega) _ i 2 rfl (by first | omega | assumption) (by first | omega | assumption)) (pc' := 38) rfl (fun vv M_35 hq co35 hcm35 => ?_)
            obtain ⟨rfl, rfl⟩ := hq
            refine ax_reS (st2 := [.inl ((M 38) (i * 6 + 2))]) rfl ?_
            have cc35 : -2147483648 ≤ (M 38) (i * 6 + 2) ∧ (M 38) (i * 6 + 2) < 2147483648 := co35 _ rfl
            refine ax_iload_n dX0_latestHand_38 rfl rfl (pc' := 39) rfl ?_
            refine ax_icmp_ne (tgt := 50) dX0_latestHand_39 (by decide) (pc' := 42) rfl (fun h39 => ?_) (fun h39 => ?_)
            · have qm : f_whH w r p i (f_loop (f_whH w r p) 0 i (-1)) = f_loop (f_whH w r p) 0 i (-1) := by
                unfold f_whH
                rw [if_neg (by omega)]
              refine ax_iinc dX0_latestHand_50 rfl (by decide) (by omega) (ls' := [some (.inr 37), some (.inl n), some (.inl r), some (.inl p), some (.inl (i + (-1)))]) rfl (pc' := 53) rfl ?_
              refine ax_goto dX0_latestHand_53 (pc' := 5) (by decide) ?_
              refine ih3 (i + (-1)) ?_ ?_ ?_
              · omega
              · omega
              · rw [iv1_1, f_loop_last (by omega), qm, show i + (-1) + 1 = i by omega]
            · refine ax_aload_n dX0_latestHand_42 rfl rfl (pc' := 43) rfl ?_
              refine ax_iload dX0_latestHand_43 rfl (pc' := 45) rfl ?_
              refine ax_iconst dX0_latestHand_45 (by decide) (pc' := 46) rfl ?_
              refine ax_invG [.inl i, .inl 5] [] dX0_latestHand_46 mlX0_30 sh_37 rfl rfl rfl (Nat.le_of_ble_eq_true rfl) (s_X0_entry E l _ (by omega) _ i 5 rfl (by first | omega | assumption) (by first | omega | assumption)) (pc' := 49) rfl (fun vv M_46 hq co46 hcm46 => ?_)
              obtain ⟨rfl, rfl⟩ := hq
              refine ax_reS (st2 := [.inl ((M 38) (i * 6 + 5))]) rfl ?_
              have cc46 : -2147483648 ≤ (M 38) (i * 6 + 5) ∧ (M 38) (i * 6 + 5) < 2147483648 := co46 _ rfl
              refine ax_iret dX0_latestHand_49 rfl ?_
              refine ⟨rfl, ?_, ?_⟩
              · refine congrArg (fun z => some (Sum.inl z)) ?_
                rw [iv1_1, f_loop_last (by omega)]
                unfold f_whH
                rw [if_pos (by omega)]
                exact qe5
              · rfl
  refine LP1 ((n - 1) + 1 : Int).toNat.succ (n - 1) ?_ ?_ ?_
  · omega
  · omega
  · rw [show n - 1 + 1 = w 1 by omega]
set_option maxRecDepth 20000 in
theorem s_X0_salesOf (E : ax_Env) (l : Launch) (d : Nat) (hd : 1 ≤ d) (M : ax_Mem) (n r : Int) (w : Int → Int) (hg0 : f_bk M 38 w) (hg1 : 0 ≤ w 1 ∧ w 1 ≤ 200) (hg2 : n = w 1) : ax_G E l d iX0_salesOf [.inr 37, .inl n, .inl r] M (fun z0 M2 => z0 = some (.inl (f_loop (f_whS w r) 0 (w 1) 0)) ∧ M = M2) := by
  obtain ⟨d, rfl⟩ : ∃ d0, d = d0 + 1 := ⟨d - 1, by omega⟩
  refine ax_start rfl (Nat.le_of_ble_eq_true rfl) (ls := [some (.inr 37), some (.inl n), some (.inl r), none, none]) rfl (fun hav hcm => ?_)
  have hc1 : -2147483648 ≤ n ∧ n < 2147483648 := hav (.inl n) (by simp)
  have hc2 : -2147483648 ≤ r ∧ r < 2147483648 := hav (.inl r) (by simp)
  clear hav
  refine ax_iconst dX0_salesOf_0 (by decide) (pc' := 1) rfl ?_
  refine ax_istore_n dX0_salesOf_1 rfl (by decide) (ls' := [some (.inr 37), some (.inl n), some (.inl r), some (.inl 0), none]) rfl (pc' := 2) rfl ?_
  refine ax_iconst dX0_salesOf_2 (by decide) (pc' := 3) rfl ?_
  refine ax_istore dX0_salesOf_3 (by decide) (ls' := [some (.inr 37), some (.inl n), some (.inl r), some (.inl 0), some (.inl 0)]) rfl (pc' := 5) rfl ?_
  have LP1 : ∀ (kq2 : Nat) (i s : Int) (hm1 : n - i < (kq2 : Nat)) (iv1_0 : 0 ≤ i ∧ i ≤ w 1) (iv1_1 : f_loop (f_whS w r) i (w 1) s = f_loop (f_whS w r) 0 (w 1) 0) (iv1_2 : 0 ≤ s ∧ s ≤ i), ax_W E l (d + 1) 0 0 iX0_salesOf 5 [some (.inr 37), some (.inl n), some (.inl r), some (.inl s), some (.inl i)] [] SH M (ax_P (fun z0 M2 => z0 = some (.inl (f_loop (f_whS w r) 0 (w 1) 0)) ∧ M = M2)) := by
    intro kq2
    induction kq2 with
    | zero =>
      intro i s hm1 iv1_0 iv1_1 iv1_2
      exfalso
      omega
    | succ kq2 ih3 =>
      intro i s hm1 iv1_0 iv1_1 iv1_2
      refine ax_iload dX0_salesOf_5 rfl (pc' := 7) rfl ?_
      refine ax_iload_n dX0_salesOf_7 rfl rfl (pc' := 8) rfl ?_
      refine ax_icmp_ge (tgt := 47) dX0_salesOf_8 (by decide) (pc' := 11) rfl (fun h8 => ?_) (fun h8 => ?_)
      · refine ax_iload_n dX0_salesOf_47 rfl rfl (pc' := 48) rfl ?_
        refine ax_iret dX0_salesOf_48 rfl ?_
        refine ⟨rfl, ?_, ?_⟩
        · refine congrArg (fun z => some (Sum.inl z)) ?_
          exact (f_loop_done (by omega)).symm.trans iv1_1
        · rfl
      · have qe : ∀ c, 0 ≤ c → c < 6 → M 38 (i * 6 + c) = w (2640 + 6 * i + c) := fun c c1 c2 => by
          rw [hg0 (i * 6 + c) (by omega) (by omega), show 2640 + (i * 6 + c) = 2640 + 6 * i + c by omega]
        have qe1 := qe 1 (by decide) (by decide)
        have qe2 := qe 2 (by decide) (by decide)
        have qe4 := qe 4 (by decide) (by decide)
        have qe5 := qe 5 (by decide) (by decide)
        refine ax_iload_n dX0_salesOf_11 rfl rfl (pc' := 12) rfl ?_
        refine ax_aload_n dX0_salesOf_12 rfl rfl (pc' := 13) rfl ?_
        refine ax_iload dX0_salesOf_13 rfl (pc' := 15) rfl ?_
        refine ax_iconst dX0_salesOf_15 (by decide) (pc' := 16) rfl ?_
        refine ax_invG [.inl i, .inl 4] [.inl s] dX0_salesOf_16 mlX0_30 sh_37 rfl rfl rfl (Nat.le_of_ble_eq_true rfl) (s_X0_entry E l _ (by omega) _ i 4 rfl (by first | omega | assumption) (by first | omega | assumption)) (pc' := 19) rfl (fun vv M_16 hq co16 hcm16 => ?_)
        obtain ⟨rfl, rfl⟩ := hq
        refine ax_reS (st2 := [.inl ((M 38) (i * 6 + 4)), .inl s]) rfl ?_
        have cc16 : -2147483648 ≤ (M 38) (i * 6 + 4) ∧ (M 38) (i * 6 + 4) < 2147483648 := co16 _ rfl
        refine ax_iconst dX0_salesOf_19 (by decide) (pc' := 20) rfl ?_
        refine ax_icmp_ne (tgt := 38) dX0_salesOf_20 (by decide) (pc' := 23) rfl (fun h20 => ?_) (fun h20 => ?_)
        · have qv : f_whS w r i s = s + 0 := by
            unfold f_whS
            rw [if_neg (by omega), Int.add_zero]
          refine ax_iconst dX0_salesOf_38 (by decide) (pc' := 39) rfl ?_
          refine ax_iadd dX0_salesOf_39 (by omega) (pc' := 40) rfl ?_
          refine ax_istore_n dX0_salesOf_40 rfl (by decide) (ls' := [some (.inr 37), some (.inl n), some (.inl r), some (.inl (s + 0)), some (.inl i)]) rfl (pc' := 41) rfl ?_
          refine ax_iinc dX0_salesOf_41 rfl (by decide) (by omega) (ls' := [some (.inr 37), some (.inl n), some (.inl r), some (.inl (s + 0)), some (.inl (i + 1))]) rfl (pc' := 44) rfl ?_
          refine ax_goto dX0_salesOf_44 (pc' := 5) (by decide) ?_
          refine ih3 (i + 1) (s + 0) ?_ ?_ ?_ ?_
          · omega
          · omega
          · rw [← iv1_1, f_loop_step (lo := i) (by omega), qv]
          · omega
        · refine ax_aload_n dX0_salesOf_23 rfl rfl (pc' := 24) rfl ?_
          refine ax_iload dX0_salesOf_24 rfl (pc' := 26) rfl ?_
          refine ax_iconst dX0_salesOf_26 (by decide) (pc' := 27) rfl ?_
          refine ax_invG [.inl i, .inl 1] [.inl s] dX0_salesOf_27 mlX0_30 sh_37 rfl rfl rfl (Nat.le_of_ble_eq_true rfl) (s_X0_entry E l _ (by omega) _ i 1 rfl (by first | omega | assumption) (by first | omega | assumption)) (pc' := 30) rfl (fun vv M_27 hq co27 hcm27 => ?_)
          obtain ⟨rfl, rfl⟩ := hq
          refine ax_reS (st2 := [.inl ((M 38) (i * 6 + 1)), .inl s]) rfl ?_
          have cc27 : -2147483648 ≤ (M 38) (i * 6 + 1) ∧ (M 38) (i * 6 + 1) < 2147483648 := co27 _ rfl
          refine ax_iload_n dX0_salesOf_30 rfl rfl (pc' := 31) rfl ?_
          refine ax_icmp_ne (tgt := 38) dX0_salesOf_31 (by decide) (pc' := 34) rfl (fun h31 => ?_) (fun h31 => ?_)
          · have qv : f_whS w r i s = s + 0 := by
              unfold f_whS
              rw [if_neg (by omega), Int.add_zero]
            refine ax_iconst dX0_salesOf_38 (by decide) (pc' := 39) rfl ?_
            refine ax_iadd dX0_salesOf_39 (by omega) (pc' := 40) rfl ?_
            refine ax_istore_n dX0_salesOf_40 rfl (by decide) (ls' := [some (.inr 37), some (.inl n), some (.inl r), some (.inl (s + 0)), some (.inl i)]) rfl (pc' := 41) rfl ?_
            refine ax_iinc dX0_salesOf_41 rfl (by decide) (by omega) (ls' := [some (.inr 37), some (.inl n), some (.inl r), some (.inl (s + 0)), some (.inl (i + 1))]) rfl (pc' := 44) rfl ?_
            refine ax_goto dX0_salesOf_44 (pc' := 5) (by decide) ?_
            refine ih3 (i + 1) (s + 0) ?_ ?_ ?_ ?_
            · omega
            · omega
            · rw [← iv1_1, f_loop_step (lo := i) (by omega), qv]
            · omega
          · have qv : f_whS w r i s = s + 1 := by
              unfold f_whS
              rw [if_pos (by omega)]
            refine ax_iconst dX0_salesOf_34 (by decide) (pc' := 35) rfl ?_
            refine ax_goto dX0_salesOf_35 (pc' := 39) (by decide) ?_
            refine ax_iadd dX0_salesOf_39 (by omega) (pc' := 40) rfl ?_
            refine ax_istore_n dX0_salesOf_40 rfl (by decide) (ls' := [some (.inr 37), some (.inl n), some (.inl r), some (.inl (s + 1)), some (.inl i)]) rfl (pc' := 41) rfl ?_
            refine ax_iinc dX0_salesOf_41 rfl (by decide) (by omega) (ls' := [some (.inr 37), some (.inl n), some (.inl r), some (.inl (s + 1)), some (.inl (i + 1))]) rfl (pc' := 44) rfl ?_
            refine ax_goto dX0_salesOf_44 (pc' := 5) (by decide) ?_
            refine ih3 (i + 1) (s + 1) ?_ ?_ ?_ ?_
            · omega
            · omega
            · rw [← iv1_1, f_loop_step (lo := i) (by omega), qv]
            · omega
  refine LP1 (n - 0 : Int).toNat.succ 0 0 ?_ ?_ ?_ ?_
  · omega
  · omega
  · rfl
  · omega
