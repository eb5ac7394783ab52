/-! yards: the fewest from an order on -/
theorem f_sh_b {s j mm : Nat} (hs : s < 128) (hj : j < 7) (hm : mm = s / 2 ^ j) : ax_and (ax_shr (s : Int) (j : Int)) 1 = ((mm % 2 : Nat) : Int) := by
  rw [hm]
  exact f_sh_all ⟨s, hs⟩ ⟨j, hj⟩
theorem f_m01 {m : Nat} {o : Int} (ho : 1 ≤ o ∧ o ≤ 24) : 0 ≤ ((m % 2 : Nat) : Int) * o ∧ ((m % 2 : Nat) : Int) * o ≤ 24 := by
  rcases (by omega : m % 2 = 0 ∨ m % 2 = 1) with e | e
  · rw [e]
    show 0 ≤ (0 : Int) * o ∧ (0 : Int) * o ≤ 24
    omega
  · rw [e]
    show 0 ≤ (1 : Int) * o ∧ (1 : Int) * o ≤ 24
    omega
set_option maxRecDepth 20000 in
theorem s_X10_fewestFrom (E : ax_Env) (l : Launch) (d : Nat) (hd : 2 ≤ d) (M : ax_Mem) (fi : Int) (os : List Int) {od : Int → Int} (hod : M 51 = od) {le : Int → Int} (hle : M 84 = le) {ld : Int → Int} (hld : M 85 = ld) {su : Int → Int} (hsu : M 86 = su) {b : Int → Int} (hb : M 87 = b) {oc : Int} (hoc : M 39 8 = oc) (hg0 : 0 ≤ fi ∧ fi + (os.length : Int) = oc ∧ oc ≤ 7) (hg1 : f_fwd od fi os) (hg2 : ∀ o ∈ os, 1 ≤ o ∧ o ≤ 24) (hg3 : ∀ r, 0 ≤ r → r < 8 → (0 ≤ ld r ∧ ld r ≤ 1000) ∧ 0 ≤ le r ∧ le r ≤ 1000) : ax_G E l d iX10_fewestFrom [.inr 82, .inr 39, .inl fi] M (fun z0 M2 => z0 = some (.inl (f_fwF ld le os)) ∧ (∀ x0 i0 : Int, ¬ (x0 = 86 ∨ x0 = 87) → M2 x0 i0 = M x0 i0)) := by
  obtain ⟨d, rfl⟩ : ∃ d0, d = d0 + 1 := ⟨d - 1, by omega⟩
  refine ax_start rfl (Nat.le_of_ble_eq_true rfl) (ls := [some (.inr 82), some (.inr 39), some (.inl fi), none, none, none]) rfl (fun hav hcm => ?_)
  have hc2 : -2147483648 ≤ fi ∧ fi < 2147483648 := hav (.inl fi) (by simp)
  clear hav
  have qn7 : os.length ≤ 7 := by omega
  have qf7 := f_full_7 qn7
  refine ax_iconst dX10_fewestFrom_0 (by decide) (pc' := 1) rfl ?_
  refine ax_iconst dX10_fewestFrom_1 (by decide) (pc' := 2) rfl ?_
  refine ax_aload_n dX10_fewestFrom_2 rfl rfl (pc' := 3) rfl ?_
  refine ax_geti (v := oc) dX10_fewestFrom_3 flX10_50 rfl sh_39 hoc rfl (pc' := 6) rfl ?_
  refine ax_iload_n dX10_fewestFrom_6 rfl rfl (pc' := 7) rfl ?_
  refine ax_isub dX10_fewestFrom_7 (by omega) (pc' := 8) rfl ?_
  refine ax_mmax dX10_fewestFrom_8 mlX10_61 (Nat.le_of_ble_eq_true rfl) (pc' := 11) rfl ?_
  refine ax_ishl dX10_fewestFrom_11 (pc' := 12) rfl ?_
  refine ax_reS (st2 := [.inl ((f_full os.length + 1 : Nat) : Int)]) (congrArg (fun z => Sum.inl z :: _) (by rw [show max 0 (oc - fi) = ((os.length : Nat) : Int) by omega]; exact f_sh_fl qn7)) ?_
  refine ax_istore_n dX10_fewestFrom_12 rfl (by decide) (ls' := [some (.inr 82), some (.inr 39), some (.inl fi), some (.inl ((f_full os.length + 1 : Nat) : Int)), none, none]) rfl (pc' := 13) rfl ?_
  refine ax_iconst dX10_fewestFrom_13 (by decide) (pc' := 14) rfl ?_
  refine ax_istore dX10_fewestFrom_14 (by decide) (ls' := [some (.inr 82), some (.inr 39), some (.inl fi), some (.inl ((f_full os.length + 1 : Nat) : Int)), some (.inl 0), none]) rfl (pc' := 16) rfl ?_
  have LP1 : ∀ (kq2 : Nat) (s : Int) (u1 b1 : Int → Int) (M1 : ax_Mem) (hm1 : ((f_full os.length + 1 : Nat) : Int) - s < (kq2 : Nat)) (fr1 : ∀ x0 i0 : Int, ¬ (x0 = 86 ∨ x0 = 87) → M1 x0 i0 = M x0 i0) (mr1_86 : M1 86 = u1) (mr1_87 : M1 87 = b1) (iv1_0 : 0 ≤ s ∧ s ≤ ((f_full os.length + 1 : Nat) : Int)) (iv1_1 : ∀ p : Nat, (p : Int) < s → u1 (p : Int) = f_ms os p ∧ b1 (p : Int) = f_dpr ld le os 0 (p : Int)), ax_W E l (d + 1) 0 0 iX10_fewestFrom 16 [some (.inr 82), some (.inr 39), some (.inl fi), some (.inl ((f_full os.length + 1 : Nat) : Int)), some (.inl s), none] [] SH M1 (ax_P (fun z0 M2 => z0 = some (.inl (f_fwF ld le os)) ∧ (∀ x0 i0 : Int, ¬ (x0 = 86 ∨ x0 = 87) → M2 x0 i0 = M x0 i0))) := by
    intro kq2
    induction kq2 with
    | zero =>
      intro s u1 b1 M1 hm1 fr1 mr1_86 mr1_87 iv1_0 iv1_1
      exfalso
      omega
    | succ kq2 ih3 =>
      intro s u1 b1 M1 hm1 fr1 mr1_86 mr1_87 iv1_0 iv1_1
      refine ax_iload dX10_fewestFrom_16 rfl (pc' := 18) rfl ?_
      refine ax_iload_n dX10_fewestFrom_18 rfl rfl (pc' := 19) rfl ?_
      refine ax_icmp_ge (tgt := 100) dX10_fewestFrom_19 (by decide) (pc' := 22) rfl (fun h19 => ?_) (fun h19 => ?_)
      · refine ax_iconst dX10_fewestFrom_100 (by decide) (pc' := 101) rfl ?_
        refine ax_istore dX10_fewestFrom_101 (by decide) (ls' := [some (.inr 82), some (.inr 39), some (.inl fi), some (.inl ((f_full os.length + 1 : Nat) : Int)), some (.inl 0), none]) rfl (pc' := 103) rfl ?_
        have LP4 : ∀ (kq5 : Nat) (r : Int) (b3 : Int → Int) (Rn : Nat) (M4 : ax_Mem) (hm4 : 8 - r < (kq5 : Nat)) (fr4 : ∀ x0 i0 : Int, ¬ (x0 = 87) → M4 x0 i0 = M1 x0 i0) (mr4_87 : M4 87 = b3) (iv4_0 : (0 ≤ r ∧ r ≤ 8) ∧ r = (Rn : Int)) (iv4_1 : ∀ p : Nat, p ≤ f_full os.length → b3 (p : Int) = f_dpr ld le os Rn (p : Int)), ax_W E l (d + 1) 0 0 iX10_fewestFrom 103 [some (.inr 82), some (.inr 39), some (.inl fi), some (.inl ((f_full os.length + 1 : Nat) : Int)), some (.inl r), none] [] SH M4 (ax_P (fun z0 M2 => z0 = some (.inl (f_fwF ld le os)) ∧ (∀ x0 i0 : Int, ¬ (x0 = 86 ∨ x0 = 87) → M2 x0 i0 = M x0 i0))) := by
          intro kq5
          induction kq5 with
          | zero =>
            intro r b3 Rn M4 hm4 fr4 mr4_87 iv4_0 iv4_1
            exfalso
            omega
          | succ kq5 ih6 =>
            intro r b3 Rn M4 hm4 fr4 mr4_87 iv4_0 iv4_1
            refine ax_iload dX10_fewestFrom_103 rfl (pc' := 105) rfl ?_
            refine ax_bipush dX10_fewestFrom_105 (by decide) (pc' := 107) rfl ?_
            refine ax_icmp_ge (tgt := 147) dX10_fewestFrom_107 (by decide) (pc' := 110) rfl (fun h107 => ?_) (fun h107 => ?_)
            · refine ax_aload_n dX10_fewestFrom_147 rfl rfl (pc' := 148) rfl ?_
              refine ax_getr (v := 87) dX10_fewestFrom_148 flX10_24 rfl sh_82 rfl (pc' := 151) rfl ?_
              refine ax_iload_n dX10_fewestFrom_151 rfl rfl (pc' := 152) rfl ?_
              refine ax_iconst dX10_fewestFrom_152 (by decide) (pc' := 153) rfl ?_
              refine ax_isub dX10_fewestFrom_153 (by omega) (pc' := 154) rfl ?_
              refine ax_iald (v := b3 (((f_full os.length + 1 : Nat) : Int) - 1)) dX10_fewestFrom_154 sh_87 rfl (by omega) (by omega) ((congrFun mr4_87 (((f_full os.length + 1 : Nat) : Int) - 1)).trans rfl) (pc' := 155) rfl ?_
              refine ax_iret dX10_fewestFrom_155 rfl ?_
              refine ⟨rfl, ?_, ?_⟩
              · refine congrArg (fun z => some (Sum.inl z)) ?_
                rw [show ((f_full os.length + 1 : Nat) : Int) - 1 = ((f_full os.length : Nat) : Int) by omega]
                unfold f_fwF
                rw [show (8 : Nat) = Rn by omega]
                exact iv4_1 _ (Nat.le_refl _)
              · intro x0 i0 hai
                exact ((fr4 x0 i0 (fun h => hai (Or.inr h))).trans ((fr1 x0 i0 (fun h => h.elim (fun h => hai (Or.inl h)) (fun h => hai (Or.inr h)))).trans rfl))
            · refine ax_iload_n dX10_fewestFrom_110 rfl rfl (pc' := 111) rfl ?_
              refine ax_iconst dX10_fewestFrom_111 (by decide) (pc' := 112) rfl ?_
              refine ax_isub dX10_fewestFrom_112 (by omega) (pc' := 113) rfl ?_
              refine ax_istore dX10_fewestFrom_113 (by decide) (ls' := [some (.inr 82), some (.inr 39), some (.inl fi), some (.inl ((f_full os.length + 1 : Nat) : Int)), some (.inl r), some (.inl (((f_full os.length + 1 : Nat) : Int) - 1))]) rfl (pc' := 115) rfl ?_
              have LP7 : ∀ (kq8 : Nat) (t : Int) (b4 : Int → Int) (M7 : ax_Mem) (hm7 : t + 1 < (kq8 : Nat)) (fr7 : ∀ x0 i0 : Int, ¬ (x0 = 87) → M7 x0 i0 = M4 x0 i0) (mr7_87 : M7 87 = b4) (iv7_0 : -1 ≤ t ∧ t < ((f_full os.length + 1 : Nat) : Int)) (iv7_1 : ∀ p : Nat, p ≤ f_full os.length → ((p : Int) ≤ t → b4 (p : Int) = f_dpr ld le os Rn (p : Int)) ∧ (t < (p : Int) → b4 (p : Int) = f_dpr ld le os (Rn + 1) (p : Int))), ax_W E l (d + 1) 0 0 iX10_fewestFrom 115 [some (.inr 82), some (.inr 39), some (.inl fi), some (.inl ((f_full os.length + 1 : Nat) : Int)), some (.inl r), some (.inl t)] [] SH M7 (ax_P (fun z0 M2 => z0 = some (.inl (f_fwF ld le os)) ∧ (∀ x0 i0 : Int, ¬ (x0 = 86 ∨ x0 = 87) → M2 x0 i0 = M x0 i0))) := by
                intro kq8
                induction kq8 with
                | zero =>
                  intro t b4 M7 hm7 fr7 mr7_87 iv7_0 iv7_1
                  exfalso
                  omega
                | succ kq8 ih9 =>
                  intro t b4 M7 hm7 fr7 mr7_87 iv7_0 iv7_1
                  refine ax_iload dX10_fewestFrom_115 rfl (pc' := 117) rfl ?_
                  refine ax_if_lt (tgt := 141) dX10_fewestFrom_117 (by decide) (pc' := 120) rfl (fun h117 => ?_) (fun h117 => ?_)
                  · refine ax_iinc dX10_fewestFrom_141 rfl (by decide) (by omega) (ls' := [some (.inr 82), some (.inr 39), some (.inl fi), some (.inl ((f_full os.length + 1 : Nat) : Int)), some (.inl (r + 1)), some (.inl t)]) rfl (pc' := 144) rfl ?_
                    refine ax_goto dX10_fewestFrom_144 (pc' := 103) (by decide) ?_
                    refine ax_less (ls2 := [some (.inr 82), some (.inr 39), some (.inl fi), some (.inl ((f_full os.length + 1 : Nat) : Int)), some (.inl (r + 1)), none]) [true, true, true, true, true, false] rfl ?_
                    refine ih6 (r + 1) b4 (Rn + 1) M7 ?_ ?_ ?_ ?_ ?_
                    · omega
                    · intro x0 i0 hai
                      exact ((fr7 x0 i0 (fun h => hai h)).trans ((fr4 x0 i0 (fun h => hai h)).trans rfl))
                    · exact mr7_87
                    · omega
                    · intro p hp
                      exact (iv7_1 p hp).2 (by omega)
                  · refine ax_aload_n dX10_fewestFrom_120 rfl rfl (pc' := 121) rfl ?_
                    refine ax_getr (v := 87) dX10_fewestFrom_121 flX10_24 rfl sh_82 rfl (pc' := 124) rfl ?_
                    refine ax_iload dX10_fewestFrom_124 rfl (pc' := 126) rfl ?_
                    refine ax_aload_n dX10_fewestFrom_126 rfl rfl (pc' := 127) rfl ?_
                    refine ax_iload dX10_fewestFrom_127 rfl (pc' := 129) rfl ?_
                    refine ax_iload dX10_fewestFrom_129 rfl (pc' := 131) rfl ?_
                    refine ax_invG [.inl r, .inl t] [.inl t, .inr 87] dX10_fewestFrom_131 mlX10_67 sh_82 rfl rfl rfl (Nat.le_of_ble_eq_true rfl) (s_X10_bestWith E l _ (by omega) _ r t t.toNat ((funext fun i0 => fr7 84 i0 (fun h => absurd h (by decide))).trans ((funext fun i0 => fr4 84 i0 (fun h => absurd h (by decide))).trans ((funext fun i0 => fr1 84 i0 (fun h => h.elim (fun h => absurd h (by decide)) (fun h => absurd h (by decide)))).trans hle))) ((funext fun i0 => fr7 85 i0 (fun h => absurd h (by decide))).trans ((funext fun i0 => fr4 85 i0 (fun h => absurd h (by decide))).trans ((funext fun i0 => fr1 85 i0 (fun h => h.elim (fun h => absurd h (by decide)) (fun h => absurd h (by decide)))).trans hld))) ((funext fun i0 => fr7 86 i0 (fun h => absurd h (by decide))).trans ((funext fun i0 => fr4 86 i0 (fun h => absurd h (by decide))).trans mr1_86)) mr7_87 (by omega) (by omega) (fun p hp => by
      have e1 := (iv1_1 p (by omega)).1
      have e2 := (iv7_1 p (by omega)).1 (by omega)
      have e3 := f_ms_hi (p := p) hg2
      have e4 := f_dpr_rg (ld := ld) (le := le) qn7 (R := Rn) (m := p) (by omega)
      omega) (hg3 r (by omega) (by omega))) (pc' := 134) rfl (fun vv M_131 hq co131 hcm131 => ?_)
                    obtain ⟨rfl, rfl⟩ := hq
                    refine ax_reS (st2 := [.inl (f_bwr (ld r) (le r) u1 b4 t.toNat), .inl t, .inr 87]) rfl ?_
                    refine ax_iast dX10_fewestFrom_134 sh_87 rfl (by omega) (by omega) (pc' := 135) rfl ?_
                    refine ax_iinc dX10_fewestFrom_135 rfl (by decide) (by omega) (ls' := [some (.inr 82), some (.inr 39), some (.inl fi), some (.inl ((f_full os.length + 1 : Nat) : Int)), some (.inl r), some (.inl (t + (-1)))]) rfl (pc' := 138) rfl ?_
                    refine ax_goto dX10_fewestFrom_138 (pc' := 115) (by decide) ?_
                    refine ih9 (t + (-1)) (f_up b4 t (f_bwr (ld r) (le r) u1 b4 t.toNat)) (ax_up M7 87 t (f_bwr (ld r) (le r) u1 b4 t.toNat)) ?_ ?_ ?_ ?_ ?_
                    · omega
                    · intro x0 i0 hai
                      exact (ax_up_miss (fun h => hai h.1) ((fr7 x0 i0 (fun h => hai h)).trans rfl))
                    · exact (ax_up_rowhit mr7_87)
                    · omega
                    · intro p hp
                      refine ⟨fun h => ?_, fun h => ?_⟩
                      · exact (f_up_ne (by omega) rfl).trans ((iv7_1 p hp).1 (by omega))
                      · by_cases hpt : (p : Int) = t
                        · rw [hpt]
                          refine (f_up_same _ _ _).trans ?_
                          rw [← hpt, show ((p : Nat) : Int).toNat = p by omega, iv4_0.2]
                          show f_bwr _ _ _ _ p = f_bwr (ld (Rn : Int)) (le (Rn : Int)) (fun p => f_ms os p.toNat) (f_dpr ld le os Rn) p
                          unfold f_bwr
                          rw [(iv7_1 p hp).1 (by omega)]
                          refine f_bwl_cong (fun q hq => ⟨?_, ?_⟩) _ _ _ (Nat.le_refl p)
                          · exact (iv1_1 q (by omega)).1
                          · exact (iv7_1 q (by omega)).1 (by omega)
                        · exact (f_up_ne (by omega) rfl).trans ((iv7_1 p hp).2 (by omega))
              refine LP7 ((((f_full os.length + 1 : Nat) : Int) - 1) + 1 : Int).toNat.succ (((f_full os.length + 1 : Nat) : Int) - 1) b3 M4 ?_ ?_ ?_ ?_ ?_
              · omega
              · exact fun a i _ => rfl
              · exact mr4_87
              · omega
              · intro p hp
                exact ⟨fun _ => iv4_1 p hp, fun h => by omega⟩
        refine LP4 (8 - 0 : Int).toNat.succ 0 b1 0 M1 ?_ ?_ ?_ ?_ ?_
        · omega
        · exact fun a i _ => rfl
        · exact mr1_87
        · exact ⟨by decide, rfl⟩
        · intro p hp
          exact (iv1_1 p (by omega)).2
      · refine ax_aload_n dX10_fewestFrom_22 rfl rfl (pc' := 23) rfl ?_
        refine ax_getr (v := 86) dX10_fewestFrom_23 flX10_21 rfl sh_82 rfl (pc' := 26) rfl ?_
        refine ax_iload dX10_fewestFrom_26 rfl (pc' := 28) rfl ?_
        refine ax_iconst dX10_fewestFrom_28 (by decide) (pc' := 29) rfl ?_
        refine ax_iast dX10_fewestFrom_29 sh_86 rfl (by omega) (by omega) (pc' := 30) rfl ?_
        refine ax_iload_n dX10_fewestFrom_30 rfl rfl (pc' := 31) rfl ?_
        refine ax_istore dX10_fewestFrom_31 (by decide) (ls' := [some (.inr 82), some (.inr 39), some (.inl fi), some (.inl ((f_full os.length + 1 : Nat) : Int)), some (.inl s), some (.inl fi)]) rfl (pc' := 33) rfl ?_
        have LP10 : ∀ (kq11 : Nat) (i : Int) (u2 : Int → Int) (rs : List Int) (mm : Nat) (M10 : ax_Mem) (hm10 : oc - i < (kq11 : Nat)) (fr10 : ∀ x0 i0 : Int, ¬ (x0 = 86) → M10 x0 i0 = (ax_up M1 86 s 0) x0 i0) (mr10_86 : M10 86 = u2) (iv10_0 : (fi ≤ i ∧ i ≤ oc) ∧ i + (rs.length : Int) = oc) (iv10_1 : f_fwd od i rs ∧ ∀ o ∈ rs, 1 ≤ o ∧ o ≤ 24) (iv10_2 : (u2 s + f_ms rs mm = f_ms os s.toNat) ∧ 0 ≤ u2 s ∧ u2 s ≤ 24 * (i - fi)) (iv10_3 : mm = s.toNat / 2 ^ (i - fi).toNat) (iv10_4 : ∀ p : Nat, (p : Int) < s → u2 (p : Int) = f_ms os p), ax_W E l (d + 1) 0 0 iX10_fewestFrom 33 [some (.inr 82), some (.inr 39), some (.inl fi), some (.inl ((f_full os.length + 1 : Nat) : Int)), some (.inl s), some (.inl i)] [] SH M10 (ax_P (fun z0 M2 => z0 = some (.inl (f_fwF ld le os)) ∧ (∀ x0 i0 : Int, ¬ (x0 = 86 ∨ x0 = 87) → M2 x0 i0 = M x0 i0))) := by
          intro kq11
          induction kq11 with
          | zero =>
            intro i u2 rs mm M10 hm10 fr10 mr10_86 iv10_0 iv10_1 iv10_2 iv10_3 iv10_4
            exfalso
            omega
          | succ kq11 ih12 =>
            intro i u2 rs mm M10 hm10 fr10 mr10_86 iv10_0 iv10_1 iv10_2 iv10_3 iv10_4
            refine ax_iload dX10_fewestFrom_33 rfl (pc' := 35) rfl ?_
            refine ax_aload_n dX10_fewestFrom_35 rfl rfl (pc' := 36) rfl ?_
            refine ax_geti (v := oc) dX10_fewestFrom_36 flX10_50 rfl sh_39 (show M10 39 8 = oc from ((fr10 39 8 (fun h => absurd h (by decide))).trans (ax_up_miss (fun h => absurd h.1 (by decide)) ((fr1 39 8 (fun h => h.elim (fun h => absurd h (by decide)) (fun h => absurd h (by decide)))).trans hoc)))) rfl (pc' := 39) rfl ?_
            refine ax_icmp_ge (tgt := 75) dX10_fewestFrom_39 (by decide) (pc' := 42) rfl (fun h39 => ?_) (fun h39 => ?_)
            · have qrs : rs = [] := List.eq_nil_of_length_eq_zero (by omega)
              have qsum : u2 s = f_ms os s.toNat := by
                have q := iv10_2.1
                rw [qrs] at q
                have q2 : f_ms [] mm = 0 := rfl
                omega
              refine ax_aload_n dX10_fewestFrom_75 rfl rfl (pc' := 76) rfl ?_
              refine ax_getr (v := 87) dX10_fewestFrom_76 flX10_24 rfl sh_82 rfl (pc' := 79) rfl ?_
              refine ax_iload dX10_fewestFrom_79 rfl (pc' := 81) rfl ?_
              refine ax_iload dX10_fewestFrom_81 rfl (pc' := 83) rfl ?_
              refine ax_if_ne (tgt := 90) dX10_fewestFrom_83 (by decide) (pc' := 86) rfl (fun h83 => ?_) (fun h83 => ?_)
              · refine ax_sipush dX10_fewestFrom_90 (by decide) (pc' := 93) rfl ?_
                refine ax_iast dX10_fewestFrom_93 sh_87 rfl (by omega) (by omega) (pc' := 94) rfl ?_
                refine ax_iinc dX10_fewestFrom_94 rfl (by decide) (by omega) (ls' := [some (.inr 82), some (.inr 39), some (.inl fi), some (.inl ((f_full os.length + 1 : Nat) : Int)), some (.inl (s + 1)), some (.inl i)]) rfl (pc' := 97) rfl ?_
                refine ax_goto dX10_fewestFrom_97 (pc' := 16) (by decide) ?_
                refine ax_less (ls2 := [some (.inr 82), some (.inr 39), some (.inl fi), some (.inl ((f_full os.length + 1 : Nat) : Int)), some (.inl (s + 1)), none]) [true, true, true, true, true, false] rfl ?_
                refine ih3 (s + 1) u2 (f_up b1 s 1000) (ax_up M10 87 s 1000) ?_ ?_ ?_ ?_ ?_ ?_
                · omega
                · intro x0 i0 hai
                  exact (ax_up_miss (fun h => hai (Or.inr h.1)) ((fr10 x0 i0 (fun h => hai (Or.inl h))).trans (ax_up_miss (fun h => hai (Or.inl h.1)) ((fr1 x0 i0 (fun h => h.elim (fun h => hai (Or.inl h)) (fun h => hai (Or.inr h)))).trans rfl))))
                · exact (ax_up_rowmiss (by decide) mr10_86)
                · exact (ax_up_rowhit ((funext fun i0 => fr10 87 i0 (fun h => absurd h (by decide))).trans (ax_up_rowmiss (by decide) mr1_87)))
                · omega
                · intro p hp
                  by_cases hps : (p : Int) = s
                  · refine ⟨?_, ?_⟩
                    · rw [hps, show p = s.toNat by omega]
                      exact qsum
                    · rw [hps]
                      first
                        | exact (f_up_same _ _ _).trans (if_pos (by omega)).symm
                        | exact (f_up_same _ _ _).trans (if_neg (by omega)).symm
                  · refine ⟨(iv10_4 p (by omega)), ?_⟩
                    exact (f_up_ne (by omega) rfl).trans (iv1_1 p (by omega)).2
              · refine ax_iconst dX10_fewestFrom_86 (by decide) (pc' := 87) rfl ?_
                refine ax_goto dX10_fewestFrom_87 (pc' := 93) (by decide) ?_
                refine ax_iast dX10_fewestFrom_93 sh_87 rfl (by omega) (by omega) (pc' := 94) rfl ?_
                refine ax_iinc dX10_fewestFrom_94 rfl (by decide) (by omega) (ls' := [some (.inr 82), some (.inr 39), some (.inl fi), some (.inl ((f_full os.length + 1 : Nat) : Int)), some (.inl (s + 1)), some (.inl i)]) rfl (pc' := 97) rfl ?_
                refine ax_goto dX10_fewestFrom_97 (pc' := 16) (by decide) ?_
                refine ax_less (ls2 := [some (.inr 82), some (.inr 39), some (.inl fi), some (.inl ((f_full os.length + 1 : Nat) : Int)), some (.inl (s + 1)), none]) [true, true, true, true, true, false] rfl ?_
                refine ih3 (s + 1) u2 (f_up b1 s 0) (ax_up M10 87 s 0) ?_ ?_ ?_ ?_ ?_ ?_
                · omega
                · intro x0 i0 hai
                  exact (ax_up_miss (fun h => hai (Or.inr h.1)) ((fr10 x0 i0 (fun h => hai (Or.inl h))).trans (ax_up_miss (fun h => hai (Or.inl h.1)) ((fr1 x0 i0 (fun h => h.elim (fun h => hai (Or.inl h)) (fun h => hai (Or.inr h)))).trans rfl))))
                · exact (ax_up_rowmiss (by decide) mr10_86)
                · exact (ax_up_rowhit ((funext fun i0 => fr10 87 i0 (fun h => absurd h (by decide))).trans (ax_up_rowmiss (by decide) mr1_87)))
                · omega
                · intro p hp
                  by_cases hps : (p : Int) = s
                  · refine ⟨?_, ?_⟩
                    · rw [hps, show p = s.toNat by omega]
                      exact qsum
                    · rw [hps]
                      first
                        | exact (f_up_same _ _ _).trans (if_pos (by omega)).symm
                        | exact (f_up_same _ _ _).trans (if_neg (by omega)).symm
                  · refine ⟨(iv10_4 p (by omega)), ?_⟩
                    exact (f_up_ne (by omega) rfl).trans (iv1_1 p (by omega)).2
            · obtain ⟨o2, tl2, qd⟩ : ∃ x y, rs = x :: y := by
                cases rs with
                | nil => simp only [List.length_nil] at *; omega
                | cons x y => exact ⟨x, y, rfl⟩
              have qfw : od i = o2 ∧ f_fwd od (i + 1) tl2 := by
                have q := iv10_1.1
                rw [qd] at q
                exact q
              have qod := qfw.1
              have qo2 := iv10_1.2 o2 (by rw [qd]; exact List.mem_cons_self)
              have qm01 := f_m01 (m := mm) qo2
              have qdl : rs.length = tl2.length + 1 := by rw [qd]; rfl
              have qmsd : f_ms rs mm = ((mm % 2 : Nat) : Int) * o2 + f_ms tl2 (mm / 2) := by rw [qd]; rfl
              have qbit : ax_and (ax_shr s (i - fi)) 1 = ((mm % 2 : Nat) : Int) := by
                have q := f_sh_b (s := s.toNat) (j := (i - fi).toNat) (by omega) (by omega) iv10_3
                rw [show ((s.toNat : Nat) : Int) = s by omega, show (((i - fi).toNat : Nat) : Int) = i - fi by omega] at q
                exact q
              refine ax_aload_n dX10_fewestFrom_42 rfl rfl (pc' := 43) rfl ?_
              refine ax_getr (v := 86) dX10_fewestFrom_43 flX10_21 rfl sh_82 rfl (pc' := 46) rfl ?_
              refine ax_iload dX10_fewestFrom_46 rfl (pc' := 48) rfl ?_
              refine ax_dup2 dX10_fewestFrom_48 (pc' := 49) rfl ?_
              refine ax_iald (v := u2 s) dX10_fewestFrom_49 sh_86 rfl (by omega) (by omega) ((congrFun mr10_86 s).trans rfl) (pc' := 50) rfl ?_
              refine ax_iload dX10_fewestFrom_50 rfl (pc' := 52) rfl ?_
              refine ax_iload dX10_fewestFrom_52 rfl (pc' := 54) rfl ?_
              refine ax_iload_n dX10_fewestFrom_54 rfl rfl (pc' := 55) rfl ?_
              refine ax_isub dX10_fewestFrom_55 (by omega) (pc' := 56) rfl ?_
              refine ax_ishr dX10_fewestFrom_56 (pc' := 57) rfl ?_
              refine ax_iconst dX10_fewestFrom_57 (by decide) (pc' := 58) rfl ?_
              refine ax_iand dX10_fewestFrom_58 (pc' := 59) rfl ?_
              refine ax_reS (st2 := [.inl ((mm % 2 : Nat) : Int), .inl (u2 s), .inl s, .inr 86]) (congrArg (fun z => Sum.inl z :: _) (by exact qbit)) ?_
              refine ax_aload_n dX10_fewestFrom_59 rfl rfl (pc' := 60) rfl ?_
              refine ax_getr (v := 51) dX10_fewestFrom_60 flX10_58 rfl sh_39 rfl (pc' := 63) rfl ?_
              refine ax_iload dX10_fewestFrom_63 rfl (pc' := 65) rfl ?_
              refine ax_iald (v := od i) dX10_fewestFrom_65 sh_51 rfl (by omega) (by omega) ((congrFun ((funext fun i0 => fr10 51 i0 (fun h => absurd h (by decide))).trans (ax_up_rowmiss (by decide) ((funext fun i0 => fr1 51 i0 (fun h => h.elim (fun h => absurd h (by decide)) (fun h => absurd h (by decide)))).trans hod))) i).trans rfl) (pc' := 66) rfl ?_
              refine ax_reS (st2 := [.inl o2, .inl ((mm % 2 : Nat) : Int), .inl (u2 s), .inl s, .inr 86]) (congrArg (fun z => Sum.inl z :: _) (by exact qod)) ?_
              refine ax_imul dX10_fewestFrom_66 (by omega) (pc' := 67) rfl ?_
              refine ax_iadd dX10_fewestFrom_67 (by omega) (pc' := 68) rfl ?_
              refine ax_iast dX10_fewestFrom_68 sh_86 rfl (by omega) (by omega) (pc' := 69) rfl ?_
              refine ax_iinc dX10_fewestFrom_69 rfl (by decide) (by omega) (ls' := [some (.inr 82), some (.inr 39), some (.inl fi), some (.inl ((f_full os.length + 1 : Nat) : Int)), some (.inl s), some (.inl (i + 1))]) rfl (pc' := 72) rfl ?_
              refine ax_goto dX10_fewestFrom_72 (pc' := 33) (by decide) ?_
              refine ih12 (i + 1) (f_up u2 s (u2 s + (((mm % 2 : Nat) : Int) * o2))) tl2 (mm / 2) (ax_up M10 86 s (u2 s + (((mm % 2 : Nat) : Int) * o2))) ?_ ?_ ?_ ?_ ?_ ?_ ?_ ?_
              · omega
              · intro x0 i0 hai
                exact (ax_up_miss (fun h => hai h.1) ((fr10 x0 i0 (fun h => hai h)).trans rfl))
              · exact (ax_up_rowhit mr10_86)
              · omega
              · exact ⟨qfw.2, fun o ho => iv10_1.2 o (by rw [qd]; exact List.mem_cons_of_mem _ ho)⟩
              · rw [f_up_same]
                omega
              · rw [iv10_3, show (i + 1 - fi).toNat = (i - fi).toNat + 1 by omega, Nat.pow_succ, Nat.div_div_eq_div_mul]
              · intro p hp
                exact (f_up_ne (by omega) rfl).trans (iv10_4 p hp)
        refine LP10 (oc - fi : Int).toNat.succ fi (f_up u1 s 0) os s.toNat (ax_up M1 86 s 0) ?_ ?_ ?_ ?_ ?_ ?_ ?_ ?_
        · omega
        · exact fun a i _ => rfl
        · exact (ax_up_rowhit mr1_86)
        · omega
        · exact ⟨hg1, hg2⟩
        · rw [f_up_same]
          omega
        · rw [show (fi - fi).toNat = 0 by omega, Nat.pow_zero, Nat.div_one]
        · intro p hp
          exact (f_up_ne (by omega) rfl).trans (iv1_1 p hp).1
  refine LP1 (((f_full os.length + 1 : Nat) : Int) - 0 : Int).toNat.succ 0 su b M ?_ ?_ ?_ ?_ ?_ ?_
  · omega
  · exact fun a i _ => rfl
  · exact hsu
  · exact hb
  · omega
  · intro p hp
    omega
