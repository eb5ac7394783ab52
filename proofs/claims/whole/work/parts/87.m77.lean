/-! the class's text: drills, shapes, what is none -/
def f_tcS (M : ax_Mem) (k : Int) (r : f_Rh) (M2 : ax_Mem) : Prop := match r with
  | .inl (a, s) => (M2 58 2 = a ∧ M2 58 3 = s) ∧ M2 47 = M 47 ∧ M2 48 = M 48
  | .inr ls => (M2 58 2 = 0 ∧ M2 58 3 = -1) ∧ M2 47 = f_putS (M 47) (k * 7) ls ∧ M2 48 = f_up (M 48) k (ls.length : Int) ∧ ls.length ≤ 7
set_option maxRecDepth 20000 in
theorem s_X11_text_dr (E : ax_Env) (l : Launch) (d : Nat) (hd : 33 ≤ d) (M : ax_Mem) (v0 : Int) (L : List f_Tk) {ta : Int → Int} (hta : M 59 = ta) {tn : Int} (htn : M 58 1 = tn) (hg0 : 0 ≤ tn ∧ tn ≤ 400) (hg1 : f_tp ta tn) (hg2 : f_lx ta tn 3 0 v0 L) (hg3 : 0 ≤ v0 ∧ v0 ≤ 9999) : ax_G E l d iX11_text [.inr 0, .inl 3] M (fun z0 M2 => z0 = some (.inl (f_tqr (f_drl L))) ∧ (∀ x0 i0 : Int, ¬ ((x0 = 58 ∧ i0 = 1) ∨ x0 = 60 ∨ x0 = 61 ∨ x0 = 62 ∨ (x0 = 58 ∧ i0 = 7) ∨ (x0 = 58 ∧ i0 = 8) ∨ (x0 = 58 ∧ i0 = 2) ∨ (x0 = 58 ∧ i0 = 3) ∨ x0 = 66 ∨ x0 = 67 ∨ x0 = 68 ∨ x0 = 69 ∨ x0 = 70 ∨ (x0 = 65 ∧ i0 = 0) ∨ (x0 = 65 ∧ i0 = 4) ∨ (x0 = 41 ∧ i0 = 0) ∨ x0 = 42 ∨ x0 = 43 ∨ x0 = 44) → M2 x0 i0 = M x0 i0) ∧ M2 58 1 = 0 ∧ (f_tcD M (f_drl L) M2)) := by
  obtain ⟨d, rfl⟩ : ∃ d0, d = d0 + 1 := ⟨d - 1, by omega⟩
  refine ax_start rfl (Nat.le_of_ble_eq_true rfl) (ls := [some (.inr 0), some (.inl 3), none]) rfl (fun hav hcm => ?_)
  clear hav
  refine ax_aload_n dX11_text_0 rfl rfl (pc' := 1) rfl ?_
  refine ax_getr (v := 58) dX11_text_1 flX11_33 rfl sh_0 rfl (pc' := 4) rfl ?_
  refine ax_iconst dX11_text_4 (by decide) (pc' := 5) rfl ?_
  refine ax_puti dX11_text_5 flX11_200 (Or.inl rfl) sh_58 rfl (pc' := 8) rfl ?_
  refine ax_aload_n dX11_text_8 rfl rfl (pc' := 9) rfl ?_
  refine ax_getr (v := 58) dX11_text_9 flX11_33 rfl sh_0 rfl (pc' := 12) rfl ?_
  refine ax_iconst dX11_text_12 (by decide) (pc' := 13) rfl ?_
  refine ax_puti dX11_text_13 flX11_203 (Or.inl rfl) sh_58 rfl (pc' := 16) rfl ?_
  refine ax_iconst dX11_text_16 (by decide) (pc' := 17) rfl ?_
  refine ax_istore_n dX11_text_17 rfl (by decide) (ls' := [some (.inr 0), some (.inl 3), some (.inl (-1))]) rfl (pc' := 18) rfl ?_
  refine ax_iload_n dX11_text_18 rfl rfl (pc' := 19) rfl ?_
  refine ax_if_lt (tgt := 96) dX11_text_19 (by decide) (pc' := 22) rfl (fun h19 => ?_) (fun h19 => ?_)
  · exfalso
    omega
  · refine ax_iload_n dX11_text_22 rfl rfl (pc' := 23) rfl ?_
    refine ax_iconst dX11_text_23 (by decide) (pc' := 24) rfl ?_
    refine ax_icmp_ge (tgt := 96) dX11_text_24 (by decide) (pc' := 27) rfl (fun h24 => ?_) (fun h24 => ?_)
    · refine ax_iload_n dX11_text_96 rfl rfl (pc' := 97) rfl ?_
      refine ax_iconst dX11_text_97 (by decide) (pc' := 98) rfl ?_
      refine ax_icmp_ne (tgt := 149) dX11_text_98 (by decide) (pc' := 101) rfl (fun h98 => ?_) (fun h98 => ?_)
      · exfalso
        omega
      · refine ax_aload_n dX11_text_101 rfl rfl (pc' := 102) rfl ?_
        refine ax_getr (v := 58) dX11_text_102 flX11_33 rfl sh_0 rfl (pc' := 105) rfl ?_
        refine ax_ldcS (i := 4) (r := (-7)) dX11_text_105 rfl (by decide) (pc' := 107) rfl ?_
        refine ax_invG [.inr (-7)] [] dX11_text_107 mlX11_212 sh_58 rfl rfl rfl (Nat.le_of_ble_eq_true rfl) (s_X8_scan E l _ (by omega) _ 4 3 v0 L (ax_up_rowmiss (by decide) (ax_up_rowmiss (by decide) rfl)) (ax_up_rowmiss (by decide) (ax_up_rowmiss (by decide) rfl)) (ax_up_rowmiss (by decide) (ax_up_rowmiss (by decide) rfl)) (ax_up_rowmiss (by decide) (ax_up_rowmiss (by decide) hta)) (ax_up_miss (by decide) (ax_up_miss (by decide) htn)) (by unfold f_rq; decide) hg0 hg1 hg2 hg3) (pc' := 110) rfl (fun vv M_107 hq co107 hcm107 => ?_)
        obtain ⟨rfl, frM_107, msM_107_0, fa107_0, fa107_1⟩ := hq
        refine ax_reS (st2 := []) rfl ?_
        have qcc : f_cc 3 (M_107 60) (M_107 61) (M_107 62) 0 L := ⟨fa107_0, f_lx_wl hg2, Int.le_refl 0, by omega⟩
        refine ax_aload_n dX11_text_110 rfl rfl (pc' := 111) rfl ?_
        refine ax_getr (v := 65) dX11_text_111 flX11_47 rfl sh_0 rfl (pc' := 114) rfl ?_
        refine ax_aload_n dX11_text_114 rfl rfl (pc' := 115) rfl ?_
        refine ax_getr (v := 58) dX11_text_115 flX11_33 rfl sh_0 rfl (pc' := 118) rfl ?_
        refine ax_invG [.inr 58] [] dX11_text_118 mlX11_233 sh_65 rfl rfl rfl (Nat.le_of_ble_eq_true rfl) (s_X1_readAll E l _ (by omega) _ L rfl rfl rfl ((funext fun i0 => frM_107 66 i0 (fun h => h.elim (fun h => absurd h.1 (by decide)) (fun h => h.elim (fun h => absurd h (by decide)) (fun h => h.elim (fun h => absurd h (by decide)) (fun h => h.elim (fun h => absurd h (by decide)) (fun h => absurd h.1 (by decide))))))).trans (ax_up_rowmiss (by decide) (ax_up_rowmiss (by decide) rfl))) ((funext fun i0 => frM_107 67 i0 (fun h => h.elim (fun h => absurd h.1 (by decide)) (fun h => h.elim (fun h => absurd h (by decide)) (fun h => h.elim (fun h => absurd h (by decide)) (fun h => h.elim (fun h => absurd h (by decide)) (fun h => absurd h.1 (by decide))))))).trans (ax_up_rowmiss (by decide) (ax_up_rowmiss (by decide) rfl))) ((funext fun i0 => frM_107 68 i0 (fun h => h.elim (fun h => absurd h.1 (by decide)) (fun h => h.elim (fun h => absurd h (by decide)) (fun h => h.elim (fun h => absurd h (by decide)) (fun h => h.elim (fun h => absurd h (by decide)) (fun h => absurd h.1 (by decide))))))).trans (ax_up_rowmiss (by decide) (ax_up_rowmiss (by decide) rfl))) ((funext fun i0 => frM_107 69 i0 (fun h => h.elim (fun h => absurd h.1 (by decide)) (fun h => h.elim (fun h => absurd h (by decide)) (fun h => h.elim (fun h => absurd h (by decide)) (fun h => h.elim (fun h => absurd h (by decide)) (fun h => absurd h.1 (by decide))))))).trans (ax_up_rowmiss (by decide) (ax_up_rowmiss (by decide) rfl))) ((funext fun i0 => frM_107 70 i0 (fun h => h.elim (fun h => absurd h.1 (by decide)) (fun h => h.elim (fun h => absurd h (by decide)) (fun h => h.elim (fun h => absurd h (by decide)) (fun h => h.elim (fun h => absurd h (by decide)) (fun h => absurd h.1 (by decide))))))).trans (ax_up_rowmiss (by decide) (ax_up_rowmiss (by decide) rfl))) msM_107_0 ((frM_107 58 2 (fun h => h.elim (fun h => absurd h.2 (by decide)) (fun h => h.elim (fun h => absurd h (by decide)) (fun h => h.elim (fun h => absurd h (by decide)) (fun h => h.elim (fun h => absurd h (by decide)) (fun h => absurd h.2 (by decide))))))).trans (ax_up_miss (by decide) (ax_up_hit _ _ _ _))) ((frM_107 58 3 (fun h => h.elim (fun h => absurd h.2 (by decide)) (fun h => h.elim (fun h => absurd h (by decide)) (fun h => h.elim (fun h => absurd h (by decide)) (fun h => h.elim (fun h => absurd h (by decide)) (fun h => absurd h.2 (by decide))))))).trans (ax_up_hit _ _ _ _)) qcc) (pc' := 121) rfl (fun vv M_118 hq co118 hcm118 => ?_)
        obtain ⟨rfl, frM_118, fa118_0⟩ := hq
        refine ax_reS (st2 := [.inl (f_rqb (f_drl L))]) rfl ?_
        have cc118 : -2147483648 ≤ f_rqb (f_drl L) ∧ f_rqb (f_drl L) < 2147483648 := co118 _ rfl
        refine ax_if_eq (tgt := 175) dX11_text_121 (by decide) (pc' := 124) rfl (fun h121 => ?_) (fun h121 => ?_)
        · obtain ⟨qk0, qs0, qz⟩ := f_rqb_no h121
          rw [qz] at fa118_0
          obtain ⟨qk3, qs3⟩ := fa118_0
          refine ax_aload_n dX11_text_175 rfl rfl (pc' := 176) rfl ?_
          refine ax_getr (v := 58) dX11_text_176 flX11_33 rfl sh_0 rfl (pc' := 179) rfl ?_
          refine ax_iconst dX11_text_179 (by decide) (pc' := 180) rfl ?_
          refine ax_puti dX11_text_180 flX11_195 (Or.inl rfl) sh_58 rfl (pc' := 183) rfl ?_
          refine ax_iload_n dX11_text_183 rfl rfl (pc' := 184) rfl ?_
          refine ax_iret dX11_text_184 rfl ?_
          refine ⟨rfl, ?_, ?_, ?_, ?_⟩
          · refine congrArg (fun z => some (Sum.inl z)) ?_
            rw [qz]
            first | rfl | exact qa1
          · intro x0 i0 hai
            exact (ax_up_miss (fun h => hai (Or.inl h)) ((frM_118 x0 i0 (fun h => h.elim (fun h => hai (Or.inr (Or.inr (Or.inr (Or.inr (Or.inr (Or.inl h))))))) (fun h => h.elim (fun h => hai (Or.inr (Or.inr (Or.inr (Or.inr (Or.inr (Or.inr (Or.inl h)))))))) (fun h => h.elim (fun h => hai (Or.inr (Or.inr (Or.inr (Or.inr (Or.inr (Or.inr (Or.inr (Or.inl h))))))))) (fun h => h.elim (fun h => hai (Or.inr (Or.inr (Or.inr (Or.inr (Or.inr (Or.inr (Or.inr (Or.inr (Or.inl h)))))))))) (fun h => h.elim (fun h => hai (Or.inr (Or.inr (Or.inr (Or.inr (Or.inr (Or.inr (Or.inr (Or.inr (Or.inr (Or.inl h))))))))))) (fun h => h.elim (fun h => hai (Or.inr (Or.inr (Or.inr (Or.inr (Or.inr (Or.inr (Or.inr (Or.inr (Or.inr (Or.inr (Or.inl h)))))))))))) (fun h => h.elim (fun h => hai (Or.inr (Or.inr (Or.inr (Or.inr (Or.inr (Or.inr (Or.inr (Or.inr (Or.inr (Or.inr (Or.inr (Or.inl h))))))))))))) (fun h => h.elim (fun h => hai (Or.inr (Or.inr (Or.inr (Or.inr (Or.inr (Or.inr (Or.inr (Or.inr (Or.inr (Or.inr (Or.inr (Or.inr (Or.inl h)))))))))))))) (fun h => h.elim (fun h => hai (Or.inr (Or.inr (Or.inr (Or.inr (Or.inr (Or.inr (Or.inr (Or.inr (Or.inr (Or.inr (Or.inr (Or.inr (Or.inr (Or.inl h))))))))))))))) (fun h => hai (Or.inr (Or.inr (Or.inr (Or.inr (Or.inr (Or.inr (Or.inr (Or.inr (Or.inr (Or.inr (Or.inr (Or.inr (Or.inr (Or.inr (Or.inl h)))))))))))))))))))))))))).trans ((frM_107 x0 i0 (fun h => h.elim (fun h => hai (Or.inr (Or.inr (Or.inr (Or.inr (Or.inr (Or.inl h))))))) (fun h => h.elim (fun h => hai (Or.inr (Or.inl h))) (fun h => h.elim (fun h => hai (Or.inr (Or.inr (Or.inl h)))) (fun h => h.elim (fun h => hai (Or.inr (Or.inr (Or.inr (Or.inl h))))) (fun h => hai (Or.inr (Or.inr (Or.inr (Or.inr (Or.inl h))))))))))).trans (ax_up_miss (fun h => hai (Or.inr (Or.inr (Or.inr (Or.inr (Or.inr (Or.inr (Or.inr (Or.inl h))))))))) (ax_up_miss (fun h => hai (Or.inr (Or.inr (Or.inr (Or.inr (Or.inr (Or.inr (Or.inl h)))))))) rfl)))))
          · exact (ax_up_hit _ _ _ _)
          · rw [qz]
            exact ⟨⟨Eq.trans (ax_up_miss (by decide) rfl) qk3, Eq.trans (ax_up_miss (by decide) rfl) qs3⟩, (ax_up_miss (fun h => absurd h.1 (by decide)) ((frM_118 41 0 (fun h => h.elim (fun h => absurd h.1 (by decide)) (fun h => h.elim (fun h => absurd h.1 (by decide)) (fun h => h.elim (fun h => absurd h.1 (by decide)) (fun h => h.elim (fun h => absurd h (by decide)) (fun h => h.elim (fun h => absurd h (by decide)) (fun h => h.elim (fun h => absurd h (by decide)) (fun h => h.elim (fun h => absurd h (by decide)) (fun h => h.elim (fun h => absurd h (by decide)) (fun h => h.elim (fun h => absurd h.1 (by decide)) (fun h => absurd h.1 (by decide)))))))))))).trans ((frM_107 41 0 (fun h => h.elim (fun h => absurd h.1 (by decide)) (fun h => h.elim (fun h => absurd h (by decide)) (fun h => h.elim (fun h => absurd h (by decide)) (fun h => h.elim (fun h => absurd h (by decide)) (fun h => absurd h.1 (by decide))))))).trans (ax_up_miss (fun h => absurd h.1 (by decide)) (ax_up_miss (fun h => absurd h.1 (by decide)) rfl))))), (ax_up_rowmiss (by decide) ((funext fun i0 => frM_118 42 i0 (fun h => h.elim (fun h => absurd h.1 (by decide)) (fun h => h.elim (fun h => absurd h.1 (by decide)) (fun h => h.elim (fun h => absurd h.1 (by decide)) (fun h => h.elim (fun h => absurd h (by decide)) (fun h => h.elim (fun h => absurd h (by decide)) (fun h => h.elim (fun h => absurd h (by decide)) (fun h => h.elim (fun h => absurd h (by decide)) (fun h => h.elim (fun h => absurd h (by decide)) (fun h => h.elim (fun h => absurd h.1 (by decide)) (fun h => absurd h.1 (by decide)))))))))))).trans ((funext fun i0 => frM_107 42 i0 (fun h => h.elim (fun h => absurd h.1 (by decide)) (fun h => h.elim (fun h => absurd h (by decide)) (fun h => h.elim (fun h => absurd h (by decide)) (fun h => h.elim (fun h => absurd h (by decide)) (fun h => absurd h.1 (by decide))))))).trans (ax_up_rowmiss (by decide) (ax_up_rowmiss (by decide) rfl))))), (ax_up_rowmiss (by decide) ((funext fun i0 => frM_118 43 i0 (fun h => h.elim (fun h => absurd h.1 (by decide)) (fun h => h.elim (fun h => absurd h.1 (by decide)) (fun h => h.elim (fun h => absurd h.1 (by decide)) (fun h => h.elim (fun h => absurd h (by decide)) (fun h => h.elim (fun h => absurd h (by decide)) (fun h => h.elim (fun h => absurd h (by decide)) (fun h => h.elim (fun h => absurd h (by decide)) (fun h => h.elim (fun h => absurd h (by decide)) (fun h => h.elim (fun h => absurd h.1 (by decide)) (fun h => absurd h.1 (by decide)))))))))))).trans ((funext fun i0 => frM_107 43 i0 (fun h => h.elim (fun h => absurd h.1 (by decide)) (fun h => h.elim (fun h => absurd h (by decide)) (fun h => h.elim (fun h => absurd h (by decide)) (fun h => h.elim (fun h => absurd h (by decide)) (fun h => absurd h.1 (by decide))))))).trans (ax_up_rowmiss (by decide) (ax_up_rowmiss (by decide) rfl))))), (ax_up_rowmiss (by decide) ((funext fun i0 => frM_118 44 i0 (fun h => h.elim (fun h => absurd h.1 (by decide)) (fun h => h.elim (fun h => absurd h.1 (by decide)) (fun h => h.elim (fun h => absurd h.1 (by decide)) (fun h => h.elim (fun h => absurd h (by decide)) (fun h => h.elim (fun h => absurd h (by decide)) (fun h => h.elim (fun h => absurd h (by decide)) (fun h => h.elim (fun h => absurd h (by decide)) (fun h => h.elim (fun h => absurd h (by decide)) (fun h => h.elim (fun h => absurd h.1 (by decide)) (fun h => absurd h.1 (by decide)))))))))))).trans ((funext fun i0 => frM_107 44 i0 (fun h => h.elim (fun h => absurd h.1 (by decide)) (fun h => h.elim (fun h => absurd h (by decide)) (fun h => h.elim (fun h => absurd h (by decide)) (fun h => h.elim (fun h => absurd h (by decide)) (fun h => absurd h.1 (by decide))))))).trans (ax_up_rowmiss (by decide) (ax_up_rowmiss (by decide) rfl)))))⟩
        · obtain ⟨ssF, qz⟩ := f_rqb_ok h121
          rw [qz] at fa118_0
          obtain ⟨qa1, qa2, qy2, qy3⟩ := fa118_0
          refine ax_aload_n dX11_text_124 rfl rfl (pc' := 125) rfl ?_
          refine ax_getr (v := 39) dX11_text_125 flX11_26 rfl sh_0 rfl (pc' := 128) rfl ?_
          refine ax_getr (v := 41) dX11_text_128 flX11_234 rfl sh_39 rfl (pc' := 131) rfl ?_
          refine ax_aload_n dX11_text_131 rfl rfl (pc' := 132) rfl ?_
          refine ax_getr (v := 65) dX11_text_132 flX11_47 rfl sh_0 rfl (pc' := 135) rfl ?_
          refine ax_invG [.inr 65] [] dX11_text_135 mlX11_237 sh_41 rfl rfl rfl (Nat.le_of_ble_eq_true rfl) (s_X1_copyFrom E l _ (by omega) _ 41 65 ((funext fun i0 => frM_118 42 i0 (fun h => h.elim (fun h => absurd h.1 (by decide)) (fun h => h.elim (fun h => absurd h.1 (by decide)) (fun h => h.elim (fun h => absurd h.1 (by decide)) (fun h => h.elim (fun h => absurd h (by decide)) (fun h => h.elim (fun h => absurd h (by decide)) (fun h => h.elim (fun h => absurd h (by decide)) (fun h => h.elim (fun h => absurd h (by decide)) (fun h => h.elim (fun h => absurd h (by decide)) (fun h => h.elim (fun h => absurd h.1 (by decide)) (fun h => absurd h.1 (by decide)))))))))))).trans ((funext fun i0 => frM_107 42 i0 (fun h => h.elim (fun h => absurd h.1 (by decide)) (fun h => h.elim (fun h => absurd h (by decide)) (fun h => h.elim (fun h => absurd h (by decide)) (fun h => h.elim (fun h => absurd h (by decide)) (fun h => absurd h.1 (by decide))))))).trans (ax_up_rowmiss (by decide) (ax_up_rowmiss (by decide) rfl)))) ((funext fun i0 => frM_118 43 i0 (fun h => h.elim (fun h => absurd h.1 (by decide)) (fun h => h.elim (fun h => absurd h.1 (by decide)) (fun h => h.elim (fun h => absurd h.1 (by decide)) (fun h => h.elim (fun h => absurd h (by decide)) (fun h => h.elim (fun h => absurd h (by decide)) (fun h => h.elim (fun h => absurd h (by decide)) (fun h => h.elim (fun h => absurd h (by decide)) (fun h => h.elim (fun h => absurd h (by decide)) (fun h => h.elim (fun h => absurd h.1 (by decide)) (fun h => absurd h.1 (by decide)))))))))))).trans ((funext fun i0 => frM_107 43 i0 (fun h => h.elim (fun h => absurd h.1 (by decide)) (fun h => h.elim (fun h => absurd h (by decide)) (fun h => h.elim (fun h => absurd h (by decide)) (fun h => h.elim (fun h => absurd h (by decide)) (fun h => absurd h.1 (by decide))))))).trans (ax_up_rowmiss (by decide) (ax_up_rowmiss (by decide) rfl)))) ((funext fun i0 => frM_118 44 i0 (fun h => h.elim (fun h => absurd h.1 (by decide)) (fun h => h.elim (fun h => absurd h.1 (by decide)) (fun h => h.elim (fun h => absurd h.1 (by decide)) (fun h => h.elim (fun h => absurd h (by decide)) (fun h => h.elim (fun h => absurd h (by decide)) (fun h => h.elim (fun h => absurd h (by decide)) (fun h => h.elim (fun h => absurd h (by decide)) (fun h => h.elim (fun h => absurd h (by decide)) (fun h => h.elim (fun h => absurd h.1 (by decide)) (fun h => absurd h.1 (by decide)))))))))))).trans ((funext fun i0 => frM_107 44 i0 (fun h => h.elim (fun h => absurd h.1 (by decide)) (fun h => h.elim (fun h => absurd h (by decide)) (fun h => h.elim (fun h => absurd h (by decide)) (fun h => h.elim (fun h => absurd h (by decide)) (fun h => absurd h.1 (by decide))))))).trans (ax_up_rowmiss (by decide) (ax_up_rowmiss (by decide) rfl)))) rfl rfl rfl rfl ⟨sh_41, sh_42, sh_43, sh_44⟩ ⟨sh_65, sh_66, sh_67, sh_68⟩ (by decide)) (pc' := 138) rfl (fun vv M_135 hq co135 hcm135 => ?_)
          obtain ⟨rfl, frM_135, mrM_135_0, mrM_135_1, mrM_135_2, msM_135_0⟩ := hq
          refine ax_reS (st2 := []) rfl ?_
          refine ax_aload_n dX11_text_138 rfl rfl (pc' := 139) rfl ?_
          refine ax_getr (v := 65) dX11_text_139 flX11_47 rfl sh_0 rfl (pc' := 142) rfl ?_
          refine ax_geti (v := M_118 65 0) dX11_text_142 flX11_240 rfl sh_65 ((frM_135 65 0 (fun h => h.elim (fun h => absurd h (by decide)) (fun h => h.elim (fun h => absurd h (by decide)) (fun h => h.elim (fun h => absurd h (by decide)) (fun h => absurd h.1 (by decide)))))).trans rfl) rfl (pc' := 145) rfl ?_
          refine ax_istore_n dX11_text_145 rfl (by decide) (ls' := [some (.inr 0), some (.inl 3), some (.inl (M_118 65 0))]) rfl (pc' := 146) rfl ?_
          refine ax_goto dX11_text_146 (pc' := 175) (by decide) ?_
          refine ax_aload_n dX11_text_175 rfl rfl (pc' := 176) rfl ?_
          refine ax_getr (v := 58) dX11_text_176 flX11_33 rfl sh_0 rfl (pc' := 179) rfl ?_
          refine ax_iconst dX11_text_179 (by decide) (pc' := 180) rfl ?_
          refine ax_puti dX11_text_180 flX11_195 (Or.inl rfl) sh_58 rfl (pc' := 183) rfl ?_
          refine ax_iload_n dX11_text_183 rfl rfl (pc' := 184) rfl ?_
          refine ax_iret dX11_text_184 rfl ?_
          refine ⟨rfl, ?_, ?_, ?_, ?_⟩
          · refine congrArg (fun z => some (Sum.inl z)) ?_
            rw [qz]
            first | rfl | exact qa1
          · intro x0 i0 hai
            exact (ax_up_miss (fun h => hai (Or.inl h)) ((frM_135 x0 i0 (fun h => h.elim (fun h => hai (Or.inr (Or.inr (Or.inr (Or.inr (Or.inr (Or.inr (Or.inr (Or.inr (Or.inr (Or.inr (Or.inr (Or.inr (Or.inr (Or.inr (Or.inr (Or.inr (Or.inl h)))))))))))))))))) (fun h => h.elim (fun h => hai (Or.inr (Or.inr (Or.inr (Or.inr (Or.inr (Or.inr (Or.inr (Or.inr (Or.inr (Or.inr (Or.inr (Or.inr (Or.inr (Or.inr (Or.inr (Or.inr (Or.inr (Or.inl h))))))))))))))))))) (fun h => h.elim (fun h => hai (Or.inr (Or.inr (Or.inr (Or.inr (Or.inr (Or.inr (Or.inr (Or.inr (Or.inr (Or.inr (Or.inr (Or.inr (Or.inr (Or.inr (Or.inr (Or.inr (Or.inr (Or.inr h))))))))))))))))))) (fun h => hai (Or.inr (Or.inr (Or.inr (Or.inr (Or.inr (Or.inr (Or.inr (Or.inr (Or.inr (Or.inr (Or.inr (Or.inr (Or.inr (Or.inr (Or.inr (Or.inl h))))))))))))))))))))).trans ((frM_118 x0 i0 (fun h => h.elim (fun h => hai (Or.inr (Or.inr (Or.inr (Or.inr (Or.inr (Or.inl h))))))) (fun h => h.elim (fun h => hai (Or.inr (Or.inr (Or.inr (Or.inr (Or.inr (Or.inr (Or.inl h)))))))) (fun h => h.elim (fun h => hai (Or.inr (Or.inr (Or.inr (Or.inr (Or.inr (Or.inr (Or.inr (Or.inl h))))))))) (fun h => h.elim (fun h => hai (Or.inr (Or.inr (Or.inr (Or.inr (Or.inr (Or.inr (Or.inr (Or.inr (Or.inl h)))))))))) (fun h => h.elim (fun h => hai (Or.inr (Or.inr (Or.inr (Or.inr (Or.inr (Or.inr (Or.inr (Or.inr (Or.inr (Or.inl h))))))))))) (fun h => h.elim (fun h => hai (Or.inr (Or.inr (Or.inr (Or.inr (Or.inr (Or.inr (Or.inr (Or.inr (Or.inr (Or.inr (Or.inl h)))))))))))) (fun h => h.elim (fun h => hai (Or.inr (Or.inr (Or.inr (Or.inr (Or.inr (Or.inr (Or.inr (Or.inr (Or.inr (Or.inr (Or.inr (Or.inl h))))))))))))) (fun h => h.elim (fun h => hai (Or.inr (Or.inr (Or.inr (Or.inr (Or.inr (Or.inr (Or.inr (Or.inr (Or.inr (Or.inr (Or.inr (Or.inr (Or.inl h)))))))))))))) (fun h => h.elim (fun h => hai (Or.inr (Or.inr (Or.inr (Or.inr (Or.inr (Or.inr (Or.inr (Or.inr (Or.inr (Or.inr (Or.inr (Or.inr (Or.inr (Or.inl h))))))))))))))) (fun h => hai (Or.inr (Or.inr (Or.inr (Or.inr (Or.inr (Or.inr (Or.inr (Or.inr (Or.inr (Or.inr (Or.inr (Or.inr (Or.inr (Or.inr (Or.inl h)))))))))))))))))))))))))).trans ((frM_107 x0 i0 (fun h => h.elim (fun h => hai (Or.inr (Or.inr (Or.inr (Or.inr (Or.inr (Or.inl h))))))) (fun h => h.elim (fun h => hai (Or.inr (Or.inl h))) (fun h => h.elim (fun h => hai (Or.inr (Or.inr (Or.inl h)))) (fun h => h.elim (fun h => hai (Or.inr (Or.inr (Or.inr (Or.inl h))))) (fun h => hai (Or.inr (Or.inr (Or.inr (Or.inr (Or.inl h))))))))))).trans (ax_up_miss (fun h => hai (Or.inr (Or.inr (Or.inr (Or.inr (Or.inr (Or.inr (Or.inr (Or.inl h))))))))) (ax_up_miss (fun h => hai (Or.inr (Or.inr (Or.inr (Or.inr (Or.inr (Or.inr (Or.inl h)))))))) rfl))))))
          · exact (ax_up_hit _ _ _ _)
          · rw [qz]
            refine ⟨⟨Eq.trans (ax_up_miss (by decide) ((frM_135 58 2 (fun h => h.elim (fun h => absurd h (by decide)) (fun h => h.elim (fun h => absurd h (by decide)) (fun h => h.elim (fun h => absurd h (by decide)) (fun h => absurd h.1 (by decide)))))).trans rfl)) qy2, Eq.trans (ax_up_miss (by decide) ((frM_135 58 3 (fun h => h.elim (fun h => absurd h (by decide)) (fun h => h.elim (fun h => absurd h (by decide)) (fun h => h.elim (fun h => absurd h (by decide)) (fun h => absurd h.1 (by decide)))))).trans rfl)) qy3⟩, Eq.trans (ax_up_miss (fun h => absurd h.1 (by decide)) msM_135_0) qa1, ?_⟩
            show f_dw ((ax_up M_135 58 1 0) 42) ((ax_up M_135 58 1 0) 43) ((ax_up M_135 58 1 0) 44) _
            rw [show (ax_up M_135 58 1 0) 42 = _ from (ax_up_rowmiss (by decide) mrM_135_0), show (ax_up M_135 58 1 0) 43 = _ from (ax_up_rowmiss (by decide) mrM_135_1), show (ax_up M_135 58 1 0) 44 = _ from (ax_up_rowmiss (by decide) mrM_135_2)]
            exact f_dw_cp qa2 (by have q := (f_drl_ok qz).1; omega)
    · exfalso
      omega
set_option maxRecDepth 20000 in
theorem s_X11_text_sh (E : ax_Env) (l : Launch) (d : Nat) (hd : 33 ≤ d) (M : ax_Mem) (k : Int) {ta : Int → Int} (hta : M 59 = ta) {tn : Int} (htn : M 58 1 = tn) (hg0 : 0 ≤ tn ∧ tn ≤ 400) (hg1 : 4 ≤ k ∧ k < 8) : ax_G E l d iX11_text [.inr 0, .inl k] M (fun z0 M2 => z0 = some (.inl (f_thr (f_rshp ta tn))) ∧ (∀ x0 i0 : Int, ¬ ((x0 = 58 ∧ i0 = 1) ∨ x0 = 47 ∨ x0 = 48 ∨ (x0 = 58 ∧ i0 = 2) ∨ (x0 = 58 ∧ i0 = 3)) → M2 x0 i0 = M x0 i0) ∧ M2 58 1 = 0 ∧ (f_tcS M (k - 4) (f_rshp ta tn) M2)) := by
  obtain ⟨d, rfl⟩ : ∃ d0, d = d0 + 1 := ⟨d - 1, by omega⟩
  refine ax_start rfl (Nat.le_of_ble_eq_true rfl) (ls := [some (.inr 0), some (.inl k), none]) rfl (fun hav hcm => ?_)
  have hc1 : -2147483648 ≤ k ∧ k < 2147483648 := hav (.inl k) (by simp)
  clear hav
  refine ax_aload_n dX11_text_0 rfl rfl (pc' := 1) rfl ?_
  refine ax_getr (v := 58) dX11_text_1 flX11_33 rfl sh_0 rfl (pc' := 4) rfl ?_
  refine ax_iconst dX11_text_4 (by decide) (pc' := 5) rfl ?_
  refine ax_puti dX11_text_5 flX11_200 (Or.inl rfl) sh_58 rfl (pc' := 8) rfl ?_
  refine ax_aload_n dX11_text_8 rfl rfl (pc' := 9) rfl ?_
  refine ax_getr (v := 58) dX11_text_9 flX11_33 rfl sh_0 rfl (pc' := 12) rfl ?_
  refine ax_iconst dX11_text_12 (by decide) (pc' := 13) rfl ?_
  refine ax_puti dX11_text_13 flX11_203 (Or.inl rfl) sh_58 rfl (pc' := 16) rfl ?_
  refine ax_iconst dX11_text_16 (by decide) (pc' := 17) rfl ?_
  refine ax_istore_n dX11_text_17 rfl (by decide) (ls' := [some (.inr 0), some (.inl k), some (.inl (-1))]) rfl (pc' := 18) rfl ?_
  refine ax_iload_n dX11_text_18 rfl rfl (pc' := 19) rfl ?_
  refine ax_if_lt (tgt := 96) dX11_text_19 (by decide) (pc' := 22) rfl (fun h19 => ?_) (fun h19 => ?_)
  · exfalso
    omega
  · refine ax_iload_n dX11_text_22 rfl rfl (pc' := 23) rfl ?_
    refine ax_iconst dX11_text_23 (by decide) (pc' := 24) rfl ?_
    refine ax_icmp_ge (tgt := 96) dX11_text_24 (by decide) (pc' := 27) rfl (fun h24 => ?_) (fun h24 => ?_)
    · refine ax_iload_n dX11_text_96 rfl rfl (pc' := 97) rfl ?_
      refine ax_iconst dX11_text_97 (by decide) (pc' := 98) rfl ?_
      refine ax_icmp_ne (tgt := 149) dX11_text_98 (by decide) (pc' := 101) rfl (fun h98 => ?_) (fun h98 => ?_)
      · refine ax_iload_n dX11_text_149 rfl rfl (pc' := 150) rfl ?_
        refine ax_iconst dX11_text_150 (by decide) (pc' := 151) rfl ?_
        refine ax_icmp_lt (tgt := 175) dX11_text_151 (by decide) (pc' := 154) rfl (fun h151 => ?_) (fun h151 => ?_)
        · exfalso
          omega
        · refine ax_iload_n dX11_text_154 rfl rfl (pc' := 155) rfl ?_
          refine ax_bipush dX11_text_155 (by decide) (pc' := 157) rfl ?_
          refine ax_icmp_ge (tgt := 175) dX11_text_157 (by decide) (pc' := 160) rfl (fun h157 => ?_) (fun h157 => ?_)
          · exfalso
            omega
          · refine ax_aload_n dX11_text_160 rfl rfl (pc' := 161) rfl ?_
            refine ax_getr (v := 39) dX11_text_161 flX11_26 rfl sh_0 rfl (pc' := 164) rfl ?_
            refine ax_iload_n dX11_text_164 rfl rfl (pc' := 165) rfl ?_
            refine ax_iconst dX11_text_165 (by decide) (pc' := 166) rfl ?_
            refine ax_isub dX11_text_166 (by omega) (pc' := 167) rfl ?_
            refine ax_aload_n dX11_text_167 rfl rfl (pc' := 168) rfl ?_
            refine ax_getr (v := 58) dX11_text_168 flX11_33 rfl sh_0 rfl (pc' := 171) rfl ?_
            refine ax_invG [.inl (k - 4), .inr 58] [] dX11_text_171 mlX11_243 sh_39 rfl rfl rfl (Nat.le_of_ble_eq_true rfl) (s_X4_readLetters E l _ (by omega) _ (k - 4) (ax_up_rowmiss (by decide) (ax_up_rowmiss (by decide) hta)) (ax_up_rowmiss (by decide) (ax_up_rowmiss (by decide) rfl)) (ax_up_rowmiss (by decide) (ax_up_rowmiss (by decide) rfl)) (ax_up_miss (by decide) (ax_up_miss (by decide) htn)) (ax_up_miss (by decide) (ax_up_hit _ _ _ _)) (ax_up_hit _ _ _ _) (by first | omega | assumption) (by first | omega | assumption)) (pc' := 174) rfl (fun vv M_171 hq co171 hcm171 => ?_)
            obtain ⟨rfl, frM_171, fa171_0⟩ := hq
            refine ax_reS (st2 := [.inl (f_thr (f_rshp ta tn))]) rfl ?_
            have cc171 : -2147483648 ≤ f_thr (f_rshp ta tn) ∧ f_thr (f_rshp ta tn) < 2147483648 := co171 _ rfl
            refine ax_istore_n dX11_text_174 rfl (by decide) (ls' := [some (.inr 0), some (.inl k), some (.inl (f_thr (f_rshp ta tn)))]) rfl (pc' := 175) rfl ?_
            refine ax_aload_n dX11_text_175 rfl rfl (pc' := 176) rfl ?_
            refine ax_getr (v := 58) dX11_text_176 flX11_33 rfl sh_0 rfl (pc' := 179) rfl ?_
            refine ax_iconst dX11_text_179 (by decide) (pc' := 180) rfl ?_
            refine ax_puti dX11_text_180 flX11_195 (Or.inl rfl) sh_58 rfl (pc' := 183) rfl ?_
            refine ax_iload_n dX11_text_183 rfl rfl (pc' := 184) rfl ?_
            refine ax_iret dX11_text_184 rfl ?_
            refine ⟨rfl, ?_, ?_, ?_, ?_⟩
            · rfl
            · intro x0 i0 hai
              exact (ax_up_miss (fun h => hai (Or.inl h)) ((frM_171 x0 i0 (fun h => h.elim (fun h => hai (Or.inr (Or.inl h))) (fun h => h.elim (fun h => hai (Or.inr (Or.inr (Or.inl h)))) (fun h => h.elim (fun h => hai (Or.inr (Or.inr (Or.inr (Or.inl h))))) (fun h => hai (Or.inr (Or.inr (Or.inr (Or.inr h))))))))).trans (ax_up_miss (fun h => hai (Or.inr (Or.inr (Or.inr (Or.inr h))))) (ax_up_miss (fun h => hai (Or.inr (Or.inr (Or.inr (Or.inl h))))) rfl))))
            · exact (ax_up_hit _ _ _ _)
            · match f_rshp ta tn, fa171_0 with
              | .inl (a, s), q => exact ⟨⟨Eq.trans (ax_up_miss (by decide) rfl) q.1.1, Eq.trans (ax_up_miss (by decide) rfl) q.1.2⟩, Eq.trans (ax_up_rowmiss (by decide) rfl) q.2.1, Eq.trans (ax_up_rowmiss (by decide) rfl) q.2.2⟩
              | .inr ls, q => exact ⟨⟨Eq.trans (ax_up_miss (by decide) rfl) q.1.1, Eq.trans (ax_up_miss (by decide) rfl) q.1.2⟩, Eq.trans (ax_up_rowmiss (by decide) rfl) q.2.1, Eq.trans (ax_up_rowmiss (by decide) rfl) q.2.2.1, q.2.2.2⟩
      · exfalso
        omega
    · exfalso
      omega
set_option maxRecDepth 20000 in
theorem s_X11_text_bad (E : ax_Env) (l : Launch) (d : Nat) (hd : 33 ≤ d) (M : ax_Mem) (k : Int) (hg0 : k < 0 ∨ 8 ≤ k) : ax_G E l d iX11_text [.inr 0, .inl k] M (fun z0 M2 => z0 = some (.inl (-1)) ∧ (∀ x0 i0 : Int, ¬ ((x0 = 58 ∧ i0 = 1) ∨ (x0 = 58 ∧ i0 = 2) ∨ (x0 = 58 ∧ i0 = 3)) → M2 x0 i0 = M x0 i0) ∧ M2 58 1 = 0 ∧ M2 58 2 = 0 ∧ M2 58 3 = (-1)) := by
  obtain ⟨d, rfl⟩ : ∃ d0, d = d0 + 1 := ⟨d - 1, by omega⟩
  refine ax_start rfl (Nat.le_of_ble_eq_true rfl) (ls := [some (.inr 0), some (.inl k), none]) rfl (fun hav hcm => ?_)
  have hc1 : -2147483648 ≤ k ∧ k < 2147483648 := hav (.inl k) (by simp)
  clear hav
  refine ax_aload_n dX11_text_0 rfl rfl (pc' := 1) rfl ?_
  refine ax_getr (v := 58) dX11_text_1 flX11_33 rfl sh_0 rfl (pc' := 4) rfl ?_
  refine ax_iconst dX11_text_4 (by decide) (pc' := 5) rfl ?_
  refine ax_puti dX11_text_5 flX11_200 (Or.inl rfl) sh_58 rfl (pc' := 8) rfl ?_
  refine ax_aload_n dX11_text_8 rfl rfl (pc' := 9) rfl ?_
  refine ax_getr (v := 58) dX11_text_9 flX11_33 rfl sh_0 rfl (pc' := 12) rfl ?_
  refine ax_iconst dX11_text_12 (by decide) (pc' := 13) rfl ?_
  refine ax_puti dX11_text_13 flX11_203 (Or.inl rfl) sh_58 rfl (pc' := 16) rfl ?_
  refine ax_iconst dX11_text_16 (by decide) (pc' := 17) rfl ?_
  refine ax_istore_n dX11_text_17 rfl (by decide) (ls' := [some (.inr 0), some (.inl k), some (.inl (-1))]) rfl (pc' := 18) rfl ?_
  refine ax_iload_n dX11_text_18 rfl rfl (pc' := 19) rfl ?_
  refine ax_if_lt (tgt := 96) dX11_text_19 (by decide) (pc' := 22) rfl (fun h19 => ?_) (fun h19 => ?_)
  · refine ax_iload_n dX11_text_96 rfl rfl (pc' := 97) rfl ?_
    refine ax_iconst dX11_text_97 (by decide) (pc' := 98) rfl ?_
    refine ax_icmp_ne (tgt := 149) dX11_text_98 (by decide) (pc' := 101) rfl (fun h98 => ?_) (fun h98 => ?_)
    · refine ax_iload_n dX11_text_149 rfl rfl (pc' := 150) rfl ?_
      refine ax_iconst dX11_text_150 (by decide) (pc' := 151) rfl ?_
      refine ax_icmp_lt (tgt := 175) dX11_text_151 (by decide) (pc' := 154) rfl (fun h151 => ?_) (fun h151 => ?_)
      · refine ax_aload_n dX11_text_175 rfl rfl (pc' := 176) rfl ?_
        refine ax_getr (v := 58) dX11_text_176 flX11_33 rfl sh_0 rfl (pc' := 179) rfl ?_
        refine ax_iconst dX11_text_179 (by decide) (pc' := 180) rfl ?_
        refine ax_puti dX11_text_180 flX11_195 (Or.inl rfl) sh_58 rfl (pc' := 183) rfl ?_
        refine ax_iload_n dX11_text_183 rfl rfl (pc' := 184) rfl ?_
        refine ax_iret dX11_text_184 rfl ?_
        refine ⟨rfl, ?_, ?_, ?_, ?_, ?_⟩
        · rfl
        · intro x0 i0 hai
          exact (ax_up_miss (fun h => hai (Or.inl h)) (ax_up_miss (fun h => hai (Or.inr (Or.inr h))) (ax_up_miss (fun h => hai (Or.inr (Or.inl h))) rfl)))
        · exact (ax_up_hit _ _ _ _)
        · exact (ax_up_miss (by decide) (ax_up_miss (by decide) (ax_up_hit _ _ _ _)))
        · exact (ax_up_miss (by decide) (ax_up_hit _ _ _ _))
      · refine ax_iload_n dX11_text_154 rfl rfl (pc' := 155) rfl ?_
        refine ax_bipush dX11_text_155 (by decide) (pc' := 157) rfl ?_
        refine ax_icmp_ge (tgt := 175) dX11_text_157 (by decide) (pc' := 160) rfl (fun h157 => ?_) (fun h157 => ?_)
        · refine ax_aload_n dX11_text_175 rfl rfl (pc' := 176) rfl ?_
          refine ax_getr (v := 58) dX11_text_176 flX11_33 rfl sh_0 rfl (pc' := 179) rfl ?_
          refine ax_iconst dX11_text_179 (by decide) (pc' := 180) rfl ?_
          refine ax_puti dX11_text_180 flX11_195 (Or.inl rfl) sh_58 rfl (pc' := 183) rfl ?_
          refine ax_iload_n dX11_text_183 rfl rfl (pc' := 184) rfl ?_
          refine ax_iret dX11_text_184 rfl ?_
          refine ⟨rfl, ?_, ?_, ?_, ?_, ?_⟩
          · rfl
          · intro x0 i0 hai
            exact (ax_up_miss (fun h => hai (Or.inl h)) (ax_up_miss (fun h => hai (Or.inr (Or.inr h))) (ax_up_miss (fun h => hai (Or.inr (Or.inl h))) rfl)))
          · exact (ax_up_hit _ _ _ _)
          · exact (ax_up_miss (by decide) (ax_up_miss (by decide) (ax_up_hit _ _ _ _)))
          · exact (ax_up_miss (by decide) (ax_up_hit _ _ _ _))
        · exfalso
          omega
    · exfalso
      omega
  · refine ax_iload_n dX11_text_22 rfl rfl (pc' := 23) rfl ?_
    refine ax_iconst dX11_text_23 (by decide) (pc' := 24) rfl ?_
    refine ax_icmp_ge (tgt := 96) dX11_text_24 (by decide) (pc' := 27) rfl (fun h24 => ?_) (fun h24 => ?_)
    · refine ax_iload_n dX11_text_96 rfl rfl (pc' := 97) rfl ?_
      refine ax_iconst dX11_text_97 (by decide) (pc' := 98) rfl ?_
      refine ax_icmp_ne (tgt := 149) dX11_text_98 (by decide) (pc' := 101) rfl (fun h98 => ?_) (fun h98 => ?_)
      · refine ax_iload_n dX11_text_149 rfl rfl (pc' := 150) rfl ?_
        refine ax_iconst dX11_text_150 (by decide) (pc' := 151) rfl ?_
        refine ax_icmp_lt (tgt := 175) dX11_text_151 (by decide) (pc' := 154) rfl (fun h151 => ?_) (fun h151 => ?_)
        · refine ax_aload_n dX11_text_175 rfl rfl (pc' := 176) rfl ?_
          refine ax_getr (v := 58) dX11_text_176 flX11_33 rfl sh_0 rfl (pc' := 179) rfl ?_
          refine ax_iconst dX11_text_179 (by decide) (pc' := 180) rfl ?_
          refine ax_puti dX11_text_180 flX11_195 (Or.inl rfl) sh_58 rfl (pc' := 183) rfl ?_
          refine ax_iload_n dX11_text_183 rfl rfl (pc' := 184) rfl ?_
          refine ax_iret dX11_text_184 rfl ?_
          refine ⟨rfl, ?_, ?_, ?_, ?_, ?_⟩
          · rfl
          · intro x0 i0 hai
            exact (ax_up_miss (fun h => hai (Or.inl h)) (ax_up_miss (fun h => hai (Or.inr (Or.inr h))) (ax_up_miss (fun h => hai (Or.inr (Or.inl h))) rfl)))
          · exact (ax_up_hit _ _ _ _)
          · exact (ax_up_miss (by decide) (ax_up_miss (by decide) (ax_up_hit _ _ _ _)))
          · exact (ax_up_miss (by decide) (ax_up_hit _ _ _ _))
        · refine ax_iload_n dX11_text_154 rfl rfl (pc' := 155) rfl ?_
          refine ax_bipush dX11_text_155 (by decide) (pc' := 157) rfl ?_
          refine ax_icmp_ge (tgt := 175) dX11_text_157 (by decide) (pc' := 160) rfl (fun h157 => ?_) (fun h157 => ?_)
          · refine ax_aload_n dX11_text_175 rfl rfl (pc' := 176) rfl ?_
            refine ax_getr (v := 58) dX11_text_176 flX11_33 rfl sh_0 rfl (pc' := 179) rfl ?_
            refine ax_iconst dX11_text_179 (by decide) (pc' := 180) rfl ?_
            refine ax_puti dX11_text_180 flX11_195 (Or.inl rfl) sh_58 rfl (pc' := 183) rfl ?_
            refine ax_iload_n dX11_text_183 rfl rfl (pc' := 184) rfl ?_
            refine ax_iret dX11_text_184 rfl ?_
            refine ⟨rfl, ?_, ?_, ?_, ?_, ?_⟩
            · rfl
            · intro x0 i0 hai
              exact (ax_up_miss (fun h => hai (Or.inl h)) (ax_up_miss (fun h => hai (Or.inr (Or.inr h))) (ax_up_miss (fun h => hai (Or.inr (Or.inl h))) rfl)))
            · exact (ax_up_hit _ _ _ _)
            · exact (ax_up_miss (by decide) (ax_up_miss (by decide) (ax_up_hit _ _ _ _)))
            · exact (ax_up_miss (by decide) (ax_up_hit _ _ _ _))
          · exfalso
            omega
      · exfalso
        omega
    · exfalso
      omega
