/-! a token is a word -/
abbrev f_isC (ta : Int → Int) (tk : Int) (q : Nat) (k : Int) : Prop := ta (tk + k) ≠ f_ch q k
abbrev f_isW (ta : Int → Int) (tk at0 : Int) (q : Nat) : Prop := at0 - tk = ax_sl q ∧ f_first (f_isC ta tk q) 0 (ax_sl q) = -1
set_option maxRecDepth 20000 in
theorem s_X12_is (E : ax_Env) (l : Launch) (d : Nat) (hd : 5 ≤ d) (M : ax_Mem) (q : Nat) {ta : Int → Int} (hta : M 339 = ta) {at0 : Int} (hat0 : M 330 18 = at0) {tk : Int} (htk : M 330 20 = tk) (hg0 : q < 30) (hg1 : 0 ≤ tk ∧ tk ≤ at0 ∧ at0 ≤ 400) : ax_G E l d iX12_is [.inr 330, .inr (-(3 + (q : Int)))] M (fun z0 M2 => z0 = some (.inl (f_b (f_isW ta tk at0 q))) ∧ M = M2) := by
  obtain ⟨d, rfl⟩ : ∃ d0, d = d0 + 1 := ⟨d - 1, by omega⟩
  refine ax_start rfl (Nat.le_of_ble_eq_true rfl) (ls := [some (.inr 330), some (.inr (-(3 + (q : Int)))), none, none]) rfl (fun hav hcm => ?_)
  clear hav
  have qsl := f_sl_rg ⟨q, hg0⟩
  dsimp only at qsl
  refine ax_aload_n dX12_is_0 rfl rfl (pc' := 1) rfl ?_
  refine ax_geti (v := at0) dX12_is_1 flX12_123 rfl sh_330 hat0 rfl (pc' := 4) rfl ?_
  refine ax_aload_n dX12_is_4 rfl rfl (pc' := 5) rfl ?_
  refine ax_geti (v := tk) dX12_is_5 flX12_126 rfl sh_330 htk rfl (pc' := 8) rfl ?_
  refine ax_isub dX12_is_8 (by omega) (pc' := 9) rfl ?_
  refine ax_aload_n dX12_is_9 rfl rfl (pc' := 10) rfl ?_
  refine ax_invSG (i := q) [] [.inl (at0 - tk)] dX12_is_10 mlX12_129 hg0 rfl rfl rfl (Nat.le_of_ble_eq_true rfl) (s_J0_length_8abf5 E l _ (by omega) _ q (by first | omega | assumption)) (pc' := 13) rfl (fun vv M_10 hq co10 hcm10 => ?_)
  obtain ⟨rfl, rfl⟩ := hq
  refine ax_reS (st2 := [.inl (ax_sl q), .inl (at0 - tk)]) rfl ?_
  have cc10 : -2147483648 ≤ ax_sl q ∧ ax_sl q < 2147483648 := co10 _ rfl
  refine ax_icmp_ne (tgt := 20) dX12_is_13 (by decide) (pc' := 16) rfl (fun h13 => ?_) (fun h13 => ?_)
  · refine ax_iconst dX12_is_20 (by decide) (pc' := 21) rfl ?_
    refine ax_istore_n dX12_is_21 rfl (by decide) (ls' := [some (.inr 330), some (.inr (-(3 + (q : Int)))), some (.inl 0), none]) rfl (pc' := 22) rfl ?_
    refine ax_iconst dX12_is_22 (by decide) (pc' := 23) rfl ?_
    refine ax_istore_n dX12_is_23 rfl (by decide) (ls' := [some (.inr 330), some (.inr (-(3 + (q : Int)))), some (.inl 0), some (.inl 0)]) rfl (pc' := 24) rfl ?_
    have LP1 : ∀ (kq2 : Nat) (k sm : Int) (hm1 : ax_sl q - k < (kq2 : Nat)) (iv1_0 : 0 ≤ k ∧ k ≤ ax_sl q) (iv1_1 : sm = 0 ∨ sm = 1) (iv1_2 : sm = 1 → at0 - tk = ax_sl q ∧ f_first (f_isC ta tk q) k (ax_sl q) = f_first (f_isC ta tk q) 0 (ax_sl q)) (iv1_3 : sm = 0 → ¬ f_isW ta tk at0 q), ax_W E l (d + 1) 0 0 iX12_is 24 [some (.inr 330), some (.inr (-(3 + (q : Int)))), some (.inl sm), some (.inl k)] [] SH M (ax_P (fun z0 M2 => z0 = some (.inl (f_b (f_isW ta tk at0 q))) ∧ M = M2)) := by
      intro kq2
      induction kq2 with
      | zero =>
        intro k sm hm1 iv1_0 iv1_1 iv1_2 iv1_3
        exfalso
        omega
      | succ kq2 ih3 =>
        intro k sm hm1 iv1_0 iv1_1 iv1_2 iv1_3
        refine ax_iload_n dX12_is_24 rfl rfl (pc' := 25) rfl ?_
        refine ax_aload_n dX12_is_25 rfl rfl (pc' := 26) rfl ?_
        refine ax_invSG (i := q) [] [.inl k] dX12_is_26 mlX12_129 hg0 rfl rfl rfl (Nat.le_of_ble_eq_true rfl) (s_J0_length_8abf5 E l _ (by omega) _ q (by first | omega | assumption)) (pc' := 29) rfl (fun vv M_26 hq co26 hcm26 => ?_)
        obtain ⟨rfl, rfl⟩ := hq
        refine ax_reS (st2 := [.inl (ax_sl q), .inl k]) rfl ?_
        have cc26 : -2147483648 ≤ ax_sl q ∧ ax_sl q < 2147483648 := co26 _ rfl
        refine ax_icmp_ge (tgt := 67) dX12_is_29 (by decide) (pc' := 32) rfl (fun h29 => ?_) (fun h29 => ?_)
        · refine ax_iload_n dX12_is_67 rfl rfl (pc' := 68) rfl ?_
          refine ax_zret dX12_is_68 rfl (by omega) ?_
          refine ⟨rfl, ?_, ?_⟩
          · refine congrArg (fun z => some (Sum.inl z)) ?_
            by_cases hs : sm = 1
            · first
                | (exfalso; omega)
                | (have e := iv1_2 hs
                   rw [hs, f_b_t ⟨e.1, e.2.symm.trans (f_first_done (by omega))⟩])
            · have e := iv1_3 (by omega)
              rw [f_b_f e]
              omega
          · rfl
        · refine ax_iload_n dX12_is_32 rfl rfl (pc' := 33) rfl ?_
          refine ax_if_eq (tgt := 67) dX12_is_33 (by decide) (pc' := 36) rfl (fun h33 => ?_) (fun h33 => ?_)
          · refine ax_iload_n dX12_is_67 rfl rfl (pc' := 68) rfl ?_
            refine ax_zret dX12_is_68 rfl (by omega) ?_
            refine ⟨rfl, ?_, ?_⟩
            · refine congrArg (fun z => some (Sum.inl z)) ?_
              by_cases hs : sm = 1
              · first
                  | (exfalso; omega)
                  | (have e := iv1_2 hs
                     rw [hs, f_b_t ⟨e.1, e.2.symm.trans (f_first_done (by omega))⟩])
              · have e := iv1_3 (by omega)
                rw [f_b_f e]
                omega
            · rfl
          · have qe := iv1_2 (by omega)
            refine ax_aload_n dX12_is_36 rfl rfl (pc' := 37) rfl ?_
            refine ax_getr (v := 339) dX12_is_37 flX12_34 rfl sh_330 rfl (pc' := 40) rfl ?_
            refine ax_aload_n dX12_is_40 rfl rfl (pc' := 41) rfl ?_
            refine ax_geti (v := tk) dX12_is_41 flX12_126 rfl sh_330 htk rfl (pc' := 44) rfl ?_
            refine ax_iload_n dX12_is_44 rfl rfl (pc' := 45) rfl ?_
            refine ax_iadd dX12_is_45 (by omega) (pc' := 46) rfl ?_
            refine ax_iald (v := ta (tk + k)) dX12_is_46 sh_339 rfl (by omega) (by omega) ((congrFun hta (tk + k)).trans rfl) (pc' := 47) rfl ?_
            refine ax_aload_n dX12_is_47 rfl rfl (pc' := 48) rfl ?_
            refine ax_iload_n dX12_is_48 rfl rfl (pc' := 49) rfl ?_
            refine ax_invSG (i := q) [.inl k] [.inl (ta (tk + k))] dX12_is_49 mlX12_134 hg0 rfl rfl rfl (Nat.le_of_ble_eq_true rfl) (s_J0_charAt_5068e E l _ (by omega) _ k q hg0 (by omega)) (pc' := 52) rfl (fun vv M_49 hq co49 hcm49 => ?_)
            obtain ⟨rfl, rfl⟩ := hq
            refine ax_reS (st2 := [.inl (f_ch q k), .inl (ta (tk + k))]) rfl ?_
            have cc49 : -2147483648 ≤ f_ch q k ∧ f_ch q k < 2147483648 := co49 _ rfl
            refine ax_icmp_ne (tgt := 59) dX12_is_52 (by decide) (pc' := 55) rfl (fun h52 => ?_) (fun h52 => ?_)
            · refine ax_iconst dX12_is_59 (by decide) (pc' := 60) rfl ?_
              refine ax_istore_n dX12_is_60 rfl (by decide) (ls' := [some (.inr 330), some (.inr (-(3 + (q : Int)))), some (.inl 0), some (.inl k)]) rfl (pc' := 61) rfl ?_
              refine ax_iinc dX12_is_61 rfl (by decide) (by omega) (ls' := [some (.inr 330), some (.inr (-(3 + (q : Int)))), some (.inl 0), some (.inl (k + 1))]) rfl (pc' := 64) rfl ?_
              refine ax_goto dX12_is_64 (pc' := 24) (by decide) ?_
              refine ih3 (k + 1) 0 ?_ ?_ ?_ ?_ ?_
              · omega
              · omega
              · first | exact Or.inl rfl | exact Or.inr rfl
              · intro hs
                first
                  | (exfalso; omega)
                  | exact ⟨qe.1, (f_first_miss (by omega) (fun hc => hc h52)).symm.trans qe.2⟩
              · intro hs
                first
                  | (exfalso; omega)
                  | (intro hq
                     have e := qe.2.trans hq.2
                     rw [f_first_hit (c := f_isC ta tk q) (lo := k) (by omega) h52] at e
                     omega)
            · refine ax_iconst dX12_is_55 (by decide) (pc' := 56) rfl ?_
              refine ax_goto dX12_is_56 (pc' := 60) (by decide) ?_
              refine ax_istore_n dX12_is_60 rfl (by decide) (ls' := [some (.inr 330), some (.inr (-(3 + (q : Int)))), some (.inl 1), some (.inl k)]) rfl (pc' := 61) rfl ?_
              refine ax_iinc dX12_is_61 rfl (by decide) (by omega) (ls' := [some (.inr 330), some (.inr (-(3 + (q : Int)))), some (.inl 1), some (.inl (k + 1))]) rfl (pc' := 64) rfl ?_
              refine ax_goto dX12_is_64 (pc' := 24) (by decide) ?_
              refine ih3 (k + 1) 1 ?_ ?_ ?_ ?_ ?_
              · omega
              · omega
              · first | exact Or.inl rfl | exact Or.inr rfl
              · intro hs
                first
                  | (exfalso; omega)
                  | exact ⟨qe.1, (f_first_miss (by omega) (fun hc => hc h52)).symm.trans qe.2⟩
              · intro hs
                first
                  | (exfalso; omega)
                  | (intro hq
                     have e := qe.2.trans hq.2
                     rw [f_first_hit (c := f_isC ta tk q) (lo := k) (by omega) h52] at e
                     omega)
    refine LP1 (ax_sl q - 0 : Int).toNat.succ 0 0 ?_ ?_ ?_ ?_ ?_
    · omega
    · omega
    · first | exact Or.inl rfl | exact Or.inr rfl
    · intro hs
      first | (exfalso; omega) | exact ⟨h13, rfl⟩
    · intro hs
      first | (exfalso; omega) | exact fun hq => h13 hq.1
  · refine ax_iconst dX12_is_16 (by decide) (pc' := 17) rfl ?_
    refine ax_goto dX12_is_17 (pc' := 21) (by decide) ?_
    refine ax_istore_n dX12_is_21 rfl (by decide) (ls' := [some (.inr 330), some (.inr (-(3 + (q : Int)))), some (.inl 1), none]) rfl (pc' := 22) rfl ?_
    refine ax_iconst dX12_is_22 (by decide) (pc' := 23) rfl ?_
    refine ax_istore_n dX12_is_23 rfl (by decide) (ls' := [some (.inr 330), some (.inr (-(3 + (q : Int)))), some (.inl 1), some (.inl 0)]) rfl (pc' := 24) rfl ?_
    have LP4 : ∀ (kq5 : Nat) (k sm : Int) (hm4 : ax_sl q - k < (kq5 : Nat)) (iv4_0 : 0 ≤ k ∧ k ≤ ax_sl q) (iv4_1 : sm = 0 ∨ sm = 1) (iv4_2 : sm = 1 → at0 - tk = ax_sl q ∧ f_first (f_isC ta tk q) k (ax_sl q) = f_first (f_isC ta tk q) 0 (ax_sl q)) (iv4_3 : sm = 0 → ¬ f_isW ta tk at0 q), ax_W E l (d + 1) 0 0 iX12_is 24 [some (.inr 330), some (.inr (-(3 + (q : Int)))), some (.inl sm), some (.inl k)] [] SH M (ax_P (fun z0 M2 => z0 = some (.inl (f_b (f_isW ta tk at0 q))) ∧ M = M2)) := by
      intro kq5
      induction kq5 with
      | zero =>
        intro k sm hm4 iv4_0 iv4_1 iv4_2 iv4_3
        exfalso
        omega
      | succ kq5 ih6 =>
        intro k sm hm4 iv4_0 iv4_1 iv4_2 iv4_3
        refine ax_iload_n dX12_is_24 rfl rfl (pc' := 25) rfl ?_
        refine ax_aload_n dX12_is_25 rfl rfl (pc' := 26) rfl ?_
        refine ax_invSG (i := q) [] [.inl k] dX12_is_26 mlX12_129 hg0 rfl rfl rfl (Nat.le_of_ble_eq_true rfl) (s_J0_length_8abf5 E l _ (by omega) _ q (by first | omega | assumption)) (pc' := 29) rfl (fun vv M_26 hq co26 hcm26 => ?_)
        obtain ⟨rfl, rfl⟩ := hq
        refine ax_reS (st2 := [.inl (ax_sl q), .inl k]) rfl ?_
        have cc26 : -2147483648 ≤ ax_sl q ∧ ax_sl q < 2147483648 := co26 _ rfl
        refine ax_icmp_ge (tgt := 67) dX12_is_29 (by decide) (pc' := 32) rfl (fun h29 => ?_) (fun h29 => ?_)
        · refine ax_iload_n dX12_is_67 rfl rfl (pc' := 68) rfl ?_
          refine ax_zret dX12_is_68 rfl (by omega) ?_
          refine ⟨rfl, ?_, ?_⟩
          · refine congrArg (fun z => some (Sum.inl z)) ?_
            by_cases hs : sm = 1
            · first
                | (exfalso; omega)
                | (have e := iv4_2 hs
                   rw [hs, f_b_t ⟨e.1, e.2.symm.trans (f_first_done (by omega))⟩])
            · have e := iv4_3 (by omega)
              rw [f_b_f e]
              omega
          · rfl
        · refine ax_iload_n dX12_is_32 rfl rfl (pc' := 33) rfl ?_
          refine ax_if_eq (tgt := 67) dX12_is_33 (by decide) (pc' := 36) rfl (fun h33 => ?_) (fun h33 => ?_)
          · refine ax_iload_n dX12_is_67 rfl rfl (pc' := 68) rfl ?_
            refine ax_zret dX12_is_68 rfl (by omega) ?_
            refine ⟨rfl, ?_, ?_⟩
            · refine congrArg (fun z => some (Sum.inl z)) ?_
              by_cases hs : sm = 1
              · first
                  | (exfalso; omega)
                  | (have e := iv4_2 hs
                     rw [hs, f_b_t ⟨e.1, e.2.symm.trans (f_first_done (by omega))⟩])
              · have e := iv4_3 (by omega)
                rw [f_b_f e]
                omega
            · rfl
          · have qe := iv4_2 (by omega)
            refine ax_aload_n dX12_is_36 rfl rfl (pc' := 37) rfl ?_
            refine ax_getr (v := 339) dX12_is_37 flX12_34 rfl sh_330 rfl (pc' := 40) rfl ?_
            refine ax_aload_n dX12_is_40 rfl rfl (pc' := 41) rfl ?_
            refine ax_geti (v := tk) dX12_is_41 flX12_126 rfl sh_330 htk rfl (pc' := 44) rfl ?_
            refine ax_iload_n dX12_is_44 rfl rfl (pc' := 45) rfl ?_
            refine ax_iadd dX12_is_45 (by omega) (pc' := 46) rfl ?_
            refine ax_iald (v := ta (tk + k)) dX12_is_46 sh_339 rfl (by omega) (by omega) ((congrFun hta (tk + k)).trans rfl) (pc' := 47) rfl ?_
            refine ax_aload_n dX12_is_47 rfl rfl (pc' := 48) rfl ?_
            refine ax_iload_n dX12_is_48 rfl rfl (pc' := 49) rfl ?_
            refine ax_invSG (i := q) [.inl k] [.inl (ta (tk + k))] dX12_is_49 mlX12_134 hg0 rfl rfl rfl (Nat.le_of_ble_eq_true rfl) (s_J0_charAt_5068e E l _ (by omega) _ k q hg0 (by omega)) (pc' := 52) rfl (fun vv M_49 hq co49 hcm49 => ?_)
            obtain ⟨rfl, rfl⟩ := hq
            refine ax_reS (st2 := [.inl (f_ch q k), .inl (ta (tk + k))]) rfl ?_
            have cc49 : -2147483648 ≤ f_ch q k ∧ f_ch q k < 2147483648 := co49 _ rfl
            refine ax_icmp_ne (tgt := 59) dX12_is_52 (by decide) (pc' := 55) rfl (fun h52 => ?_) (fun h52 => ?_)
            · refine ax_iconst dX12_is_59 (by decide) (pc' := 60) rfl ?_
              refine ax_istore_n dX12_is_60 rfl (by decide) (ls' := [some (.inr 330), some (.inr (-(3 + (q : Int)))), some (.inl 0), some (.inl k)]) rfl (pc' := 61) rfl ?_
              refine ax_iinc dX12_is_61 rfl (by decide) (by omega) (ls' := [some (.inr 330), some (.inr (-(3 + (q : Int)))), some (.inl 0), some (.inl (k + 1))]) rfl (pc' := 64) rfl ?_
              refine ax_goto dX12_is_64 (pc' := 24) (by decide) ?_
              refine ih6 (k + 1) 0 ?_ ?_ ?_ ?_ ?_
              · omega
              · omega
              · first | exact Or.inl rfl | exact Or.inr rfl
              · intro hs
                first
                  | (exfalso; omega)
                  | exact ⟨qe.1, (f_first_miss (by omega) (fun hc => hc h52)).symm.trans qe.2⟩
              · intro hs
                first
                  | (exfalso; omega)
                  | (intro hq
                     have e := qe.2.trans hq.2
                     rw [f_first_hit (c := f_isC ta tk q) (lo := k) (by omega) h52] at e
                     omega)
            · refine ax_iconst dX12_is_55 (by decide) (pc' := 56) rfl ?_
              refine ax_goto dX12_is_56 (pc' := 60) (by decide) ?_
              refine ax_istore_n dX12_is_60 rfl (by decide) (ls' := [some (.inr 330), some (.inr (-(3 + (q : Int)))), some (.inl 1), some (.inl k)]) rfl (pc' := 61) rfl ?_
              refine ax_iinc dX12_is_61 rfl (by decide) (by omega) (ls' := [some (.inr 330), some (.inr (-(3 + (q : Int)))), some (.inl 1), some (.inl (k + 1))]) rfl (pc' := 64) rfl ?_
              refine ax_goto dX12_is_64 (pc' := 24) (by decide) ?_
              refine ih6 (k + 1) 1 ?_ ?_ ?_ ?_ ?_
              · omega
              · omega
              · first | exact Or.inl rfl | exact Or.inr rfl
              · intro hs
                first
                  | (exfalso; omega)
                  | exact ⟨qe.1, (f_first_miss (by omega) (fun hc => hc h52)).symm.trans qe.2⟩
              · intro hs
                first
                  | (exfalso; omega)
                  | (intro hq
                     have e := qe.2.trans hq.2
                     rw [f_first_hit (c := f_isC ta tk q) (lo := k) (by omega) h52] at e
                     omega)
    refine LP4 (ax_sl q - 0 : Int).toNat.succ 0 1 ?_ ?_ ?_ ?_ ?_
    · omega
    · omega
    · first | exact Or.inl rfl | exact Or.inr rfl
    · intro hs
      first | (exfalso; omega) | exact ⟨h13, rfl⟩
    · intro hs
      first | (exfalso; omega) | exact fun hq => h13 hq.1
