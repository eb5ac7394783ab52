/-! words -/
def f_nmB (ta : Int → Int) (tk at0 : Int) : Int := if f_isW ta tk at0 18 then 41 else if f_isW ta tk at0 19 then 42 else if f_isW ta tk at0 20 then 43 else if f_isW ta tk at0 21 then 44 else if f_isW ta tk at0 22 then 45 else if f_isW ta tk at0 8 then 46 else 1
def f_nmT (ta : Int → Int) (tk at0 : Int) : Int := if f_isW ta tk at0 5 then 7 else if f_isW ta tk at0 16 then 47 else if f_isW ta tk at0 17 then 48 else f_nmB ta tk at0
def f_nmH (ta : Int → Int) (tk at0 : Int) : Int := if f_isW ta tk at0 23 then 7 else if f_isW ta tk at0 24 then 49 else if f_isW ta tk at0 22 then 45 else if f_isW ta tk at0 25 then 50 else if f_isW ta tk at0 26 then 51 else if f_isW ta tk at0 20 then 43 else if f_isW ta tk at0 27 then 52 else if f_isW ta tk at0 8 then 46 else if f_isW ta tk at0 28 then 53 else 1
def f_nmD (ta : Int → Int) (tk at0 : Int) : Int := if f_isW ta tk at0 5 then 10 else if f_isW ta tk at0 6 then 11 else if f_isW ta tk at0 7 then 12 else if f_isW ta tk at0 8 then 13 else if f_isW ta tk at0 9 then 14 else if f_isW ta tk at0 10 then 15 else if f_isW ta tk at0 11 then 16 else 1
def f_wrd (ta : Int → Int) (tk at0 rd : Int) : Int := if rd = 3 then f_nmD ta tk at0 else if f_isW ta tk at0 12 then 3 else if f_isW ta tk at0 13 then 4 else if f_isW ta tk at0 14 then 5 else if f_isW ta tk at0 15 then 6 else if rd = 0 then f_nmT ta tk at0 else if rd = 2 then f_nmH ta tk at0 else if f_isW ta tk at0 29 then 7 else f_nmB ta tk at0
set_option maxRecDepth 20000 in
theorem s_X12_bothName (E : ax_Env) (l : Launch) (d : Nat) (hd : 6 ≤ d) (M : ax_Mem) {ta : Int → Int} (hta : M 339 = ta) {at0 : Int} (hat0 : M 330 18 = at0) {tk : Int} (htk : M 330 20 = tk) (hg0 : 0 ≤ tk ∧ tk ≤ at0 ∧ at0 ≤ 400) : ax_G E l d iX12_bothName [.inr 330] M (fun z0 M2 => z0 = some (.inl (f_nmB ta tk at0)) ∧ M = M2) := by
  obtain ⟨d, rfl⟩ : ∃ d0, d = d0 + 1 := ⟨d - 1, by omega⟩
  refine ax_start rfl (Nat.le_of_ble_eq_true rfl) (ls := [some (.inr 330)]) rfl (fun hav hcm => ?_)
  clear hav
  refine ax_aload_n dX12_bothName_0 rfl rfl (pc' := 1) rfl ?_
  refine ax_ldcS (i := 18) (r := (-21)) dX12_bothName_1 rfl (by decide) (pc' := 3) rfl ?_
  refine ax_invG [.inr (-21)] [] dX12_bothName_3 mlX12_140 sh_330 rfl rfl rfl (Nat.le_of_ble_eq_true rfl) (s_X12_is E l _ (by omega) _ 18 hta hat0 htk (by first | omega | assumption) (by first | omega | assumption)) (pc' := 6) rfl (fun vv M_3 hq co3 hcm3 => ?_)
  obtain ⟨rfl, rfl⟩ := hq
  refine ax_reS (st2 := [.inl (f_b (f_isW ta tk at0 18))]) rfl ?_
  refine ax_if_eq (tgt := 12) dX12_bothName_6 (by decide) (pc' := 9) rfl (fun h6 => ?_) (fun h6 => ?_)
  · replace h6 := f_b_0 h6
    refine ax_aload_n dX12_bothName_12 rfl rfl (pc' := 13) rfl ?_
    refine ax_ldcS (i := 19) (r := (-22)) dX12_bothName_13 rfl (by decide) (pc' := 15) rfl ?_
    refine ax_invG [.inr (-22)] [] dX12_bothName_15 mlX12_140 sh_330 rfl rfl rfl (Nat.le_of_ble_eq_true rfl) (s_X12_is E l _ (by omega) _ 19 hta hat0 htk (by first | omega | assumption) (by first | omega | assumption)) (pc' := 18) rfl (fun vv M_15 hq co15 hcm15 => ?_)
    obtain ⟨rfl, rfl⟩ := hq
    refine ax_reS (st2 := [.inl (f_b (f_isW ta tk at0 19))]) rfl ?_
    refine ax_if_eq (tgt := 24) dX12_bothName_18 (by decide) (pc' := 21) rfl (fun h18 => ?_) (fun h18 => ?_)
    · replace h18 := f_b_0 h18
      refine ax_aload_n dX12_bothName_24 rfl rfl (pc' := 25) rfl ?_
      refine ax_ldcS (i := 20) (r := (-23)) dX12_bothName_25 rfl (by decide) (pc' := 27) rfl ?_
      refine ax_invG [.inr (-23)] [] dX12_bothName_27 mlX12_140 sh_330 rfl rfl rfl (Nat.le_of_ble_eq_true rfl) (s_X12_is E l _ (by omega) _ 20 hta hat0 htk (by first | omega | assumption) (by first | omega | assumption)) (pc' := 30) rfl (fun vv M_27 hq co27 hcm27 => ?_)
      obtain ⟨rfl, rfl⟩ := hq
      refine ax_reS (st2 := [.inl (f_b (f_isW ta tk at0 20))]) rfl ?_
      refine ax_if_eq (tgt := 36) dX12_bothName_30 (by decide) (pc' := 33) rfl (fun h30 => ?_) (fun h30 => ?_)
      · replace h30 := f_b_0 h30
        refine ax_aload_n dX12_bothName_36 rfl rfl (pc' := 37) rfl ?_
        refine ax_ldcS (i := 21) (r := (-24)) dX12_bothName_37 rfl (by decide) (pc' := 39) rfl ?_
        refine ax_invG [.inr (-24)] [] dX12_bothName_39 mlX12_140 sh_330 rfl rfl rfl (Nat.le_of_ble_eq_true rfl) (s_X12_is E l _ (by omega) _ 21 hta hat0 htk (by first | omega | assumption) (by first | omega | assumption)) (pc' := 42) rfl (fun vv M_39 hq co39 hcm39 => ?_)
        obtain ⟨rfl, rfl⟩ := hq
        refine ax_reS (st2 := [.inl (f_b (f_isW ta tk at0 21))]) rfl ?_
        refine ax_if_eq (tgt := 48) dX12_bothName_42 (by decide) (pc' := 45) rfl (fun h42 => ?_) (fun h42 => ?_)
        · replace h42 := f_b_0 h42
          refine ax_aload_n dX12_bothName_48 rfl rfl (pc' := 49) rfl ?_
          refine ax_ldcS (i := 22) (r := (-25)) dX12_bothName_49 rfl (by decide) (pc' := 51) rfl ?_
          refine ax_invG [.inr (-25)] [] dX12_bothName_51 mlX12_140 sh_330 rfl rfl rfl (Nat.le_of_ble_eq_true rfl) (s_X12_is E l _ (by omega) _ 22 hta hat0 htk (by first | omega | assumption) (by first | omega | assumption)) (pc' := 54) rfl (fun vv M_51 hq co51 hcm51 => ?_)
          obtain ⟨rfl, rfl⟩ := hq
          refine ax_reS (st2 := [.inl (f_b (f_isW ta tk at0 22))]) rfl ?_
          refine ax_if_eq (tgt := 60) dX12_bothName_54 (by decide) (pc' := 57) rfl (fun h54 => ?_) (fun h54 => ?_)
          · replace h54 := f_b_0 h54
            refine ax_aload_n dX12_bothName_60 rfl rfl (pc' := 61) rfl ?_
            refine ax_ldcS (i := 8) (r := (-11)) dX12_bothName_61 rfl (by decide) (pc' := 63) rfl ?_
            refine ax_invG [.inr (-11)] [] dX12_bothName_63 mlX12_140 sh_330 rfl rfl rfl (Nat.le_of_ble_eq_true rfl) (s_X12_is E l _ (by omega) _ 8 hta hat0 htk (by first | omega | assumption) (by first | omega | assumption)) (pc' := 66) rfl (fun vv M_63 hq co63 hcm63 => ?_)
            obtain ⟨rfl, rfl⟩ := hq
            refine ax_reS (st2 := [.inl (f_b (f_isW ta tk at0 8))]) rfl ?_
            refine ax_if_eq (tgt := 74) dX12_bothName_66 (by decide) (pc' := 69) rfl (fun h66 => ?_) (fun h66 => ?_)
            · replace h66 := f_b_0 h66
              refine ax_iconst dX12_bothName_74 (by decide) (pc' := 75) rfl ?_
              refine ax_iret dX12_bothName_75 rfl ?_
              refine ⟨rfl, ?_, ?_⟩
              · refine congrArg (fun z => some (Sum.inl z)) ?_
                unfold f_nmB
                repeat' split
                all_goals first | rfl | contradiction | (exfalso; omega) | omega
              · rfl
            · replace h66 := f_b_1 h66
              refine ax_bipush dX12_bothName_69 (by decide) (pc' := 71) rfl ?_
              refine ax_goto dX12_bothName_71 (pc' := 75) (by decide) ?_
              refine ax_iret dX12_bothName_75 rfl ?_
              refine ⟨rfl, ?_, ?_⟩
              · refine congrArg (fun z => some (Sum.inl z)) ?_
                unfold f_nmB
                repeat' split
                all_goals first | rfl | contradiction | (exfalso; omega) | omega
              · rfl
          · replace h54 := f_b_1 h54
            refine ax_bipush dX12_bothName_57 (by decide) (pc' := 59) rfl ?_
            refine ax_iret dX12_bothName_59 rfl ?_
            refine ⟨rfl, ?_, ?_⟩
            · refine congrArg (fun z => some (Sum.inl z)) ?_
              unfold f_nmB
              repeat' split
              all_goals first | rfl | contradiction | (exfalso; omega) | omega
            · rfl
        · replace h42 := f_b_1 h42
          refine ax_bipush dX12_bothName_45 (by decide) (pc' := 47) rfl ?_
          refine ax_iret dX12_bothName_47 rfl ?_
          refine ⟨rfl, ?_, ?_⟩
          · refine congrArg (fun z => some (Sum.inl z)) ?_
            unfold f_nmB
            repeat' split
            all_goals first | rfl | contradiction | (exfalso; omega) | omega
          · rfl
      · replace h30 := f_b_1 h30
        refine ax_bipush dX12_bothName_33 (by decide) (pc' := 35) rfl ?_
        refine ax_iret dX12_bothName_35 rfl ?_
        refine ⟨rfl, ?_, ?_⟩
        · refine congrArg (fun z => some (Sum.inl z)) ?_
          unfold f_nmB
          repeat' split
          all_goals first | rfl | contradiction | (exfalso; omega) | omega
        · rfl
    · replace h18 := f_b_1 h18
      refine ax_bipush dX12_bothName_21 (by decide) (pc' := 23) rfl ?_
      refine ax_iret dX12_bothName_23 rfl ?_
      refine ⟨rfl, ?_, ?_⟩
      · refine congrArg (fun z => some (Sum.inl z)) ?_
        unfold f_nmB
        repeat' split
        all_goals first | rfl | contradiction | (exfalso; omega) | omega
      · rfl
  · replace h6 := f_b_1 h6
    refine ax_bipush dX12_bothName_9 (by decide) (pc' := 11) rfl ?_
    refine ax_iret dX12_bothName_11 rfl ?_
    refine ⟨rfl, ?_, ?_⟩
    · refine congrArg (fun z => some (Sum.inl z)) ?_
      unfold f_nmB
      repeat' split
      all_goals first | rfl | contradiction | (exfalso; omega) | omega
    · rfl
set_option maxRecDepth 20000 in
theorem s_X12_tieName (E : ax_Env) (l : Launch) (d : Nat) (hd : 7 ≤ d) (M : ax_Mem) {ta : Int → Int} (hta : M 339 = ta) {at0 : Int} (hat0 : M 330 18 = at0) {tk : Int} (htk : M 330 20 = tk) (hg0 : 0 ≤ tk ∧ tk ≤ at0 ∧ at0 ≤ 400) : ax_G E l d iX12_tieName [.inr 330] M (fun z0 M2 => z0 = some (.inl (f_nmT ta tk at0)) ∧ M = M2) := by
  obtain ⟨d, rfl⟩ : ∃ d0, d = d0 + 1 := ⟨d - 1, by omega⟩
  refine ax_start rfl (Nat.le_of_ble_eq_true rfl) (ls := [some (.inr 330)]) rfl (fun hav hcm => ?_)
  clear hav
  refine ax_aload_n dX12_tieName_0 rfl rfl (pc' := 1) rfl ?_
  refine ax_ldcS (i := 5) (r := (-8)) dX12_tieName_1 rfl (by decide) (pc' := 3) rfl ?_
  refine ax_invG [.inr (-8)] [] dX12_tieName_3 mlX12_140 sh_330 rfl rfl rfl (Nat.le_of_ble_eq_true rfl) (s_X12_is E l _ (by omega) _ 5 hta hat0 htk (by first | omega | assumption) (by first | omega | assumption)) (pc' := 6) rfl (fun vv M_3 hq co3 hcm3 => ?_)
  obtain ⟨rfl, rfl⟩ := hq
  refine ax_reS (st2 := [.inl (f_b (f_isW ta tk at0 5))]) rfl ?_
  refine ax_if_eq (tgt := 12) dX12_tieName_6 (by decide) (pc' := 9) rfl (fun h6 => ?_) (fun h6 => ?_)
  · replace h6 := f_b_0 h6
    refine ax_aload_n dX12_tieName_12 rfl rfl (pc' := 13) rfl ?_
    refine ax_ldcS (i := 16) (r := (-19)) dX12_tieName_13 rfl (by decide) (pc' := 15) rfl ?_
    refine ax_invG [.inr (-19)] [] dX12_tieName_15 mlX12_140 sh_330 rfl rfl rfl (Nat.le_of_ble_eq_true rfl) (s_X12_is E l _ (by omega) _ 16 hta hat0 htk (by first | omega | assumption) (by first | omega | assumption)) (pc' := 18) rfl (fun vv M_15 hq co15 hcm15 => ?_)
    obtain ⟨rfl, rfl⟩ := hq
    refine ax_reS (st2 := [.inl (f_b (f_isW ta tk at0 16))]) rfl ?_
    refine ax_if_eq (tgt := 24) dX12_tieName_18 (by decide) (pc' := 21) rfl (fun h18 => ?_) (fun h18 => ?_)
    · replace h18 := f_b_0 h18
      refine ax_aload_n dX12_tieName_24 rfl rfl (pc' := 25) rfl ?_
      refine ax_ldcS (i := 17) (r := (-20)) dX12_tieName_25 rfl (by decide) (pc' := 27) rfl ?_
      refine ax_invG [.inr (-20)] [] dX12_tieName_27 mlX12_140 sh_330 rfl rfl rfl (Nat.le_of_ble_eq_true rfl) (s_X12_is E l _ (by omega) _ 17 hta hat0 htk (by first | omega | assumption) (by first | omega | assumption)) (pc' := 30) rfl (fun vv M_27 hq co27 hcm27 => ?_)
      obtain ⟨rfl, rfl⟩ := hq
      refine ax_reS (st2 := [.inl (f_b (f_isW ta tk at0 17))]) rfl ?_
      refine ax_if_eq (tgt := 38) dX12_tieName_30 (by decide) (pc' := 33) rfl (fun h30 => ?_) (fun h30 => ?_)
      · replace h30 := f_b_0 h30
        refine ax_aload_n dX12_tieName_38 rfl rfl (pc' := 39) rfl ?_
        refine ax_invG [] [] dX12_tieName_39 mlX12_160 sh_330 rfl rfl rfl (Nat.le_of_ble_eq_true rfl) (s_X12_bothName E l _ (by omega) _ hta hat0 htk (by first | omega | assumption)) (pc' := 42) rfl (fun vv M_39 hq co39 hcm39 => ?_)
        obtain ⟨rfl, rfl⟩ := hq
        refine ax_reS (st2 := [.inl (f_nmB ta tk at0)]) rfl ?_
        have cc39 : -2147483648 ≤ f_nmB ta tk at0 ∧ f_nmB ta tk at0 < 2147483648 := co39 _ rfl
        refine ax_iret dX12_tieName_42 rfl ?_
        refine ⟨rfl, ?_, ?_⟩
        · refine congrArg (fun z => some (Sum.inl z)) ?_
          unfold f_nmT
          repeat' split
          all_goals first | rfl | contradiction | (exfalso; omega) | omega
        · rfl
      · replace h30 := f_b_1 h30
        refine ax_bipush dX12_tieName_33 (by decide) (pc' := 35) rfl ?_
        refine ax_goto dX12_tieName_35 (pc' := 42) (by decide) ?_
        refine ax_iret dX12_tieName_42 rfl ?_
        refine ⟨rfl, ?_, ?_⟩
        · refine congrArg (fun z => some (Sum.inl z)) ?_
          unfold f_nmT
          repeat' split
          all_goals first | rfl | contradiction | (exfalso; omega) | omega
        · rfl
    · replace h18 := f_b_1 h18
      refine ax_bipush dX12_tieName_21 (by decide) (pc' := 23) rfl ?_
      refine ax_iret dX12_tieName_23 rfl ?_
      refine ⟨rfl, ?_, ?_⟩
      · refine congrArg (fun z => some (Sum.inl z)) ?_
        unfold f_nmT
        repeat' split
        all_goals first | rfl | contradiction | (exfalso; omega) | omega
      · rfl
  · replace h6 := f_b_1 h6
    refine ax_bipush dX12_tieName_9 (by decide) (pc' := 11) rfl ?_
    refine ax_iret dX12_tieName_11 rfl ?_
    refine ⟨rfl, ?_, ?_⟩
    · refine congrArg (fun z => some (Sum.inl z)) ?_
      unfold f_nmT
      repeat' split
      all_goals first | rfl | contradiction | (exfalso; omega) | omega
    · rfl
set_option maxRecDepth 20000 in
theorem s_X12_holdName (E : ax_Env) (l : Launch) (d : Nat) (hd : 6 ≤ d) (M : ax_Mem) {ta : Int → Int} (hta : M 339 = ta) {at0 : Int} (hat0 : M 330 18 = at0) {tk : Int} (htk : M 330 20 = tk) (hg0 : 0 ≤ tk ∧ tk ≤ at0 ∧ at0 ≤ 400) : ax_G E l d iX12_holdName [.inr 330] M (fun z0 M2 => z0 = some (.inl (f_nmH ta tk at0)) ∧ M = M2) := by
  obtain ⟨d, rfl⟩ : ∃ d0, d = d0 + 1 := ⟨d - 1, by omega⟩
  refine ax_start rfl (Nat.le_of_ble_eq_true rfl) (ls := [some (.inr 330)]) rfl (fun hav hcm => ?_)
  clear hav
  refine ax_aload_n dX12_holdName_0 rfl rfl (pc' := 1) rfl ?_
  refine ax_ldcS (i := 23) (r := (-26)) dX12_holdName_1 rfl (by decide) (pc' := 3) rfl ?_
  refine ax_invG [.inr (-26)] [] dX12_holdName_3 mlX12_140 sh_330 rfl rfl rfl (Nat.le_of_ble_eq_true rfl) (s_X12_is E l _ (by omega) _ 23 hta hat0 htk (by first | omega | assumption) (by first | omega | assumption)) (pc' := 6) rfl (fun vv M_3 hq co3 hcm3 => ?_)
  obtain ⟨rfl, rfl⟩ := hq
  refine ax_reS (st2 := [.inl (f_b (f_isW ta tk at0 23))]) rfl ?_
  refine ax_if_eq (tgt := 12) dX12_holdName_6 (by decide) (pc' := 9) rfl (fun h6 => ?_) (fun h6 => ?_)
  · replace h6 := f_b_0 h6
    refine ax_aload_n dX12_holdName_12 rfl rfl (pc' := 13) rfl ?_
    refine ax_ldcS (i := 24) (r := (-27)) dX12_holdName_13 rfl (by decide) (pc' := 15) rfl ?_
    refine ax_invG [.inr (-27)] [] dX12_holdName_15 mlX12_140 sh_330 rfl rfl rfl (Nat.le_of_ble_eq_true rfl) (s_X12_is E l _ (by omega) _ 24 hta hat0 htk (by first | omega | assumption) (by first | omega | assumption)) (pc' := 18) rfl (fun vv M_15 hq co15 hcm15 => ?_)
    obtain ⟨rfl, rfl⟩ := hq
    refine ax_reS (st2 := [.inl (f_b (f_isW ta tk at0 24))]) rfl ?_
    refine ax_if_eq (tgt := 24) dX12_holdName_18 (by decide) (pc' := 21) rfl (fun h18 => ?_) (fun h18 => ?_)
    · replace h18 := f_b_0 h18
      refine ax_aload_n dX12_holdName_24 rfl rfl (pc' := 25) rfl ?_
      refine ax_ldcS (i := 22) (r := (-25)) dX12_holdName_25 rfl (by decide) (pc' := 27) rfl ?_
      refine ax_invG [.inr (-25)] [] dX12_holdName_27 mlX12_140 sh_330 rfl rfl rfl (Nat.le_of_ble_eq_true rfl) (s_X12_is E l _ (by omega) _ 22 hta hat0 htk (by first | omega | assumption) (by first | omega | assumption)) (pc' := 30) rfl (fun vv M_27 hq co27 hcm27 => ?_)
      obtain ⟨rfl, rfl⟩ := hq
      refine ax_reS (st2 := [.inl (f_b (f_isW ta tk at0 22))]) rfl ?_
      refine ax_if_eq (tgt := 36) dX12_holdName_30 (by decide) (pc' := 33) rfl (fun h30 => ?_) (fun h30 => ?_)
      · replace h30 := f_b_0 h30
        refine ax_aload_n dX12_holdName_36 rfl rfl (pc' := 37) rfl ?_
        refine ax_ldcS (i := 25) (r := (-28)) dX12_holdName_37 rfl (by decide) (pc' := 39) rfl ?_
        refine ax_invG [.inr (-28)] [] dX12_holdName_39 mlX12_140 sh_330 rfl rfl rfl (Nat.le_of_ble_eq_true rfl) (s_X12_is E l _ (by omega) _ 25 hta hat0 htk (by first | omega | assumption) (by first | omega | assumption)) (pc' := 42) rfl (fun vv M_39 hq co39 hcm39 => ?_)
        obtain ⟨rfl, rfl⟩ := hq
        refine ax_reS (st2 := [.inl (f_b (f_isW ta tk at0 25))]) rfl ?_
        refine ax_if_eq (tgt := 48) dX12_holdName_42 (by decide) (pc' := 45) rfl (fun h42 => ?_) (fun h42 => ?_)
        · replace h42 := f_b_0 h42
          refine ax_aload_n dX12_holdName_48 rfl rfl (pc' := 49) rfl ?_
          refine ax_ldcS (i := 26) (r := (-29)) dX12_holdName_49 rfl (by decide) (pc' := 51) rfl ?_
          refine ax_invG [.inr (-29)] [] dX12_holdName_51 mlX12_140 sh_330 rfl rfl rfl (Nat.le_of_ble_eq_true rfl) (s_X12_is E l _ (by omega) _ 26 hta hat0 htk (by first | omega | assumption) (by first | omega | assumption)) (pc' := 54) rfl (fun vv M_51 hq co51 hcm51 => ?_)
          obtain ⟨rfl, rfl⟩ := hq
          refine ax_reS (st2 := [.inl (f_b (f_isW ta tk at0 26))]) rfl ?_
          refine ax_if_eq (tgt := 60) dX12_holdName_54 (by decide) (pc' := 57) rfl (fun h54 => ?_) (fun h54 => ?_)
          · replace h54 := f_b_0 h54
            refine ax_aload_n dX12_holdName_60 rfl rfl (pc' := 61) rfl ?_
            refine ax_ldcS (i := 20) (r := (-23)) dX12_holdName_61 rfl (by decide) (pc' := 63) rfl ?_
            refine ax_invG [.inr (-23)] [] dX12_holdName_63 mlX12_140 sh_330 rfl rfl rfl (Nat.le_of_ble_eq_true rfl) (s_X12_is E l _ (by omega) _ 20 hta hat0 htk (by first | omega | assumption) (by first | omega | assumption)) (pc' := 66) rfl (fun vv M_63 hq co63 hcm63 => ?_)
            obtain ⟨rfl, rfl⟩ := hq
            refine ax_reS (st2 := [.inl (f_b (f_isW ta tk at0 20))]) rfl ?_
            refine ax_if_eq (tgt := 72) dX12_holdName_66 (by decide) (pc' := 69) rfl (fun h66 => ?_) (fun h66 => ?_)
            · replace h66 := f_b_0 h66
              refine ax_aload_n dX12_holdName_72 rfl rfl (pc' := 73) rfl ?_
              refine ax_ldcS (i := 27) (r := (-30)) dX12_holdName_73 rfl (by decide) (pc' := 75) rfl ?_
              refine ax_invG [.inr (-30)] [] dX12_holdName_75 mlX12_140 sh_330 rfl rfl rfl (Nat.le_of_ble_eq_true rfl) (s_X12_is E l _ (by omega) _ 27 hta hat0 htk (by first | omega | assumption) (by first | omega | assumption)) (pc' := 78) rfl (fun vv M_75 hq co75 hcm75 => ?_)
              obtain ⟨rfl, rfl⟩ := hq
              refine ax_reS (st2 := [.inl (f_b (f_isW ta tk at0 27))]) rfl ?_
              refine ax_if_eq (tgt := 84) dX12_holdName_78 (by decide) (pc' := 81) rfl (fun h78 => ?_) (fun h78 => ?_)
              · replace h78 := f_b_0 h78
                refine ax_aload_n dX12_holdName_84 rfl rfl (pc' := 85) rfl ?_
                refine ax_ldcS (i := 8) (r := (-11)) dX12_holdName_85 rfl (by decide) (pc' := 87) rfl ?_
                refine ax_invG [.inr (-11)] [] dX12_holdName_87 mlX12_140 sh_330 rfl rfl rfl (Nat.le_of_ble_eq_true rfl) (s_X12_is E l _ (by omega) _ 8 hta hat0 htk (by first | omega | assumption) (by first | omega | assumption)) (pc' := 90) rfl (fun vv M_87 hq co87 hcm87 => ?_)
                obtain ⟨rfl, rfl⟩ := hq
                refine ax_reS (st2 := [.inl (f_b (f_isW ta tk at0 8))]) rfl ?_
                refine ax_if_eq (tgt := 96) dX12_holdName_90 (by decide) (pc' := 93) rfl (fun h90 => ?_) (fun h90 => ?_)
                · replace h90 := f_b_0 h90
                  refine ax_aload_n dX12_holdName_96 rfl rfl (pc' := 97) rfl ?_
                  refine ax_ldcS (i := 28) (r := (-31)) dX12_holdName_97 rfl (by decide) (pc' := 99) rfl ?_
                  refine ax_invG [.inr (-31)] [] dX12_holdName_99 mlX12_140 sh_330 rfl rfl rfl (Nat.le_of_ble_eq_true rfl) (s_X12_is E l _ (by omega) _ 28 hta hat0 htk (by first | omega | assumption) (by first | omega | assumption)) (pc' := 102) rfl (fun vv M_99 hq co99 hcm99 => ?_)
                  obtain ⟨rfl, rfl⟩ := hq
                  refine ax_reS (st2 := [.inl (f_b (f_isW ta tk at0 28))]) rfl ?_
                  refine ax_if_eq (tgt := 110) dX12_holdName_102 (by decide) (pc' := 105) rfl (fun h102 => ?_) (fun h102 => ?_)
                  · replace h102 := f_b_0 h102
                    refine ax_iconst dX12_holdName_110 (by decide) (pc' := 111) rfl ?_
                    refine ax_iret dX12_holdName_111 rfl ?_
                    refine ⟨rfl, ?_, ?_⟩
                    · refine congrArg (fun z => some (Sum.inl z)) ?_
                      unfold f_nmH
                      repeat' split
                      all_goals first | rfl | contradiction | (exfalso; omega) | omega
                    · rfl
                  · replace h102 := f_b_1 h102
                    refine ax_bipush dX12_holdName_105 (by decide) (pc' := 107) rfl ?_
                    refine ax_goto dX12_holdName_107 (pc' := 111) (by decide) ?_
                    refine ax_iret dX12_holdName_111 rfl ?_
                    refine ⟨rfl, ?_, ?_⟩
                    · refine congrArg (fun z => some (Sum.inl z)) ?_
                      unfold f_nmH
                      repeat' split
                      all_goals first | rfl | contradiction | (exfalso; omega) | omega
                    · rfl
                · replace h90 := f_b_1 h90
                  refine ax_bipush dX12_holdName_93 (by decide) (pc' := 95) rfl ?_
                  refine ax_iret dX12_holdName_95 rfl ?_
                  refine ⟨rfl, ?_, ?_⟩
                  · refine congrArg (fun z => some (Sum.inl z)) ?_
                    unfold f_nmH
                    repeat' split
                    all_goals first | rfl | contradiction | (exfalso; omega) | omega
                  · rfl
              · replace h78 := f_b_1 h78
                refine ax_bipush dX12_holdName_81 (by decide) (pc' := 83) rfl ?_
                refine ax_iret dX12_holdName_83 rfl ?_
                refine ⟨rfl, ?_, ?_⟩
                · refine congrArg (fun z => some (Sum.inl z)) ?_
                  unfold f_nmH
                  repeat' split
                  all_goals first | rfl | contradiction | (exfalso; omega) | omega
                · rfl
            · replace h66 := f_b_1 h66
              refine ax_bipush dX12_holdName_69 (by decide) (pc' := 71) rfl ?_
              refine ax_iret dX12_holdName_71 rfl ?_
              refine ⟨rfl, ?_, ?_⟩
              · refine congrArg (fun z => some (Sum.inl z)) ?_
                unfold f_nmH
                repeat' split
                all_goals first | rfl | contradiction | (exfalso; omega) | omega
              · rfl
          · replace h54 := f_b_1 h54
            refine ax_bipush dX12_holdName_57 (by decide) (pc' := 59) rfl ?_
            refine ax_iret dX12_holdName_59 rfl ?_
            refine ⟨rfl, ?_, ?_⟩
            · refine congrArg (fun z => some (Sum.inl z)) ?_
              unfold f_nmH
              repeat' split
              all_goals first | rfl | contradiction | (exfalso; omega) | omega
            · rfl
        · replace h42 := f_b_1 h42
          refine ax_bipush dX12_holdName_45 (by decide) (pc' := 47) rfl ?_
          refine ax_iret dX12_holdName_47 rfl ?_
          refine ⟨rfl, ?_, ?_⟩
          · refine congrArg (fun z => some (Sum.inl z)) ?_
            unfold f_nmH
            repeat' split
            all_goals first | rfl | contradiction | (exfalso; omega) | omega
          · rfl
      · replace h30 := f_b_1 h30
        refine ax_bipush dX12_holdName_33 (by decide) (pc' := 35) rfl ?_
        refine ax_iret dX12_holdName_35 rfl ?_
        refine ⟨rfl, ?_, ?_⟩
        · refine congrArg (fun z => some (Sum.inl z)) ?_
          unfold f_nmH
          repeat' split
          all_goals first | rfl | contradiction | (exfalso; omega) | omega
        · rfl
    · replace h18 := f_b_1 h18
      refine ax_bipush dX12_holdName_21 (by decide) (pc' := 23) rfl ?_
      refine ax_iret dX12_holdName_23 rfl ?_
      refine ⟨rfl, ?_, ?_⟩
      · refine congrArg (fun z => some (Sum.inl z)) ?_
        unfold f_nmH
        repeat' split
        all_goals first | rfl | contradiction | (exfalso; omega) | omega
      · rfl
  · replace h6 := f_b_1 h6
    refine ax_bipush dX12_holdName_9 (by decide) (pc' := 11) rfl ?_
    refine ax_iret dX12_holdName_11 rfl ?_
    refine ⟨rfl, ?_, ?_⟩
    · refine congrArg (fun z => some (Sum.inl z)) ?_
      unfold f_nmH
      repeat' split
      all_goals first | rfl | contradiction | (exfalso; omega) | omega
    · rfl
set_option maxRecDepth 20000 in
theorem s_X12_drillWord (E : ax_Env) (l : Launch) (d : Nat) (hd : 6 ≤ d) (M : ax_Mem) {ta : Int → Int} (hta : M 339 = ta) {at0 : Int} (hat0 : M 330 18 = at0) {tk : Int} (htk : M 330 20 = tk) (hg0 : 0 ≤ tk ∧ tk ≤ at0 ∧ at0 ≤ 400) : ax_G E l d iX12_drillWord [.inr 330] M (fun z0 M2 => z0 = some (.inl (f_nmD ta tk at0)) ∧ M = M2) := by
  obtain ⟨d, rfl⟩ : ∃ d0, d = d0 + 1 := ⟨d - 1, by omega⟩
  refine ax_start rfl (Nat.le_of_ble_eq_true rfl) (ls := [some (.inr 330)]) rfl (fun hav hcm => ?_)
  clear hav
  refine ax_aload_n dX12_drillWord_0 rfl rfl (pc' := 1) rfl ?_
  refine ax_ldcS (i := 5) (r := (-8)) dX12_drillWord_1 rfl (by decide) (pc' := 3) rfl ?_
  refine ax_invG [.inr (-8)] [] dX12_drillWord_3 mlX12_140 sh_330 rfl rfl rfl (Nat.le_of_ble_eq_true rfl) (s_X12_is E l _ (by omega) _ 5 hta hat0 htk (by first | omega | assumption) (by first | omega | assumption)) (pc' := 6) rfl (fun vv M_3 hq co3 hcm3 => ?_)
  obtain ⟨rfl, rfl⟩ := hq
  refine ax_reS (st2 := [.inl (f_b (f_isW ta tk at0 5))]) rfl ?_
  refine ax_if_eq (tgt := 12) dX12_drillWord_6 (by decide) (pc' := 9) rfl (fun h6 => ?_) (fun h6 => ?_)
  · replace h6 := f_b_0 h6
    refine ax_aload_n dX12_drillWord_12 rfl rfl (pc' := 13) rfl ?_
    refine ax_ldcS (i := 6) (r := (-9)) dX12_drillWord_13 rfl (by decide) (pc' := 15) rfl ?_
    refine ax_invG [.inr (-9)] [] dX12_drillWord_15 mlX12_140 sh_330 rfl rfl rfl (Nat.le_of_ble_eq_true rfl) (s_X12_is E l _ (by omega) _ 6 hta hat0 htk (by first | omega | assumption) (by first | omega | assumption)) (pc' := 18) rfl (fun vv M_15 hq co15 hcm15 => ?_)
    obtain ⟨rfl, rfl⟩ := hq
    refine ax_reS (st2 := [.inl (f_b (f_isW ta tk at0 6))]) rfl ?_
    refine ax_if_eq (tgt := 24) dX12_drillWord_18 (by decide) (pc' := 21) rfl (fun h18 => ?_) (fun h18 => ?_)
    · replace h18 := f_b_0 h18
      refine ax_aload_n dX12_drillWord_24 rfl rfl (pc' := 25) rfl ?_
      refine ax_ldcS (i := 7) (r := (-10)) dX12_drillWord_25 rfl (by decide) (pc' := 27) rfl ?_
      refine ax_invG [.inr (-10)] [] dX12_drillWord_27 mlX12_140 sh_330 rfl rfl rfl (Nat.le_of_ble_eq_true rfl) (s_X12_is E l _ (by omega) _ 7 hta hat0 htk (by first | omega | assumption) (by first | omega | assumption)) (pc' := 30) rfl (fun vv M_27 hq co27 hcm27 => ?_)
      obtain ⟨rfl, rfl⟩ := hq
      refine ax_reS (st2 := [.inl (f_b (f_isW ta tk at0 7))]) rfl ?_
      refine ax_if_eq (tgt := 36) dX12_drillWord_30 (by decide) (pc' := 33) rfl (fun h30 => ?_) (fun h30 => ?_)
      · replace h30 := f_b_0 h30
        refine ax_aload_n dX12_drillWord_36 rfl rfl (pc' := 37) rfl ?_
        refine ax_ldcS (i := 8) (r := (-11)) dX12_drillWord_37 rfl (by decide) (pc' := 39) rfl ?_
        refine ax_invG [.inr (-11)] [] dX12_drillWord_39 mlX12_140 sh_330 rfl rfl rfl (Nat.le_of_ble_eq_true rfl) (s_X12_is E l _ (by omega) _ 8 hta hat0 htk (by first | omega | assumption) (by first | omega | assumption)) (pc' := 42) rfl (fun vv M_39 hq co39 hcm39 => ?_)
        obtain ⟨rfl, rfl⟩ := hq
        refine ax_reS (st2 := [.inl (f_b (f_isW ta tk at0 8))]) rfl ?_
        refine ax_if_eq (tgt := 48) dX12_drillWord_42 (by decide) (pc' := 45) rfl (fun h42 => ?_) (fun h42 => ?_)
        · replace h42 := f_b_0 h42
          refine ax_aload_n dX12_drillWord_48 rfl rfl (pc' := 49) rfl ?_
          refine ax_ldcS (i := 9) (r := (-12)) dX12_drillWord_49 rfl (by decide) (pc' := 51) rfl ?_
          refine ax_invG [.inr (-12)] [] dX12_drillWord_51 mlX12_140 sh_330 rfl rfl rfl (Nat.le_of_ble_eq_true rfl) (s_X12_is E l _ (by omega) _ 9 hta hat0 htk (by first | omega | assumption) (by first | omega | assumption)) (pc' := 54) rfl (fun vv M_51 hq co51 hcm51 => ?_)
          obtain ⟨rfl, rfl⟩ := hq
          refine ax_reS (st2 := [.inl (f_b (f_isW ta tk at0 9))]) rfl ?_
          refine ax_if_eq (tgt := 60) dX12_drillWord_54 (by decide) (pc' := 57) rfl (fun h54 => ?_) (fun h54 => ?_)
          · replace h54 := f_b_0 h54
            refine ax_aload_n dX12_drillWord_60 rfl rfl (pc' := 61) rfl ?_
            refine ax_ldcS (i := 10) (r := (-13)) dX12_drillWord_61 rfl (by decide) (pc' := 63) rfl ?_
            refine ax_invG [.inr (-13)] [] dX12_drillWord_63 mlX12_140 sh_330 rfl rfl rfl (Nat.le_of_ble_eq_true rfl) (s_X12_is E l _ (by omega) _ 10 hta hat0 htk (by first | omega | assumption) (by first | omega | assumption)) (pc' := 66) rfl (fun vv M_63 hq co63 hcm63 => ?_)
            obtain ⟨rfl, rfl⟩ := hq
            refine ax_reS (st2 := [.inl (f_b (f_isW ta tk at0 10))]) rfl ?_
            refine ax_if_eq (tgt := 72) dX12_drillWord_66 (by decide) (pc' := 69) rfl (fun h66 => ?_) (fun h66 => ?_)
            · replace h66 := f_b_0 h66
              refine ax_aload_n dX12_drillWord_72 rfl rfl (pc' := 73) rfl ?_
              refine ax_ldcS (i := 11) (r := (-14)) dX12_drillWord_73 rfl (by decide) (pc' := 75) rfl ?_
              refine ax_invG [.inr (-14)] [] dX12_drillWord_75 mlX12_140 sh_330 rfl rfl rfl (Nat.le_of_ble_eq_true rfl) (s_X12_is E l _ (by omega) _ 11 hta hat0 htk (by first | omega | assumption) (by first | omega | assumption)) (pc' := 78) rfl (fun vv M_75 hq co75 hcm75 => ?_)
              obtain ⟨rfl, rfl⟩ := hq
              refine ax_reS (st2 := [.inl (f_b (f_isW ta tk at0 11))]) rfl ?_
              refine ax_if_eq (tgt := 86) dX12_drillWord_78 (by decide) (pc' := 81) rfl (fun h78 => ?_) (fun h78 => ?_)
              · replace h78 := f_b_0 h78
                refine ax_iconst dX12_drillWord_86 (by decide) (pc' := 87) rfl ?_
                refine ax_iret dX12_drillWord_87 rfl ?_
                refine ⟨rfl, ?_, ?_⟩
                · refine congrArg (fun z => some (Sum.inl z)) ?_
                  unfold f_nmD
                  repeat' split
                  all_goals first | rfl | contradiction | (exfalso; omega) | omega
                · rfl
              · replace h78 := f_b_1 h78
                refine ax_bipush dX12_drillWord_81 (by decide) (pc' := 83) rfl ?_
                refine ax_goto dX12_drillWord_83 (pc' := 87) (by decide) ?_
                refine ax_iret dX12_drillWord_87 rfl ?_
                refine ⟨rfl, ?_, ?_⟩
                · refine congrArg (fun z => some (Sum.inl z)) ?_
                  unfold f_nmD
                  repeat' split
                  all_goals first | rfl | contradiction | (exfalso; omega) | omega
                · rfl
            · replace h66 := f_b_1 h66
              refine ax_bipush dX12_drillWord_69 (by decide) (pc' := 71) rfl ?_
              refine ax_iret dX12_drillWord_71 rfl ?_
              refine ⟨rfl, ?_, ?_⟩
              · refine congrArg (fun z => some (Sum.inl z)) ?_
                unfold f_nmD
                repeat' split
                all_goals first | rfl | contradiction | (exfalso; omega) | omega
              · rfl
          · replace h54 := f_b_1 h54
            refine ax_bipush dX12_drillWord_57 (by decide) (pc' := 59) rfl ?_
            refine ax_iret dX12_drillWord_59 rfl ?_
            refine ⟨rfl, ?_, ?_⟩
            · refine congrArg (fun z => some (Sum.inl z)) ?_
              unfold f_nmD
              repeat' split
              all_goals first | rfl | contradiction | (exfalso; omega) | omega
            · rfl
        · replace h42 := f_b_1 h42
          refine ax_bipush dX12_drillWord_45 (by decide) (pc' := 47) rfl ?_
          refine ax_iret dX12_drillWord_47 rfl ?_
          refine ⟨rfl, ?_, ?_⟩
          · refine congrArg (fun z => some (Sum.inl z)) ?_
            unfold f_nmD
            repeat' split
            all_goals first | rfl | contradiction | (exfalso; omega) | omega
          · rfl
      · replace h30 := f_b_1 h30
        refine ax_bipush dX12_drillWord_33 (by decide) (pc' := 35) rfl ?_
        refine ax_iret dX12_drillWord_35 rfl ?_
        refine ⟨rfl, ?_, ?_⟩
        · refine congrArg (fun z => some (Sum.inl z)) ?_
          unfold f_nmD
          repeat' split
          all_goals first | rfl | contradiction | (exfalso; omega) | omega
        · rfl
    · replace h18 := f_b_1 h18
      refine ax_bipush dX12_drillWord_21 (by decide) (pc' := 23) rfl ?_
      refine ax_iret dX12_drillWord_23 rfl ?_
      refine ⟨rfl, ?_, ?_⟩
      · refine congrArg (fun z => some (Sum.inl z)) ?_
        unfold f_nmD
        repeat' split
        all_goals first | rfl | contradiction | (exfalso; omega) | omega
      · rfl
  · replace h6 := f_b_1 h6
    refine ax_bipush dX12_drillWord_9 (by decide) (pc' := 11) rfl ?_
    refine ax_iret dX12_drillWord_11 rfl ?_
    refine ⟨rfl, ?_, ?_⟩
    · refine congrArg (fun z => some (Sum.inl z)) ?_
      unfold f_nmD
      repeat' split
      all_goals first | rfl | contradiction | (exfalso; omega) | omega
    · rfl
set_option maxRecDepth 20000 in
theorem s_X12_word (E : ax_Env) (l : Launch) (d : Nat) (hd : 8 ≤ d) (M : ax_Mem) {ta : Int → Int} (hta : M 339 = ta) {at0 : Int} (hat0 : M 330 18 = at0) {tk : Int} (htk : M 330 20 = tk) {rd : Int} (hrd : M 330 13 = rd) (hg0 : 0 ≤ tk ∧ tk ≤ at0 ∧ at0 ≤ 400) : ax_G E l d iX12_word [.inr 330] M (fun z0 M2 => z0 = some (.inl (f_wrd ta tk at0 rd)) ∧ M = M2) := by
  obtain ⟨d, rfl⟩ : ∃ d0, d = d0 + 1 := ⟨d - 1, by omega⟩
  refine ax_start rfl (Nat.le_of_ble_eq_true rfl) (ls := [some (.inr 330)]) rfl (fun hav hcm => ?_)
  clear hav
  refine ax_aload_n dX12_word_0 rfl rfl (pc' := 1) rfl ?_
  refine ax_geti (v := rd) dX12_word_1 flX12_182 rfl sh_330 hrd rfl (pc' := 4) rfl ?_
  refine ax_iconst dX12_word_4 (by decide) (pc' := 5) rfl ?_
  refine ax_icmp_ne (tgt := 13) dX12_word_5 (by decide) (pc' := 8) rfl (fun h5 => ?_) (fun h5 => ?_)
  · refine ax_aload_n dX12_word_13 rfl rfl (pc' := 14) rfl ?_
    refine ax_ldcS (i := 12) (r := (-15)) dX12_word_14 rfl (by decide) (pc' := 16) rfl ?_
    refine ax_invG [.inr (-15)] [] dX12_word_16 mlX12_140 sh_330 rfl rfl rfl (Nat.le_of_ble_eq_true rfl) (s_X12_is E l _ (by omega) _ 12 hta hat0 htk (by first | omega | assumption) (by first | omega | assumption)) (pc' := 19) rfl (fun vv M_16 hq co16 hcm16 => ?_)
    obtain ⟨rfl, rfl⟩ := hq
    refine ax_reS (st2 := [.inl (f_b (f_isW ta tk at0 12))]) rfl ?_
    refine ax_if_eq (tgt := 24) dX12_word_19 (by decide) (pc' := 22) rfl (fun h19 => ?_) (fun h19 => ?_)
    · replace h19 := f_b_0 h19
      refine ax_aload_n dX12_word_24 rfl rfl (pc' := 25) rfl ?_
      refine ax_ldcS (i := 13) (r := (-16)) dX12_word_25 rfl (by decide) (pc' := 27) rfl ?_
      refine ax_invG [.inr (-16)] [] dX12_word_27 mlX12_140 sh_330 rfl rfl rfl (Nat.le_of_ble_eq_true rfl) (s_X12_is E l _ (by omega) _ 13 hta hat0 htk (by first | omega | assumption) (by first | omega | assumption)) (pc' := 30) rfl (fun vv M_27 hq co27 hcm27 => ?_)
      obtain ⟨rfl, rfl⟩ := hq
      refine ax_reS (st2 := [.inl (f_b (f_isW ta tk at0 13))]) rfl ?_
      refine ax_if_eq (tgt := 35) dX12_word_30 (by decide) (pc' := 33) rfl (fun h30 => ?_) (fun h30 => ?_)
      · replace h30 := f_b_0 h30
        refine ax_aload_n dX12_word_35 rfl rfl (pc' := 36) rfl ?_
        refine ax_ldcS (i := 14) (r := (-17)) dX12_word_36 rfl (by decide) (pc' := 38) rfl ?_
        refine ax_invG [.inr (-17)] [] dX12_word_38 mlX12_140 sh_330 rfl rfl rfl (Nat.le_of_ble_eq_true rfl) (s_X12_is E l _ (by omega) _ 14 hta hat0 htk (by first | omega | assumption) (by first | omega | assumption)) (pc' := 41) rfl (fun vv M_38 hq co38 hcm38 => ?_)
        obtain ⟨rfl, rfl⟩ := hq
        refine ax_reS (st2 := [.inl (f_b (f_isW ta tk at0 14))]) rfl ?_
        refine ax_if_eq (tgt := 46) dX12_word_41 (by decide) (pc' := 44) rfl (fun h41 => ?_) (fun h41 => ?_)
        · replace h41 := f_b_0 h41
          refine ax_aload_n dX12_word_46 rfl rfl (pc' := 47) rfl ?_
          refine ax_ldcS (i := 15) (r := (-18)) dX12_word_47 rfl (by decide) (pc' := 49) rfl ?_
          refine ax_invG [.inr (-18)] [] dX12_word_49 mlX12_140 sh_330 rfl rfl rfl (Nat.le_of_ble_eq_true rfl) (s_X12_is E l _ (by omega) _ 15 hta hat0 htk (by first | omega | assumption) (by first | omega | assumption)) (pc' := 52) rfl (fun vv M_49 hq co49 hcm49 => ?_)
          obtain ⟨rfl, rfl⟩ := hq
          refine ax_reS (st2 := [.inl (f_b (f_isW ta tk at0 15))]) rfl ?_
          refine ax_if_eq (tgt := 58) dX12_word_52 (by decide) (pc' := 55) rfl (fun h52 => ?_) (fun h52 => ?_)
          · replace h52 := f_b_0 h52
            refine ax_aload_n dX12_word_58 rfl rfl (pc' := 59) rfl ?_
            refine ax_geti (v := rd) dX12_word_59 flX12_182 rfl sh_330 hrd rfl (pc' := 62) rfl ?_
            refine ax_if_ne (tgt := 70) dX12_word_62 (by decide) (pc' := 65) rfl (fun h62 => ?_) (fun h62 => ?_)
            · refine ax_aload_n dX12_word_70 rfl rfl (pc' := 71) rfl ?_
              refine ax_geti (v := rd) dX12_word_71 flX12_182 rfl sh_330 hrd rfl (pc' := 74) rfl ?_
              refine ax_iconst dX12_word_74 (by decide) (pc' := 75) rfl ?_
              refine ax_icmp_ne (tgt := 85) dX12_word_75 (by decide) (pc' := 78) rfl (fun h75 => ?_) (fun h75 => ?_)
              · refine ax_aload_n dX12_word_85 rfl rfl (pc' := 86) rfl ?_
                refine ax_ldcS (i := 29) (r := (-32)) dX12_word_86 rfl (by decide) (pc' := 88) rfl ?_
                refine ax_invG [.inr (-32)] [] dX12_word_88 mlX12_140 sh_330 rfl rfl rfl (Nat.le_of_ble_eq_true rfl) (s_X12_is E l _ (by omega) _ 29 hta hat0 htk (by first | omega | assumption) (by first | omega | assumption)) (pc' := 91) rfl (fun vv M_88 hq co88 hcm88 => ?_)
                obtain ⟨rfl, rfl⟩ := hq
                refine ax_reS (st2 := [.inl (f_b (f_isW ta tk at0 29))]) rfl ?_
                refine ax_if_eq (tgt := 99) dX12_word_91 (by decide) (pc' := 94) rfl (fun h91 => ?_) (fun h91 => ?_)
                · replace h91 := f_b_0 h91
                  refine ax_aload_n dX12_word_99 rfl rfl (pc' := 100) rfl ?_
                  refine ax_invG [] [] dX12_word_100 mlX12_160 sh_330 rfl rfl rfl (Nat.le_of_ble_eq_true rfl) (s_X12_bothName E l _ (by omega) _ hta hat0 htk (by first | omega | assumption)) (pc' := 103) rfl (fun vv M_100 hq co100 hcm100 => ?_)
                  obtain ⟨rfl, rfl⟩ := hq
                  refine ax_reS (st2 := [.inl (f_nmB ta tk at0)]) rfl ?_
                  have cc100 : -2147483648 ≤ f_nmB ta tk at0 ∧ f_nmB ta tk at0 < 2147483648 := co100 _ rfl
                  refine ax_iret dX12_word_103 rfl ?_
                  refine ⟨rfl, ?_, ?_⟩
                  · refine congrArg (fun z => some (Sum.inl z)) ?_
                    unfold f_wrd
                    repeat' split
                    all_goals first | rfl | contradiction | (exfalso; omega) | omega
                  · rfl
                · replace h91 := f_b_1 h91
                  refine ax_bipush dX12_word_94 (by decide) (pc' := 96) rfl ?_
                  refine ax_goto dX12_word_96 (pc' := 103) (by decide) ?_
                  refine ax_iret dX12_word_103 rfl ?_
                  refine ⟨rfl, ?_, ?_⟩
                  · refine congrArg (fun z => some (Sum.inl z)) ?_
                    unfold f_wrd
                    repeat' split
                    all_goals first | rfl | contradiction | (exfalso; omega) | omega
                  · rfl
              · refine ax_aload_n dX12_word_78 rfl rfl (pc' := 79) rfl ?_
                refine ax_invG [] [] dX12_word_79 mlX12_199 sh_330 rfl rfl rfl (Nat.le_of_ble_eq_true rfl) (s_X12_holdName E l _ (by omega) _ hta hat0 htk (by first | omega | assumption)) (pc' := 82) rfl (fun vv M_79 hq co79 hcm79 => ?_)
                obtain ⟨rfl, rfl⟩ := hq
                refine ax_reS (st2 := [.inl (f_nmH ta tk at0)]) rfl ?_
                have cc79 : -2147483648 ≤ f_nmH ta tk at0 ∧ f_nmH ta tk at0 < 2147483648 := co79 _ rfl
                refine ax_goto dX12_word_82 (pc' := 103) (by decide) ?_
                refine ax_iret dX12_word_103 rfl ?_
                refine ⟨rfl, ?_, ?_⟩
                · refine congrArg (fun z => some (Sum.inl z)) ?_
                  unfold f_wrd
                  repeat' split
                  all_goals first | rfl | contradiction | (exfalso; omega) | omega
                · rfl
            · refine ax_aload_n dX12_word_65 rfl rfl (pc' := 66) rfl ?_
              refine ax_invG [] [] dX12_word_66 mlX12_196 sh_330 rfl rfl rfl (Nat.le_of_ble_eq_true rfl) (s_X12_tieName E l _ (by omega) _ hta hat0 htk (by first | omega | assumption)) (pc' := 69) rfl (fun vv M_66 hq co66 hcm66 => ?_)
              obtain ⟨rfl, rfl⟩ := hq
              refine ax_reS (st2 := [.inl (f_nmT ta tk at0)]) rfl ?_
              have cc66 : -2147483648 ≤ f_nmT ta tk at0 ∧ f_nmT ta tk at0 < 2147483648 := co66 _ rfl
              refine ax_iret dX12_word_69 rfl ?_
              refine ⟨rfl, ?_, ?_⟩
              · refine congrArg (fun z => some (Sum.inl z)) ?_
                unfold f_wrd
                repeat' split
                all_goals first | rfl | contradiction | (exfalso; omega) | omega
              · rfl
          · replace h52 := f_b_1 h52
            refine ax_bipush dX12_word_55 (by decide) (pc' := 57) rfl ?_
            refine ax_iret dX12_word_57 rfl ?_
            refine ⟨rfl, ?_, ?_⟩
            · refine congrArg (fun z => some (Sum.inl z)) ?_
              unfold f_wrd
              repeat' split
              all_goals first | rfl | contradiction | (exfalso; omega) | omega
            · rfl
        · replace h41 := f_b_1 h41
          refine ax_iconst dX12_word_44 (by decide) (pc' := 45) rfl ?_
          refine ax_iret dX12_word_45 rfl ?_
          refine ⟨rfl, ?_, ?_⟩
          · refine congrArg (fun z => some (Sum.inl z)) ?_
            unfold f_wrd
            repeat' split
            all_goals first | rfl | contradiction | (exfalso; omega) | omega
          · rfl
      · replace h30 := f_b_1 h30
        refine ax_iconst dX12_word_33 (by decide) (pc' := 34) rfl ?_
        refine ax_iret dX12_word_34 rfl ?_
        refine ⟨rfl, ?_, ?_⟩
        · refine congrArg (fun z => some (Sum.inl z)) ?_
          unfold f_wrd
          repeat' split
          all_goals first | rfl | contradiction | (exfalso; omega) | omega
        · rfl
    · replace h19 := f_b_1 h19
      refine ax_iconst dX12_word_22 (by decide) (pc' := 23) rfl ?_
      refine ax_iret dX12_word_23 rfl ?_
      refine ⟨rfl, ?_, ?_⟩
      · refine congrArg (fun z => some (Sum.inl z)) ?_
        unfold f_wrd
        repeat' split
        all_goals first | rfl | contradiction | (exfalso; omega) | omega
      · rfl
  · refine ax_aload_n dX12_word_8 rfl rfl (pc' := 9) rfl ?_
    refine ax_invG [] [] dX12_word_9 mlX12_185 sh_330 rfl rfl rfl (Nat.le_of_ble_eq_true rfl) (s_X12_drillWord E l _ (by omega) _ hta hat0 htk (by first | omega | assumption)) (pc' := 12) rfl (fun vv M_9 hq co9 hcm9 => ?_)
    obtain ⟨rfl, rfl⟩ := hq
    refine ax_reS (st2 := [.inl (f_nmD ta tk at0)]) rfl ?_
    have cc9 : -2147483648 ≤ f_nmD ta tk at0 ∧ f_nmD ta tk at0 < 2147483648 := co9 _ rfl
    refine ax_iret dX12_word_12 rfl ?_
    refine ⟨rfl, ?_, ?_⟩
    · refine congrArg (fun z => some (Sum.inl z)) ?_
      unfold f_wrd
      repeat' split
      all_goals first | rfl | contradiction | (exfalso; omega) | omega
    · rfl
