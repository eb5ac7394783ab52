/-! the law's loop -/
set_option maxRecDepth 20000 in
theorem law_loop (E : ax_Env) (l : Launch) (d : Nat) (hd : 60 ≤ d) (Q : ax_Post) (hx : ax_xl E ≤ 3072) (hQ : ∀ S M, Q (some (.inl 1)) S M) : ∀ (n : Nat) (i : Int) (M : ax_Mem), (ax_xl E : Int) - i < (n : Int) → 0 ≤ i ∧ i ≤ 4000 → f_INV M → ax_W E l (d + 1) 0 0 iL_law 18 [some (.inr (-2)), some (.inr 0), some (.inr 330), some (.inl i)] [] SH M Q := by
  intro n
  induction n with
  | zero =>
    intro i M h1 h2 hI
    refine ax_iload_n dL_law_18 rfl rfl (pc' := 19) rfl ?_
    refine ax_aload_n dL_law_19 rfl rfl (pc' := 20) rfl ?_
    refine ax_scrl dL_law_20 (by omega) (pc' := 21) rfl ?_
    refine ax_bipush dL_law_21 (by decide) (pc' := 23) rfl ?_
    refine ax_isub dL_law_23 (by omega) (pc' := 24) rfl ?_
    refine ax_icmp_gt (tgt := 1422) dL_law_24 (by decide) (pc' := 27) rfl (fun _ => ?_) (fun h => ?_)
    · refine ax_iconst dL_law_1422 (by decide) (pc' := 1423) rfl ?_
      exact ax_zret dL_law_1423 rfl (by decide) (hQ _ _)
    · exfalso
      omega
  | succ n ih =>
    intro i M h1 h2 hI
    refine ax_iload_n dL_law_18 rfl rfl (pc' := 19) rfl ?_
    refine ax_aload_n dL_law_19 rfl rfl (pc' := 20) rfl ?_
    refine ax_scrl dL_law_20 (by omega) (pc' := 21) rfl ?_
    refine ax_bipush dL_law_21 (by decide) (pc' := 23) rfl ?_
    refine ax_isub dL_law_23 (by omega) (pc' := 24) rfl ?_
    refine ax_icmp_gt (tgt := 1422) dL_law_24 (by decide) (pc' := 27) rfl (fun _ => ?_) (fun h24 => ?_)
    · refine ax_iconst dL_law_1422 (by decide) (pc' := 1423) rfl ?_
      exact ax_zret dL_law_1423 rfl (by decide) (hQ _ _)
    · have hi : 0 ≤ i ∧ i + 6 ≤ (ax_xl E : Int) := by omega
      have kk : ∀ M2, f_INV M2 → ax_W E l (d + 1) 0 0 iL_law 1416 [some (.inr (-2)), some (.inr 0), some (.inr 330), some (.inl i)] [] SH M2 Q := by
        intro M2 h2
        refine ax_iinc dL_law_1416 rfl (by decide) (by omega) (ls' := [some (.inr (-2)), some (.inr 0), some (.inr 330), some (.inl (i + 6))]) rfl (pc' := 1419) rfl ?_
        refine ax_goto dL_law_1419 (pc' := 18) (by decide) ?_
        exact ih (i + 6) M2 (by omega) (by omega) h2
      refine ax_aload_n dL_law_27 rfl rfl (pc' := 28) rfl ?_
      refine ax_iload_n dL_law_28 rfl rfl (pc' := 29) rfl ?_
      refine ax_sald (v := (ax_xs E i.toNat).toInt) dL_law_29 (by omega) (by omega) rfl (pc' := 30) rfl ?_
      refine ax_bipush dL_law_30 (by decide) (pc' := 32) rfl ?_
      refine ax_iand dL_law_32 (pc' := 33) rfl ?_
      obtain ⟨x, qx⟩ : ∃ z, z = ax_and (ax_xs E i.toNat).toInt 63 := ⟨_, rfl⟩
      refine ax_reS (st2 := [.inl x]) (by rw [qx]) ?_
      by_cases hr : 0 ≤ x ∧ x ≤ 35
      · rcases (by omega : x = 0 ∨ x = 1 ∨ x = 2 ∨ x = 3 ∨ x = 4 ∨ x = 5 ∨ x = 6 ∨ x = 7 ∨ x = 8 ∨ x = 9 ∨ x = 10 ∨ x = 11 ∨ x = 12 ∨ x = 13 ∨ x = 14 ∨ x = 15 ∨ x = 16 ∨ x = 17 ∨ x = 18 ∨ x = 19 ∨ x = 20 ∨ x = 21 ∨ x = 22 ∨ x = 23 ∨ x = 24 ∨ x = 25 ∨ x = 26 ∨ x = 27 ∨ x = 28 ∨ x = 29 ∨ x = 30 ∨ x = 31 ∨ x = 32 ∨ x = 33 ∨ x = 34 ∨ x = 35) with h0 | h1 | h2 | h3 | h4 | h5 | h6 | h7 | h8 | h9 | h10 | h11 | h12 | h13 | h14 | h15 | h16 | h17 | h18 | h19 | h20 | h21 | h22 | h23 | h24 | h25 | h26 | h27 | h28 | h29 | h30 | h31 | h32 | h33 | h34 | h35
        · refine ax_reS (st2 := [.inl 0]) (by rw [h0]) ?_
          refine ax_tabIn (tgt := 192) dL_law_33 (by decide) (by decide) rfl (by decide) ?_
          exact lc_0 E l d hd M Q i hx hi hI kk
        · refine ax_reS (st2 := [.inl 1]) (by rw [h1]) ?_
          refine ax_tabIn (tgt := 215) dL_law_33 (by decide) (by decide) rfl (by decide) ?_
          exact lc_1 E l d hd M Q i hx hi hI kk
        · refine ax_reS (st2 := [.inl 2]) (by rw [h2]) ?_
          refine ax_tabIn (tgt := 248) dL_law_33 (by decide) (by decide) rfl (by decide) ?_
          exact lc_2 E l d hd M Q i hx hi hI kk
        · refine ax_reS (st2 := [.inl 3]) (by rw [h3]) ?_
          refine ax_tabIn (tgt := 291) dL_law_33 (by decide) (by decide) rfl (by decide) ?_
          exact lc_3 E l d hd M Q i hx hi hI kk
        · refine ax_reS (st2 := [.inl 4]) (by rw [h4]) ?_
          refine ax_tabIn (tgt := 344) dL_law_33 (by decide) (by decide) rfl (by decide) ?_
          exact lc_4 E l d hd M Q i hx hi hI kk
        · refine ax_reS (st2 := [.inl 5]) (by rw [h5]) ?_
          refine ax_tabIn (tgt := 377) dL_law_33 (by decide) (by decide) rfl (by decide) ?_
          exact lc_5 E l d hd M Q i hx hi hI kk
        · refine ax_reS (st2 := [.inl 6]) (by rw [h6]) ?_
          refine ax_tabIn (tgt := 410) dL_law_33 (by decide) (by decide) rfl (by decide) ?_
          exact lc_6 E l d hd M Q i hx hi hI kk
        · refine ax_reS (st2 := [.inl 7]) (by rw [h7]) ?_
          refine ax_tabIn (tgt := 443) dL_law_33 (by decide) (by decide) rfl (by decide) ?_
          exact lc_7 E l d hd M Q i hx hi hI kk
        · refine ax_reS (st2 := [.inl 8]) (by rw [h8]) ?_
          refine ax_tabIn (tgt := 476) dL_law_33 (by decide) (by decide) rfl (by decide) ?_
          exact lc_8 E l d hd M Q i hx hi hI kk
        · refine ax_reS (st2 := [.inl 9]) (by rw [h9]) ?_
          refine ax_tabIn (tgt := 509) dL_law_33 (by decide) (by decide) rfl (by decide) ?_
          exact lc_9 E l d hd M Q i hx hi hI kk
        · refine ax_reS (st2 := [.inl 10]) (by rw [h10]) ?_
          refine ax_tabIn (tgt := 542) dL_law_33 (by decide) (by decide) rfl (by decide) ?_
          exact lc_10 E l d hd M Q i hx hi hI kk
        · refine ax_reS (st2 := [.inl 11]) (by rw [h11]) ?_
          refine ax_tabIn (tgt := 565) dL_law_33 (by decide) (by decide) rfl (by decide) ?_
          exact lc_11 E l d hd M Q i hx hi hI kk
        · refine ax_reS (st2 := [.inl 12]) (by rw [h12]) ?_
          refine ax_tabIn (tgt := 628) dL_law_33 (by decide) (by decide) rfl (by decide) ?_
          exact lc_12 E l d hd M Q i hx hi hI kk
        · refine ax_reS (st2 := [.inl 13]) (by rw [h13]) ?_
          refine ax_tabIn (tgt := 651) dL_law_33 (by decide) (by decide) rfl (by decide) ?_
          exact lc_13 E l d hd M Q i hx hi hI kk
        · refine ax_reS (st2 := [.inl 14]) (by rw [h14]) ?_
          refine ax_tabIn (tgt := 674) dL_law_33 (by decide) (by decide) rfl (by decide) ?_
          exact lc_14 E l d hd M Q i hx hi hI kk
        · refine ax_reS (st2 := [.inl 15]) (by rw [h15]) ?_
          refine ax_tabIn (tgt := 697) dL_law_33 (by decide) (by decide) rfl (by decide) ?_
          exact lc_15 E l d hd M Q i hx hi hI kk
        · refine ax_reS (st2 := [.inl 16]) (by rw [h16]) ?_
          refine ax_tabIn (tgt := 730) dL_law_33 (by decide) (by decide) rfl (by decide) ?_
          exact lc_16 E l d hd M Q i hx hi hI kk
        · refine ax_reS (st2 := [.inl 17]) (by rw [h17]) ?_
          refine ax_tabIn (tgt := 763) dL_law_33 (by decide) (by decide) rfl (by decide) ?_
          exact lc_17 E l d hd M Q i hx hi hI kk
        · refine ax_reS (st2 := [.inl 18]) (by rw [h18]) ?_
          refine ax_tabIn (tgt := 806) dL_law_33 (by decide) (by decide) rfl (by decide) ?_
          exact lc_18 E l d hd M Q i hx hi hI kk
        · refine ax_reS (st2 := [.inl 19]) (by rw [h19]) ?_
          refine ax_tabIn (tgt := 859) dL_law_33 (by decide) (by decide) rfl (by decide) ?_
          exact lc_19 E l d hd M Q i hx hi hI kk
        · refine ax_reS (st2 := [.inl 20]) (by rw [h20]) ?_
          refine ax_tabIn (tgt := 892) dL_law_33 (by decide) (by decide) rfl (by decide) ?_
          exact lc_20 E l d hd M Q i hx hi hI kk
        · refine ax_reS (st2 := [.inl 21]) (by rw [h21]) ?_
          refine ax_tabIn (tgt := 935) dL_law_33 (by decide) (by decide) rfl (by decide) ?_
          exact lc_21 E l d hd M Q i hx hi hI kk
        · refine ax_reS (st2 := [.inl 22]) (by rw [h22]) ?_
          refine ax_tabIn (tgt := 968) dL_law_33 (by decide) (by decide) rfl (by decide) ?_
          exact lc_22 E l d hd M Q i hx hi hI kk
        · refine ax_reS (st2 := [.inl 23]) (by rw [h23]) ?_
          refine ax_tabIn (tgt := 1021) dL_law_33 (by decide) (by decide) rfl (by decide) ?_
          exact lc_23 E l d hd M Q i hx hi hI kk
        · refine ax_reS (st2 := [.inl 24]) (by rw [h24]) ?_
          refine ax_tabIn (tgt := 1054) dL_law_33 (by decide) (by decide) rfl (by decide) ?_
          exact lc_24 E l d hd M Q i hx hi hI kk
        · refine ax_reS (st2 := [.inl 25]) (by rw [h25]) ?_
          refine ax_tabIn (tgt := 1097) dL_law_33 (by decide) (by decide) rfl (by decide) ?_
          exact lc_25 E l d hd M Q i hx hi hI kk
        · refine ax_reS (st2 := [.inl 26]) (by rw [h26]) ?_
          refine ax_tabIn (tgt := 1130) dL_law_33 (by decide) (by decide) rfl (by decide) ?_
          exact lc_26 E l d hd M Q i hx hi hI kk
        · refine ax_reS (st2 := [.inl 27]) (by rw [h27]) ?_
          refine ax_tabIn (tgt := 1153) dL_law_33 (by decide) (by decide) rfl (by decide) ?_
          exact lc_27 E l d hd M Q i hx hi hI kk
        · refine ax_reS (st2 := [.inl 28]) (by rw [h28]) ?_
          refine ax_tabIn (tgt := 1176) dL_law_33 (by decide) (by decide) rfl (by decide) ?_
          exact lc_28 E l d hd M Q i hx hi hI kk
        · refine ax_reS (st2 := [.inl 29]) (by rw [h29]) ?_
          refine ax_tabIn (tgt := 1199) dL_law_33 (by decide) (by decide) rfl (by decide) ?_
          exact lc_29 E l d hd M Q i hx hi hI kk
        · refine ax_reS (st2 := [.inl 30]) (by rw [h30]) ?_
          refine ax_tabIn (tgt := 1232) dL_law_33 (by decide) (by decide) rfl (by decide) ?_
          exact lc_30 E l d hd M Q i hx hi hI kk
        · refine ax_reS (st2 := [.inl 31]) (by rw [h31]) ?_
          refine ax_tabIn (tgt := 1265) dL_law_33 (by decide) (by decide) rfl (by decide) ?_
          exact lc_31 E l d hd M Q i hx hi hI kk
        · refine ax_reS (st2 := [.inl 32]) (by rw [h32]) ?_
          refine ax_tabIn (tgt := 1298) dL_law_33 (by decide) (by decide) rfl (by decide) ?_
          exact lc_32 E l d hd M Q i hx hi hI kk
        · refine ax_reS (st2 := [.inl 33]) (by rw [h33]) ?_
          refine ax_tabIn (tgt := 1341) dL_law_33 (by decide) (by decide) rfl (by decide) ?_
          exact lc_33 E l d hd M Q i hx hi hI kk
        · refine ax_reS (st2 := [.inl 34]) (by rw [h34]) ?_
          refine ax_tabIn (tgt := 1354) dL_law_33 (by decide) (by decide) rfl (by decide) ?_
          exact lc_34 E l d hd M Q i hx hi hI kk
        · refine ax_reS (st2 := [.inl 35]) (by rw [h35]) ?_
          refine ax_tabIn (tgt := 1393) dL_law_33 (by decide) (by decide) rfl (by decide) ?_
          exact lc_35 E l d hd M Q i hx hi hI kk
      · refine ax_tabOut (tgt := 1416) dL_law_33 (by omega) (by decide) ?_
        exact kk M hI
