/-! the law: the rest of the calls -/
set_option maxRecDepth 20000 in
theorem lc_11 (E : ax_Env) (l : Launch) (d : Nat) (hd : 60 ≤ d) (M : ax_Mem) (Q : ax_Post) (i : Int) (hx : ax_xl E ≤ 3072) (hi : 0 ≤ i ∧ i + 6 ≤ (ax_xl E : Int)) (hI : f_INV M) (kk : ∀ M2, f_INV M2 → ax_W E l (d + 1) 0 0 iL_law 1416 [some (.inr (-2)), some (.inr 0), some (.inr 330), some (.inl i)] [] SH M2 Q) : ax_W E l (d + 1) 0 0 iL_law 565 [some (.inr (-2)), some (.inr 0), some (.inr 330), some (.inl i)] [] SH M Q := by
  obtain ⟨hv, Ls, Lk, hI⟩ := hI
  have hnb := hI.1.1
  have hjv := hI.1.2.1
  have hlq := hI.1.2.2
  have hpr := hI.2.1.1
  have hhs := hI.2.1.2
  have hlo := hI.2.2.1
  have qta := hI.2.2.2.1.1
  have qtn := hI.2.2.2.1.2.1
  have qt4 := hI.2.2.2.1.2.2.1
  have qtp := hI.2.2.2.1.2.2.2
  obtain ⟨a1, qa1⟩ : ∃ z, z = (ax_xs E (i + 1).toNat).toInt := ⟨_, rfl⟩
  have ca1 : -2147483648 ≤ a1 ∧ a1 < 2147483648 := by rw [qa1]; exact ax_can_toInt _
  obtain ⟨a2, qa2⟩ : ∃ z, z = (ax_xs E (i + 2).toNat).toInt := ⟨_, rfl⟩
  have ca2 : -2147483648 ≤ a2 ∧ a2 < 2147483648 := by rw [qa2]; exact ax_can_toInt _
  obtain ⟨a3, qa3⟩ : ∃ z, z = (ax_xs E (i + 3).toNat).toInt := ⟨_, rfl⟩
  have ca3 : -2147483648 ≤ a3 ∧ a3 < 2147483648 := by rw [qa3]; exact ax_can_toInt _
  obtain ⟨a4, qa4⟩ : ∃ z, z = (ax_xs E (i + 4).toNat).toInt := ⟨_, rfl⟩
  have ca4 : -2147483648 ≤ a4 ∧ a4 < 2147483648 := by rw [qa4]; exact ax_can_toInt _
  obtain ⟨a5, qa5⟩ : ∃ z, z = (ax_xs E (i + 5).toNat).toInt := ⟨_, rfl⟩
  have ca5 : -2147483648 ≤ a5 ∧ a5 < 2147483648 := by rw [qa5]; exact ax_can_toInt _
  refine ax_aload_n dL_law_565 rfl rfl (pc' := 566) rfl ?_
  refine ax_aload_n dL_law_566 rfl rfl (pc' := 567) rfl ?_
  refine ax_iload_n dL_law_567 rfl rfl (pc' := 568) rfl ?_
  refine ax_iconst dL_law_568 (by decide) (pc' := 569) rfl ?_
  refine ax_iadd dL_law_569 (by omega) (pc' := 570) rfl ?_
  refine ax_sald (v := a1) dL_law_570 (by omega) (by omega) qa1.symm (pc' := 571) rfl ?_
  refine ax_aload_n dL_law_571 rfl rfl (pc' := 572) rfl ?_
  refine ax_iload_n dL_law_572 rfl rfl (pc' := 573) rfl ?_
  refine ax_iconst dL_law_573 (by decide) (pc' := 574) rfl ?_
  refine ax_iadd dL_law_574 (by omega) (pc' := 575) rfl ?_
  refine ax_sald (v := a2) dL_law_575 (by omega) (by omega) qa2.symm (pc' := 576) rfl ?_
  refine ax_aload_n dL_law_576 rfl rfl (pc' := 577) rfl ?_
  refine ax_iload_n dL_law_577 rfl rfl (pc' := 578) rfl ?_
  refine ax_iconst dL_law_578 (by decide) (pc' := 579) rfl ?_
  refine ax_iadd dL_law_579 (by omega) (pc' := 580) rfl ?_
  refine ax_sald (v := a3) dL_law_580 (by omega) (by omega) qa3.symm (pc' := 581) rfl ?_
  refine ax_aload_n dL_law_581 rfl rfl (pc' := 582) rfl ?_
  refine ax_iload_n dL_law_582 rfl rfl (pc' := 583) rfl ?_
  refine ax_iconst dL_law_583 (by decide) (pc' := 584) rfl ?_
  refine ax_iadd dL_law_584 (by omega) (pc' := 585) rfl ?_
  refine ax_sald (v := a4) dL_law_585 (by omega) (by omega) qa4.symm (pc' := 586) rfl ?_
  refine ax_aload_n dL_law_586 rfl rfl (pc' := 587) rfl ?_
  refine ax_iload_n dL_law_587 rfl rfl (pc' := 588) rfl ?_
  refine ax_iconst dL_law_588 (by decide) (pc' := 589) rfl ?_
  refine ax_iadd dL_law_589 (by omega) (pc' := 590) rfl ?_
  refine ax_sald (v := a5) dL_law_590 (by omega) (by omega) qa5.symm (pc' := 591) rfl ?_
  by_cases hc : M 330 17 + 20 ≤ 400
  · refine ax_invG [.inl a1, .inl a2, .inl a3, .inl a4, .inl a5] [] dL_law_591 mlL_62 sh_0 rfl rfl rfl (Nat.le_of_ble_eq_true rfl) (s_X11_feed_ok E l _ (by omega) _ a1 a2 a3 a4 a5 rfl rfl (by rw [qtn]; exact ⟨qt4.1, hc⟩)) (pc' := 594) rfl (fun vv M_591 hq co591 hcm591 => ?_)
    obtain ⟨rfl, frM_591, mrM_591_0, msM_591_0⟩ := hq
    refine ax_reS (st2 := [.inl ((M 58 1) + 20)]) rfl ?_
    have cc591 : -2147483648 ≤ (M 58 1) + 20 ∧ (M 58 1) + 20 < 2147483648 := co591 _ rfl
    refine ax_aload_n dL_law_594 rfl rfl (pc' := 595) rfl ?_
    refine ax_aload_n dL_law_595 rfl rfl (pc' := 596) rfl ?_
    refine ax_iload_n dL_law_596 rfl rfl (pc' := 597) rfl ?_
    refine ax_iconst dL_law_597 (by decide) (pc' := 598) rfl ?_
    refine ax_iadd dL_law_598 (by omega) (pc' := 599) rfl ?_
    refine ax_sald (v := a1) dL_law_599 (by omega) (by omega) qa1.symm (pc' := 600) rfl ?_
    refine ax_aload_n dL_law_600 rfl rfl (pc' := 601) rfl ?_
    refine ax_iload_n dL_law_601 rfl rfl (pc' := 602) rfl ?_
    refine ax_iconst dL_law_602 (by decide) (pc' := 603) rfl ?_
    refine ax_iadd dL_law_603 (by omega) (pc' := 604) rfl ?_
    refine ax_sald (v := a2) dL_law_604 (by omega) (by omega) qa2.symm (pc' := 605) rfl ?_
    refine ax_aload_n dL_law_605 rfl rfl (pc' := 606) rfl ?_
    refine ax_iload_n dL_law_606 rfl rfl (pc' := 607) rfl ?_
    refine ax_iconst dL_law_607 (by decide) (pc' := 608) rfl ?_
    refine ax_iadd dL_law_608 (by omega) (pc' := 609) rfl ?_
    refine ax_sald (v := a3) dL_law_609 (by omega) (by omega) qa3.symm (pc' := 610) rfl ?_
    refine ax_aload_n dL_law_610 rfl rfl (pc' := 611) rfl ?_
    refine ax_iload_n dL_law_611 rfl rfl (pc' := 612) rfl ?_
    refine ax_iconst dL_law_612 (by decide) (pc' := 613) rfl ?_
    refine ax_iadd dL_law_613 (by omega) (pc' := 614) rfl ?_
    refine ax_sald (v := a4) dL_law_614 (by omega) (by omega) qa4.symm (pc' := 615) rfl ?_
    refine ax_aload_n dL_law_615 rfl rfl (pc' := 616) rfl ?_
    refine ax_iload_n dL_law_616 rfl rfl (pc' := 617) rfl ?_
    refine ax_iconst dL_law_617 (by decide) (pc' := 618) rfl ?_
    refine ax_iadd dL_law_618 (by omega) (pc' := 619) rfl ?_
    refine ax_sald (v := a5) dL_law_619 (by omega) (by omega) qa5.symm (pc' := 620) rfl ?_
    refine ax_invG [.inl a1, .inl a2, .inl a3, .inl a4, .inl a5] [.inl ((M 58 1) + 20)] dL_law_620 mlL_66 sh_330 rfl rfl rfl (Nat.le_of_ble_eq_true rfl) (s_X12_feed_ok E l _ (by omega) _ a1 a2 a3 a4 a5 ((funext fun i0 => frM_591 339 i0 (fun h => h.elim (fun h => absurd h (by decide)) (fun h => absurd h.1 (by decide)))).trans rfl) ((frM_591 330 17 (fun h => h.elim (fun h => absurd h (by decide)) (fun h => absurd h.1 (by decide)))).trans rfl) ⟨qt4.1, hc⟩) (pc' := 623) rfl (fun vv M_620 hq co620 hcm620 => ?_)
    obtain ⟨rfl, frM_620, mrM_620_0, msM_620_0⟩ := hq
    refine ax_reS (st2 := [.inl ((M 330 17) + 20), .inl ((M 58 1) + 20)]) rfl ?_
    have cc620 : -2147483648 ≤ (M 330 17) + 20 ∧ (M 330 17) + 20 < 2147483648 := co620 _ rfl
    refine ax_icmp_eq (tgt := 1416) dL_law_623 (by decide) (pc' := 626) rfl (fun h623 => ?_) (fun h623 => ?_)
    · refine kk _ (f_INV_mk (f_IV_fr (f_IV_tp (ta2 := f_feed (M 339) (M 330 17) a1 a2 a3 a4 a5) (tn2 := M 330 17 + 20) hI (fun x0 i0 hai => frM_591 x0 i0 hai) ?_ ?_ ?_ ?_) (fun x0 i0 hai => frM_620 x0 i0 (by unfold f_rc at hai; omega))) ((funext fun i0 => frM_620 331 i0 (fun h => h.elim (fun h => absurd h (by decide)) (fun h => absurd h.1 (by decide)))).trans ((funext fun i0 => frM_591 331 i0 (fun h => h.elim (fun h => absurd h (by decide)) (fun h => absurd h.1 (by decide)))).trans rfl)) ((funext fun i0 => frM_620 332 i0 (fun h => h.elim (fun h => absurd h (by decide)) (fun h => absurd h.1 (by decide)))).trans ((funext fun i0 => frM_591 332 i0 (fun h => h.elim (fun h => absurd h (by decide)) (fun h => absurd h.1 (by decide)))).trans rfl)) ((funext fun i0 => frM_620 333 i0 (fun h => h.elim (fun h => absurd h (by decide)) (fun h => absurd h.1 (by decide)))).trans ((funext fun i0 => frM_591 333 i0 (fun h => h.elim (fun h => absurd h (by decide)) (fun h => absurd h.1 (by decide)))).trans rfl)) mrM_620_0 ((frM_620 330 4 (fun h => h.elim (fun h => absurd h (by decide)) (fun h => absurd h.2 (by decide)))).trans ((frM_591 330 4 (fun h => h.elim (fun h => absurd h (by decide)) (fun h => absurd h.1 (by decide)))).trans rfl)) ((frM_620 330 5 (fun h => h.elim (fun h => absurd h (by decide)) (fun h => absurd h.2 (by decide)))).trans ((frM_591 330 5 (fun h => h.elim (fun h => absurd h (by decide)) (fun h => absurd h.1 (by decide)))).trans rfl)) msM_620_0 ((frM_620 330 24 (fun h => h.elim (fun h => absurd h (by decide)) (fun h => absurd h.2 (by decide)))).trans ((frM_591 330 24 (fun h => h.elim (fun h => absurd h (by decide)) (fun h => absurd h.1 (by decide)))).trans rfl)) ((frM_620 330 26 (fun h => h.elim (fun h => absurd h (by decide)) (fun h => absurd h.2 (by decide)))).trans ((frM_591 330 26 (fun h => h.elim (fun h => absurd h (by decide)) (fun h => absurd h.1 (by decide)))).trans rfl)) ((frM_620 330 21 (fun h => h.elim (fun h => absurd h (by decide)) (fun h => absurd h.2 (by decide)))).trans ((frM_591 330 21 (fun h => h.elim (fun h => absurd h (by decide)) (fun h => absurd h.1 (by decide)))).trans rfl)) hv)
      · refine Eq.trans mrM_591_0 ?_
        rw [qta, qtn]
      · refine Eq.trans msM_591_0 ?_
        rw [qtn]
      · exact ⟨by omega, hc⟩
      · exact f_feed_tp qtp
    · exfalso
      first | exact h623 rfl | (rw [qtn] at h623; exact h623 rfl)
  · refine ax_invG [.inl a1, .inl a2, .inl a3, .inl a4, .inl a5] [] dL_law_591 mlL_62 sh_0 rfl rfl rfl (Nat.le_of_ble_eq_true rfl) (s_X11_feed_no E l _ (by omega) _ a1 a2 a3 a4 a5 rfl (by rw [qtn]; exact qt4) (by rw [qtn]; omega)) (pc' := 594) rfl (fun vv M_591 hq co591 hcm591 => ?_)
    obtain ⟨rfl, rfl⟩ := hq
    refine ax_reS (st2 := [.inl (-1)]) rfl ?_
    refine ax_aload_n dL_law_594 rfl rfl (pc' := 595) rfl ?_
    refine ax_aload_n dL_law_595 rfl rfl (pc' := 596) rfl ?_
    refine ax_iload_n dL_law_596 rfl rfl (pc' := 597) rfl ?_
    refine ax_iconst dL_law_597 (by decide) (pc' := 598) rfl ?_
    refine ax_iadd dL_law_598 (by omega) (pc' := 599) rfl ?_
    refine ax_sald (v := a1) dL_law_599 (by omega) (by omega) qa1.symm (pc' := 600) rfl ?_
    refine ax_aload_n dL_law_600 rfl rfl (pc' := 601) rfl ?_
    refine ax_iload_n dL_law_601 rfl rfl (pc' := 602) rfl ?_
    refine ax_iconst dL_law_602 (by decide) (pc' := 603) rfl ?_
    refine ax_iadd dL_law_603 (by omega) (pc' := 604) rfl ?_
    refine ax_sald (v := a2) dL_law_604 (by omega) (by omega) qa2.symm (pc' := 605) rfl ?_
    refine ax_aload_n dL_law_605 rfl rfl (pc' := 606) rfl ?_
    refine ax_iload_n dL_law_606 rfl rfl (pc' := 607) rfl ?_
    refine ax_iconst dL_law_607 (by decide) (pc' := 608) rfl ?_
    refine ax_iadd dL_law_608 (by omega) (pc' := 609) rfl ?_
    refine ax_sald (v := a3) dL_law_609 (by omega) (by omega) qa3.symm (pc' := 610) rfl ?_
    refine ax_aload_n dL_law_610 rfl rfl (pc' := 611) rfl ?_
    refine ax_iload_n dL_law_611 rfl rfl (pc' := 612) rfl ?_
    refine ax_iconst dL_law_612 (by decide) (pc' := 613) rfl ?_
    refine ax_iadd dL_law_613 (by omega) (pc' := 614) rfl ?_
    refine ax_sald (v := a4) dL_law_614 (by omega) (by omega) qa4.symm (pc' := 615) rfl ?_
    refine ax_aload_n dL_law_615 rfl rfl (pc' := 616) rfl ?_
    refine ax_iload_n dL_law_616 rfl rfl (pc' := 617) rfl ?_
    refine ax_iconst dL_law_617 (by decide) (pc' := 618) rfl ?_
    refine ax_iadd dL_law_618 (by omega) (pc' := 619) rfl ?_
    refine ax_sald (v := a5) dL_law_619 (by omega) (by omega) qa5.symm (pc' := 620) rfl ?_
    refine ax_invG [.inl a1, .inl a2, .inl a3, .inl a4, .inl a5] [.inl (-1)] dL_law_620 mlL_66 sh_330 rfl rfl rfl (Nat.le_of_ble_eq_true rfl) (s_X12_feed_no E l _ (by omega) _ a1 a2 a3 a4 a5 rfl qt4 (by omega)) (pc' := 623) rfl (fun vv M_620 hq co620 hcm620 => ?_)
    obtain ⟨rfl, rfl⟩ := hq
    refine ax_reS (st2 := [.inl (-1), .inl (-1)]) rfl ?_
    refine ax_icmp_eq (tgt := 1416) dL_law_623 (by decide) (pc' := 626) rfl (fun h623 => ?_) (fun h623 => ?_)
    · exact kk _ ⟨hv, Ls, Lk, hI⟩
    · exfalso
      first | exact h623 rfl | (rw [qtn] at h623; exact h623 rfl)
set_option maxRecDepth 20000 in
theorem lc_12 (E : ax_Env) (l : Launch) (d : Nat) (hd : 60 ≤ d) (M : ax_Mem) (Q : ax_Post) (i : Int) (hx : ax_xl E ≤ 3072) (hi : 0 ≤ i ∧ i + 6 ≤ (ax_xl E : Int)) (hI : f_INV M) (kk : ∀ M2, f_INV M2 → ax_W E l (d + 1) 0 0 iL_law 1416 [some (.inr (-2)), some (.inr 0), some (.inr 330), some (.inl i)] [] SH M2 Q) : ax_W E l (d + 1) 0 0 iL_law 628 [some (.inr (-2)), some (.inr 0), some (.inr 330), some (.inl i)] [] SH M Q := by
  obtain ⟨hv, Ls, Lk, hI⟩ := hI
  have hnb := hI.1.1
  have hjv := hI.1.2.1
  have hlq := hI.1.2.2
  have hpr := hI.2.1.1
  have hhs := hI.2.1.2
  have hlo := hI.2.2.1
  have qta := hI.2.2.2.1.1
  have qtn := hI.2.2.2.1.2.1
  have qt4 := hI.2.2.2.1.2.2.1
  have qtp := hI.2.2.2.1.2.2.2
  obtain ⟨a1, qa1⟩ : ∃ z, z = (ax_xs E (i + 1).toNat).toInt := ⟨_, rfl⟩
  have ca1 : -2147483648 ≤ a1 ∧ a1 < 2147483648 := by rw [qa1]; exact ax_can_toInt _
  obtain ⟨a2, qa2⟩ : ∃ z, z = (ax_xs E (i + 2).toNat).toInt := ⟨_, rfl⟩
  have ca2 : -2147483648 ≤ a2 ∧ a2 < 2147483648 := by rw [qa2]; exact ax_can_toInt _
  obtain ⟨a3, qa3⟩ : ∃ z, z = (ax_xs E (i + 3).toNat).toInt := ⟨_, rfl⟩
  have ca3 : -2147483648 ≤ a3 ∧ a3 < 2147483648 := by rw [qa3]; exact ax_can_toInt _
  obtain ⟨a4, qa4⟩ : ∃ z, z = (ax_xs E (i + 4).toNat).toInt := ⟨_, rfl⟩
  have ca4 : -2147483648 ≤ a4 ∧ a4 < 2147483648 := by rw [qa4]; exact ax_can_toInt _
  obtain ⟨a5, qa5⟩ : ∃ z, z = (ax_xs E (i + 5).toNat).toInt := ⟨_, rfl⟩
  have ca5 : -2147483648 ≤ a5 ∧ a5 < 2147483648 := by rw [qa5]; exact ax_can_toInt _
  refine ax_aload_n dL_law_628 rfl rfl (pc' := 629) rfl ?_
  refine ax_aload_n dL_law_629 rfl rfl (pc' := 630) rfl ?_
  refine ax_iload_n dL_law_630 rfl rfl (pc' := 631) rfl ?_
  refine ax_iconst dL_law_631 (by decide) (pc' := 632) rfl ?_
  refine ax_iadd dL_law_632 (by omega) (pc' := 633) rfl ?_
  refine ax_sald (v := a1) dL_law_633 (by omega) (by omega) qa1.symm (pc' := 634) rfl ?_
  by_cases hc : 0 ≤ a1 ∧ a1 ≤ M 330 17
  · refine ax_invG [.inl a1] [] dL_law_634 mlL_67 sh_0 rfl rfl rfl (Nat.le_of_ble_eq_true rfl) (s_X11_end_ok E l _ (by omega) _ a1 rfl (by rw [qtn]; exact hc)) (pc' := 637) rfl (fun vv M_634 hq co634 hcm634 => ?_)
    obtain ⟨rfl, frM_634, msM_634_0⟩ := hq
    refine ax_reS (st2 := [.inl 1]) rfl ?_
    refine ax_aload_n dL_law_637 rfl rfl (pc' := 638) rfl ?_
    refine ax_aload_n dL_law_638 rfl rfl (pc' := 639) rfl ?_
    refine ax_iload_n dL_law_639 rfl rfl (pc' := 640) rfl ?_
    refine ax_iconst dL_law_640 (by decide) (pc' := 641) rfl ?_
    refine ax_iadd dL_law_641 (by omega) (pc' := 642) rfl ?_
    refine ax_sald (v := a1) dL_law_642 (by omega) (by omega) qa1.symm (pc' := 643) rfl ?_
    refine ax_invG [.inl a1] [.inl 1] dL_law_643 mlL_71 sh_330 rfl rfl rfl (Nat.le_of_ble_eq_true rfl) (s_X12_end_ok E l _ (by omega) _ a1 ((frM_634 330 17 (fun h => absurd h.1 (by decide))).trans rfl) hc) (pc' := 646) rfl (fun vv M_643 hq co643 hcm643 => ?_)
    obtain ⟨rfl, frM_643, msM_643_0⟩ := hq
    refine ax_reS (st2 := [.inl 1, .inl 1]) rfl ?_
    refine ax_icmp_eq (tgt := 1416) dL_law_646 (by decide) (pc' := 649) rfl (fun h646 => ?_) (fun h646 => ?_)
    · refine kk _ (f_INV_mk (f_IV_fr (f_IV_tp (ta2 := M 339) (tn2 := a1) hI (fun x0 i0 hai => frM_634 x0 i0 (fun q => hai (Or.inr q))) ((funext fun j0 => frM_634 59 j0 (by omega)).trans qta) msM_634_0 ⟨hc.1, by omega⟩ (fun k0 u v => qtp k0 u (by omega))) (fun x0 i0 hai => frM_643 x0 i0 (by unfold f_rc at hai; omega))) ((funext fun i0 => frM_643 331 i0 (fun h => absurd h.1 (by decide))).trans ((funext fun i0 => frM_634 331 i0 (fun h => absurd h.1 (by decide))).trans rfl)) ((funext fun i0 => frM_643 332 i0 (fun h => absurd h.1 (by decide))).trans ((funext fun i0 => frM_634 332 i0 (fun h => absurd h.1 (by decide))).trans rfl)) ((funext fun i0 => frM_643 333 i0 (fun h => absurd h.1 (by decide))).trans ((funext fun i0 => frM_634 333 i0 (fun h => absurd h.1 (by decide))).trans rfl)) ((funext fun i0 => frM_643 339 i0 (fun h => absurd h.1 (by decide))).trans ((funext fun i0 => frM_634 339 i0 (fun h => absurd h.1 (by decide))).trans rfl)) ((frM_643 330 4 (fun h => absurd h.2 (by decide))).trans ((frM_634 330 4 (fun h => absurd h.1 (by decide))).trans rfl)) ((frM_643 330 5 (fun h => absurd h.2 (by decide))).trans ((frM_634 330 5 (fun h => absurd h.1 (by decide))).trans rfl)) msM_643_0 ((frM_643 330 24 (fun h => absurd h.2 (by decide))).trans ((frM_634 330 24 (fun h => absurd h.1 (by decide))).trans rfl)) ((frM_643 330 26 (fun h => absurd h.2 (by decide))).trans ((frM_634 330 26 (fun h => absurd h.1 (by decide))).trans rfl)) ((frM_643 330 21 (fun h => absurd h.2 (by decide))).trans ((frM_634 330 21 (fun h => absurd h.1 (by decide))).trans rfl)) hv)
    · exfalso
      exact h646 rfl
  · refine ax_invG [.inl a1] [] dL_law_634 mlL_67 sh_0 rfl rfl rfl (Nat.le_of_ble_eq_true rfl) (s_X11_end_no E l _ (by omega) _ a1 rfl (by rw [qtn]; exact hc)) (pc' := 637) rfl (fun vv M_634 hq co634 hcm634 => ?_)
    obtain ⟨rfl, rfl⟩ := hq
    refine ax_reS (st2 := [.inl 0]) rfl ?_
    refine ax_aload_n dL_law_637 rfl rfl (pc' := 638) rfl ?_
    refine ax_aload_n dL_law_638 rfl rfl (pc' := 639) rfl ?_
    refine ax_iload_n dL_law_639 rfl rfl (pc' := 640) rfl ?_
    refine ax_iconst dL_law_640 (by decide) (pc' := 641) rfl ?_
    refine ax_iadd dL_law_641 (by omega) (pc' := 642) rfl ?_
    refine ax_sald (v := a1) dL_law_642 (by omega) (by omega) qa1.symm (pc' := 643) rfl ?_
    refine ax_invG [.inl a1] [.inl 0] dL_law_643 mlL_71 sh_330 rfl rfl rfl (Nat.le_of_ble_eq_true rfl) (s_X12_end_no E l _ (by omega) _ a1 rfl hc) (pc' := 646) rfl (fun vv M_643 hq co643 hcm643 => ?_)
    obtain ⟨rfl, rfl⟩ := hq
    refine ax_reS (st2 := [.inl 0, .inl 0]) rfl ?_
    refine ax_icmp_eq (tgt := 1416) dL_law_646 (by decide) (pc' := 649) rfl (fun h646 => ?_) (fun h646 => ?_)
    · exact kk _ ⟨hv, Ls, Lk, hI⟩
    · exfalso
      exact h646 rfl
set_option maxRecDepth 20000 in
theorem lc_23 (E : ax_Env) (l : Launch) (d : Nat) (hd : 60 ≤ d) (M : ax_Mem) (Q : ax_Post) (i : Int) (hx : ax_xl E ≤ 3072) (hi : 0 ≤ i ∧ i + 6 ≤ (ax_xl E : Int)) (hI : f_INV M) (kk : ∀ M2, f_INV M2 → ax_W E l (d + 1) 0 0 iL_law 1416 [some (.inr (-2)), some (.inr 0), some (.inr 330), some (.inl i)] [] SH M2 Q) : ax_W E l (d + 1) 0 0 iL_law 1021 [some (.inr (-2)), some (.inr 0), some (.inr 330), some (.inl i)] [] SH M Q := by
  obtain ⟨hv, Ls, Lk, hI⟩ := hI
  have hnb := hI.1.1
  have hjv := hI.1.2.1
  have hlq := hI.1.2.2
  have hpr := hI.2.1.1
  have hhs := hI.2.1.2
  have hlo := hI.2.2.1
  have qta := hI.2.2.2.1.1
  have qtn := hI.2.2.2.1.2.1
  have qt4 := hI.2.2.2.1.2.2.1
  have qtp := hI.2.2.2.1.2.2.2
  obtain ⟨a1, qa1⟩ : ∃ z, z = (ax_xs E (i + 1).toNat).toInt := ⟨_, rfl⟩
  have ca1 : -2147483648 ≤ a1 ∧ a1 < 2147483648 := by rw [qa1]; exact ax_can_toInt _
  obtain ⟨a2, qa2⟩ : ∃ z, z = (ax_xs E (i + 2).toNat).toInt := ⟨_, rfl⟩
  have ca2 : -2147483648 ≤ a2 ∧ a2 < 2147483648 := by rw [qa2]; exact ax_can_toInt _
  obtain ⟨a3, qa3⟩ : ∃ z, z = (ax_xs E (i + 3).toNat).toInt := ⟨_, rfl⟩
  have ca3 : -2147483648 ≤ a3 ∧ a3 < 2147483648 := by rw [qa3]; exact ax_can_toInt _
  obtain ⟨a4, qa4⟩ : ∃ z, z = (ax_xs E (i + 4).toNat).toInt := ⟨_, rfl⟩
  have ca4 : -2147483648 ≤ a4 ∧ a4 < 2147483648 := by rw [qa4]; exact ax_can_toInt _
  obtain ⟨a5, qa5⟩ : ∃ z, z = (ax_xs E (i + 5).toNat).toInt := ⟨_, rfl⟩
  have ca5 : -2147483648 ≤ a5 ∧ a5 < 2147483648 := by rw [qa5]; exact ax_can_toInt _
  refine ax_aload_n dL_law_1021 rfl rfl (pc' := 1022) rfl ?_
  refine ax_aload_n dL_law_1022 rfl rfl (pc' := 1023) rfl ?_
  refine ax_iload_n dL_law_1023 rfl rfl (pc' := 1024) rfl ?_
  refine ax_iconst dL_law_1024 (by decide) (pc' := 1025) rfl ?_
  refine ax_iadd dL_law_1025 (by omega) (pc' := 1026) rfl ?_
  refine ax_sald (v := a1) dL_law_1026 (by omega) (by omega) qa1.symm (pc' := 1027) rfl ?_
  refine ax_aload_n dL_law_1027 rfl rfl (pc' := 1028) rfl ?_
  refine ax_iload_n dL_law_1028 rfl rfl (pc' := 1029) rfl ?_
  refine ax_iconst dL_law_1029 (by decide) (pc' := 1030) rfl ?_
  refine ax_iadd dL_law_1030 (by omega) (pc' := 1031) rfl ?_
  refine ax_sald (v := a2) dL_law_1031 (by omega) (by omega) qa2.symm (pc' := 1032) rfl ?_
  by_cases hc : a1 = -1
  · refine ax_reS (st2 := [.inl a2, .inl (-1), .inr 0]) (by rw [hc]) ?_
    refine ax_invG [.inl (-1), .inl a2] [] dL_law_1032 mlL_114 sh_0 rfl rfl rfl (Nat.le_of_ble_eq_true rfl) (s_X11_told_cl E l _ (by omega) _ a2 (M 331) hlo.2.2.2.1 hlq.2.2.2.1) (pc' := 1035) rfl (fun vv M_1032 hq co1032 hcm1032 => ?_)
    obtain ⟨rfl, frM_1032, fa1032_0⟩ := hq
    refine ax_reS (st2 := [.inl 0]) rfl ?_
    refine ax_aload_n dL_law_1035 rfl rfl (pc' := 1036) rfl ?_
    refine ax_aload_n dL_law_1036 rfl rfl (pc' := 1037) rfl ?_
    refine ax_iload_n dL_law_1037 rfl rfl (pc' := 1038) rfl ?_
    refine ax_iconst dL_law_1038 (by decide) (pc' := 1039) rfl ?_
    refine ax_iadd dL_law_1039 (by omega) (pc' := 1040) rfl ?_
    refine ax_sald (v := a1) dL_law_1040 (by omega) (by omega) qa1.symm (pc' := 1041) rfl ?_
    refine ax_aload_n dL_law_1041 rfl rfl (pc' := 1042) rfl ?_
    refine ax_iload_n dL_law_1042 rfl rfl (pc' := 1043) rfl ?_
    refine ax_iconst dL_law_1043 (by decide) (pc' := 1044) rfl ?_
    refine ax_iadd dL_law_1044 (by omega) (pc' := 1045) rfl ?_
    refine ax_sald (v := a2) dL_law_1045 (by omega) (by omega) qa2.symm (pc' := 1046) rfl ?_
    refine ax_reS (st2 := [.inl a2, .inl (-1), .inr 330, .inl 0]) (by rw [hc]) ?_
    refine ax_invG [.inl (-1), .inl a2] [.inl 0] dL_law_1046 mlL_117 sh_330 rfl rfl rfl (Nat.le_of_ble_eq_true rfl) (s_X12_told_cl E l _ (by omega) _ a2 ((funext fun i0 => frM_1032 331 i0 (fun h => absurd h.1 (by decide))).trans rfl)) (pc' := 1049) rfl (fun vv M_1046 hq co1046 hcm1046 => ?_)
    obtain ⟨rfl, frM_1046, mrM_1046_0⟩ := hq
    refine ax_reS (st2 := [.inl 0, .inl 0]) rfl ?_
    refine ax_icmp_eq (tgt := 1416) dL_law_1049 (by decide) (pc' := 1052) rfl (fun h1049 => ?_) (fun h1049 => ?_)
    · have hr7 := hlq.2.2.2.1
      have hr8 := hlq.2.2.2.2.1
      have hu : ∀ j, ¬ (2577 ≤ j ∧ j < 2592 ∧ j ≠ 2578) → (f_up (M 331) 2577 0) j = M 331 j := fun j hj => f_up_o (by omega)
      refine kk _ (f_INV_mk (f_IV_fr (f_IV_lr hI (fun x0 i0 hai => frM_1032 x0 i0 (by omega)) (fun j hj => hu j (by omega)) ?_ ?_ ?_ ?_ ?_) (fun x0 i0 hai => frM_1046 x0 i0 (by unfold f_rc at hai; omega))) mrM_1046_0 ((funext fun i0 => frM_1046 332 i0 (fun h => absurd h (by decide))).trans ((funext fun i0 => frM_1032 332 i0 (fun h => absurd h.1 (by decide))).trans rfl)) ((funext fun i0 => frM_1046 333 i0 (fun h => absurd h (by decide))).trans ((funext fun i0 => frM_1032 333 i0 (fun h => absurd h.1 (by decide))).trans rfl)) ((funext fun i0 => frM_1046 339 i0 (fun h => absurd h (by decide))).trans ((funext fun i0 => frM_1032 339 i0 (fun h => absurd h.1 (by decide))).trans rfl)) ((frM_1046 330 4 (fun h => absurd h (by decide))).trans ((frM_1032 330 4 (fun h => absurd h.1 (by decide))).trans rfl)) ((frM_1046 330 5 (fun h => absurd h (by decide))).trans ((frM_1032 330 5 (fun h => absurd h.1 (by decide))).trans rfl)) ((frM_1046 330 17 (fun h => absurd h (by decide))).trans ((frM_1032 330 17 (fun h => absurd h.1 (by decide))).trans rfl)) ((frM_1046 330 24 (fun h => absurd h (by decide))).trans ((frM_1032 330 24 (fun h => absurd h.1 (by decide))).trans rfl)) ((frM_1046 330 26 (fun h => absurd h (by decide))).trans ((frM_1032 330 26 (fun h => absurd h.1 (by decide))).trans rfl)) ((frM_1046 330 21 (fun h => absurd h (by decide))).trans ((frM_1032 330 21 (fun h => absurd h.1 (by decide))).trans rfl)) hv)
      · exact fa1032_0
      · exact f_or_k hr8 ⟨funext fun j => frM_1032 51 j (by omega), frM_1032 39 8 (by omega)⟩ (fun j hj => hu j (by omega)) hlo.2.2.2.2
      · rw [f_up_same]
        decide
      · rw [hu 2578 (by omega)]
        exact hr8
      · rw [hu 2578 (by omega)]
        intro j j1 j2
        rw [hu (2592 + j) (by omega)]
        exact hlq.2.2.2.2.2 j j1 j2
    · exfalso
      exact h1049 rfl
  · by_cases hok : (0 ≤ a1 ∧ a1 ≤ 99) ∧ (-1 ≤ a2 ∧ a2 ≤ 5) ∧ (M 331) 2577 ≠ 6
    · refine ax_invG [.inl a1, .inl a2] [] dL_law_1032 mlL_114 sh_0 rfl rfl rfl (Nat.le_of_ble_eq_true rfl) (s_X11_told_ok E l _ (by omega) _ a1 a2 (M 331) hlo.2.2.2.1 hlq.2.2.2.1 hok) (pc' := 1035) rfl (fun vv M_1032 hq co1032 hcm1032 => ?_)
      obtain ⟨rfl, frM_1032, fa1032_0⟩ := hq
      refine ax_reS (st2 := [.inl ((M 331) 2577 + 1)]) rfl ?_
      have cc1032 : -2147483648 ≤ (M 331) 2577 + 1 ∧ (M 331) 2577 + 1 < 2147483648 := co1032 _ rfl
      refine ax_aload_n dL_law_1035 rfl rfl (pc' := 1036) rfl ?_
      refine ax_aload_n dL_law_1036 rfl rfl (pc' := 1037) rfl ?_
      refine ax_iload_n dL_law_1037 rfl rfl (pc' := 1038) rfl ?_
      refine ax_iconst dL_law_1038 (by decide) (pc' := 1039) rfl ?_
      refine ax_iadd dL_law_1039 (by omega) (pc' := 1040) rfl ?_
      refine ax_sald (v := a1) dL_law_1040 (by omega) (by omega) qa1.symm (pc' := 1041) rfl ?_
      refine ax_aload_n dL_law_1041 rfl rfl (pc' := 1042) rfl ?_
      refine ax_iload_n dL_law_1042 rfl rfl (pc' := 1043) rfl ?_
      refine ax_iconst dL_law_1043 (by decide) (pc' := 1044) rfl ?_
      refine ax_iadd dL_law_1044 (by omega) (pc' := 1045) rfl ?_
      refine ax_sald (v := a2) dL_law_1045 (by omega) (by omega) qa2.symm (pc' := 1046) rfl ?_
      refine ax_invG [.inl a1, .inl a2] [.inl ((M 331) 2577 + 1)] dL_law_1046 mlL_117 sh_330 rfl rfl rfl (Nat.le_of_ble_eq_true rfl) (s_X12_told_ok E l _ (by omega) _ a1 a2 ((funext fun i0 => frM_1032 331 i0 (fun h => h.elim (fun h => absurd h (by decide)) (fun h => h.elim (fun h => absurd h (by decide)) (fun h => absurd h.1 (by decide))))).trans rfl) hok hlq.2.2.2.1) (pc' := 1049) rfl (fun vv M_1046 hq co1046 hcm1046 => ?_)
      obtain ⟨rfl, frM_1046, mrM_1046_0⟩ := hq
      refine ax_reS (st2 := [.inl ((M 331) 2577 + 1), .inl ((M 331) 2577 + 1)]) rfl ?_
      have cc1046 : -2147483648 ≤ (M 331) 2577 + 1 ∧ (M 331) 2577 + 1 < 2147483648 := co1046 _ rfl
      refine ax_icmp_eq (tgt := 1416) dL_law_1049 (by decide) (pc' := 1052) rfl (fun h1049 => ?_) (fun h1049 => ?_)
      · have hr7 := hlq.2.2.2.1
        have hr8 := hlq.2.2.2.2.1
        have hu : ∀ j, ¬ (2577 ≤ j ∧ j < 2592 ∧ j ≠ 2578) → (f_up (f_up (f_up (M 331) (2580 + 2 * (M 331) 2577) a1) (2580 + 2 * (M 331) 2577 + 1) a2) 2577 ((M 331) 2577 + 1)) j = M 331 j := fun j hj => by rw [f_up_o (by omega), f_up_o (by omega), f_up_o (by omega)]
        refine kk _ (f_INV_mk (f_IV_fr (f_IV_lr hI (fun x0 i0 hai => frM_1032 x0 i0 (by omega)) (fun j hj => hu j (by omega)) ?_ ?_ ?_ ?_ ?_) (fun x0 i0 hai => frM_1046 x0 i0 (by unfold f_rc at hai; omega))) mrM_1046_0 ((funext fun i0 => frM_1046 332 i0 (fun h => absurd h (by decide))).trans ((funext fun i0 => frM_1032 332 i0 (fun h => h.elim (fun h => absurd h (by decide)) (fun h => h.elim (fun h => absurd h (by decide)) (fun h => absurd h.1 (by decide))))).trans rfl)) ((funext fun i0 => frM_1046 333 i0 (fun h => absurd h (by decide))).trans ((funext fun i0 => frM_1032 333 i0 (fun h => h.elim (fun h => absurd h (by decide)) (fun h => h.elim (fun h => absurd h (by decide)) (fun h => absurd h.1 (by decide))))).trans rfl)) ((funext fun i0 => frM_1046 339 i0 (fun h => absurd h (by decide))).trans ((funext fun i0 => frM_1032 339 i0 (fun h => h.elim (fun h => absurd h (by decide)) (fun h => h.elim (fun h => absurd h (by decide)) (fun h => absurd h.1 (by decide))))).trans rfl)) ((frM_1046 330 4 (fun h => absurd h (by decide))).trans ((frM_1032 330 4 (fun h => h.elim (fun h => absurd h (by decide)) (fun h => h.elim (fun h => absurd h (by decide)) (fun h => absurd h.1 (by decide))))).trans rfl)) ((frM_1046 330 5 (fun h => absurd h (by decide))).trans ((frM_1032 330 5 (fun h => h.elim (fun h => absurd h (by decide)) (fun h => h.elim (fun h => absurd h (by decide)) (fun h => absurd h.1 (by decide))))).trans rfl)) ((frM_1046 330 17 (fun h => absurd h (by decide))).trans ((frM_1032 330 17 (fun h => h.elim (fun h => absurd h (by decide)) (fun h => h.elim (fun h => absurd h (by decide)) (fun h => absurd h.1 (by decide))))).trans rfl)) ((frM_1046 330 24 (fun h => absurd h (by decide))).trans ((frM_1032 330 24 (fun h => h.elim (fun h => absurd h (by decide)) (fun h => h.elim (fun h => absurd h (by decide)) (fun h => absurd h.1 (by decide))))).trans rfl)) ((frM_1046 330 26 (fun h => absurd h (by decide))).trans ((frM_1032 330 26 (fun h => h.elim (fun h => absurd h (by decide)) (fun h => h.elim (fun h => absurd h (by decide)) (fun h => absurd h.1 (by decide))))).trans rfl)) ((frM_1046 330 21 (fun h => absurd h (by decide))).trans ((frM_1032 330 21 (fun h => h.elim (fun h => absurd h (by decide)) (fun h => h.elim (fun h => absurd h (by decide)) (fun h => absurd h.1 (by decide))))).trans rfl)) hv)
        · exact fa1032_0
        · exact f_or_k hr8 ⟨funext fun j => frM_1032 51 j (by omega), frM_1032 39 8 (by omega)⟩ (fun j hj => hu j (by omega)) hlo.2.2.2.2
        · rw [f_up_same]
          omega
        · rw [hu 2578 (by omega)]
          exact hr8
        · rw [hu 2578 (by omega)]
          intro j j1 j2
          rw [hu (2592 + j) (by omega)]
          exact hlq.2.2.2.2.2 j j1 j2
      · exfalso
        exact h1049 rfl
    · refine ax_invG [.inl a1, .inl a2] [] dL_law_1032 mlL_114 sh_0 rfl rfl rfl (Nat.le_of_ble_eq_true rfl) (s_X11_told_no E l _ (by omega) _ a1 a2 (M 331) hlo.2.2.2.1 hlq.2.2.2.1 ⟨hc, hok⟩) (pc' := 1035) rfl (fun vv M_1032 hq co1032 hcm1032 => ?_)
      obtain ⟨rfl, rfl⟩ := hq
      refine ax_reS (st2 := [.inl (-1)]) rfl ?_
      refine ax_aload_n dL_law_1035 rfl rfl (pc' := 1036) rfl ?_
      refine ax_aload_n dL_law_1036 rfl rfl (pc' := 1037) rfl ?_
      refine ax_iload_n dL_law_1037 rfl rfl (pc' := 1038) rfl ?_
      refine ax_iconst dL_law_1038 (by decide) (pc' := 1039) rfl ?_
      refine ax_iadd dL_law_1039 (by omega) (pc' := 1040) rfl ?_
      refine ax_sald (v := a1) dL_law_1040 (by omega) (by omega) qa1.symm (pc' := 1041) rfl ?_
      refine ax_aload_n dL_law_1041 rfl rfl (pc' := 1042) rfl ?_
      refine ax_iload_n dL_law_1042 rfl rfl (pc' := 1043) rfl ?_
      refine ax_iconst dL_law_1043 (by decide) (pc' := 1044) rfl ?_
      refine ax_iadd dL_law_1044 (by omega) (pc' := 1045) rfl ?_
      refine ax_sald (v := a2) dL_law_1045 (by omega) (by omega) qa2.symm (pc' := 1046) rfl ?_
      refine ax_invG [.inl a1, .inl a2] [.inl (-1)] dL_law_1046 mlL_117 sh_330 rfl rfl rfl (Nat.le_of_ble_eq_true rfl) (s_X12_told_no E l _ (by omega) _ a1 a2 rfl ⟨hc, hok⟩) (pc' := 1049) rfl (fun vv M_1046 hq co1046 hcm1046 => ?_)
      obtain ⟨rfl, rfl⟩ := hq
      refine ax_reS (st2 := [.inl (-1), .inl (-1)]) rfl ?_
      refine ax_icmp_eq (tgt := 1416) dL_law_1049 (by decide) (pc' := 1052) rfl (fun h1049 => ?_) (fun h1049 => ?_)
      · exact kk _ ⟨hv, Ls, Lk, hI⟩
      · exfalso
        exact h1049 rfl
set_option maxRecDepth 20000 in
theorem lc_27 (E : ax_Env) (l : Launch) (d : Nat) (hd : 60 ≤ d) (M : ax_Mem) (Q : ax_Post) (i : Int) (hx : ax_xl E ≤ 3072) (hi : 0 ≤ i ∧ i + 6 ≤ (ax_xl E : Int)) (hI : f_INV M) (kk : ∀ M2, f_INV M2 → ax_W E l (d + 1) 0 0 iL_law 1416 [some (.inr (-2)), some (.inr 0), some (.inr 330), some (.inl i)] [] SH M2 Q) : ax_W E l (d + 1) 0 0 iL_law 1153 [some (.inr (-2)), some (.inr 0), some (.inr 330), some (.inl i)] [] SH M Q := by
  obtain ⟨hv, Ls, Lk, hI⟩ := hI
  have hnb := hI.1.1
  have hjv := hI.1.2.1
  have hlq := hI.1.2.2
  have hpr := hI.2.1.1
  have hhs := hI.2.1.2
  have hlo := hI.2.2.1
  have qta := hI.2.2.2.1.1
  have qtn := hI.2.2.2.1.2.1
  have qt4 := hI.2.2.2.1.2.2.1
  have qtp := hI.2.2.2.1.2.2.2
  obtain ⟨a1, qa1⟩ : ∃ z, z = (ax_xs E (i + 1).toNat).toInt := ⟨_, rfl⟩
  have ca1 : -2147483648 ≤ a1 ∧ a1 < 2147483648 := by rw [qa1]; exact ax_can_toInt _
  obtain ⟨a2, qa2⟩ : ∃ z, z = (ax_xs E (i + 2).toNat).toInt := ⟨_, rfl⟩
  have ca2 : -2147483648 ≤ a2 ∧ a2 < 2147483648 := by rw [qa2]; exact ax_can_toInt _
  obtain ⟨a3, qa3⟩ : ∃ z, z = (ax_xs E (i + 3).toNat).toInt := ⟨_, rfl⟩
  have ca3 : -2147483648 ≤ a3 ∧ a3 < 2147483648 := by rw [qa3]; exact ax_can_toInt _
  obtain ⟨a4, qa4⟩ : ∃ z, z = (ax_xs E (i + 4).toNat).toInt := ⟨_, rfl⟩
  have ca4 : -2147483648 ≤ a4 ∧ a4 < 2147483648 := by rw [qa4]; exact ax_can_toInt _
  obtain ⟨a5, qa5⟩ : ∃ z, z = (ax_xs E (i + 5).toNat).toInt := ⟨_, rfl⟩
  have ca5 : -2147483648 ≤ a5 ∧ a5 < 2147483648 := by rw [qa5]; exact ax_can_toInt _
  refine ax_aload_n dL_law_1153 rfl rfl (pc' := 1154) rfl ?_
  refine ax_aload_n dL_law_1154 rfl rfl (pc' := 1155) rfl ?_
  refine ax_iload_n dL_law_1155 rfl rfl (pc' := 1156) rfl ?_
  refine ax_iconst dL_law_1156 (by decide) (pc' := 1157) rfl ?_
  refine ax_iadd dL_law_1157 (by omega) (pc' := 1158) rfl ?_
  refine ax_sald (v := a1) dL_law_1158 (by omega) (by omega) qa1.symm (pc' := 1159) rfl ?_
  by_cases hc : a1 = -1
  · refine ax_reS (st2 := [.inl (-1), .inr 0]) (by rw [hc]) ?_
    refine ax_invG [.inl (-1)] [] dL_law_1159 mlL_130 sh_0 rfl rfl rfl (Nat.le_of_ble_eq_true rfl) (s_X11_order_cl E l _ (by omega) _ (M 331) hlo.2.2.2.2 hlq.2.2.2.2.1) (pc' := 1162) rfl (fun vv M_1159 hq co1159 hcm1159 => ?_)
    obtain ⟨rfl, frM_1159, fa1159_0⟩ := hq
    refine ax_reS (st2 := [.inl 0]) rfl ?_
    refine ax_aload_n dL_law_1162 rfl rfl (pc' := 1163) rfl ?_
    refine ax_aload_n dL_law_1163 rfl rfl (pc' := 1164) rfl ?_
    refine ax_iload_n dL_law_1164 rfl rfl (pc' := 1165) rfl ?_
    refine ax_iconst dL_law_1165 (by decide) (pc' := 1166) rfl ?_
    refine ax_iadd dL_law_1166 (by omega) (pc' := 1167) rfl ?_
    refine ax_sald (v := a1) dL_law_1167 (by omega) (by omega) qa1.symm (pc' := 1168) rfl ?_
    refine ax_reS (st2 := [.inl (-1), .inr 330, .inl 0]) (by rw [hc]) ?_
    refine ax_invG [.inl (-1)] [.inl 0] dL_law_1168 mlL_133 sh_330 rfl rfl rfl (Nat.le_of_ble_eq_true rfl) (s_X12_order_cl E l _ (by omega) _ ((funext fun i0 => frM_1159 331 i0 (fun h => absurd h.1 (by decide))).trans rfl)) (pc' := 1171) rfl (fun vv M_1168 hq co1168 hcm1168 => ?_)
    obtain ⟨rfl, frM_1168, mrM_1168_0⟩ := hq
    refine ax_reS (st2 := [.inl 0, .inl 0]) rfl ?_
    refine ax_icmp_eq (tgt := 1416) dL_law_1171 (by decide) (pc' := 1174) rfl (fun h1171 => ?_) (fun h1171 => ?_)
    · have hr7 := hlq.2.2.2.1
      have hr8 := hlq.2.2.2.2.1
      have hu : ∀ j, ¬ (j = 2578 ∨ (2592 ≤ j ∧ j < 2599)) → (f_up (M 331) 2578 0) j = M 331 j := fun j hj => f_up_o (by omega)
      refine kk _ (f_INV_mk (f_IV_fr (f_IV_lr hI (fun x0 i0 hai => frM_1159 x0 i0 (by omega)) (fun j hj => hu j (by omega)) ?_ ?_ ?_ ?_ ?_) (fun x0 i0 hai => frM_1168 x0 i0 (by unfold f_rc at hai; omega))) mrM_1168_0 ((funext fun i0 => frM_1168 332 i0 (fun h => absurd h (by decide))).trans ((funext fun i0 => frM_1159 332 i0 (fun h => absurd h.1 (by decide))).trans rfl)) ((funext fun i0 => frM_1168 333 i0 (fun h => absurd h (by decide))).trans ((funext fun i0 => frM_1159 333 i0 (fun h => absurd h.1 (by decide))).trans rfl)) ((funext fun i0 => frM_1168 339 i0 (fun h => absurd h (by decide))).trans ((funext fun i0 => frM_1159 339 i0 (fun h => absurd h.1 (by decide))).trans rfl)) ((frM_1168 330 4 (fun h => absurd h (by decide))).trans ((frM_1159 330 4 (fun h => absurd h.1 (by decide))).trans rfl)) ((frM_1168 330 5 (fun h => absurd h (by decide))).trans ((frM_1159 330 5 (fun h => absurd h.1 (by decide))).trans rfl)) ((frM_1168 330 17 (fun h => absurd h (by decide))).trans ((frM_1159 330 17 (fun h => absurd h.1 (by decide))).trans rfl)) ((frM_1168 330 24 (fun h => absurd h (by decide))).trans ((frM_1159 330 24 (fun h => absurd h.1 (by decide))).trans rfl)) ((frM_1168 330 26 (fun h => absurd h (by decide))).trans ((frM_1159 330 26 (fun h => absurd h.1 (by decide))).trans rfl)) ((frM_1168 330 21 (fun h => absurd h (by decide))).trans ((frM_1159 330 21 (fun h => absurd h.1 (by decide))).trans rfl)) hv)
      · exact f_tl_k hr7 ⟨funext fun j => frM_1159 49 j (by omega), funext fun j => frM_1159 50 j (by omega), frM_1159 39 6 (by omega)⟩ (fun j j1 j2 j3 => hu j (by omega)) hlo.2.2.2.1
      · exact fa1159_0
      · rw [hu 2577 (by omega)]
        exact hr7
      · rw [f_up_same]
        decide
      · rw [f_up_same]
        intro j j1 j2
        omega
    · exfalso
      exact h1171 rfl
  · by_cases hok : (1 ≤ a1 ∧ a1 ≤ 24) ∧ (M 331) 2578 ≠ 7
    · refine ax_invG [.inl a1] [] dL_law_1159 mlL_130 sh_0 rfl rfl rfl (Nat.le_of_ble_eq_true rfl) (s_X11_order_ok E l _ (by omega) _ a1 (M 331) hlo.2.2.2.2 hlq.2.2.2.2.1 hok) (pc' := 1162) rfl (fun vv M_1159 hq co1159 hcm1159 => ?_)
      obtain ⟨rfl, frM_1159, fa1159_0⟩ := hq
      refine ax_reS (st2 := [.inl ((M 331) 2578 + 1)]) rfl ?_
      have cc1159 : -2147483648 ≤ (M 331) 2578 + 1 ∧ (M 331) 2578 + 1 < 2147483648 := co1159 _ rfl
      refine ax_aload_n dL_law_1162 rfl rfl (pc' := 1163) rfl ?_
      refine ax_aload_n dL_law_1163 rfl rfl (pc' := 1164) rfl ?_
      refine ax_iload_n dL_law_1164 rfl rfl (pc' := 1165) rfl ?_
      refine ax_iconst dL_law_1165 (by decide) (pc' := 1166) rfl ?_
      refine ax_iadd dL_law_1166 (by omega) (pc' := 1167) rfl ?_
      refine ax_sald (v := a1) dL_law_1167 (by omega) (by omega) qa1.symm (pc' := 1168) rfl ?_
      refine ax_invG [.inl a1] [.inl ((M 331) 2578 + 1)] dL_law_1168 mlL_133 sh_330 rfl rfl rfl (Nat.le_of_ble_eq_true rfl) (s_X12_order_ok E l _ (by omega) _ a1 ((funext fun i0 => frM_1159 331 i0 (fun h => h.elim (fun h => absurd h (by decide)) (fun h => absurd h.1 (by decide)))).trans rfl) hok hlq.2.2.2.2.1) (pc' := 1171) rfl (fun vv M_1168 hq co1168 hcm1168 => ?_)
      obtain ⟨rfl, frM_1168, mrM_1168_0⟩ := hq
      refine ax_reS (st2 := [.inl ((M 331) 2578 + 1), .inl ((M 331) 2578 + 1)]) rfl ?_
      have cc1168 : -2147483648 ≤ (M 331) 2578 + 1 ∧ (M 331) 2578 + 1 < 2147483648 := co1168 _ rfl
      refine ax_icmp_eq (tgt := 1416) dL_law_1171 (by decide) (pc' := 1174) rfl (fun h1171 => ?_) (fun h1171 => ?_)
      · have hr7 := hlq.2.2.2.1
        have hr8 := hlq.2.2.2.2.1
        have hu : ∀ j, ¬ (j = 2578 ∨ (2592 ≤ j ∧ j < 2599)) → (f_up (f_up (M 331) (2592 + (M 331) 2578) a1) 2578 ((M 331) 2578 + 1)) j = M 331 j := fun j hj => by rw [f_up_o (by omega), f_up_o (by omega)]
        refine kk _ (f_INV_mk (f_IV_fr (f_IV_lr hI (fun x0 i0 hai => frM_1159 x0 i0 (by omega)) (fun j hj => hu j (by omega)) ?_ ?_ ?_ ?_ ?_) (fun x0 i0 hai => frM_1168 x0 i0 (by unfold f_rc at hai; omega))) mrM_1168_0 ((funext fun i0 => frM_1168 332 i0 (fun h => absurd h (by decide))).trans ((funext fun i0 => frM_1159 332 i0 (fun h => h.elim (fun h => absurd h (by decide)) (fun h => absurd h.1 (by decide)))).trans rfl)) ((funext fun i0 => frM_1168 333 i0 (fun h => absurd h (by decide))).trans ((funext fun i0 => frM_1159 333 i0 (fun h => h.elim (fun h => absurd h (by decide)) (fun h => absurd h.1 (by decide)))).trans rfl)) ((funext fun i0 => frM_1168 339 i0 (fun h => absurd h (by decide))).trans ((funext fun i0 => frM_1159 339 i0 (fun h => h.elim (fun h => absurd h (by decide)) (fun h => absurd h.1 (by decide)))).trans rfl)) ((frM_1168 330 4 (fun h => absurd h (by decide))).trans ((frM_1159 330 4 (fun h => h.elim (fun h => absurd h (by decide)) (fun h => absurd h.1 (by decide)))).trans rfl)) ((frM_1168 330 5 (fun h => absurd h (by decide))).trans ((frM_1159 330 5 (fun h => h.elim (fun h => absurd h (by decide)) (fun h => absurd h.1 (by decide)))).trans rfl)) ((frM_1168 330 17 (fun h => absurd h (by decide))).trans ((frM_1159 330 17 (fun h => h.elim (fun h => absurd h (by decide)) (fun h => absurd h.1 (by decide)))).trans rfl)) ((frM_1168 330 24 (fun h => absurd h (by decide))).trans ((frM_1159 330 24 (fun h => h.elim (fun h => absurd h (by decide)) (fun h => absurd h.1 (by decide)))).trans rfl)) ((frM_1168 330 26 (fun h => absurd h (by decide))).trans ((frM_1159 330 26 (fun h => h.elim (fun h => absurd h (by decide)) (fun h => absurd h.1 (by decide)))).trans rfl)) ((frM_1168 330 21 (fun h => absurd h (by decide))).trans ((frM_1159 330 21 (fun h => h.elim (fun h => absurd h (by decide)) (fun h => absurd h.1 (by decide)))).trans rfl)) hv)
        · exact f_tl_k hr7 ⟨funext fun j => frM_1159 49 j (by omega), funext fun j => frM_1159 50 j (by omega), frM_1159 39 6 (by omega)⟩ (fun j j1 j2 j3 => hu j (by omega)) hlo.2.2.2.1
        · exact fa1159_0
        · rw [hu 2577 (by omega)]
          exact hr7
        · rw [f_up_same]
          omega
        · rw [f_up_same]
          intro j j1 j2
          rw [f_up_o (by omega)]
          by_cases e : j = (M 331) 2578
          · rw [e, f_up_same]
            exact hok.1
          · rw [f_up_o (by omega)]
            exact hlq.2.2.2.2.2 j j1 (by omega)
      · exfalso
        exact h1171 rfl
    · refine ax_invG [.inl a1] [] dL_law_1159 mlL_130 sh_0 rfl rfl rfl (Nat.le_of_ble_eq_true rfl) (s_X11_order_no E l _ (by omega) _ a1 (M 331) hlo.2.2.2.2 hlq.2.2.2.2.1 ⟨hc, hok⟩) (pc' := 1162) rfl (fun vv M_1159 hq co1159 hcm1159 => ?_)
      obtain ⟨rfl, rfl⟩ := hq
      refine ax_reS (st2 := [.inl (-1)]) rfl ?_
      refine ax_aload_n dL_law_1162 rfl rfl (pc' := 1163) rfl ?_
      refine ax_aload_n dL_law_1163 rfl rfl (pc' := 1164) rfl ?_
      refine ax_iload_n dL_law_1164 rfl rfl (pc' := 1165) rfl ?_
      refine ax_iconst dL_law_1165 (by decide) (pc' := 1166) rfl ?_
      refine ax_iadd dL_law_1166 (by omega) (pc' := 1167) rfl ?_
      refine ax_sald (v := a1) dL_law_1167 (by omega) (by omega) qa1.symm (pc' := 1168) rfl ?_
      refine ax_invG [.inl a1] [.inl (-1)] dL_law_1168 mlL_133 sh_330 rfl rfl rfl (Nat.le_of_ble_eq_true rfl) (s_X12_order_no E l _ (by omega) _ a1 rfl ⟨hc, hok⟩) (pc' := 1171) rfl (fun vv M_1168 hq co1168 hcm1168 => ?_)
      obtain ⟨rfl, rfl⟩ := hq
      refine ax_reS (st2 := [.inl (-1), .inl (-1)]) rfl ?_
      refine ax_icmp_eq (tgt := 1416) dL_law_1171 (by decide) (pc' := 1174) rfl (fun h1171 => ?_) (fun h1171 => ?_)
      · exact kk _ ⟨hv, Ls, Lk, hI⟩
      · exfalso
        exact h1171 rfl
set_option maxRecDepth 20000 in
theorem lc_13 (E : ax_Env) (l : Launch) (d : Nat) (hd : 60 ≤ d) (M : ax_Mem) (Q : ax_Post) (i : Int) (hx : ax_xl E ≤ 3072) (hi : 0 ≤ i ∧ i + 6 ≤ (ax_xl E : Int)) (hI : f_INV M) (kk : ∀ M2, f_INV M2 → ax_W E l (d + 1) 0 0 iL_law 1416 [some (.inr (-2)), some (.inr 0), some (.inr 330), some (.inl i)] [] SH M2 Q) : ax_W E l (d + 1) 0 0 iL_law 651 [some (.inr (-2)), some (.inr 0), some (.inr 330), some (.inl i)] [] SH M Q := by
  obtain ⟨hv, Ls, Lk, hI⟩ := hI
  have hnb := hI.1.1
  have hjv := hI.1.2.1
  have hlq := hI.1.2.2
  have hpr := hI.2.1.1
  have hhs := hI.2.1.2
  have hlo := hI.2.2.1
  have qta := hI.2.2.2.1.1
  have qtn := hI.2.2.2.1.2.1
  have qt4 := hI.2.2.2.1.2.2.1
  have qtp := hI.2.2.2.1.2.2.2
  obtain ⟨a1, qa1⟩ : ∃ z, z = (ax_xs E (i + 1).toNat).toInt := ⟨_, rfl⟩
  have ca1 : -2147483648 ≤ a1 ∧ a1 < 2147483648 := by rw [qa1]; exact ax_can_toInt _
  obtain ⟨a2, qa2⟩ : ∃ z, z = (ax_xs E (i + 2).toNat).toInt := ⟨_, rfl⟩
  have ca2 : -2147483648 ≤ a2 ∧ a2 < 2147483648 := by rw [qa2]; exact ax_can_toInt _
  obtain ⟨a3, qa3⟩ : ∃ z, z = (ax_xs E (i + 3).toNat).toInt := ⟨_, rfl⟩
  have ca3 : -2147483648 ≤ a3 ∧ a3 < 2147483648 := by rw [qa3]; exact ax_can_toInt _
  obtain ⟨a4, qa4⟩ : ∃ z, z = (ax_xs E (i + 4).toNat).toInt := ⟨_, rfl⟩
  have ca4 : -2147483648 ≤ a4 ∧ a4 < 2147483648 := by rw [qa4]; exact ax_can_toInt _
  obtain ⟨a5, qa5⟩ : ∃ z, z = (ax_xs E (i + 5).toNat).toInt := ⟨_, rfl⟩
  have ca5 : -2147483648 ≤ a5 ∧ a5 < 2147483648 := by rw [qa5]; exact ax_can_toInt _
  refine ax_aload_n dL_law_651 rfl rfl (pc' := 652) rfl ?_
  refine ax_aload_n dL_law_652 rfl rfl (pc' := 653) rfl ?_
  refine ax_iload_n dL_law_653 rfl rfl (pc' := 654) rfl ?_
  refine ax_iconst dL_law_654 (by decide) (pc' := 655) rfl ?_
  refine ax_iadd dL_law_655 (by omega) (pc' := 656) rfl ?_
  refine ax_sald (v := a1) dL_law_656 (by omega) (by omega) qa1.symm (pc' := 657) rfl ?_
  by_cases hc0 : a1 = 0
  · obtain ⟨L, hL⟩ := f_lx_ex (rd := 0) qtp ((M 330 17).toNat + 1) 0 (M 330 21) (by omega) (Int.le_refl 0) qt4.1
    refine ax_reS (st2 := [.inl 0, .inr 0]) (by rw [hc0]) ?_
    refine ax_invG [.inl 0] [] dL_law_657 mlL_72 sh_0 rfl rfl rfl (Nat.le_of_ble_eq_true rfl) (s_X11_text_lw0 E l _ (by omega) _ (M 330 21) L rfl rfl (by rw [qtn]; exact qt4) (by rw [qta, qtn]; exact qtp) (by rw [qta, qtn]; exact hL.1) hv) (pc' := 660) rfl (fun vv M_657 hq co657 hcm657 => ?_)
    obtain ⟨rfl, frM_657, msM_657_0, fa657_0⟩ := hq
    refine ax_reS (st2 := [.inl (f_twr (f_laws L))]) rfl ?_
    have cc657 : -2147483648 ≤ f_twr (f_laws L) ∧ f_twr (f_laws L) < 2147483648 := co657 _ rfl
    refine ax_aload_n dL_law_660 rfl rfl (pc' := 661) rfl ?_
    refine ax_aload_n dL_law_661 rfl rfl (pc' := 662) rfl ?_
    refine ax_iload_n dL_law_662 rfl rfl (pc' := 663) rfl ?_
    refine ax_iconst dL_law_663 (by decide) (pc' := 664) rfl ?_
    refine ax_iadd dL_law_664 (by omega) (pc' := 665) rfl ?_
    refine ax_sald (v := a1) dL_law_665 (by omega) (by omega) qa1.symm (pc' := 666) rfl ?_
    refine ax_reS (st2 := [.inl 0, .inr 330, .inl (f_twr (f_laws L))]) (by rw [hc0]) ?_
    refine ax_invG [.inl 0] [.inl (f_twr (f_laws L))] dL_law_666 mlL_75 sh_330 rfl rfl rfl (Nat.le_of_ble_eq_true rfl) (s_text_lw E l _ (by omega) _ 0 L ((funext fun i0 => frM_657 331 i0 (fun h => h.elim (fun h => absurd h.1 (by decide)) (fun h => h.elim (fun h => absurd h (by decide)) (fun h => h.elim (fun h => absurd h (by decide)) (fun h => h.elim (fun h => absurd h (by decide)) (fun h => h.elim (fun h => absurd h.1 (by decide)) (fun h => h.elim (fun h => absurd h.1 (by decide)) (fun h => h.elim (fun h => absurd h.1 (by decide)) (fun h => h.elim (fun h => absurd h.1 (by decide)) (fun h => h.elim (fun h => absurd h (by decide)) (fun h => h.elim (fun h => absurd h.1 (by decide)) (fun h => h.elim (fun h => absurd h.1 (by decide)) (fun h => h.elim (fun h => absurd h (by decide)) (fun h => h.elim (fun h => absurd h.1 (by decide)) (fun h => absurd h.1 (by decide)))))))))))))))).trans rfl) ((funext fun i0 => frM_657 339 i0 (fun h => h.elim (fun h => absurd h.1 (by decide)) (fun h => h.elim (fun h => absurd h (by decide)) (fun h => h.elim (fun h => absurd h (by decide)) (fun h => h.elim (fun h => absurd h (by decide)) (fun h => h.elim (fun h => absurd h.1 (by decide)) (fun h => h.elim (fun h => absurd h.1 (by decide)) (fun h => h.elim (fun h => absurd h.1 (by decide)) (fun h => h.elim (fun h => absurd h.1 (by decide)) (fun h => h.elim (fun h => absurd h (by decide)) (fun h => h.elim (fun h => absurd h.1 (by decide)) (fun h => h.elim (fun h => absurd h.1 (by decide)) (fun h => h.elim (fun h => absurd h (by decide)) (fun h => h.elim (fun h => absurd h.1 (by decide)) (fun h => absurd h.1 (by decide)))))))))))))))).trans rfl) ((funext fun i0 => frM_657 335 i0 (fun h => h.elim (fun h => absurd h.1 (by decide)) (fun h => h.elim (fun h => absurd h (by decide)) (fun h => h.elim (fun h => absurd h (by decide)) (fun h => h.elim (fun h => absurd h (by decide)) (fun h => h.elim (fun h => absurd h.1 (by decide)) (fun h => h.elim (fun h => absurd h.1 (by decide)) (fun h => h.elim (fun h => absurd h.1 (by decide)) (fun h => h.elim (fun h => absurd h.1 (by decide)) (fun h => h.elim (fun h => absurd h (by decide)) (fun h => h.elim (fun h => absurd h.1 (by decide)) (fun h => h.elim (fun h => absurd h.1 (by decide)) (fun h => h.elim (fun h => absurd h (by decide)) (fun h => h.elim (fun h => absurd h.1 (by decide)) (fun h => absurd h.1 (by decide)))))))))))))))).trans rfl) ((funext fun i0 => frM_657 336 i0 (fun h => h.elim (fun h => absurd h.1 (by decide)) (fun h => h.elim (fun h => absurd h (by decide)) (fun h => h.elim (fun h => absurd h (by decide)) (fun h => h.elim (fun h => absurd h (by decide)) (fun h => h.elim (fun h => absurd h.1 (by decide)) (fun h => h.elim (fun h => absurd h.1 (by decide)) (fun h => h.elim (fun h => absurd h.1 (by decide)) (fun h => h.elim (fun h => absurd h.1 (by decide)) (fun h => h.elim (fun h => absurd h (by decide)) (fun h => h.elim (fun h => absurd h.1 (by decide)) (fun h => h.elim (fun h => absurd h.1 (by decide)) (fun h => h.elim (fun h => absurd h (by decide)) (fun h => h.elim (fun h => absurd h.1 (by decide)) (fun h => absurd h.1 (by decide)))))))))))))))).trans rfl) ((frM_657 330 17 (fun h => h.elim (fun h => absurd h.1 (by decide)) (fun h => h.elim (fun h => absurd h (by decide)) (fun h => h.elim (fun h => absurd h (by decide)) (fun h => h.elim (fun h => absurd h (by decide)) (fun h => h.elim (fun h => absurd h.1 (by decide)) (fun h => h.elim (fun h => absurd h.1 (by decide)) (fun h => h.elim (fun h => absurd h.1 (by decide)) (fun h => h.elim (fun h => absurd h.1 (by decide)) (fun h => h.elim (fun h => absurd h (by decide)) (fun h => h.elim (fun h => absurd h.1 (by decide)) (fun h => h.elim (fun h => absurd h.1 (by decide)) (fun h => h.elim (fun h => absurd h (by decide)) (fun h => h.elim (fun h => absurd h.1 (by decide)) (fun h => absurd h.1 (by decide)))))))))))))))).trans rfl) ((frM_657 330 21 (fun h => h.elim (fun h => absurd h.1 (by decide)) (fun h => h.elim (fun h => absurd h (by decide)) (fun h => h.elim (fun h => absurd h (by decide)) (fun h => h.elim (fun h => absurd h (by decide)) (fun h => h.elim (fun h => absurd h.1 (by decide)) (fun h => h.elim (fun h => absurd h.1 (by decide)) (fun h => h.elim (fun h => absurd h.1 (by decide)) (fun h => h.elim (fun h => absurd h.1 (by decide)) (fun h => h.elim (fun h => absurd h (by decide)) (fun h => h.elim (fun h => absurd h.1 (by decide)) (fun h => h.elim (fun h => absurd h.1 (by decide)) (fun h => h.elim (fun h => absurd h (by decide)) (fun h => h.elim (fun h => absurd h.1 (by decide)) (fun h => absurd h.1 (by decide)))))))))))))))).trans rfl) ((frM_657 330 25 (fun h => h.elim (fun h => absurd h.1 (by decide)) (fun h => h.elim (fun h => absurd h (by decide)) (fun h => h.elim (fun h => absurd h (by decide)) (fun h => h.elim (fun h => absurd h (by decide)) (fun h => h.elim (fun h => absurd h.1 (by decide)) (fun h => h.elim (fun h => absurd h.1 (by decide)) (fun h => h.elim (fun h => absurd h.1 (by decide)) (fun h => h.elim (fun h => absurd h.1 (by decide)) (fun h => h.elim (fun h => absurd h (by decide)) (fun h => h.elim (fun h => absurd h.1 (by decide)) (fun h => h.elim (fun h => absurd h.1 (by decide)) (fun h => h.elim (fun h => absurd h (by decide)) (fun h => h.elim (fun h => absurd h.1 (by decide)) (fun h => absurd h.1 (by decide)))))))))))))))).trans rfl) qt4 qtp hv hL.1 (by omega) (by decide)) (pc' := 669) rfl (fun vv M_666 hq co666 hcm666 => ?_)
    obtain ⟨rfl, frM_666, msM_666_0, fa666_0, fa666_1⟩ := hq
    refine ax_reS (st2 := [.inl (f_twr (f_laws L)), .inl (f_twr (f_laws L))]) rfl ?_
    have cc666 : -2147483648 ≤ f_twr (f_laws L) ∧ f_twr (f_laws L) < 2147483648 := co666 _ rfl
    refine ax_icmp_eq (tgt := 1416) dL_law_669 (by decide) (pc' := 672) rfl (fun h669 => ?_) (fun h669 => ?_)
    · obtain ⟨Ls2, hIV⟩ := f_IV_txl (k := 0) (N2 := M_666) hI (by decide) (fun x0 i0 hai => frM_657 x0 i0 (by omega)) fa657_0 fa666_0 msM_657_0
      exact kk _ (f_INV_mk (f_IV_fr hIV (fun x0 i0 hai => frM_666 x0 i0 (by unfold f_rc at hai; omega))) rfl ((funext fun i0 => frM_666 332 i0 (fun h => h.elim (fun h => absurd h.1 (by decide)) (fun h => h.elim (fun h => absurd h (by decide)) (fun h => h.elim (fun h => absurd h (by decide)) (fun h => h.elim (fun h => absurd h (by decide)) (fun h => h.elim (fun h => absurd h.1 (by decide)) (fun h => h.elim (fun h => absurd h.1 (by decide)) (fun h => h.elim (fun h => absurd h.1 (by decide)) (fun h => h.elim (fun h => absurd h.1 (by decide)) (fun h => h.elim (fun h => absurd h.1 (by decide)) (fun h => h.elim (fun h => absurd h.1 (by decide)) (fun h => h.elim (fun h => absurd h.1 (by decide)) (fun h => h.elim (fun h => absurd h.1 (by decide)) (fun h => h.elim (fun h => absurd h.1 (by decide)) (fun h => h.elim (fun h => absurd h.1 (by decide)) (fun h => h.elim (fun h => absurd h.1 (by decide)) (fun h => h.elim (fun h => absurd h.1 (by decide)) (fun h => h.elim (fun h => absurd h.1 (by decide)) (fun h => absurd h.1 (by decide)))))))))))))))))))).trans ((funext fun i0 => frM_657 332 i0 (fun h => h.elim (fun h => absurd h.1 (by decide)) (fun h => h.elim (fun h => absurd h (by decide)) (fun h => h.elim (fun h => absurd h (by decide)) (fun h => h.elim (fun h => absurd h (by decide)) (fun h => h.elim (fun h => absurd h.1 (by decide)) (fun h => h.elim (fun h => absurd h.1 (by decide)) (fun h => h.elim (fun h => absurd h.1 (by decide)) (fun h => h.elim (fun h => absurd h.1 (by decide)) (fun h => h.elim (fun h => absurd h (by decide)) (fun h => h.elim (fun h => absurd h.1 (by decide)) (fun h => h.elim (fun h => absurd h.1 (by decide)) (fun h => h.elim (fun h => absurd h (by decide)) (fun h => h.elim (fun h => absurd h.1 (by decide)) (fun h => absurd h.1 (by decide)))))))))))))))).trans rfl)) ((funext fun i0 => frM_666 333 i0 (fun h => h.elim (fun h => absurd h.1 (by decide)) (fun h => h.elim (fun h => absurd h (by decide)) (fun h => h.elim (fun h => absurd h (by decide)) (fun h => h.elim (fun h => absurd h (by decide)) (fun h => h.elim (fun h => absurd h.1 (by decide)) (fun h => h.elim (fun h => absurd h.1 (by decide)) (fun h => h.elim (fun h => absurd h.1 (by decide)) (fun h => h.elim (fun h => absurd h.1 (by decide)) (fun h => h.elim (fun h => absurd h.1 (by decide)) (fun h => h.elim (fun h => absurd h.1 (by decide)) (fun h => h.elim (fun h => absurd h.1 (by decide)) (fun h => h.elim (fun h => absurd h.1 (by decide)) (fun h => h.elim (fun h => absurd h.1 (by decide)) (fun h => h.elim (fun h => absurd h.1 (by decide)) (fun h => h.elim (fun h => absurd h.1 (by decide)) (fun h => h.elim (fun h => absurd h.1 (by decide)) (fun h => h.elim (fun h => absurd h.1 (by decide)) (fun h => absurd h.1 (by decide)))))))))))))))))))).trans ((funext fun i0 => frM_657 333 i0 (fun h => h.elim (fun h => absurd h.1 (by decide)) (fun h => h.elim (fun h => absurd h (by decide)) (fun h => h.elim (fun h => absurd h (by decide)) (fun h => h.elim (fun h => absurd h (by decide)) (fun h => h.elim (fun h => absurd h.1 (by decide)) (fun h => h.elim (fun h => absurd h.1 (by decide)) (fun h => h.elim (fun h => absurd h.1 (by decide)) (fun h => h.elim (fun h => absurd h.1 (by decide)) (fun h => h.elim (fun h => absurd h (by decide)) (fun h => h.elim (fun h => absurd h.1 (by decide)) (fun h => h.elim (fun h => absurd h.1 (by decide)) (fun h => h.elim (fun h => absurd h (by decide)) (fun h => h.elim (fun h => absurd h.1 (by decide)) (fun h => absurd h.1 (by decide)))))))))))))))).trans rfl)) ((funext fun i0 => frM_666 339 i0 (fun h => h.elim (fun h => absurd h.1 (by decide)) (fun h => h.elim (fun h => absurd h (by decide)) (fun h => h.elim (fun h => absurd h (by decide)) (fun h => h.elim (fun h => absurd h (by decide)) (fun h => h.elim (fun h => absurd h.1 (by decide)) (fun h => h.elim (fun h => absurd h.1 (by decide)) (fun h => h.elim (fun h => absurd h.1 (by decide)) (fun h => h.elim (fun h => absurd h.1 (by decide)) (fun h => h.elim (fun h => absurd h.1 (by decide)) (fun h => h.elim (fun h => absurd h.1 (by decide)) (fun h => h.elim (fun h => absurd h.1 (by decide)) (fun h => h.elim (fun h => absurd h.1 (by decide)) (fun h => h.elim (fun h => absurd h.1 (by decide)) (fun h => h.elim (fun h => absurd h.1 (by decide)) (fun h => h.elim (fun h => absurd h.1 (by decide)) (fun h => h.elim (fun h => absurd h.1 (by decide)) (fun h => h.elim (fun h => absurd h.1 (by decide)) (fun h => absurd h.1 (by decide)))))))))))))))))))).trans ((funext fun i0 => frM_657 339 i0 (fun h => h.elim (fun h => absurd h.1 (by decide)) (fun h => h.elim (fun h => absurd h (by decide)) (fun h => h.elim (fun h => absurd h (by decide)) (fun h => h.elim (fun h => absurd h (by decide)) (fun h => h.elim (fun h => absurd h.1 (by decide)) (fun h => h.elim (fun h => absurd h.1 (by decide)) (fun h => h.elim (fun h => absurd h.1 (by decide)) (fun h => h.elim (fun h => absurd h.1 (by decide)) (fun h => h.elim (fun h => absurd h (by decide)) (fun h => h.elim (fun h => absurd h.1 (by decide)) (fun h => h.elim (fun h => absurd h.1 (by decide)) (fun h => h.elim (fun h => absurd h (by decide)) (fun h => h.elim (fun h => absurd h.1 (by decide)) (fun h => absurd h.1 (by decide)))))))))))))))).trans rfl)) ((frM_666 330 4 (fun h => h.elim (fun h => absurd h.2 (by decide)) (fun h => h.elim (fun h => absurd h (by decide)) (fun h => h.elim (fun h => absurd h (by decide)) (fun h => h.elim (fun h => absurd h (by decide)) (fun h => h.elim (fun h => absurd h.2 (by decide)) (fun h => h.elim (fun h => absurd h.2 (by decide)) (fun h => h.elim (fun h => absurd h.2 (by decide)) (fun h => h.elim (fun h => absurd h.2 (by decide)) (fun h => h.elim (fun h => absurd h.2 (by decide)) (fun h => h.elim (fun h => absurd h.2 (by decide)) (fun h => h.elim (fun h => absurd h.2 (by decide)) (fun h => h.elim (fun h => absurd h.2 (by decide)) (fun h => h.elim (fun h => absurd h.2 (by decide)) (fun h => h.elim (fun h => absurd h.2 (by decide)) (fun h => h.elim (fun h => absurd h.2 (by decide)) (fun h => h.elim (fun h => absurd h.2 (by decide)) (fun h => h.elim (fun h => absurd h.2 (by decide)) (fun h => absurd h.2 (by decide)))))))))))))))))))).trans ((frM_657 330 4 (fun h => h.elim (fun h => absurd h.1 (by decide)) (fun h => h.elim (fun h => absurd h (by decide)) (fun h => h.elim (fun h => absurd h (by decide)) (fun h => h.elim (fun h => absurd h (by decide)) (fun h => h.elim (fun h => absurd h.1 (by decide)) (fun h => h.elim (fun h => absurd h.1 (by decide)) (fun h => h.elim (fun h => absurd h.1 (by decide)) (fun h => h.elim (fun h => absurd h.1 (by decide)) (fun h => h.elim (fun h => absurd h (by decide)) (fun h => h.elim (fun h => absurd h.1 (by decide)) (fun h => h.elim (fun h => absurd h.1 (by decide)) (fun h => h.elim (fun h => absurd h (by decide)) (fun h => h.elim (fun h => absurd h.1 (by decide)) (fun h => absurd h.1 (by decide)))))))))))))))).trans rfl)) ((frM_666 330 5 (fun h => h.elim (fun h => absurd h.2 (by decide)) (fun h => h.elim (fun h => absurd h (by decide)) (fun h => h.elim (fun h => absurd h (by decide)) (fun h => h.elim (fun h => absurd h (by decide)) (fun h => h.elim (fun h => absurd h.2 (by decide)) (fun h => h.elim (fun h => absurd h.2 (by decide)) (fun h => h.elim (fun h => absurd h.2 (by decide)) (fun h => h.elim (fun h => absurd h.2 (by decide)) (fun h => h.elim (fun h => absurd h.2 (by decide)) (fun h => h.elim (fun h => absurd h.2 (by decide)) (fun h => h.elim (fun h => absurd h.2 (by decide)) (fun h => h.elim (fun h => absurd h.2 (by decide)) (fun h => h.elim (fun h => absurd h.2 (by decide)) (fun h => h.elim (fun h => absurd h.2 (by decide)) (fun h => h.elim (fun h => absurd h.2 (by decide)) (fun h => h.elim (fun h => absurd h.2 (by decide)) (fun h => h.elim (fun h => absurd h.2 (by decide)) (fun h => absurd h.2 (by decide)))))))))))))))))))).trans ((frM_657 330 5 (fun h => h.elim (fun h => absurd h.1 (by decide)) (fun h => h.elim (fun h => absurd h (by decide)) (fun h => h.elim (fun h => absurd h (by decide)) (fun h => h.elim (fun h => absurd h (by decide)) (fun h => h.elim (fun h => absurd h.1 (by decide)) (fun h => h.elim (fun h => absurd h.1 (by decide)) (fun h => h.elim (fun h => absurd h.1 (by decide)) (fun h => h.elim (fun h => absurd h.1 (by decide)) (fun h => h.elim (fun h => absurd h (by decide)) (fun h => h.elim (fun h => absurd h.1 (by decide)) (fun h => h.elim (fun h => absurd h.1 (by decide)) (fun h => h.elim (fun h => absurd h (by decide)) (fun h => h.elim (fun h => absurd h.1 (by decide)) (fun h => absurd h.1 (by decide)))))))))))))))).trans rfl)) msM_666_0 rfl rfl rfl fa666_1)
    · exfalso
      first | exact h669 rfl | (rw [qta, qtn] at h669; exact h669 rfl)
  · by_cases hc1 : a1 = 1
    · obtain ⟨L, hL⟩ := f_lx_ex (rd := 1) qtp ((M 330 17).toNat + 1) 0 (M 330 21) (by omega) (Int.le_refl 0) qt4.1
      refine ax_reS (st2 := [.inl 1, .inr 0]) (by rw [hc1]) ?_
      refine ax_invG [.inl 1] [] dL_law_657 mlL_72 sh_0 rfl rfl rfl (Nat.le_of_ble_eq_true rfl) (s_X11_text_lw1 E l _ (by omega) _ (M 330 21) L rfl rfl (by rw [qtn]; exact qt4) (by rw [qta, qtn]; exact qtp) (by rw [qta, qtn]; exact hL.1) hv) (pc' := 660) rfl (fun vv M_657 hq co657 hcm657 => ?_)
      obtain ⟨rfl, frM_657, msM_657_0, fa657_0⟩ := hq
      refine ax_reS (st2 := [.inl (f_twr (f_laws L))]) rfl ?_
      have cc657 : -2147483648 ≤ f_twr (f_laws L) ∧ f_twr (f_laws L) < 2147483648 := co657 _ rfl
      refine ax_aload_n dL_law_660 rfl rfl (pc' := 661) rfl ?_
      refine ax_aload_n dL_law_661 rfl rfl (pc' := 662) rfl ?_
      refine ax_iload_n dL_law_662 rfl rfl (pc' := 663) rfl ?_
      refine ax_iconst dL_law_663 (by decide) (pc' := 664) rfl ?_
      refine ax_iadd dL_law_664 (by omega) (pc' := 665) rfl ?_
      refine ax_sald (v := a1) dL_law_665 (by omega) (by omega) qa1.symm (pc' := 666) rfl ?_
      refine ax_reS (st2 := [.inl 1, .inr 330, .inl (f_twr (f_laws L))]) (by rw [hc1]) ?_
      refine ax_invG [.inl 1] [.inl (f_twr (f_laws L))] dL_law_666 mlL_75 sh_330 rfl rfl rfl (Nat.le_of_ble_eq_true rfl) (s_text_lw E l _ (by omega) _ 1 L ((funext fun i0 => frM_657 331 i0 (fun h => h.elim (fun h => absurd h.1 (by decide)) (fun h => h.elim (fun h => absurd h (by decide)) (fun h => h.elim (fun h => absurd h (by decide)) (fun h => h.elim (fun h => absurd h (by decide)) (fun h => h.elim (fun h => absurd h.1 (by decide)) (fun h => h.elim (fun h => absurd h.1 (by decide)) (fun h => h.elim (fun h => absurd h.1 (by decide)) (fun h => h.elim (fun h => absurd h.1 (by decide)) (fun h => h.elim (fun h => absurd h (by decide)) (fun h => h.elim (fun h => absurd h.1 (by decide)) (fun h => h.elim (fun h => absurd h.1 (by decide)) (fun h => h.elim (fun h => absurd h (by decide)) (fun h => h.elim (fun h => absurd h.1 (by decide)) (fun h => absurd h.1 (by decide)))))))))))))))).trans rfl) ((funext fun i0 => frM_657 339 i0 (fun h => h.elim (fun h => absurd h.1 (by decide)) (fun h => h.elim (fun h => absurd h (by decide)) (fun h => h.elim (fun h => absurd h (by decide)) (fun h => h.elim (fun h => absurd h (by decide)) (fun h => h.elim (fun h => absurd h.1 (by decide)) (fun h => h.elim (fun h => absurd h.1 (by decide)) (fun h => h.elim (fun h => absurd h.1 (by decide)) (fun h => h.elim (fun h => absurd h.1 (by decide)) (fun h => h.elim (fun h => absurd h (by decide)) (fun h => h.elim (fun h => absurd h.1 (by decide)) (fun h => h.elim (fun h => absurd h.1 (by decide)) (fun h => h.elim (fun h => absurd h (by decide)) (fun h => h.elim (fun h => absurd h.1 (by decide)) (fun h => absurd h.1 (by decide)))))))))))))))).trans rfl) ((funext fun i0 => frM_657 335 i0 (fun h => h.elim (fun h => absurd h.1 (by decide)) (fun h => h.elim (fun h => absurd h (by decide)) (fun h => h.elim (fun h => absurd h (by decide)) (fun h => h.elim (fun h => absurd h (by decide)) (fun h => h.elim (fun h => absurd h.1 (by decide)) (fun h => h.elim (fun h => absurd h.1 (by decide)) (fun h => h.elim (fun h => absurd h.1 (by decide)) (fun h => h.elim (fun h => absurd h.1 (by decide)) (fun h => h.elim (fun h => absurd h (by decide)) (fun h => h.elim (fun h => absurd h.1 (by decide)) (fun h => h.elim (fun h => absurd h.1 (by decide)) (fun h => h.elim (fun h => absurd h (by decide)) (fun h => h.elim (fun h => absurd h.1 (by decide)) (fun h => absurd h.1 (by decide)))))))))))))))).trans rfl) ((funext fun i0 => frM_657 336 i0 (fun h => h.elim (fun h => absurd h.1 (by decide)) (fun h => h.elim (fun h => absurd h (by decide)) (fun h => h.elim (fun h => absurd h (by decide)) (fun h => h.elim (fun h => absurd h (by decide)) (fun h => h.elim (fun h => absurd h.1 (by decide)) (fun h => h.elim (fun h => absurd h.1 (by decide)) (fun h => h.elim (fun h => absurd h.1 (by decide)) (fun h => h.elim (fun h => absurd h.1 (by decide)) (fun h => h.elim (fun h => absurd h (by decide)) (fun h => h.elim (fun h => absurd h.1 (by decide)) (fun h => h.elim (fun h => absurd h.1 (by decide)) (fun h => h.elim (fun h => absurd h (by decide)) (fun h => h.elim (fun h => absurd h.1 (by decide)) (fun h => absurd h.1 (by decide)))))))))))))))).trans rfl) ((frM_657 330 17 (fun h => h.elim (fun h => absurd h.1 (by decide)) (fun h => h.elim (fun h => absurd h (by decide)) (fun h => h.elim (fun h => absurd h (by decide)) (fun h => h.elim (fun h => absurd h (by decide)) (fun h => h.elim (fun h => absurd h.1 (by decide)) (fun h => h.elim (fun h => absurd h.1 (by decide)) (fun h => h.elim (fun h => absurd h.1 (by decide)) (fun h => h.elim (fun h => absurd h.1 (by decide)) (fun h => h.elim (fun h => absurd h (by decide)) (fun h => h.elim (fun h => absurd h.1 (by decide)) (fun h => h.elim (fun h => absurd h.1 (by decide)) (fun h => h.elim (fun h => absurd h (by decide)) (fun h => h.elim (fun h => absurd h.1 (by decide)) (fun h => absurd h.1 (by decide)))))))))))))))).trans rfl) ((frM_657 330 21 (fun h => h.elim (fun h => absurd h.1 (by decide)) (fun h => h.elim (fun h => absurd h (by decide)) (fun h => h.elim (fun h => absurd h (by decide)) (fun h => h.elim (fun h => absurd h (by decide)) (fun h => h.elim (fun h => absurd h.1 (by decide)) (fun h => h.elim (fun h => absurd h.1 (by decide)) (fun h => h.elim (fun h => absurd h.1 (by decide)) (fun h => h.elim (fun h => absurd h.1 (by decide)) (fun h => h.elim (fun h => absurd h (by decide)) (fun h => h.elim (fun h => absurd h.1 (by decide)) (fun h => h.elim (fun h => absurd h.1 (by decide)) (fun h => h.elim (fun h => absurd h (by decide)) (fun h => h.elim (fun h => absurd h.1 (by decide)) (fun h => absurd h.1 (by decide)))))))))))))))).trans rfl) ((frM_657 330 25 (fun h => h.elim (fun h => absurd h.1 (by decide)) (fun h => h.elim (fun h => absurd h (by decide)) (fun h => h.elim (fun h => absurd h (by decide)) (fun h => h.elim (fun h => absurd h (by decide)) (fun h => h.elim (fun h => absurd h.1 (by decide)) (fun h => h.elim (fun h => absurd h.1 (by decide)) (fun h => h.elim (fun h => absurd h.1 (by decide)) (fun h => h.elim (fun h => absurd h.1 (by decide)) (fun h => h.elim (fun h => absurd h (by decide)) (fun h => h.elim (fun h => absurd h.1 (by decide)) (fun h => h.elim (fun h => absurd h.1 (by decide)) (fun h => h.elim (fun h => absurd h (by decide)) (fun h => h.elim (fun h => absurd h.1 (by decide)) (fun h => absurd h.1 (by decide)))))))))))))))).trans rfl) qt4 qtp hv hL.1 (by omega) (by decide)) (pc' := 669) rfl (fun vv M_666 hq co666 hcm666 => ?_)
      obtain ⟨rfl, frM_666, msM_666_0, fa666_0, fa666_1⟩ := hq
      refine ax_reS (st2 := [.inl (f_twr (f_laws L)), .inl (f_twr (f_laws L))]) rfl ?_
      have cc666 : -2147483648 ≤ f_twr (f_laws L) ∧ f_twr (f_laws L) < 2147483648 := co666 _ rfl
      refine ax_icmp_eq (tgt := 1416) dL_law_669 (by decide) (pc' := 672) rfl (fun h669 => ?_) (fun h669 => ?_)
      · obtain ⟨Ls2, hIV⟩ := f_IV_txl (k := 1) (N2 := M_666) hI (by decide) (fun x0 i0 hai => frM_657 x0 i0 (by omega)) fa657_0 fa666_0 msM_657_0
        exact kk _ (f_INV_mk (f_IV_fr hIV (fun x0 i0 hai => frM_666 x0 i0 (by unfold f_rc at hai; omega))) rfl ((funext fun i0 => frM_666 332 i0 (fun h => h.elim (fun h => absurd h.1 (by decide)) (fun h => h.elim (fun h => absurd h (by decide)) (fun h => h.elim (fun h => absurd h (by decide)) (fun h => h.elim (fun h => absurd h (by decide)) (fun h => h.elim (fun h => absurd h.1 (by decide)) (fun h => h.elim (fun h => absurd h.1 (by decide)) (fun h => h.elim (fun h => absurd h.1 (by decide)) (fun h => h.elim (fun h => absurd h.1 (by decide)) (fun h => h.elim (fun h => absurd h.1 (by decide)) (fun h => h.elim (fun h => absurd h.1 (by decide)) (fun h => h.elim (fun h => absurd h.1 (by decide)) (fun h => h.elim (fun h => absurd h.1 (by decide)) (fun h => h.elim (fun h => absurd h.1 (by decide)) (fun h => h.elim (fun h => absurd h.1 (by decide)) (fun h => h.elim (fun h => absurd h.1 (by decide)) (fun h => h.elim (fun h => absurd h.1 (by decide)) (fun h => h.elim (fun h => absurd h.1 (by decide)) (fun h => absurd h.1 (by decide)))))))))))))))))))).trans ((funext fun i0 => frM_657 332 i0 (fun h => h.elim (fun h => absurd h.1 (by decide)) (fun h => h.elim (fun h => absurd h (by decide)) (fun h => h.elim (fun h => absurd h (by decide)) (fun h => h.elim (fun h => absurd h (by decide)) (fun h => h.elim (fun h => absurd h.1 (by decide)) (fun h => h.elim (fun h => absurd h.1 (by decide)) (fun h => h.elim (fun h => absurd h.1 (by decide)) (fun h => h.elim (fun h => absurd h.1 (by decide)) (fun h => h.elim (fun h => absurd h (by decide)) (fun h => h.elim (fun h => absurd h.1 (by decide)) (fun h => h.elim (fun h => absurd h.1 (by decide)) (fun h => h.elim (fun h => absurd h (by decide)) (fun h => h.elim (fun h => absurd h.1 (by decide)) (fun h => absurd h.1 (by decide)))))))))))))))).trans rfl)) ((funext fun i0 => frM_666 333 i0 (fun h => h.elim (fun h => absurd h.1 (by decide)) (fun h => h.elim (fun h => absurd h (by decide)) (fun h => h.elim (fun h => absurd h (by decide)) (fun h => h.elim (fun h => absurd h (by decide)) (fun h => h.elim (fun h => absurd h.1 (by decide)) (fun h => h.elim (fun h => absurd h.1 (by decide)) (fun h => h.elim (fun h => absurd h.1 (by decide)) (fun h => h.elim (fun h => absurd h.1 (by decide)) (fun h => h.elim (fun h => absurd h.1 (by decide)) (fun h => h.elim (fun h => absurd h.1 (by decide)) (fun h => h.elim (fun h => absurd h.1 (by decide)) (fun h => h.elim (fun h => absurd h.1 (by decide)) (fun h => h.elim (fun h => absurd h.1 (by decide)) (fun h => h.elim (fun h => absurd h.1 (by decide)) (fun h => h.elim (fun h => absurd h.1 (by decide)) (fun h => h.elim (fun h => absurd h.1 (by decide)) (fun h => h.elim (fun h => absurd h.1 (by decide)) (fun h => absurd h.1 (by decide)))))))))))))))))))).trans ((funext fun i0 => frM_657 333 i0 (fun h => h.elim (fun h => absurd h.1 (by decide)) (fun h => h.elim (fun h => absurd h (by decide)) (fun h => h.elim (fun h => absurd h (by decide)) (fun h => h.elim (fun h => absurd h (by decide)) (fun h => h.elim (fun h => absurd h.1 (by decide)) (fun h => h.elim (fun h => absurd h.1 (by decide)) (fun h => h.elim (fun h => absurd h.1 (by decide)) (fun h => h.elim (fun h => absurd h.1 (by decide)) (fun h => h.elim (fun h => absurd h (by decide)) (fun h => h.elim (fun h => absurd h.1 (by decide)) (fun h => h.elim (fun h => absurd h.1 (by decide)) (fun h => h.elim (fun h => absurd h (by decide)) (fun h => h.elim (fun h => absurd h.1 (by decide)) (fun h => absurd h.1 (by decide)))))))))))))))).trans rfl)) ((funext fun i0 => frM_666 339 i0 (fun h => h.elim (fun h => absurd h.1 (by decide)) (fun h => h.elim (fun h => absurd h (by decide)) (fun h => h.elim (fun h => absurd h (by decide)) (fun h => h.elim (fun h => absurd h (by decide)) (fun h => h.elim (fun h => absurd h.1 (by decide)) (fun h => h.elim (fun h => absurd h.1 (by decide)) (fun h => h.elim (fun h => absurd h.1 (by decide)) (fun h => h.elim (fun h => absurd h.1 (by decide)) (fun h => h.elim (fun h => absurd h.1 (by decide)) (fun h => h.elim (fun h => absurd h.1 (by decide)) (fun h => h.elim (fun h => absurd h.1 (by decide)) (fun h => h.elim (fun h => absurd h.1 (by decide)) (fun h => h.elim (fun h => absurd h.1 (by decide)) (fun h => h.elim (fun h => absurd h.1 (by decide)) (fun h => h.elim (fun h => absurd h.1 (by decide)) (fun h => h.elim (fun h => absurd h.1 (by decide)) (fun h => h.elim (fun h => absurd h.1 (by decide)) (fun h => absurd h.1 (by decide)))))))))))))))))))).trans ((funext fun i0 => frM_657 339 i0 (fun h => h.elim (fun h => absurd h.1 (by decide)) (fun h => h.elim (fun h => absurd h (by decide)) (fun h => h.elim (fun h => absurd h (by decide)) (fun h => h.elim (fun h => absurd h (by decide)) (fun h => h.elim (fun h => absurd h.1 (by decide)) (fun h => h.elim (fun h => absurd h.1 (by decide)) (fun h => h.elim (fun h => absurd h.1 (by decide)) (fun h => h.elim (fun h => absurd h.1 (by decide)) (fun h => h.elim (fun h => absurd h (by decide)) (fun h => h.elim (fun h => absurd h.1 (by decide)) (fun h => h.elim (fun h => absurd h.1 (by decide)) (fun h => h.elim (fun h => absurd h (by decide)) (fun h => h.elim (fun h => absurd h.1 (by decide)) (fun h => absurd h.1 (by decide)))))))))))))))).trans rfl)) ((frM_666 330 4 (fun h => h.elim (fun h => absurd h.2 (by decide)) (fun h => h.elim (fun h => absurd h (by decide)) (fun h => h.elim (fun h => absurd h (by decide)) (fun h => h.elim (fun h => absurd h (by decide)) (fun h => h.elim (fun h => absurd h.2 (by decide)) (fun h => h.elim (fun h => absurd h.2 (by decide)) (fun h => h.elim (fun h => absurd h.2 (by decide)) (fun h => h.elim (fun h => absurd h.2 (by decide)) (fun h => h.elim (fun h => absurd h.2 (by decide)) (fun h => h.elim (fun h => absurd h.2 (by decide)) (fun h => h.elim (fun h => absurd h.2 (by decide)) (fun h => h.elim (fun h => absurd h.2 (by decide)) (fun h => h.elim (fun h => absurd h.2 (by decide)) (fun h => h.elim (fun h => absurd h.2 (by decide)) (fun h => h.elim (fun h => absurd h.2 (by decide)) (fun h => h.elim (fun h => absurd h.2 (by decide)) (fun h => h.elim (fun h => absurd h.2 (by decide)) (fun h => absurd h.2 (by decide)))))))))))))))))))).trans ((frM_657 330 4 (fun h => h.elim (fun h => absurd h.1 (by decide)) (fun h => h.elim (fun h => absurd h (by decide)) (fun h => h.elim (fun h => absurd h (by decide)) (fun h => h.elim (fun h => absurd h (by decide)) (fun h => h.elim (fun h => absurd h.1 (by decide)) (fun h => h.elim (fun h => absurd h.1 (by decide)) (fun h => h.elim (fun h => absurd h.1 (by decide)) (fun h => h.elim (fun h => absurd h.1 (by decide)) (fun h => h.elim (fun h => absurd h (by decide)) (fun h => h.elim (fun h => absurd h.1 (by decide)) (fun h => h.elim (fun h => absurd h.1 (by decide)) (fun h => h.elim (fun h => absurd h (by decide)) (fun h => h.elim (fun h => absurd h.1 (by decide)) (fun h => absurd h.1 (by decide)))))))))))))))).trans rfl)) ((frM_666 330 5 (fun h => h.elim (fun h => absurd h.2 (by decide)) (fun h => h.elim (fun h => absurd h (by decide)) (fun h => h.elim (fun h => absurd h (by decide)) (fun h => h.elim (fun h => absurd h (by decide)) (fun h => h.elim (fun h => absurd h.2 (by decide)) (fun h => h.elim (fun h => absurd h.2 (by decide)) (fun h => h.elim (fun h => absurd h.2 (by decide)) (fun h => h.elim (fun h => absurd h.2 (by decide)) (fun h => h.elim (fun h => absurd h.2 (by decide)) (fun h => h.elim (fun h => absurd h.2 (by decide)) (fun h => h.elim (fun h => absurd h.2 (by decide)) (fun h => h.elim (fun h => absurd h.2 (by decide)) (fun h => h.elim (fun h => absurd h.2 (by decide)) (fun h => h.elim (fun h => absurd h.2 (by decide)) (fun h => h.elim (fun h => absurd h.2 (by decide)) (fun h => h.elim (fun h => absurd h.2 (by decide)) (fun h => h.elim (fun h => absurd h.2 (by decide)) (fun h => absurd h.2 (by decide)))))))))))))))))))).trans ((frM_657 330 5 (fun h => h.elim (fun h => absurd h.1 (by decide)) (fun h => h.elim (fun h => absurd h (by decide)) (fun h => h.elim (fun h => absurd h (by decide)) (fun h => h.elim (fun h => absurd h (by decide)) (fun h => h.elim (fun h => absurd h.1 (by decide)) (fun h => h.elim (fun h => absurd h.1 (by decide)) (fun h => h.elim (fun h => absurd h.1 (by decide)) (fun h => h.elim (fun h => absurd h.1 (by decide)) (fun h => h.elim (fun h => absurd h (by decide)) (fun h => h.elim (fun h => absurd h.1 (by decide)) (fun h => h.elim (fun h => absurd h.1 (by decide)) (fun h => h.elim (fun h => absurd h (by decide)) (fun h => h.elim (fun h => absurd h.1 (by decide)) (fun h => absurd h.1 (by decide)))))))))))))))).trans rfl)) msM_666_0 rfl rfl rfl fa666_1)
      · exfalso
        first | exact h669 rfl | (rw [qta, qtn] at h669; exact h669 rfl)
    · by_cases hc2 : a1 = 2
      · obtain ⟨L, hL⟩ := f_lx_ex (rd := 2) qtp ((M 330 17).toNat + 1) 0 (M 330 21) (by omega) (Int.le_refl 0) qt4.1
        refine ax_reS (st2 := [.inl 2, .inr 0]) (by rw [hc2]) ?_
        refine ax_invG [.inl 2] [] dL_law_657 mlL_72 sh_0 rfl rfl rfl (Nat.le_of_ble_eq_true rfl) (s_X11_text_lw2 E l _ (by omega) _ (M 330 21) L rfl rfl (by rw [qtn]; exact qt4) (by rw [qta, qtn]; exact qtp) (by rw [qta, qtn]; exact hL.1) hv) (pc' := 660) rfl (fun vv M_657 hq co657 hcm657 => ?_)
        obtain ⟨rfl, frM_657, msM_657_0, fa657_0⟩ := hq
        refine ax_reS (st2 := [.inl (f_twr (f_laws L))]) rfl ?_
        have cc657 : -2147483648 ≤ f_twr (f_laws L) ∧ f_twr (f_laws L) < 2147483648 := co657 _ rfl
        refine ax_aload_n dL_law_660 rfl rfl (pc' := 661) rfl ?_
        refine ax_aload_n dL_law_661 rfl rfl (pc' := 662) rfl ?_
        refine ax_iload_n dL_law_662 rfl rfl (pc' := 663) rfl ?_
        refine ax_iconst dL_law_663 (by decide) (pc' := 664) rfl ?_
        refine ax_iadd dL_law_664 (by omega) (pc' := 665) rfl ?_
        refine ax_sald (v := a1) dL_law_665 (by omega) (by omega) qa1.symm (pc' := 666) rfl ?_
        refine ax_reS (st2 := [.inl 2, .inr 330, .inl (f_twr (f_laws L))]) (by rw [hc2]) ?_
        refine ax_invG [.inl 2] [.inl (f_twr (f_laws L))] dL_law_666 mlL_75 sh_330 rfl rfl rfl (Nat.le_of_ble_eq_true rfl) (s_text_lw E l _ (by omega) _ 2 L ((funext fun i0 => frM_657 331 i0 (fun h => h.elim (fun h => absurd h.1 (by decide)) (fun h => h.elim (fun h => absurd h (by decide)) (fun h => h.elim (fun h => absurd h (by decide)) (fun h => h.elim (fun h => absurd h (by decide)) (fun h => h.elim (fun h => absurd h.1 (by decide)) (fun h => h.elim (fun h => absurd h.1 (by decide)) (fun h => h.elim (fun h => absurd h.1 (by decide)) (fun h => h.elim (fun h => absurd h.1 (by decide)) (fun h => h.elim (fun h => absurd h (by decide)) (fun h => h.elim (fun h => absurd h.1 (by decide)) (fun h => h.elim (fun h => absurd h.1 (by decide)) (fun h => h.elim (fun h => absurd h (by decide)) (fun h => h.elim (fun h => absurd h.1 (by decide)) (fun h => absurd h.1 (by decide)))))))))))))))).trans rfl) ((funext fun i0 => frM_657 339 i0 (fun h => h.elim (fun h => absurd h.1 (by decide)) (fun h => h.elim (fun h => absurd h (by decide)) (fun h => h.elim (fun h => absurd h (by decide)) (fun h => h.elim (fun h => absurd h (by decide)) (fun h => h.elim (fun h => absurd h.1 (by decide)) (fun h => h.elim (fun h => absurd h.1 (by decide)) (fun h => h.elim (fun h => absurd h.1 (by decide)) (fun h => h.elim (fun h => absurd h.1 (by decide)) (fun h => h.elim (fun h => absurd h (by decide)) (fun h => h.elim (fun h => absurd h.1 (by decide)) (fun h => h.elim (fun h => absurd h.1 (by decide)) (fun h => h.elim (fun h => absurd h (by decide)) (fun h => h.elim (fun h => absurd h.1 (by decide)) (fun h => absurd h.1 (by decide)))))))))))))))).trans rfl) ((funext fun i0 => frM_657 335 i0 (fun h => h.elim (fun h => absurd h.1 (by decide)) (fun h => h.elim (fun h => absurd h (by decide)) (fun h => h.elim (fun h => absurd h (by decide)) (fun h => h.elim (fun h => absurd h (by decide)) (fun h => h.elim (fun h => absurd h.1 (by decide)) (fun h => h.elim (fun h => absurd h.1 (by decide)) (fun h => h.elim (fun h => absurd h.1 (by decide)) (fun h => h.elim (fun h => absurd h.1 (by decide)) (fun h => h.elim (fun h => absurd h (by decide)) (fun h => h.elim (fun h => absurd h.1 (by decide)) (fun h => h.elim (fun h => absurd h.1 (by decide)) (fun h => h.elim (fun h => absurd h (by decide)) (fun h => h.elim (fun h => absurd h.1 (by decide)) (fun h => absurd h.1 (by decide)))))))))))))))).trans rfl) ((funext fun i0 => frM_657 336 i0 (fun h => h.elim (fun h => absurd h.1 (by decide)) (fun h => h.elim (fun h => absurd h (by decide)) (fun h => h.elim (fun h => absurd h (by decide)) (fun h => h.elim (fun h => absurd h (by decide)) (fun h => h.elim (fun h => absurd h.1 (by decide)) (fun h => h.elim (fun h => absurd h.1 (by decide)) (fun h => h.elim (fun h => absurd h.1 (by decide)) (fun h => h.elim (fun h => absurd h.1 (by decide)) (fun h => h.elim (fun h => absurd h (by decide)) (fun h => h.elim (fun h => absurd h.1 (by decide)) (fun h => h.elim (fun h => absurd h.1 (by decide)) (fun h => h.elim (fun h => absurd h (by decide)) (fun h => h.elim (fun h => absurd h.1 (by decide)) (fun h => absurd h.1 (by decide)))))))))))))))).trans rfl) ((frM_657 330 17 (fun h => h.elim (fun h => absurd h.1 (by decide)) (fun h => h.elim (fun h => absurd h (by decide)) (fun h => h.elim (fun h => absurd h (by decide)) (fun h => h.elim (fun h => absurd h (by decide)) (fun h => h.elim (fun h => absurd h.1 (by decide)) (fun h => h.elim (fun h => absurd h.1 (by decide)) (fun h => h.elim (fun h => absurd h.1 (by decide)) (fun h => h.elim (fun h => absurd h.1 (by decide)) (fun h => h.elim (fun h => absurd h (by decide)) (fun h => h.elim (fun h => absurd h.1 (by decide)) (fun h => h.elim (fun h => absurd h.1 (by decide)) (fun h => h.elim (fun h => absurd h (by decide)) (fun h => h.elim (fun h => absurd h.1 (by decide)) (fun h => absurd h.1 (by decide)))))))))))))))).trans rfl) ((frM_657 330 21 (fun h => h.elim (fun h => absurd h.1 (by decide)) (fun h => h.elim (fun h => absurd h (by decide)) (fun h => h.elim (fun h => absurd h (by decide)) (fun h => h.elim (fun h => absurd h (by decide)) (fun h => h.elim (fun h => absurd h.1 (by decide)) (fun h => h.elim (fun h => absurd h.1 (by decide)) (fun h => h.elim (fun h => absurd h.1 (by decide)) (fun h => h.elim (fun h => absurd h.1 (by decide)) (fun h => h.elim (fun h => absurd h (by decide)) (fun h => h.elim (fun h => absurd h.1 (by decide)) (fun h => h.elim (fun h => absurd h.1 (by decide)) (fun h => h.elim (fun h => absurd h (by decide)) (fun h => h.elim (fun h => absurd h.1 (by decide)) (fun h => absurd h.1 (by decide)))))))))))))))).trans rfl) ((frM_657 330 25 (fun h => h.elim (fun h => absurd h.1 (by decide)) (fun h => h.elim (fun h => absurd h (by decide)) (fun h => h.elim (fun h => absurd h (by decide)) (fun h => h.elim (fun h => absurd h (by decide)) (fun h => h.elim (fun h => absurd h.1 (by decide)) (fun h => h.elim (fun h => absurd h.1 (by decide)) (fun h => h.elim (fun h => absurd h.1 (by decide)) (fun h => h.elim (fun h => absurd h.1 (by decide)) (fun h => h.elim (fun h => absurd h (by decide)) (fun h => h.elim (fun h => absurd h.1 (by decide)) (fun h => h.elim (fun h => absurd h.1 (by decide)) (fun h => h.elim (fun h => absurd h (by decide)) (fun h => h.elim (fun h => absurd h.1 (by decide)) (fun h => absurd h.1 (by decide)))))))))))))))).trans rfl) qt4 qtp hv hL.1 (by omega) (by decide)) (pc' := 669) rfl (fun vv M_666 hq co666 hcm666 => ?_)
        obtain ⟨rfl, frM_666, msM_666_0, fa666_0, fa666_1⟩ := hq
        refine ax_reS (st2 := [.inl (f_twr (f_laws L)), .inl (f_twr (f_laws L))]) rfl ?_
        have cc666 : -2147483648 ≤ f_twr (f_laws L) ∧ f_twr (f_laws L) < 2147483648 := co666 _ rfl
        refine ax_icmp_eq (tgt := 1416) dL_law_669 (by decide) (pc' := 672) rfl (fun h669 => ?_) (fun h669 => ?_)
        · obtain ⟨Ls2, hIV⟩ := f_IV_txl (k := 2) (N2 := M_666) hI (by decide) (fun x0 i0 hai => frM_657 x0 i0 (by omega)) fa657_0 fa666_0 msM_657_0
          exact kk _ (f_INV_mk (f_IV_fr hIV (fun x0 i0 hai => frM_666 x0 i0 (by unfold f_rc at hai; omega))) rfl ((funext fun i0 => frM_666 332 i0 (fun h => h.elim (fun h => absurd h.1 (by decide)) (fun h => h.elim (fun h => absurd h (by decide)) (fun h => h.elim (fun h => absurd h (by decide)) (fun h => h.elim (fun h => absurd h (by decide)) (fun h => h.elim (fun h => absurd h.1 (by decide)) (fun h => h.elim (fun h => absurd h.1 (by decide)) (fun h => h.elim (fun h => absurd h.1 (by decide)) (fun h => h.elim (fun h => absurd h.1 (by decide)) (fun h => h.elim (fun h => absurd h.1 (by decide)) (fun h => h.elim (fun h => absurd h.1 (by decide)) (fun h => h.elim (fun h => absurd h.1 (by decide)) (fun h => h.elim (fun h => absurd h.1 (by decide)) (fun h => h.elim (fun h => absurd h.1 (by decide)) (fun h => h.elim (fun h => absurd h.1 (by decide)) (fun h => h.elim (fun h => absurd h.1 (by decide)) (fun h => h.elim (fun h => absurd h.1 (by decide)) (fun h => h.elim (fun h => absurd h.1 (by decide)) (fun h => absurd h.1 (by decide)))))))))))))))))))).trans ((funext fun i0 => frM_657 332 i0 (fun h => h.elim (fun h => absurd h.1 (by decide)) (fun h => h.elim (fun h => absurd h (by decide)) (fun h => h.elim (fun h => absurd h (by decide)) (fun h => h.elim (fun h => absurd h (by decide)) (fun h => h.elim (fun h => absurd h.1 (by decide)) (fun h => h.elim (fun h => absurd h.1 (by decide)) (fun h => h.elim (fun h => absurd h.1 (by decide)) (fun h => h.elim (fun h => absurd h.1 (by decide)) (fun h => h.elim (fun h => absurd h (by decide)) (fun h => h.elim (fun h => absurd h.1 (by decide)) (fun h => h.elim (fun h => absurd h.1 (by decide)) (fun h => h.elim (fun h => absurd h (by decide)) (fun h => h.elim (fun h => absurd h.1 (by decide)) (fun h => absurd h.1 (by decide)))))))))))))))).trans rfl)) ((funext fun i0 => frM_666 333 i0 (fun h => h.elim (fun h => absurd h.1 (by decide)) (fun h => h.elim (fun h => absurd h (by decide)) (fun h => h.elim (fun h => absurd h (by decide)) (fun h => h.elim (fun h => absurd h (by decide)) (fun h => h.elim (fun h => absurd h.1 (by decide)) (fun h => h.elim (fun h => absurd h.1 (by decide)) (fun h => h.elim (fun h => absurd h.1 (by decide)) (fun h => h.elim (fun h => absurd h.1 (by decide)) (fun h => h.elim (fun h => absurd h.1 (by decide)) (fun h => h.elim (fun h => absurd h.1 (by decide)) (fun h => h.elim (fun h => absurd h.1 (by decide)) (fun h => h.elim (fun h => absurd h.1 (by decide)) (fun h => h.elim (fun h => absurd h.1 (by decide)) (fun h => h.elim (fun h => absurd h.1 (by decide)) (fun h => h.elim (fun h => absurd h.1 (by decide)) (fun h => h.elim (fun h => absurd h.1 (by decide)) (fun h => h.elim (fun h => absurd h.1 (by decide)) (fun h => absurd h.1 (by decide)))))))))))))))))))).trans ((funext fun i0 => frM_657 333 i0 (fun h => h.elim (fun h => absurd h.1 (by decide)) (fun h => h.elim (fun h => absurd h (by decide)) (fun h => h.elim (fun h => absurd h (by decide)) (fun h => h.elim (fun h => absurd h (by decide)) (fun h => h.elim (fun h => absurd h.1 (by decide)) (fun h => h.elim (fun h => absurd h.1 (by decide)) (fun h => h.elim (fun h => absurd h.1 (by decide)) (fun h => h.elim (fun h => absurd h.1 (by decide)) (fun h => h.elim (fun h => absurd h (by decide)) (fun h => h.elim (fun h => absurd h.1 (by decide)) (fun h => h.elim (fun h => absurd h.1 (by decide)) (fun h => h.elim (fun h => absurd h (by decide)) (fun h => h.elim (fun h => absurd h.1 (by decide)) (fun h => absurd h.1 (by decide)))))))))))))))).trans rfl)) ((funext fun i0 => frM_666 339 i0 (fun h => h.elim (fun h => absurd h.1 (by decide)) (fun h => h.elim (fun h => absurd h (by decide)) (fun h => h.elim (fun h => absurd h (by decide)) (fun h => h.elim (fun h => absurd h (by decide)) (fun h => h.elim (fun h => absurd h.1 (by decide)) (fun h => h.elim (fun h => absurd h.1 (by decide)) (fun h => h.elim (fun h => absurd h.1 (by decide)) (fun h => h.elim (fun h => absurd h.1 (by decide)) (fun h => h.elim (fun h => absurd h.1 (by decide)) (fun h => h.elim (fun h => absurd h.1 (by decide)) (fun h => h.elim (fun h => absurd h.1 (by decide)) (fun h => h.elim (fun h => absurd h.1 (by decide)) (fun h => h.elim (fun h => absurd h.1 (by decide)) (fun h => h.elim (fun h => absurd h.1 (by decide)) (fun h => h.elim (fun h => absurd h.1 (by decide)) (fun h => h.elim (fun h => absurd h.1 (by decide)) (fun h => h.elim (fun h => absurd h.1 (by decide)) (fun h => absurd h.1 (by decide)))))))))))))))))))).trans ((funext fun i0 => frM_657 339 i0 (fun h => h.elim (fun h => absurd h.1 (by decide)) (fun h => h.elim (fun h => absurd h (by decide)) (fun h => h.elim (fun h => absurd h (by decide)) (fun h => h.elim (fun h => absurd h (by decide)) (fun h => h.elim (fun h => absurd h.1 (by decide)) (fun h => h.elim (fun h => absurd h.1 (by decide)) (fun h => h.elim (fun h => absurd h.1 (by decide)) (fun h => h.elim (fun h => absurd h.1 (by decide)) (fun h => h.elim (fun h => absurd h (by decide)) (fun h => h.elim (fun h => absurd h.1 (by decide)) (fun h => h.elim (fun h => absurd h.1 (by decide)) (fun h => h.elim (fun h => absurd h (by decide)) (fun h => h.elim (fun h => absurd h.1 (by decide)) (fun h => absurd h.1 (by decide)))))))))))))))).trans rfl)) ((frM_666 330 4 (fun h => h.elim (fun h => absurd h.2 (by decide)) (fun h => h.elim (fun h => absurd h (by decide)) (fun h => h.elim (fun h => absurd h (by decide)) (fun h => h.elim (fun h => absurd h (by decide)) (fun h => h.elim (fun h => absurd h.2 (by decide)) (fun h => h.elim (fun h => absurd h.2 (by decide)) (fun h => h.elim (fun h => absurd h.2 (by decide)) (fun h => h.elim (fun h => absurd h.2 (by decide)) (fun h => h.elim (fun h => absurd h.2 (by decide)) (fun h => h.elim (fun h => absurd h.2 (by decide)) (fun h => h.elim (fun h => absurd h.2 (by decide)) (fun h => h.elim (fun h => absurd h.2 (by decide)) (fun h => h.elim (fun h => absurd h.2 (by decide)) (fun h => h.elim (fun h => absurd h.2 (by decide)) (fun h => h.elim (fun h => absurd h.2 (by decide)) (fun h => h.elim (fun h => absurd h.2 (by decide)) (fun h => h.elim (fun h => absurd h.2 (by decide)) (fun h => absurd h.2 (by decide)))))))))))))))))))).trans ((frM_657 330 4 (fun h => h.elim (fun h => absurd h.1 (by decide)) (fun h => h.elim (fun h => absurd h (by decide)) (fun h => h.elim (fun h => absurd h (by decide)) (fun h => h.elim (fun h => absurd h (by decide)) (fun h => h.elim (fun h => absurd h.1 (by decide)) (fun h => h.elim (fun h => absurd h.1 (by decide)) (fun h => h.elim (fun h => absurd h.1 (by decide)) (fun h => h.elim (fun h => absurd h.1 (by decide)) (fun h => h.elim (fun h => absurd h (by decide)) (fun h => h.elim (fun h => absurd h.1 (by decide)) (fun h => h.elim (fun h => absurd h.1 (by decide)) (fun h => h.elim (fun h => absurd h (by decide)) (fun h => h.elim (fun h => absurd h.1 (by decide)) (fun h => absurd h.1 (by decide)))))))))))))))).trans rfl)) ((frM_666 330 5 (fun h => h.elim (fun h => absurd h.2 (by decide)) (fun h => h.elim (fun h => absurd h (by decide)) (fun h => h.elim (fun h => absurd h (by decide)) (fun h => h.elim (fun h => absurd h (by decide)) (fun h => h.elim (fun h => absurd h.2 (by decide)) (fun h => h.elim (fun h => absurd h.2 (by decide)) (fun h => h.elim (fun h => absurd h.2 (by decide)) (fun h => h.elim (fun h => absurd h.2 (by decide)) (fun h => h.elim (fun h => absurd h.2 (by decide)) (fun h => h.elim (fun h => absurd h.2 (by decide)) (fun h => h.elim (fun h => absurd h.2 (by decide)) (fun h => h.elim (fun h => absurd h.2 (by decide)) (fun h => h.elim (fun h => absurd h.2 (by decide)) (fun h => h.elim (fun h => absurd h.2 (by decide)) (fun h => h.elim (fun h => absurd h.2 (by decide)) (fun h => h.elim (fun h => absurd h.2 (by decide)) (fun h => h.elim (fun h => absurd h.2 (by decide)) (fun h => absurd h.2 (by decide)))))))))))))))))))).trans ((frM_657 330 5 (fun h => h.elim (fun h => absurd h.1 (by decide)) (fun h => h.elim (fun h => absurd h (by decide)) (fun h => h.elim (fun h => absurd h (by decide)) (fun h => h.elim (fun h => absurd h (by decide)) (fun h => h.elim (fun h => absurd h.1 (by decide)) (fun h => h.elim (fun h => absurd h.1 (by decide)) (fun h => h.elim (fun h => absurd h.1 (by decide)) (fun h => h.elim (fun h => absurd h.1 (by decide)) (fun h => h.elim (fun h => absurd h (by decide)) (fun h => h.elim (fun h => absurd h.1 (by decide)) (fun h => h.elim (fun h => absurd h.1 (by decide)) (fun h => h.elim (fun h => absurd h (by decide)) (fun h => h.elim (fun h => absurd h.1 (by decide)) (fun h => absurd h.1 (by decide)))))))))))))))).trans rfl)) msM_666_0 rfl rfl rfl fa666_1)
        · exfalso
          first | exact h669 rfl | (rw [qta, qtn] at h669; exact h669 rfl)
      · by_cases hc3 : a1 = 3
        · obtain ⟨L, hL⟩ := f_lx_ex (rd := 3) qtp ((M 330 17).toNat + 1) 0 (M 330 21) (by omega) (Int.le_refl 0) qt4.1
          refine ax_reS (st2 := [.inl 3, .inr 0]) (by rw [hc3]) ?_
          refine ax_invG [.inl 3] [] dL_law_657 mlL_72 sh_0 rfl rfl rfl (Nat.le_of_ble_eq_true rfl) (s_X11_text_dr E l _ (by omega) _ (M 330 21) L rfl rfl (by rw [qtn]; exact qt4) (by rw [qta, qtn]; exact qtp) (by rw [qta, qtn]; exact hL.1) hv) (pc' := 660) rfl (fun vv M_657 hq co657 hcm657 => ?_)
          obtain ⟨rfl, frM_657, msM_657_0, fa657_0⟩ := hq
          refine ax_reS (st2 := [.inl (f_tqr (f_drl L))]) rfl ?_
          have cc657 : -2147483648 ≤ f_tqr (f_drl L) ∧ f_tqr (f_drl L) < 2147483648 := co657 _ rfl
          refine ax_aload_n dL_law_660 rfl rfl (pc' := 661) rfl ?_
          refine ax_aload_n dL_law_661 rfl rfl (pc' := 662) rfl ?_
          refine ax_iload_n dL_law_662 rfl rfl (pc' := 663) rfl ?_
          refine ax_iconst dL_law_663 (by decide) (pc' := 664) rfl ?_
          refine ax_iadd dL_law_664 (by omega) (pc' := 665) rfl ?_
          refine ax_sald (v := a1) dL_law_665 (by omega) (by omega) qa1.symm (pc' := 666) rfl ?_
          refine ax_reS (st2 := [.inl 3, .inr 330, .inl (f_tqr (f_drl L))]) (by rw [hc3]) ?_
          refine ax_invG [.inl 3] [.inl (f_tqr (f_drl L))] dL_law_666 mlL_75 sh_330 rfl rfl rfl (Nat.le_of_ble_eq_true rfl) (s_text_dr E l _ (by omega) _ 3 L ((funext fun i0 => frM_657 331 i0 (fun h => h.elim (fun h => absurd h.1 (by decide)) (fun h => h.elim (fun h => absurd h (by decide)) (fun h => h.elim (fun h => absurd h (by decide)) (fun h => h.elim (fun h => absurd h (by decide)) (fun h => h.elim (fun h => absurd h.1 (by decide)) (fun h => h.elim (fun h => absurd h.1 (by decide)) (fun h => h.elim (fun h => absurd h.1 (by decide)) (fun h => h.elim (fun h => absurd h.1 (by decide)) (fun h => h.elim (fun h => absurd h (by decide)) (fun h => h.elim (fun h => absurd h (by decide)) (fun h => h.elim (fun h => absurd h (by decide)) (fun h => h.elim (fun h => absurd h (by decide)) (fun h => h.elim (fun h => absurd h (by decide)) (fun h => h.elim (fun h => absurd h.1 (by decide)) (fun h => h.elim (fun h => absurd h.1 (by decide)) (fun h => h.elim (fun h => absurd h.1 (by decide)) (fun h => h.elim (fun h => absurd h (by decide)) (fun h => h.elim (fun h => absurd h (by decide)) (fun h => absurd h (by decide))))))))))))))))))))).trans rfl) ((funext fun i0 => frM_657 339 i0 (fun h => h.elim (fun h => absurd h.1 (by decide)) (fun h => h.elim (fun h => absurd h (by decide)) (fun h => h.elim (fun h => absurd h (by decide)) (fun h => h.elim (fun h => absurd h (by decide)) (fun h => h.elim (fun h => absurd h.1 (by decide)) (fun h => h.elim (fun h => absurd h.1 (by decide)) (fun h => h.elim (fun h => absurd h.1 (by decide)) (fun h => h.elim (fun h => absurd h.1 (by decide)) (fun h => h.elim (fun h => absurd h (by decide)) (fun h => h.elim (fun h => absurd h (by decide)) (fun h => h.elim (fun h => absurd h (by decide)) (fun h => h.elim (fun h => absurd h (by decide)) (fun h => h.elim (fun h => absurd h (by decide)) (fun h => h.elim (fun h => absurd h.1 (by decide)) (fun h => h.elim (fun h => absurd h.1 (by decide)) (fun h => h.elim (fun h => absurd h.1 (by decide)) (fun h => h.elim (fun h => absurd h (by decide)) (fun h => h.elim (fun h => absurd h (by decide)) (fun h => absurd h (by decide))))))))))))))))))))).trans rfl) ((funext fun i0 => frM_657 337 i0 (fun h => h.elim (fun h => absurd h.1 (by decide)) (fun h => h.elim (fun h => absurd h (by decide)) (fun h => h.elim (fun h => absurd h (by decide)) (fun h => h.elim (fun h => absurd h (by decide)) (fun h => h.elim (fun h => absurd h.1 (by decide)) (fun h => h.elim (fun h => absurd h.1 (by decide)) (fun h => h.elim (fun h => absurd h.1 (by decide)) (fun h => h.elim (fun h => absurd h.1 (by decide)) (fun h => h.elim (fun h => absurd h (by decide)) (fun h => h.elim (fun h => absurd h (by decide)) (fun h => h.elim (fun h => absurd h (by decide)) (fun h => h.elim (fun h => absurd h (by decide)) (fun h => h.elim (fun h => absurd h (by decide)) (fun h => h.elim (fun h => absurd h.1 (by decide)) (fun h => h.elim (fun h => absurd h.1 (by decide)) (fun h => h.elim (fun h => absurd h.1 (by decide)) (fun h => h.elim (fun h => absurd h (by decide)) (fun h => h.elim (fun h => absurd h (by decide)) (fun h => absurd h (by decide))))))))))))))))))))).trans rfl) ((frM_657 330 17 (fun h => h.elim (fun h => absurd h.1 (by decide)) (fun h => h.elim (fun h => absurd h (by decide)) (fun h => h.elim (fun h => absurd h (by decide)) (fun h => h.elim (fun h => absurd h (by decide)) (fun h => h.elim (fun h => absurd h.1 (by decide)) (fun h => h.elim (fun h => absurd h.1 (by decide)) (fun h => h.elim (fun h => absurd h.1 (by decide)) (fun h => h.elim (fun h => absurd h.1 (by decide)) (fun h => h.elim (fun h => absurd h (by decide)) (fun h => h.elim (fun h => absurd h (by decide)) (fun h => h.elim (fun h => absurd h (by decide)) (fun h => h.elim (fun h => absurd h (by decide)) (fun h => h.elim (fun h => absurd h (by decide)) (fun h => h.elim (fun h => absurd h.1 (by decide)) (fun h => h.elim (fun h => absurd h.1 (by decide)) (fun h => h.elim (fun h => absurd h.1 (by decide)) (fun h => h.elim (fun h => absurd h (by decide)) (fun h => h.elim (fun h => absurd h (by decide)) (fun h => absurd h (by decide))))))))))))))))))))).trans rfl) ((frM_657 330 21 (fun h => h.elim (fun h => absurd h.1 (by decide)) (fun h => h.elim (fun h => absurd h (by decide)) (fun h => h.elim (fun h => absurd h (by decide)) (fun h => h.elim (fun h => absurd h (by decide)) (fun h => h.elim (fun h => absurd h.1 (by decide)) (fun h => h.elim (fun h => absurd h.1 (by decide)) (fun h => h.elim (fun h => absurd h.1 (by decide)) (fun h => h.elim (fun h => absurd h.1 (by decide)) (fun h => h.elim (fun h => absurd h (by decide)) (fun h => h.elim (fun h => absurd h (by decide)) (fun h => h.elim (fun h => absurd h (by decide)) (fun h => h.elim (fun h => absurd h (by decide)) (fun h => h.elim (fun h => absurd h (by decide)) (fun h => h.elim (fun h => absurd h.1 (by decide)) (fun h => h.elim (fun h => absurd h.1 (by decide)) (fun h => h.elim (fun h => absurd h.1 (by decide)) (fun h => h.elim (fun h => absurd h (by decide)) (fun h => h.elim (fun h => absurd h (by decide)) (fun h => absurd h (by decide))))))))))))))))))))).trans rfl) qt4 qtp hv hL.1 (by omega) (by decide)) (pc' := 669) rfl (fun vv M_666 hq co666 hcm666 => ?_)
          obtain ⟨rfl, frM_666, msM_666_0, fa666_0, fa666_1⟩ := hq
          refine ax_reS (st2 := [.inl (f_tqr (f_drl L)), .inl (f_tqr (f_drl L))]) rfl ?_
          have cc666 : -2147483648 ≤ f_tqr (f_drl L) ∧ f_tqr (f_drl L) < 2147483648 := co666 _ rfl
          refine ax_icmp_eq (tgt := 1416) dL_law_669 (by decide) (pc' := 672) rfl (fun h669 => ?_) (fun h669 => ?_)
          · have hIV := f_IV_txd (N2 := M_666) hI (fun x0 i0 hai => frM_657 x0 i0 (by omega)) fa657_0 fa666_0 msM_657_0
            exact kk _ (f_INV_mk (f_IV_fr hIV (fun x0 i0 hai => frM_666 x0 i0 (by unfold f_rc at hai; omega))) rfl ((funext fun i0 => frM_666 332 i0 (fun h => h.elim (fun h => absurd h.1 (by decide)) (fun h => h.elim (fun h => absurd h (by decide)) (fun h => h.elim (fun h => absurd h (by decide)) (fun h => h.elim (fun h => absurd h.1 (by decide)) (fun h => h.elim (fun h => absurd h.1 (by decide)) (fun h => h.elim (fun h => absurd h.1 (by decide)) (fun h => h.elim (fun h => absurd h.1 (by decide)) (fun h => h.elim (fun h => absurd h.1 (by decide)) (fun h => h.elim (fun h => absurd h.1 (by decide)) (fun h => h.elim (fun h => absurd h.1 (by decide)) (fun h => h.elim (fun h => absurd h.1 (by decide)) (fun h => h.elim (fun h => absurd h.1 (by decide)) (fun h => h.elim (fun h => absurd h.1 (by decide)) (fun h => h.elim (fun h => absurd h.1 (by decide)) (fun h => h.elim (fun h => absurd h.1 (by decide)) (fun h => h.elim (fun h => absurd h.1 (by decide)) (fun h => absurd h.1 (by decide))))))))))))))))))).trans ((funext fun i0 => frM_657 332 i0 (fun h => h.elim (fun h => absurd h.1 (by decide)) (fun h => h.elim (fun h => absurd h (by decide)) (fun h => h.elim (fun h => absurd h (by decide)) (fun h => h.elim (fun h => absurd h (by decide)) (fun h => h.elim (fun h => absurd h.1 (by decide)) (fun h => h.elim (fun h => absurd h.1 (by decide)) (fun h => h.elim (fun h => absurd h.1 (by decide)) (fun h => h.elim (fun h => absurd h.1 (by decide)) (fun h => h.elim (fun h => absurd h (by decide)) (fun h => h.elim (fun h => absurd h (by decide)) (fun h => h.elim (fun h => absurd h (by decide)) (fun h => h.elim (fun h => absurd h (by decide)) (fun h => h.elim (fun h => absurd h (by decide)) (fun h => h.elim (fun h => absurd h.1 (by decide)) (fun h => h.elim (fun h => absurd h.1 (by decide)) (fun h => h.elim (fun h => absurd h.1 (by decide)) (fun h => h.elim (fun h => absurd h (by decide)) (fun h => h.elim (fun h => absurd h (by decide)) (fun h => absurd h (by decide))))))))))))))))))))).trans rfl)) ((funext fun i0 => frM_666 333 i0 (fun h => h.elim (fun h => absurd h.1 (by decide)) (fun h => h.elim (fun h => absurd h (by decide)) (fun h => h.elim (fun h => absurd h (by decide)) (fun h => h.elim (fun h => absurd h.1 (by decide)) (fun h => h.elim (fun h => absurd h.1 (by decide)) (fun h => h.elim (fun h => absurd h.1 (by decide)) (fun h => h.elim (fun h => absurd h.1 (by decide)) (fun h => h.elim (fun h => absurd h.1 (by decide)) (fun h => h.elim (fun h => absurd h.1 (by decide)) (fun h => h.elim (fun h => absurd h.1 (by decide)) (fun h => h.elim (fun h => absurd h.1 (by decide)) (fun h => h.elim (fun h => absurd h.1 (by decide)) (fun h => h.elim (fun h => absurd h.1 (by decide)) (fun h => h.elim (fun h => absurd h.1 (by decide)) (fun h => h.elim (fun h => absurd h.1 (by decide)) (fun h => h.elim (fun h => absurd h.1 (by decide)) (fun h => absurd h.1 (by decide))))))))))))))))))).trans ((funext fun i0 => frM_657 333 i0 (fun h => h.elim (fun h => absurd h.1 (by decide)) (fun h => h.elim (fun h => absurd h (by decide)) (fun h => h.elim (fun h => absurd h (by decide)) (fun h => h.elim (fun h => absurd h (by decide)) (fun h => h.elim (fun h => absurd h.1 (by decide)) (fun h => h.elim (fun h => absurd h.1 (by decide)) (fun h => h.elim (fun h => absurd h.1 (by decide)) (fun h => h.elim (fun h => absurd h.1 (by decide)) (fun h => h.elim (fun h => absurd h (by decide)) (fun h => h.elim (fun h => absurd h (by decide)) (fun h => h.elim (fun h => absurd h (by decide)) (fun h => h.elim (fun h => absurd h (by decide)) (fun h => h.elim (fun h => absurd h (by decide)) (fun h => h.elim (fun h => absurd h.1 (by decide)) (fun h => h.elim (fun h => absurd h.1 (by decide)) (fun h => h.elim (fun h => absurd h.1 (by decide)) (fun h => h.elim (fun h => absurd h (by decide)) (fun h => h.elim (fun h => absurd h (by decide)) (fun h => absurd h (by decide))))))))))))))))))))).trans rfl)) ((funext fun i0 => frM_666 339 i0 (fun h => h.elim (fun h => absurd h.1 (by decide)) (fun h => h.elim (fun h => absurd h (by decide)) (fun h => h.elim (fun h => absurd h (by decide)) (fun h => h.elim (fun h => absurd h.1 (by decide)) (fun h => h.elim (fun h => absurd h.1 (by decide)) (fun h => h.elim (fun h => absurd h.1 (by decide)) (fun h => h.elim (fun h => absurd h.1 (by decide)) (fun h => h.elim (fun h => absurd h.1 (by decide)) (fun h => h.elim (fun h => absurd h.1 (by decide)) (fun h => h.elim (fun h => absurd h.1 (by decide)) (fun h => h.elim (fun h => absurd h.1 (by decide)) (fun h => h.elim (fun h => absurd h.1 (by decide)) (fun h => h.elim (fun h => absurd h.1 (by decide)) (fun h => h.elim (fun h => absurd h.1 (by decide)) (fun h => h.elim (fun h => absurd h.1 (by decide)) (fun h => h.elim (fun h => absurd h.1 (by decide)) (fun h => absurd h.1 (by decide))))))))))))))))))).trans ((funext fun i0 => frM_657 339 i0 (fun h => h.elim (fun h => absurd h.1 (by decide)) (fun h => h.elim (fun h => absurd h (by decide)) (fun h => h.elim (fun h => absurd h (by decide)) (fun h => h.elim (fun h => absurd h (by decide)) (fun h => h.elim (fun h => absurd h.1 (by decide)) (fun h => h.elim (fun h => absurd h.1 (by decide)) (fun h => h.elim (fun h => absurd h.1 (by decide)) (fun h => h.elim (fun h => absurd h.1 (by decide)) (fun h => h.elim (fun h => absurd h (by decide)) (fun h => h.elim (fun h => absurd h (by decide)) (fun h => h.elim (fun h => absurd h (by decide)) (fun h => h.elim (fun h => absurd h (by decide)) (fun h => h.elim (fun h => absurd h (by decide)) (fun h => h.elim (fun h => absurd h.1 (by decide)) (fun h => h.elim (fun h => absurd h.1 (by decide)) (fun h => h.elim (fun h => absurd h.1 (by decide)) (fun h => h.elim (fun h => absurd h (by decide)) (fun h => h.elim (fun h => absurd h (by decide)) (fun h => absurd h (by decide))))))))))))))))))))).trans rfl)) ((frM_666 330 4 (fun h => h.elim (fun h => absurd h.2 (by decide)) (fun h => h.elim (fun h => absurd h (by decide)) (fun h => h.elim (fun h => absurd h (by decide)) (fun h => h.elim (fun h => absurd h.2 (by decide)) (fun h => h.elim (fun h => absurd h.2 (by decide)) (fun h => h.elim (fun h => absurd h.2 (by decide)) (fun h => h.elim (fun h => absurd h.2 (by decide)) (fun h => h.elim (fun h => absurd h.2 (by decide)) (fun h => h.elim (fun h => absurd h.2 (by decide)) (fun h => h.elim (fun h => absurd h.2 (by decide)) (fun h => h.elim (fun h => absurd h.2 (by decide)) (fun h => h.elim (fun h => absurd h.2 (by decide)) (fun h => h.elim (fun h => absurd h.2 (by decide)) (fun h => h.elim (fun h => absurd h.2 (by decide)) (fun h => h.elim (fun h => absurd h.2 (by decide)) (fun h => h.elim (fun h => absurd h.2 (by decide)) (fun h => absurd h.2 (by decide))))))))))))))))))).trans ((frM_657 330 4 (fun h => h.elim (fun h => absurd h.1 (by decide)) (fun h => h.elim (fun h => absurd h (by decide)) (fun h => h.elim (fun h => absurd h (by decide)) (fun h => h.elim (fun h => absurd h (by decide)) (fun h => h.elim (fun h => absurd h.1 (by decide)) (fun h => h.elim (fun h => absurd h.1 (by decide)) (fun h => h.elim (fun h => absurd h.1 (by decide)) (fun h => h.elim (fun h => absurd h.1 (by decide)) (fun h => h.elim (fun h => absurd h (by decide)) (fun h => h.elim (fun h => absurd h (by decide)) (fun h => h.elim (fun h => absurd h (by decide)) (fun h => h.elim (fun h => absurd h (by decide)) (fun h => h.elim (fun h => absurd h (by decide)) (fun h => h.elim (fun h => absurd h.1 (by decide)) (fun h => h.elim (fun h => absurd h.1 (by decide)) (fun h => h.elim (fun h => absurd h.1 (by decide)) (fun h => h.elim (fun h => absurd h (by decide)) (fun h => h.elim (fun h => absurd h (by decide)) (fun h => absurd h (by decide))))))))))))))))))))).trans rfl)) ((frM_666 330 5 (fun h => h.elim (fun h => absurd h.2 (by decide)) (fun h => h.elim (fun h => absurd h (by decide)) (fun h => h.elim (fun h => absurd h (by decide)) (fun h => h.elim (fun h => absurd h.2 (by decide)) (fun h => h.elim (fun h => absurd h.2 (by decide)) (fun h => h.elim (fun h => absurd h.2 (by decide)) (fun h => h.elim (fun h => absurd h.2 (by decide)) (fun h => h.elim (fun h => absurd h.2 (by decide)) (fun h => h.elim (fun h => absurd h.2 (by decide)) (fun h => h.elim (fun h => absurd h.2 (by decide)) (fun h => h.elim (fun h => absurd h.2 (by decide)) (fun h => h.elim (fun h => absurd h.2 (by decide)) (fun h => h.elim (fun h => absurd h.2 (by decide)) (fun h => h.elim (fun h => absurd h.2 (by decide)) (fun h => h.elim (fun h => absurd h.2 (by decide)) (fun h => h.elim (fun h => absurd h.2 (by decide)) (fun h => absurd h.2 (by decide))))))))))))))))))).trans ((frM_657 330 5 (fun h => h.elim (fun h => absurd h.1 (by decide)) (fun h => h.elim (fun h => absurd h (by decide)) (fun h => h.elim (fun h => absurd h (by decide)) (fun h => h.elim (fun h => absurd h (by decide)) (fun h => h.elim (fun h => absurd h.1 (by decide)) (fun h => h.elim (fun h => absurd h.1 (by decide)) (fun h => h.elim (fun h => absurd h.1 (by decide)) (fun h => h.elim (fun h => absurd h.1 (by decide)) (fun h => h.elim (fun h => absurd h (by decide)) (fun h => h.elim (fun h => absurd h (by decide)) (fun h => h.elim (fun h => absurd h (by decide)) (fun h => h.elim (fun h => absurd h (by decide)) (fun h => h.elim (fun h => absurd h (by decide)) (fun h => h.elim (fun h => absurd h.1 (by decide)) (fun h => h.elim (fun h => absurd h.1 (by decide)) (fun h => h.elim (fun h => absurd h.1 (by decide)) (fun h => h.elim (fun h => absurd h (by decide)) (fun h => h.elim (fun h => absurd h (by decide)) (fun h => absurd h (by decide))))))))))))))))))))).trans rfl)) msM_666_0 rfl rfl rfl fa666_1)
          · exfalso
            first | exact h669 rfl | (rw [qta, qtn] at h669; exact h669 rfl)
        · by_cases hc4 : 4 ≤ a1 ∧ a1 < 8
          · refine ax_invG [.inl a1] [] dL_law_657 mlL_72 sh_0 rfl rfl rfl (Nat.le_of_ble_eq_true rfl) (s_X11_text_sh E l _ (by omega) _ a1 rfl rfl (by rw [qtn]; exact qt4) hc4) (pc' := 660) rfl (fun vv M_657 hq co657 hcm657 => ?_)
            obtain ⟨rfl, frM_657, msM_657_0, fa657_0⟩ := hq
            refine ax_reS (st2 := [.inl (f_thr (f_rshp (M 59) (M 58 1)))]) rfl ?_
            have cc657 : -2147483648 ≤ f_thr (f_rshp (M 59) (M 58 1)) ∧ f_thr (f_rshp (M 59) (M 58 1)) < 2147483648 := co657 _ rfl
            refine ax_aload_n dL_law_660 rfl rfl (pc' := 661) rfl ?_
            refine ax_aload_n dL_law_661 rfl rfl (pc' := 662) rfl ?_
            refine ax_iload_n dL_law_662 rfl rfl (pc' := 663) rfl ?_
            refine ax_iconst dL_law_663 (by decide) (pc' := 664) rfl ?_
            refine ax_iadd dL_law_664 (by omega) (pc' := 665) rfl ?_
            refine ax_sald (v := a1) dL_law_665 (by omega) (by omega) qa1.symm (pc' := 666) rfl ?_
            refine ax_invG [.inl a1] [.inl (f_thr (f_rshp (M 59) (M 58 1)))] dL_law_666 mlL_75 sh_330 rfl rfl rfl (Nat.le_of_ble_eq_true rfl) (s_text_sh E l _ (by omega) _ a1 ((funext fun i0 => frM_657 331 i0 (fun h => h.elim (fun h => absurd h.1 (by decide)) (fun h => h.elim (fun h => absurd h (by decide)) (fun h => h.elim (fun h => absurd h (by decide)) (fun h => h.elim (fun h => absurd h.1 (by decide)) (fun h => absurd h.1 (by decide))))))).trans rfl) ((funext fun i0 => frM_657 339 i0 (fun h => h.elim (fun h => absurd h.1 (by decide)) (fun h => h.elim (fun h => absurd h (by decide)) (fun h => h.elim (fun h => absurd h (by decide)) (fun h => h.elim (fun h => absurd h.1 (by decide)) (fun h => absurd h.1 (by decide))))))).trans rfl) ((funext fun i0 => frM_657 338 i0 (fun h => h.elim (fun h => absurd h.1 (by decide)) (fun h => h.elim (fun h => absurd h (by decide)) (fun h => h.elim (fun h => absurd h (by decide)) (fun h => h.elim (fun h => absurd h.1 (by decide)) (fun h => absurd h.1 (by decide))))))).trans rfl) ((frM_657 330 17 (fun h => h.elim (fun h => absurd h.1 (by decide)) (fun h => h.elim (fun h => absurd h (by decide)) (fun h => h.elim (fun h => absurd h (by decide)) (fun h => h.elim (fun h => absurd h.1 (by decide)) (fun h => absurd h.1 (by decide))))))).trans rfl) qt4 (by omega)) (pc' := 669) rfl (fun vv M_666 hq co666 hcm666 => ?_)
            obtain ⟨rfl, frM_666, msM_666_0, fa666_0⟩ := hq
            refine ax_reS (st2 := [.inl (f_thr (f_rshp (M 339) (M 330 17))), .inl (f_thr (f_rshp (M 59) (M 58 1)))]) rfl ?_
            have cc666 : -2147483648 ≤ f_thr (f_rshp (M 339) (M 330 17)) ∧ f_thr (f_rshp (M 339) (M 330 17)) < 2147483648 := co666 _ rfl
            refine ax_icmp_eq (tgt := 1416) dL_law_669 (by decide) (pc' := 672) rfl (fun h669 => ?_) (fun h669 => ?_)
            · have hA := fa657_0
              rw [qta, qtn] at hA
              have hB := fa666_0
              rw [show a1 - 3 - 1 = a1 - 4 by omega] at hB
              have hIV := f_IV_txs (k := a1 - 4) (N2 := M_666) hI (by omega) (fun x0 i0 hai => frM_657 x0 i0 (by omega)) hA hB msM_657_0
              exact kk _ (f_INV_mk (f_IV_fr hIV (fun x0 i0 hai => frM_666 x0 i0 (by unfold f_rc at hai; omega))) rfl ((funext fun i0 => frM_666 332 i0 (fun h => h.elim (fun h => absurd h.1 (by decide)) (fun h => h.elim (fun h => absurd h (by decide)) (fun h => h.elim (fun h => absurd h (by decide)) (fun h => h.elim (fun h => absurd h.1 (by decide)) (fun h => h.elim (fun h => absurd h.1 (by decide)) (fun h => h.elim (fun h => absurd h.1 (by decide)) (fun h => h.elim (fun h => absurd h.1 (by decide)) (fun h => h.elim (fun h => absurd h.1 (by decide)) (fun h => h.elim (fun h => absurd h.1 (by decide)) (fun h => h.elim (fun h => absurd h.1 (by decide)) (fun h => h.elim (fun h => absurd h.1 (by decide)) (fun h => h.elim (fun h => absurd h.1 (by decide)) (fun h => h.elim (fun h => absurd h.1 (by decide)) (fun h => h.elim (fun h => absurd h.1 (by decide)) (fun h => h.elim (fun h => absurd h.1 (by decide)) (fun h => absurd h.1 (by decide)))))))))))))))))).trans ((funext fun i0 => frM_657 332 i0 (fun h => h.elim (fun h => absurd h.1 (by decide)) (fun h => h.elim (fun h => absurd h (by decide)) (fun h => h.elim (fun h => absurd h (by decide)) (fun h => h.elim (fun h => absurd h.1 (by decide)) (fun h => absurd h.1 (by decide))))))).trans rfl)) ((funext fun i0 => frM_666 333 i0 (fun h => h.elim (fun h => absurd h.1 (by decide)) (fun h => h.elim (fun h => absurd h (by decide)) (fun h => h.elim (fun h => absurd h (by decide)) (fun h => h.elim (fun h => absurd h.1 (by decide)) (fun h => h.elim (fun h => absurd h.1 (by decide)) (fun h => h.elim (fun h => absurd h.1 (by decide)) (fun h => h.elim (fun h => absurd h.1 (by decide)) (fun h => h.elim (fun h => absurd h.1 (by decide)) (fun h => h.elim (fun h => absurd h.1 (by decide)) (fun h => h.elim (fun h => absurd h.1 (by decide)) (fun h => h.elim (fun h => absurd h.1 (by decide)) (fun h => h.elim (fun h => absurd h.1 (by decide)) (fun h => h.elim (fun h => absurd h.1 (by decide)) (fun h => h.elim (fun h => absurd h.1 (by decide)) (fun h => h.elim (fun h => absurd h.1 (by decide)) (fun h => absurd h.1 (by decide)))))))))))))))))).trans ((funext fun i0 => frM_657 333 i0 (fun h => h.elim (fun h => absurd h.1 (by decide)) (fun h => h.elim (fun h => absurd h (by decide)) (fun h => h.elim (fun h => absurd h (by decide)) (fun h => h.elim (fun h => absurd h.1 (by decide)) (fun h => absurd h.1 (by decide))))))).trans rfl)) ((funext fun i0 => frM_666 339 i0 (fun h => h.elim (fun h => absurd h.1 (by decide)) (fun h => h.elim (fun h => absurd h (by decide)) (fun h => h.elim (fun h => absurd h (by decide)) (fun h => h.elim (fun h => absurd h.1 (by decide)) (fun h => h.elim (fun h => absurd h.1 (by decide)) (fun h => h.elim (fun h => absurd h.1 (by decide)) (fun h => h.elim (fun h => absurd h.1 (by decide)) (fun h => h.elim (fun h => absurd h.1 (by decide)) (fun h => h.elim (fun h => absurd h.1 (by decide)) (fun h => h.elim (fun h => absurd h.1 (by decide)) (fun h => h.elim (fun h => absurd h.1 (by decide)) (fun h => h.elim (fun h => absurd h.1 (by decide)) (fun h => h.elim (fun h => absurd h.1 (by decide)) (fun h => h.elim (fun h => absurd h.1 (by decide)) (fun h => h.elim (fun h => absurd h.1 (by decide)) (fun h => absurd h.1 (by decide)))))))))))))))))).trans ((funext fun i0 => frM_657 339 i0 (fun h => h.elim (fun h => absurd h.1 (by decide)) (fun h => h.elim (fun h => absurd h (by decide)) (fun h => h.elim (fun h => absurd h (by decide)) (fun h => h.elim (fun h => absurd h.1 (by decide)) (fun h => absurd h.1 (by decide))))))).trans rfl)) ((frM_666 330 4 (fun h => h.elim (fun h => absurd h.2 (by decide)) (fun h => h.elim (fun h => absurd h (by decide)) (fun h => h.elim (fun h => absurd h (by decide)) (fun h => h.elim (fun h => absurd h.2 (by decide)) (fun h => h.elim (fun h => absurd h.2 (by decide)) (fun h => h.elim (fun h => absurd h.2 (by decide)) (fun h => h.elim (fun h => absurd h.2 (by decide)) (fun h => h.elim (fun h => absurd h.2 (by decide)) (fun h => h.elim (fun h => absurd h.2 (by decide)) (fun h => h.elim (fun h => absurd h.2 (by decide)) (fun h => h.elim (fun h => absurd h.2 (by decide)) (fun h => h.elim (fun h => absurd h.2 (by decide)) (fun h => h.elim (fun h => absurd h.2 (by decide)) (fun h => h.elim (fun h => absurd h.2 (by decide)) (fun h => h.elim (fun h => absurd h.2 (by decide)) (fun h => absurd h.2 (by decide)))))))))))))))))).trans ((frM_657 330 4 (fun h => h.elim (fun h => absurd h.1 (by decide)) (fun h => h.elim (fun h => absurd h (by decide)) (fun h => h.elim (fun h => absurd h (by decide)) (fun h => h.elim (fun h => absurd h.1 (by decide)) (fun h => absurd h.1 (by decide))))))).trans rfl)) ((frM_666 330 5 (fun h => h.elim (fun h => absurd h.2 (by decide)) (fun h => h.elim (fun h => absurd h (by decide)) (fun h => h.elim (fun h => absurd h (by decide)) (fun h => h.elim (fun h => absurd h.2 (by decide)) (fun h => h.elim (fun h => absurd h.2 (by decide)) (fun h => h.elim (fun h => absurd h.2 (by decide)) (fun h => h.elim (fun h => absurd h.2 (by decide)) (fun h => h.elim (fun h => absurd h.2 (by decide)) (fun h => h.elim (fun h => absurd h.2 (by decide)) (fun h => h.elim (fun h => absurd h.2 (by decide)) (fun h => h.elim (fun h => absurd h.2 (by decide)) (fun h => h.elim (fun h => absurd h.2 (by decide)) (fun h => h.elim (fun h => absurd h.2 (by decide)) (fun h => h.elim (fun h => absurd h.2 (by decide)) (fun h => h.elim (fun h => absurd h.2 (by decide)) (fun h => absurd h.2 (by decide)))))))))))))))))).trans ((frM_657 330 5 (fun h => h.elim (fun h => absurd h.1 (by decide)) (fun h => h.elim (fun h => absurd h (by decide)) (fun h => h.elim (fun h => absurd h (by decide)) (fun h => h.elim (fun h => absurd h.1 (by decide)) (fun h => absurd h.1 (by decide))))))).trans rfl)) msM_666_0 rfl rfl ((frM_666 330 21 (fun h => h.elim (fun h => absurd h.2 (by decide)) (fun h => h.elim (fun h => absurd h (by decide)) (fun h => h.elim (fun h => absurd h (by decide)) (fun h => h.elim (fun h => absurd h.2 (by decide)) (fun h => h.elim (fun h => absurd h.2 (by decide)) (fun h => h.elim (fun h => absurd h.2 (by decide)) (fun h => h.elim (fun h => absurd h.2 (by decide)) (fun h => h.elim (fun h => absurd h.2 (by decide)) (fun h => h.elim (fun h => absurd h.2 (by decide)) (fun h => h.elim (fun h => absurd h.2 (by decide)) (fun h => h.elim (fun h => absurd h.2 (by decide)) (fun h => h.elim (fun h => absurd h.2 (by decide)) (fun h => h.elim (fun h => absurd h.2 (by decide)) (fun h => h.elim (fun h => absurd h.2 (by decide)) (fun h => h.elim (fun h => absurd h.2 (by decide)) (fun h => absurd h.2 (by decide)))))))))))))))))).trans ((frM_657 330 21 (fun h => h.elim (fun h => absurd h.1 (by decide)) (fun h => h.elim (fun h => absurd h (by decide)) (fun h => h.elim (fun h => absurd h (by decide)) (fun h => h.elim (fun h => absurd h.1 (by decide)) (fun h => absurd h.1 (by decide))))))).trans rfl)) hv)
            · exfalso
              first | exact h669 rfl | (rw [qta, qtn] at h669; exact h669 rfl)
          · refine ax_invG [.inl a1] [] dL_law_657 mlL_72 sh_0 rfl rfl rfl (Nat.le_of_ble_eq_true rfl) (s_X11_text_bad E l _ (by omega) _ a1 (by omega)) (pc' := 660) rfl (fun vv M_657 hq co657 hcm657 => ?_)
            obtain ⟨rfl, frM_657, msM_657_0, msM_657_1, msM_657_2⟩ := hq
            refine ax_reS (st2 := [.inl (-1)]) rfl ?_
            refine ax_aload_n dL_law_660 rfl rfl (pc' := 661) rfl ?_
            refine ax_aload_n dL_law_661 rfl rfl (pc' := 662) rfl ?_
            refine ax_iload_n dL_law_662 rfl rfl (pc' := 663) rfl ?_
            refine ax_iconst dL_law_663 (by decide) (pc' := 664) rfl ?_
            refine ax_iadd dL_law_664 (by omega) (pc' := 665) rfl ?_
            refine ax_sald (v := a1) dL_law_665 (by omega) (by omega) qa1.symm (pc' := 666) rfl ?_
            refine ax_invG [.inl a1] [.inl (-1)] dL_law_666 mlL_75 sh_330 rfl rfl rfl (Nat.le_of_ble_eq_true rfl) (s_text_bad E l _ (by omega) _ a1 (by omega)) (pc' := 669) rfl (fun vv M_666 hq co666 hcm666 => ?_)
            obtain ⟨rfl, frM_666, msM_666_0, msM_666_1, msM_666_2⟩ := hq
            refine ax_reS (st2 := [.inl (-1), .inl (-1)]) rfl ?_
            refine ax_icmp_eq (tgt := 1416) dL_law_669 (by decide) (pc' := 672) rfl (fun h669 => ?_) (fun h669 => ?_)
            · have hIV := f_IV_txb hI (fun x0 i0 hai => frM_657 x0 i0 (by omega)) msM_657_0 msM_657_1 msM_657_2
              exact kk _ (f_INV_mk (f_IV_fr hIV (fun x0 i0 hai => frM_666 x0 i0 (by unfold f_rc at hai; omega))) ((funext fun i0 => frM_666 331 i0 (fun h => h.elim (fun h => absurd h.1 (by decide)) (fun h => h.elim (fun h => absurd h.1 (by decide)) (fun h => absurd h.1 (by decide))))).trans ((funext fun i0 => frM_657 331 i0 (fun h => h.elim (fun h => absurd h.1 (by decide)) (fun h => h.elim (fun h => absurd h.1 (by decide)) (fun h => absurd h.1 (by decide))))).trans rfl)) ((funext fun i0 => frM_666 332 i0 (fun h => h.elim (fun h => absurd h.1 (by decide)) (fun h => h.elim (fun h => absurd h.1 (by decide)) (fun h => absurd h.1 (by decide))))).trans ((funext fun i0 => frM_657 332 i0 (fun h => h.elim (fun h => absurd h.1 (by decide)) (fun h => h.elim (fun h => absurd h.1 (by decide)) (fun h => absurd h.1 (by decide))))).trans rfl)) ((funext fun i0 => frM_666 333 i0 (fun h => h.elim (fun h => absurd h.1 (by decide)) (fun h => h.elim (fun h => absurd h.1 (by decide)) (fun h => absurd h.1 (by decide))))).trans ((funext fun i0 => frM_657 333 i0 (fun h => h.elim (fun h => absurd h.1 (by decide)) (fun h => h.elim (fun h => absurd h.1 (by decide)) (fun h => absurd h.1 (by decide))))).trans rfl)) ((funext fun i0 => frM_666 339 i0 (fun h => h.elim (fun h => absurd h.1 (by decide)) (fun h => h.elim (fun h => absurd h.1 (by decide)) (fun h => absurd h.1 (by decide))))).trans ((funext fun i0 => frM_657 339 i0 (fun h => h.elim (fun h => absurd h.1 (by decide)) (fun h => h.elim (fun h => absurd h.1 (by decide)) (fun h => absurd h.1 (by decide))))).trans rfl)) ((frM_666 330 4 (fun h => h.elim (fun h => absurd h.2 (by decide)) (fun h => h.elim (fun h => absurd h.2 (by decide)) (fun h => absurd h.2 (by decide))))).trans ((frM_657 330 4 (fun h => h.elim (fun h => absurd h.1 (by decide)) (fun h => h.elim (fun h => absurd h.1 (by decide)) (fun h => absurd h.1 (by decide))))).trans rfl)) ((frM_666 330 5 (fun h => h.elim (fun h => absurd h.2 (by decide)) (fun h => h.elim (fun h => absurd h.2 (by decide)) (fun h => absurd h.2 (by decide))))).trans ((frM_657 330 5 (fun h => h.elim (fun h => absurd h.1 (by decide)) (fun h => h.elim (fun h => absurd h.1 (by decide)) (fun h => absurd h.1 (by decide))))).trans rfl)) msM_666_0 msM_666_1 msM_666_2 ((frM_666 330 21 (fun h => h.elim (fun h => absurd h.2 (by decide)) (fun h => h.elim (fun h => absurd h.2 (by decide)) (fun h => absurd h.2 (by decide))))).trans ((frM_657 330 21 (fun h => h.elim (fun h => absurd h.1 (by decide)) (fun h => h.elim (fun h => absurd h.1 (by decide)) (fun h => absurd h.1 (by decide))))).trans rfl)) hv)
            · exfalso
              first | exact h669 rfl | (rw [qta, qtn] at h669; exact h669 rfl)
set_option maxRecDepth 20000 in
theorem lc_34 (E : ax_Env) (l : Launch) (d : Nat) (hd : 60 ≤ d) (M : ax_Mem) (Q : ax_Post) (i : Int) (hx : ax_xl E ≤ 3072) (hi : 0 ≤ i ∧ i + 6 ≤ (ax_xl E : Int)) (hI : f_INV M) (kk : ∀ M2, f_INV M2 → ax_W E l (d + 1) 0 0 iL_law 1416 [some (.inr (-2)), some (.inr 0), some (.inr 330), some (.inl i)] [] SH M2 Q) : ax_W E l (d + 1) 0 0 iL_law 1354 [some (.inr (-2)), some (.inr 0), some (.inr 330), some (.inl i)] [] SH M Q := by
  obtain ⟨hv, Ls, Lk, hI⟩ := hI
  have hnb := hI.1.1
  have hjv := hI.1.2.1
  have hlq := hI.1.2.2
  have hpr := hI.2.1.1
  have hhs := hI.2.1.2
  have hlo := hI.2.2.1
  have qta := hI.2.2.2.1.1
  have qtn := hI.2.2.2.1.2.1
  have qt4 := hI.2.2.2.1.2.2.1
  have qtp := hI.2.2.2.1.2.2.2
  obtain ⟨a1, qa1⟩ : ∃ z, z = (ax_xs E (i + 1).toNat).toInt := ⟨_, rfl⟩
  have ca1 : -2147483648 ≤ a1 ∧ a1 < 2147483648 := by rw [qa1]; exact ax_can_toInt _
  obtain ⟨a2, qa2⟩ : ∃ z, z = (ax_xs E (i + 2).toNat).toInt := ⟨_, rfl⟩
  have ca2 : -2147483648 ≤ a2 ∧ a2 < 2147483648 := by rw [qa2]; exact ax_can_toInt _
  obtain ⟨a3, qa3⟩ : ∃ z, z = (ax_xs E (i + 3).toNat).toInt := ⟨_, rfl⟩
  have ca3 : -2147483648 ≤ a3 ∧ a3 < 2147483648 := by rw [qa3]; exact ax_can_toInt _
  obtain ⟨a4, qa4⟩ : ∃ z, z = (ax_xs E (i + 4).toNat).toInt := ⟨_, rfl⟩
  have ca4 : -2147483648 ≤ a4 ∧ a4 < 2147483648 := by rw [qa4]; exact ax_can_toInt _
  obtain ⟨a5, qa5⟩ : ∃ z, z = (ax_xs E (i + 5).toNat).toInt := ⟨_, rfl⟩
  have ca5 : -2147483648 ≤ a5 ∧ a5 < 2147483648 := by rw [qa5]; exact ax_can_toInt _
  have him := hI.2.2.2.2.2.1.1
  have hi01 := hI.2.2.2.2.2.1.2
  refine ax_aload_n dL_law_1354 rfl rfl (pc' := 1355) rfl ?_
  refine ax_aload_n dL_law_1355 rfl rfl (pc' := 1356) rfl ?_
  refine ax_iload_n dL_law_1356 rfl rfl (pc' := 1357) rfl ?_
  refine ax_iconst dL_law_1357 (by decide) (pc' := 1358) rfl ?_
  refine ax_iadd dL_law_1358 (by omega) (pc' := 1359) rfl ?_
  refine ax_sald (v := a1) dL_law_1359 (by omega) (by omega) qa1.symm (pc' := 1360) rfl ?_
  refine ax_if_eq (tgt := 1367) dL_law_1360 (by decide) (pc' := 1363) rfl (fun h1360 => ?_) (fun h1360 => ?_)
  · refine ax_iconst dL_law_1367 (by decide) (pc' := 1368) rfl ?_
    by_cases hc : M 330 5 = 1
    · have hig := f_img hI hc
      refine ax_invG [.inl 0] [] dL_law_1368 mlL_159 sh_0 rfl rfl rfl (Nat.le_of_ble_eq_true rfl) (s_X11_image_back E l _ (by omega) _ (f_cp (M 332) 0 (M 331) 0 6894) Lk rfl (him.trans hc) hig.1 hig.2.1 hig.2.2.2.1.1.1 hig.2.2.2.1.1.2.2.2.1.2 hig.2.2.1 ⟨hig.2.2.2.2.1.1.2, hig.2.2.2.2.2.2.2.1.2, hig.2.2.2.2.2.2.2.2.1.2⟩ hig.2.2.2.2.2.2.1) (pc' := 1371) rfl (fun vv M_1368 hq co1368 hcm1368 => ?_)
      obtain ⟨rfl, frM_1368, fa1368_0, fa1368_1, fa1368_2⟩ := hq
      refine ax_reS (st2 := [.inl 1]) rfl ?_
      refine ax_aload_n dL_law_1371 rfl rfl (pc' := 1372) rfl ?_
      refine ax_aload_n dL_law_1372 rfl rfl (pc' := 1373) rfl ?_
      refine ax_iload_n dL_law_1373 rfl rfl (pc' := 1374) rfl ?_
      refine ax_iconst dL_law_1374 (by decide) (pc' := 1375) rfl ?_
      refine ax_iadd dL_law_1375 (by omega) (pc' := 1376) rfl ?_
      refine ax_sald (v := a1) dL_law_1376 (by omega) (by omega) qa1.symm (pc' := 1377) rfl ?_
      refine ax_if_eq (tgt := 1384) dL_law_1377 (by decide) (pc' := 1380) rfl (fun h1377 => ?_) (fun h1377 => ?_)
      · refine ax_iconst dL_law_1384 (by decide) (pc' := 1385) rfl ?_
        refine ax_invG [.inl 0] [.inl 1] dL_law_1385 mlL_163 sh_330 rfl rfl rfl (Nat.le_of_ble_eq_true rfl) (s_X12_image_back E l _ (by omega) _ ((funext fun i0 => frM_1368 331 i0 (fun h => h.elim (fun h => absurd h.2 (by decide)) (fun h => absurd h.1 (by decide)))).trans rfl) ((funext fun i0 => frM_1368 332 i0 (fun h => h.elim (fun h => absurd h.2 (by decide)) (fun h => absurd h.1 (by decide)))).trans rfl) ((frM_1368 330 5 (fun h => h.elim (fun h => absurd h.2 (by decide)) (fun h => absurd h.1 (by decide)))).trans rfl) hc) (pc' := 1388) rfl (fun vv M_1385 hq co1385 hcm1385 => ?_)
        obtain ⟨rfl, frM_1385, mrM_1385_0, msM_1385_0, msM_1385_1⟩ := hq
        refine ax_reS (st2 := [.inl 1, .inl 1]) rfl ?_
        refine ax_icmp_eq (tgt := 1416) dL_law_1388 (by decide) (pc' := 1391) rfl (fun h1388 => ?_) (fun h1388 => ?_)
        · exact kk _ (f_INV_mk (f_IV_fr (f_IV_bk hI hc (fun x0 i0 hai => frM_1368 x0 i0 hai) fa1368_0 fa1368_1 fa1368_2) (fun x0 i0 hai => frM_1385 x0 i0 (by unfold f_rc at hai; omega))) mrM_1385_0 ((funext fun i0 => frM_1385 332 i0 (fun h => h.elim (fun h => absurd h (by decide)) (fun h => h.elim (fun h => absurd h.1 (by decide)) (fun h => absurd h.1 (by decide))))).trans ((funext fun i0 => frM_1368 332 i0 (fun h => h.elim (fun h => absurd h.2 (by decide)) (fun h => absurd h.1 (by decide)))).trans rfl)) ((funext fun i0 => frM_1385 333 i0 (fun h => h.elim (fun h => absurd h (by decide)) (fun h => h.elim (fun h => absurd h.1 (by decide)) (fun h => absurd h.1 (by decide))))).trans ((funext fun i0 => frM_1368 333 i0 (fun h => h.elim (fun h => absurd h.2 (by decide)) (fun h => absurd h.1 (by decide)))).trans rfl)) ((funext fun i0 => frM_1385 339 i0 (fun h => h.elim (fun h => absurd h (by decide)) (fun h => h.elim (fun h => absurd h.1 (by decide)) (fun h => absurd h.1 (by decide))))).trans ((funext fun i0 => frM_1368 339 i0 (fun h => h.elim (fun h => absurd h.2 (by decide)) (fun h => absurd h.1 (by decide)))).trans rfl)) msM_1385_0 msM_1385_1 ((frM_1385 330 17 (fun h => h.elim (fun h => absurd h (by decide)) (fun h => h.elim (fun h => absurd h.2 (by decide)) (fun h => absurd h.2 (by decide))))).trans ((frM_1368 330 17 (fun h => h.elim (fun h => absurd h.2 (by decide)) (fun h => absurd h.1 (by decide)))).trans rfl)) ((frM_1385 330 24 (fun h => h.elim (fun h => absurd h (by decide)) (fun h => h.elim (fun h => absurd h.2 (by decide)) (fun h => absurd h.2 (by decide))))).trans ((frM_1368 330 24 (fun h => h.elim (fun h => absurd h.2 (by decide)) (fun h => absurd h.1 (by decide)))).trans rfl)) ((frM_1385 330 26 (fun h => h.elim (fun h => absurd h (by decide)) (fun h => h.elim (fun h => absurd h.2 (by decide)) (fun h => absurd h.2 (by decide))))).trans ((frM_1368 330 26 (fun h => h.elim (fun h => absurd h.2 (by decide)) (fun h => absurd h.1 (by decide)))).trans rfl)) ((frM_1385 330 21 (fun h => h.elim (fun h => absurd h (by decide)) (fun h => h.elim (fun h => absurd h.2 (by decide)) (fun h => absurd h.2 (by decide))))).trans ((frM_1368 330 21 (fun h => h.elim (fun h => absurd h.2 (by decide)) (fun h => absurd h.1 (by decide)))).trans rfl)) hv)
        · exfalso
          exact h1388 rfl
      · exfalso
        omega
    · refine ax_invG [.inl 0] [] dL_law_1368 mlL_159 sh_0 rfl rfl rfl (Nat.le_of_ble_eq_true rfl) (s_X11_image_no E l _ (by omega) _ rfl (by rw [him]; omega)) (pc' := 1371) rfl (fun vv M_1368 hq co1368 hcm1368 => ?_)
      obtain ⟨rfl, rfl⟩ := hq
      refine ax_reS (st2 := [.inl 0]) rfl ?_
      refine ax_aload_n dL_law_1371 rfl rfl (pc' := 1372) rfl ?_
      refine ax_aload_n dL_law_1372 rfl rfl (pc' := 1373) rfl ?_
      refine ax_iload_n dL_law_1373 rfl rfl (pc' := 1374) rfl ?_
      refine ax_iconst dL_law_1374 (by decide) (pc' := 1375) rfl ?_
      refine ax_iadd dL_law_1375 (by omega) (pc' := 1376) rfl ?_
      refine ax_sald (v := a1) dL_law_1376 (by omega) (by omega) qa1.symm (pc' := 1377) rfl ?_
      refine ax_if_eq (tgt := 1384) dL_law_1377 (by decide) (pc' := 1380) rfl (fun h1377 => ?_) (fun h1377 => ?_)
      · refine ax_iconst dL_law_1384 (by decide) (pc' := 1385) rfl ?_
        refine ax_invG [.inl 0] [.inl 0] dL_law_1385 mlL_163 sh_330 rfl rfl rfl (Nat.le_of_ble_eq_true rfl) (s_X12_image_no E l _ (by omega) _ rfl (by omega)) (pc' := 1388) rfl (fun vv M_1385 hq co1385 hcm1385 => ?_)
        obtain ⟨rfl, rfl⟩ := hq
        refine ax_reS (st2 := [.inl 0, .inl 0]) rfl ?_
        refine ax_icmp_eq (tgt := 1416) dL_law_1388 (by decide) (pc' := 1391) rfl (fun h1388 => ?_) (fun h1388 => ?_)
        · exact kk _ ⟨hv, Ls, Lk, hI⟩
        · exfalso
          exact h1388 rfl
      · exfalso
        omega
  · refine ax_iconst dL_law_1363 (by decide) (pc' := 1364) rfl ?_
    refine ax_goto dL_law_1364 (pc' := 1368) (by decide) ?_
    refine ax_invG [.inl 1] [] dL_law_1368 mlL_159 sh_0 rfl rfl rfl (Nat.le_of_ble_eq_true rfl) (s_X11_image_take E l _ (by omega) _ (M 331) Ls hnb hjv.1.1 hjv.1.2.2.2.1.2 hlo ⟨hlq.1.1.2, hlq.2.2.2.1.2, hlq.2.2.2.2.1.2⟩ hlq.2.2.1) (pc' := 1371) rfl (fun vv M_1368 hq co1368 hcm1368 => ?_)
    obtain ⟨rfl, frM_1368, fa1368_0, fa1368_1, fa1368_2, fa1368_3⟩ := hq
    refine ax_reS (st2 := [.inl 1]) rfl ?_
    refine ax_aload_n dL_law_1371 rfl rfl (pc' := 1372) rfl ?_
    refine ax_aload_n dL_law_1372 rfl rfl (pc' := 1373) rfl ?_
    refine ax_iload_n dL_law_1373 rfl rfl (pc' := 1374) rfl ?_
    refine ax_iconst dL_law_1374 (by decide) (pc' := 1375) rfl ?_
    refine ax_iadd dL_law_1375 (by omega) (pc' := 1376) rfl ?_
    refine ax_sald (v := a1) dL_law_1376 (by omega) (by omega) qa1.symm (pc' := 1377) rfl ?_
    refine ax_if_eq (tgt := 1384) dL_law_1377 (by decide) (pc' := 1380) rfl (fun h1377 => ?_) (fun h1377 => ?_)
    · exfalso
      omega
    · refine ax_iconst dL_law_1380 (by decide) (pc' := 1381) rfl ?_
      refine ax_goto dL_law_1381 (pc' := 1385) (by decide) ?_
      refine ax_invG [.inl 1] [.inl 1] dL_law_1385 mlL_163 sh_330 rfl rfl rfl (Nat.le_of_ble_eq_true rfl) (s_X12_image_take E l _ (by omega) _ ((funext fun i0 => frM_1368 331 i0 (fun h => h.elim (fun h => absurd h.2 (by decide)) (fun h => absurd h.1 (by decide)))).trans rfl) ((funext fun i0 => frM_1368 332 i0 (fun h => h.elim (fun h => absurd h.2 (by decide)) (fun h => absurd h.1 (by decide)))).trans rfl)) (pc' := 1388) rfl (fun vv M_1385 hq co1385 hcm1385 => ?_)
      obtain ⟨rfl, frM_1385, mrM_1385_0, msM_1385_0⟩ := hq
      refine ax_reS (st2 := [.inl 1, .inl 1]) rfl ?_
      refine ax_icmp_eq (tgt := 1416) dL_law_1388 (by decide) (pc' := 1391) rfl (fun h1388 => ?_) (fun h1388 => ?_)
      · exact kk _ (f_INV_mk (f_IV_fr (f_IV_tk hI (fun x0 i0 hai => frM_1368 x0 i0 hai) fa1368_0 fa1368_1 fa1368_2 fa1368_3) (fun x0 i0 hai => frM_1385 x0 i0 (by unfold f_rc at hai; omega))) ((funext fun i0 => frM_1385 331 i0 (fun h => h.elim (fun h => absurd h (by decide)) (fun h => absurd h.1 (by decide)))).trans ((funext fun i0 => frM_1368 331 i0 (fun h => h.elim (fun h => absurd h.2 (by decide)) (fun h => absurd h.1 (by decide)))).trans rfl)) mrM_1385_0 ((funext fun i0 => frM_1385 333 i0 (fun h => h.elim (fun h => absurd h (by decide)) (fun h => absurd h.1 (by decide)))).trans ((funext fun i0 => frM_1368 333 i0 (fun h => h.elim (fun h => absurd h.2 (by decide)) (fun h => absurd h.1 (by decide)))).trans rfl)) ((funext fun i0 => frM_1385 339 i0 (fun h => h.elim (fun h => absurd h (by decide)) (fun h => absurd h.1 (by decide)))).trans ((funext fun i0 => frM_1368 339 i0 (fun h => h.elim (fun h => absurd h.2 (by decide)) (fun h => absurd h.1 (by decide)))).trans rfl)) ((frM_1385 330 4 (fun h => h.elim (fun h => absurd h (by decide)) (fun h => absurd h.2 (by decide)))).trans ((frM_1368 330 4 (fun h => h.elim (fun h => absurd h.2 (by decide)) (fun h => absurd h.1 (by decide)))).trans rfl)) msM_1385_0 ((frM_1385 330 17 (fun h => h.elim (fun h => absurd h (by decide)) (fun h => absurd h.2 (by decide)))).trans ((frM_1368 330 17 (fun h => h.elim (fun h => absurd h.2 (by decide)) (fun h => absurd h.1 (by decide)))).trans rfl)) ((frM_1385 330 24 (fun h => h.elim (fun h => absurd h (by decide)) (fun h => absurd h.2 (by decide)))).trans ((frM_1368 330 24 (fun h => h.elim (fun h => absurd h.2 (by decide)) (fun h => absurd h.1 (by decide)))).trans rfl)) ((frM_1385 330 26 (fun h => h.elim (fun h => absurd h (by decide)) (fun h => absurd h.2 (by decide)))).trans ((frM_1368 330 26 (fun h => h.elim (fun h => absurd h.2 (by decide)) (fun h => absurd h.1 (by decide)))).trans rfl)) ((frM_1385 330 21 (fun h => h.elim (fun h => absurd h (by decide)) (fun h => absurd h.2 (by decide)))).trans ((frM_1368 330 21 (fun h => h.elim (fun h => absurd h.2 (by decide)) (fun h => absurd h.1 (by decide)))).trans rfl)) hv)
      · exfalso
        exact h1388 rfl
