/-! the law: call by call -/
set_option maxRecDepth 20000 in
theorem lc_17 (E : ax_Env) (l : Launch) (d : Nat) (hd : 60 ≤ d) (M : ax_Mem) (Q : ax_Post) (i : Int) (hx : ax_xl E ≤ 3072) (hi : 0 ≤ i ∧ i + 6 ≤ (ax_xl E : Int)) (hI : f_INV M) (kk : ∀ M2, f_INV M2 → ax_W E l (d + 1) 0 0 iL_law 1416 [some (.inr (-2)), some (.inr 0), some (.inr 330), some (.inl i)] [] SH M2 Q) : ax_W E l (d + 1) 0 0 iL_law 763 [some (.inr (-2)), some (.inr 0), some (.inr 330), some (.inl i)] [] SH M Q := by
  obtain ⟨hv, Ls, Lk, hI⟩ := hI
  have hnb := hI.1.1
  have hjv := hI.1.2.1
  have hlq := hI.1.2.2
  have hpr := hI.2.1.1
  have hhs := hI.2.1.2
  have hlo := hI.2.2.1
  have qta := hI.2.2.2.1.1
  have qtn := hI.2.2.2.1.2.1
  have qt4 := hI.2.2.2.1.2.2.1
  have qtp := hI.2.2.2.1.2.2.2
  obtain ⟨a1, qa1⟩ : ∃ z, z = (ax_xs E (i + 1).toNat).toInt := ⟨_, rfl⟩
  have ca1 : -2147483648 ≤ a1 ∧ a1 < 2147483648 := by rw [qa1]; exact ax_can_toInt _
  obtain ⟨a2, qa2⟩ : ∃ z, z = (ax_xs E (i + 2).toNat).toInt := ⟨_, rfl⟩
  have ca2 : -2147483648 ≤ a2 ∧ a2 < 2147483648 := by rw [qa2]; exact ax_can_toInt _
  obtain ⟨a3, qa3⟩ : ∃ z, z = (ax_xs E (i + 3).toNat).toInt := ⟨_, rfl⟩
  have ca3 : -2147483648 ≤ a3 ∧ a3 < 2147483648 := by rw [qa3]; exact ax_can_toInt _
  obtain ⟨a4, qa4⟩ : ∃ z, z = (ax_xs E (i + 4).toNat).toInt := ⟨_, rfl⟩
  have ca4 : -2147483648 ≤ a4 ∧ a4 < 2147483648 := by rw [qa4]; exact ax_can_toInt _
  obtain ⟨a5, qa5⟩ : ∃ z, z = (ax_xs E (i + 5).toNat).toInt := ⟨_, rfl⟩
  have ca5 : -2147483648 ≤ a5 ∧ a5 < 2147483648 := by rw [qa5]; exact ax_can_toInt _
  refine ax_aload_n dL_law_763 rfl rfl (pc' := 764) rfl ?_
  refine ax_aload_n dL_law_764 rfl rfl (pc' := 765) rfl ?_
  refine ax_iload_n dL_law_765 rfl rfl (pc' := 766) rfl ?_
  refine ax_iconst dL_law_766 (by decide) (pc' := 767) rfl ?_
  refine ax_iadd dL_law_767 (by omega) (pc' := 768) rfl ?_
  refine ax_sald (v := a1) dL_law_768 (by omega) (by omega) qa1.symm (pc' := 769) rfl ?_
  refine ax_aload_n dL_law_769 rfl rfl (pc' := 770) rfl ?_
  refine ax_iload_n dL_law_770 rfl rfl (pc' := 771) rfl ?_
  refine ax_iconst dL_law_771 (by decide) (pc' := 772) rfl ?_
  refine ax_iadd dL_law_772 (by omega) (pc' := 773) rfl ?_
  refine ax_sald (v := a2) dL_law_773 (by omega) (by omega) qa2.symm (pc' := 774) rfl ?_
  refine ax_aload_n dL_law_774 rfl rfl (pc' := 775) rfl ?_
  refine ax_iload_n dL_law_775 rfl rfl (pc' := 776) rfl ?_
  refine ax_iconst dL_law_776 (by decide) (pc' := 777) rfl ?_
  refine ax_iadd dL_law_777 (by omega) (pc' := 778) rfl ?_
  refine ax_sald (v := a3) dL_law_778 (by omega) (by omega) qa3.symm (pc' := 779) rfl ?_
  refine ax_invG [.inl a1, .inl a2, .inl a3] [] dL_law_779 mlL_88 sh_0 rfl rfl rfl (Nat.le_of_ble_eq_true rfl) (s_X11_at E l _ (by omega) _ a1 a2 a3 Ls (M 331) hnb hjv hlo.1) (pc' := 782) rfl (fun vv M_779 hq co779 hcm779 => ?_)
  obtain ⟨rfl, frM_779⟩ := hq
  refine ax_reS (st2 := [.inl (F_at Ls (M 331) a1 a2 a3)]) rfl ?_
  have cc779 : -2147483648 ≤ F_at Ls (M 331) a1 a2 a3 ∧ F_at Ls (M 331) a1 a2 a3 < 2147483648 := co779 _ rfl
  refine ax_aload_n dL_law_782 rfl rfl (pc' := 783) rfl ?_
  refine ax_aload_n dL_law_783 rfl rfl (pc' := 784) rfl ?_
  refine ax_iload_n dL_law_784 rfl rfl (pc' := 785) rfl ?_
  refine ax_iconst dL_law_785 (by decide) (pc' := 786) rfl ?_
  refine ax_iadd dL_law_786 (by omega) (pc' := 787) rfl ?_
  refine ax_sald (v := a1) dL_law_787 (by omega) (by omega) qa1.symm (pc' := 788) rfl ?_
  refine ax_aload_n dL_law_788 rfl rfl (pc' := 789) rfl ?_
  refine ax_iload_n dL_law_789 rfl rfl (pc' := 790) rfl ?_
  refine ax_iconst dL_law_790 (by decide) (pc' := 791) rfl ?_
  refine ax_iadd dL_law_791 (by omega) (pc' := 792) rfl ?_
  refine ax_sald (v := a2) dL_law_792 (by omega) (by omega) qa2.symm (pc' := 793) rfl ?_
  refine ax_aload_n dL_law_793 rfl rfl (pc' := 794) rfl ?_
  refine ax_iload_n dL_law_794 rfl rfl (pc' := 795) rfl ?_
  refine ax_iconst dL_law_795 (by decide) (pc' := 796) rfl ?_
  refine ax_iadd dL_law_796 (by omega) (pc' := 797) rfl ?_
  refine ax_sald (v := a3) dL_law_797 (by omega) (by omega) qa3.symm (pc' := 798) rfl ?_
  refine ax_invG [.inl a1, .inl a2, .inl a3] [.inl (F_at Ls (M 331) a1 a2 a3)] dL_law_798 mlL_92 sh_330 rfl rfl rfl (Nat.le_of_ble_eq_true rfl) (s_X12_at E l _ (by omega) _ a1 a2 a3 Ls ((funext fun i0 => frM_779 331 i0 (fun h => h.elim (fun h => absurd h (by decide)) (fun h => absurd h (by decide)))).trans rfl) ((funext fun i0 => frM_779 340 i0 (fun h => h.elim (fun h => absurd h (by decide)) (fun h => absurd h (by decide)))).trans rfl) ((funext fun i0 => frM_779 341 i0 (fun h => h.elim (fun h => absurd h (by decide)) (fun h => absurd h (by decide)))).trans rfl) hjv.1 hjv.2.2) (pc' := 801) rfl (fun vv M_798 hq co798 hcm798 => ?_)
  obtain ⟨rfl, frM_798⟩ := hq
  refine ax_reS (st2 := [.inl (F_at Ls (M 331) a1 a2 a3), .inl (F_at Ls (M 331) a1 a2 a3)]) rfl ?_
  have cc798 : -2147483648 ≤ F_at Ls (M 331) a1 a2 a3 ∧ F_at Ls (M 331) a1 a2 a3 < 2147483648 := co798 _ rfl
  refine ax_icmp_eq (tgt := 1416) dL_law_801 (by decide) (pc' := 804) rfl (fun h801 => ?_) (fun h801 => ?_)
  · exact kk _ (f_INV_mk (f_IV_fr hI (fun x0 i0 hai => by unfold f_rc at hai; exact ((frM_798 x0 i0 (by omega)).trans ((frM_779 x0 i0 (by omega)).trans rfl)))) ((funext fun i0 => frM_798 331 i0 (fun h => h.elim (fun h => absurd h (by decide)) (fun h => absurd h (by decide)))).trans ((funext fun i0 => frM_779 331 i0 (fun h => h.elim (fun h => absurd h (by decide)) (fun h => absurd h (by decide)))).trans rfl)) ((funext fun i0 => frM_798 332 i0 (fun h => h.elim (fun h => absurd h (by decide)) (fun h => absurd h (by decide)))).trans ((funext fun i0 => frM_779 332 i0 (fun h => h.elim (fun h => absurd h (by decide)) (fun h => absurd h (by decide)))).trans rfl)) ((funext fun i0 => frM_798 333 i0 (fun h => h.elim (fun h => absurd h (by decide)) (fun h => absurd h (by decide)))).trans ((funext fun i0 => frM_779 333 i0 (fun h => h.elim (fun h => absurd h (by decide)) (fun h => absurd h (by decide)))).trans rfl)) ((funext fun i0 => frM_798 339 i0 (fun h => h.elim (fun h => absurd h (by decide)) (fun h => absurd h (by decide)))).trans ((funext fun i0 => frM_779 339 i0 (fun h => h.elim (fun h => absurd h (by decide)) (fun h => absurd h (by decide)))).trans rfl)) ((frM_798 330 4 (fun h => h.elim (fun h => absurd h (by decide)) (fun h => absurd h (by decide)))).trans ((frM_779 330 4 (fun h => h.elim (fun h => absurd h (by decide)) (fun h => absurd h (by decide)))).trans rfl)) ((frM_798 330 5 (fun h => h.elim (fun h => absurd h (by decide)) (fun h => absurd h (by decide)))).trans ((frM_779 330 5 (fun h => h.elim (fun h => absurd h (by decide)) (fun h => absurd h (by decide)))).trans rfl)) ((frM_798 330 17 (fun h => h.elim (fun h => absurd h (by decide)) (fun h => absurd h (by decide)))).trans ((frM_779 330 17 (fun h => h.elim (fun h => absurd h (by decide)) (fun h => absurd h (by decide)))).trans rfl)) ((frM_798 330 24 (fun h => h.elim (fun h => absurd h (by decide)) (fun h => absurd h (by decide)))).trans ((frM_779 330 24 (fun h => h.elim (fun h => absurd h (by decide)) (fun h => absurd h (by decide)))).trans rfl)) ((frM_798 330 26 (fun h => h.elim (fun h => absurd h (by decide)) (fun h => absurd h (by decide)))).trans ((frM_779 330 26 (fun h => h.elim (fun h => absurd h (by decide)) (fun h => absurd h (by decide)))).trans rfl)) ((frM_798 330 21 (fun h => h.elim (fun h => absurd h (by decide)) (fun h => absurd h (by decide)))).trans ((frM_779 330 21 (fun h => h.elim (fun h => absurd h (by decide)) (fun h => absurd h (by decide)))).trans rfl)) hv)
  · exfalso
    exact h801 rfl
set_option maxRecDepth 20000 in
theorem lc_18 (E : ax_Env) (l : Launch) (d : Nat) (hd : 60 ≤ d) (M : ax_Mem) (Q : ax_Post) (i : Int) (hx : ax_xl E ≤ 3072) (hi : 0 ≤ i ∧ i + 6 ≤ (ax_xl E : Int)) (hI : f_INV M) (kk : ∀ M2, f_INV M2 → ax_W E l (d + 1) 0 0 iL_law 1416 [some (.inr (-2)), some (.inr 0), some (.inr 330), some (.inl i)] [] SH M2 Q) : ax_W E l (d + 1) 0 0 iL_law 806 [some (.inr (-2)), some (.inr 0), some (.inr 330), some (.inl i)] [] SH M Q := by
  obtain ⟨hv, Ls, Lk, hI⟩ := hI
  have hnb := hI.1.1
  have hjv := hI.1.2.1
  have hlq := hI.1.2.2
  have hpr := hI.2.1.1
  have hhs := hI.2.1.2
  have hlo := hI.2.2.1
  have qta := hI.2.2.2.1.1
  have qtn := hI.2.2.2.1.2.1
  have qt4 := hI.2.2.2.1.2.2.1
  have qtp := hI.2.2.2.1.2.2.2
  obtain ⟨a1, qa1⟩ : ∃ z, z = (ax_xs E (i + 1).toNat).toInt := ⟨_, rfl⟩
  have ca1 : -2147483648 ≤ a1 ∧ a1 < 2147483648 := by rw [qa1]; exact ax_can_toInt _
  obtain ⟨a2, qa2⟩ : ∃ z, z = (ax_xs E (i + 2).toNat).toInt := ⟨_, rfl⟩
  have ca2 : -2147483648 ≤ a2 ∧ a2 < 2147483648 := by rw [qa2]; exact ax_can_toInt _
  obtain ⟨a3, qa3⟩ : ∃ z, z = (ax_xs E (i + 3).toNat).toInt := ⟨_, rfl⟩
  have ca3 : -2147483648 ≤ a3 ∧ a3 < 2147483648 := by rw [qa3]; exact ax_can_toInt _
  obtain ⟨a4, qa4⟩ : ∃ z, z = (ax_xs E (i + 4).toNat).toInt := ⟨_, rfl⟩
  have ca4 : -2147483648 ≤ a4 ∧ a4 < 2147483648 := by rw [qa4]; exact ax_can_toInt _
  obtain ⟨a5, qa5⟩ : ∃ z, z = (ax_xs E (i + 5).toNat).toInt := ⟨_, rfl⟩
  have ca5 : -2147483648 ≤ a5 ∧ a5 < 2147483648 := by rw [qa5]; exact ax_can_toInt _
  refine ax_aload_n dL_law_806 rfl rfl (pc' := 807) rfl ?_
  refine ax_aload_n dL_law_807 rfl rfl (pc' := 808) rfl ?_
  refine ax_iload_n dL_law_808 rfl rfl (pc' := 809) rfl ?_
  refine ax_iconst dL_law_809 (by decide) (pc' := 810) rfl ?_
  refine ax_iadd dL_law_810 (by omega) (pc' := 811) rfl ?_
  refine ax_sald (v := a1) dL_law_811 (by omega) (by omega) qa1.symm (pc' := 812) rfl ?_
  refine ax_aload_n dL_law_812 rfl rfl (pc' := 813) rfl ?_
  refine ax_iload_n dL_law_813 rfl rfl (pc' := 814) rfl ?_
  refine ax_iconst dL_law_814 (by decide) (pc' := 815) rfl ?_
  refine ax_iadd dL_law_815 (by omega) (pc' := 816) rfl ?_
  refine ax_sald (v := a2) dL_law_816 (by omega) (by omega) qa2.symm (pc' := 817) rfl ?_
  refine ax_aload_n dL_law_817 rfl rfl (pc' := 818) rfl ?_
  refine ax_iload_n dL_law_818 rfl rfl (pc' := 819) rfl ?_
  refine ax_iconst dL_law_819 (by decide) (pc' := 820) rfl ?_
  refine ax_iadd dL_law_820 (by omega) (pc' := 821) rfl ?_
  refine ax_sald (v := a3) dL_law_821 (by omega) (by omega) qa3.symm (pc' := 822) rfl ?_
  refine ax_aload_n dL_law_822 rfl rfl (pc' := 823) rfl ?_
  refine ax_iload_n dL_law_823 rfl rfl (pc' := 824) rfl ?_
  refine ax_iconst dL_law_824 (by decide) (pc' := 825) rfl ?_
  refine ax_iadd dL_law_825 (by omega) (pc' := 826) rfl ?_
  refine ax_sald (v := a4) dL_law_826 (by omega) (by omega) qa4.symm (pc' := 827) rfl ?_
  refine ax_invG [.inl a1, .inl a2, .inl a3, .inl a4] [] dL_law_827 mlL_93 sh_0 rfl rfl rfl (Nat.le_of_ble_eq_true rfl) (s_X11_habit E l _ (by omega) _ a1 a2 a3 a4 Ls (M 331) hnb hjv hlo.1) (pc' := 830) rfl (fun vv M_827 hq co827 hcm827 => ?_)
  obtain ⟨rfl, frM_827⟩ := hq
  refine ax_reS (st2 := [.inl (F_habit Ls (M 331) a1 a2 a3 a4)]) rfl ?_
  have cc827 : -2147483648 ≤ F_habit Ls (M 331) a1 a2 a3 a4 ∧ F_habit Ls (M 331) a1 a2 a3 a4 < 2147483648 := co827 _ rfl
  refine ax_aload_n dL_law_830 rfl rfl (pc' := 831) rfl ?_
  refine ax_aload_n dL_law_831 rfl rfl (pc' := 832) rfl ?_
  refine ax_iload_n dL_law_832 rfl rfl (pc' := 833) rfl ?_
  refine ax_iconst dL_law_833 (by decide) (pc' := 834) rfl ?_
  refine ax_iadd dL_law_834 (by omega) (pc' := 835) rfl ?_
  refine ax_sald (v := a1) dL_law_835 (by omega) (by omega) qa1.symm (pc' := 836) rfl ?_
  refine ax_aload_n dL_law_836 rfl rfl (pc' := 837) rfl ?_
  refine ax_iload_n dL_law_837 rfl rfl (pc' := 838) rfl ?_
  refine ax_iconst dL_law_838 (by decide) (pc' := 839) rfl ?_
  refine ax_iadd dL_law_839 (by omega) (pc' := 840) rfl ?_
  refine ax_sald (v := a2) dL_law_840 (by omega) (by omega) qa2.symm (pc' := 841) rfl ?_
  refine ax_aload_n dL_law_841 rfl rfl (pc' := 842) rfl ?_
  refine ax_iload_n dL_law_842 rfl rfl (pc' := 843) rfl ?_
  refine ax_iconst dL_law_843 (by decide) (pc' := 844) rfl ?_
  refine ax_iadd dL_law_844 (by omega) (pc' := 845) rfl ?_
  refine ax_sald (v := a3) dL_law_845 (by omega) (by omega) qa3.symm (pc' := 846) rfl ?_
  refine ax_aload_n dL_law_846 rfl rfl (pc' := 847) rfl ?_
  refine ax_iload_n dL_law_847 rfl rfl (pc' := 848) rfl ?_
  refine ax_iconst dL_law_848 (by decide) (pc' := 849) rfl ?_
  refine ax_iadd dL_law_849 (by omega) (pc' := 850) rfl ?_
  refine ax_sald (v := a4) dL_law_850 (by omega) (by omega) qa4.symm (pc' := 851) rfl ?_
  refine ax_invG [.inl a1, .inl a2, .inl a3, .inl a4] [.inl (F_habit Ls (M 331) a1 a2 a3 a4)] dL_law_851 mlL_97 sh_330 rfl rfl rfl (Nat.le_of_ble_eq_true rfl) (s_X12_habit E l _ (by omega) _ a1 a2 a3 a4 Ls ((funext fun i0 => frM_827 331 i0 (fun h => h.elim (fun h => absurd h (by decide)) (fun h => absurd h (by decide)))).trans rfl) ((funext fun i0 => frM_827 340 i0 (fun h => h.elim (fun h => absurd h (by decide)) (fun h => absurd h (by decide)))).trans rfl) ((funext fun i0 => frM_827 341 i0 (fun h => h.elim (fun h => absurd h (by decide)) (fun h => absurd h (by decide)))).trans rfl) hjv.1 hjv.2.2) (pc' := 854) rfl (fun vv M_851 hq co851 hcm851 => ?_)
  obtain ⟨rfl, frM_851⟩ := hq
  refine ax_reS (st2 := [.inl (F_habit Ls (M 331) a1 a2 a3 a4), .inl (F_habit Ls (M 331) a1 a2 a3 a4)]) rfl ?_
  have cc851 : -2147483648 ≤ F_habit Ls (M 331) a1 a2 a3 a4 ∧ F_habit Ls (M 331) a1 a2 a3 a4 < 2147483648 := co851 _ rfl
  refine ax_icmp_eq (tgt := 1416) dL_law_854 (by decide) (pc' := 857) rfl (fun h854 => ?_) (fun h854 => ?_)
  · exact kk _ (f_INV_mk (f_IV_fr hI (fun x0 i0 hai => by unfold f_rc at hai; exact ((frM_851 x0 i0 (by omega)).trans ((frM_827 x0 i0 (by omega)).trans rfl)))) ((funext fun i0 => frM_851 331 i0 (fun h => h.elim (fun h => absurd h (by decide)) (fun h => absurd h (by decide)))).trans ((funext fun i0 => frM_827 331 i0 (fun h => h.elim (fun h => absurd h (by decide)) (fun h => absurd h (by decide)))).trans rfl)) ((funext fun i0 => frM_851 332 i0 (fun h => h.elim (fun h => absurd h (by decide)) (fun h => absurd h (by decide)))).trans ((funext fun i0 => frM_827 332 i0 (fun h => h.elim (fun h => absurd h (by decide)) (fun h => absurd h (by decide)))).trans rfl)) ((funext fun i0 => frM_851 333 i0 (fun h => h.elim (fun h => absurd h (by decide)) (fun h => absurd h (by decide)))).trans ((funext fun i0 => frM_827 333 i0 (fun h => h.elim (fun h => absurd h (by decide)) (fun h => absurd h (by decide)))).trans rfl)) ((funext fun i0 => frM_851 339 i0 (fun h => h.elim (fun h => absurd h (by decide)) (fun h => absurd h (by decide)))).trans ((funext fun i0 => frM_827 339 i0 (fun h => h.elim (fun h => absurd h (by decide)) (fun h => absurd h (by decide)))).trans rfl)) ((frM_851 330 4 (fun h => h.elim (fun h => absurd h (by decide)) (fun h => absurd h (by decide)))).trans ((frM_827 330 4 (fun h => h.elim (fun h => absurd h (by decide)) (fun h => absurd h (by decide)))).trans rfl)) ((frM_851 330 5 (fun h => h.elim (fun h => absurd h (by decide)) (fun h => absurd h (by decide)))).trans ((frM_827 330 5 (fun h => h.elim (fun h => absurd h (by decide)) (fun h => absurd h (by decide)))).trans rfl)) ((frM_851 330 17 (fun h => h.elim (fun h => absurd h (by decide)) (fun h => absurd h (by decide)))).trans ((frM_827 330 17 (fun h => h.elim (fun h => absurd h (by decide)) (fun h => absurd h (by decide)))).trans rfl)) ((frM_851 330 24 (fun h => h.elim (fun h => absurd h (by decide)) (fun h => absurd h (by decide)))).trans ((frM_827 330 24 (fun h => h.elim (fun h => absurd h (by decide)) (fun h => absurd h (by decide)))).trans rfl)) ((frM_851 330 26 (fun h => h.elim (fun h => absurd h (by decide)) (fun h => absurd h (by decide)))).trans ((frM_827 330 26 (fun h => h.elim (fun h => absurd h (by decide)) (fun h => absurd h (by decide)))).trans rfl)) ((frM_851 330 21 (fun h => h.elim (fun h => absurd h (by decide)) (fun h => absurd h (by decide)))).trans ((frM_827 330 21 (fun h => h.elim (fun h => absurd h (by decide)) (fun h => absurd h (by decide)))).trans rfl)) hv)
  · exfalso
    exact h854 rfl
set_option maxRecDepth 20000 in
theorem lc_25 (E : ax_Env) (l : Launch) (d : Nat) (hd : 60 ≤ d) (M : ax_Mem) (Q : ax_Post) (i : Int) (hx : ax_xl E ≤ 3072) (hi : 0 ≤ i ∧ i + 6 ≤ (ax_xl E : Int)) (hI : f_INV M) (kk : ∀ M2, f_INV M2 → ax_W E l (d + 1) 0 0 iL_law 1416 [some (.inr (-2)), some (.inr 0), some (.inr 330), some (.inl i)] [] SH M2 Q) : ax_W E l (d + 1) 0 0 iL_law 1097 [some (.inr (-2)), some (.inr 0), some (.inr 330), some (.inl i)] [] SH M Q := by
  obtain ⟨hv, Ls, Lk, hI⟩ := hI
  have hnb := hI.1.1
  have hjv := hI.1.2.1
  have hlq := hI.1.2.2
  have hpr := hI.2.1.1
  have hhs := hI.2.1.2
  have hlo := hI.2.2.1
  have qta := hI.2.2.2.1.1
  have qtn := hI.2.2.2.1.2.1
  have qt4 := hI.2.2.2.1.2.2.1
  have qtp := hI.2.2.2.1.2.2.2
  obtain ⟨a1, qa1⟩ : ∃ z, z = (ax_xs E (i + 1).toNat).toInt := ⟨_, rfl⟩
  have ca1 : -2147483648 ≤ a1 ∧ a1 < 2147483648 := by rw [qa1]; exact ax_can_toInt _
  obtain ⟨a2, qa2⟩ : ∃ z, z = (ax_xs E (i + 2).toNat).toInt := ⟨_, rfl⟩
  have ca2 : -2147483648 ≤ a2 ∧ a2 < 2147483648 := by rw [qa2]; exact ax_can_toInt _
  obtain ⟨a3, qa3⟩ : ∃ z, z = (ax_xs E (i + 3).toNat).toInt := ⟨_, rfl⟩
  have ca3 : -2147483648 ≤ a3 ∧ a3 < 2147483648 := by rw [qa3]; exact ax_can_toInt _
  obtain ⟨a4, qa4⟩ : ∃ z, z = (ax_xs E (i + 4).toNat).toInt := ⟨_, rfl⟩
  have ca4 : -2147483648 ≤ a4 ∧ a4 < 2147483648 := by rw [qa4]; exact ax_can_toInt _
  obtain ⟨a5, qa5⟩ : ∃ z, z = (ax_xs E (i + 5).toNat).toInt := ⟨_, rfl⟩
  have ca5 : -2147483648 ≤ a5 ∧ a5 < 2147483648 := by rw [qa5]; exact ax_can_toInt _
  refine ax_aload_n dL_law_1097 rfl rfl (pc' := 1098) rfl ?_
  refine ax_aload_n dL_law_1098 rfl rfl (pc' := 1099) rfl ?_
  refine ax_iload_n dL_law_1099 rfl rfl (pc' := 1100) rfl ?_
  refine ax_iconst dL_law_1100 (by decide) (pc' := 1101) rfl ?_
  refine ax_iadd dL_law_1101 (by omega) (pc' := 1102) rfl ?_
  refine ax_sald (v := a1) dL_law_1102 (by omega) (by omega) qa1.symm (pc' := 1103) rfl ?_
  refine ax_aload_n dL_law_1103 rfl rfl (pc' := 1104) rfl ?_
  refine ax_iload_n dL_law_1104 rfl rfl (pc' := 1105) rfl ?_
  refine ax_iconst dL_law_1105 (by decide) (pc' := 1106) rfl ?_
  refine ax_iadd dL_law_1106 (by omega) (pc' := 1107) rfl ?_
  refine ax_sald (v := a2) dL_law_1107 (by omega) (by omega) qa2.symm (pc' := 1108) rfl ?_
  refine ax_invG [.inl a1, .inl a2] [] dL_law_1108 mlL_122 sh_0 rfl rfl rfl (Nat.le_of_ble_eq_true rfl) (s_X11_weak E l _ (by omega) _ a1 a2 Ls (M 331) hnb hjv hlo.1) (pc' := 1111) rfl (fun vv M_1108 hq co1108 hcm1108 => ?_)
  obtain ⟨rfl, frM_1108⟩ := hq
  refine ax_reS (st2 := [.inl (F_weak Ls (M 331) a1 a2)]) rfl ?_
  have cc1108 : -2147483648 ≤ F_weak Ls (M 331) a1 a2 ∧ F_weak Ls (M 331) a1 a2 < 2147483648 := co1108 _ rfl
  refine ax_aload_n dL_law_1111 rfl rfl (pc' := 1112) rfl ?_
  refine ax_aload_n dL_law_1112 rfl rfl (pc' := 1113) rfl ?_
  refine ax_iload_n dL_law_1113 rfl rfl (pc' := 1114) rfl ?_
  refine ax_iconst dL_law_1114 (by decide) (pc' := 1115) rfl ?_
  refine ax_iadd dL_law_1115 (by omega) (pc' := 1116) rfl ?_
  refine ax_sald (v := a1) dL_law_1116 (by omega) (by omega) qa1.symm (pc' := 1117) rfl ?_
  refine ax_aload_n dL_law_1117 rfl rfl (pc' := 1118) rfl ?_
  refine ax_iload_n dL_law_1118 rfl rfl (pc' := 1119) rfl ?_
  refine ax_iconst dL_law_1119 (by decide) (pc' := 1120) rfl ?_
  refine ax_iadd dL_law_1120 (by omega) (pc' := 1121) rfl ?_
  refine ax_sald (v := a2) dL_law_1121 (by omega) (by omega) qa2.symm (pc' := 1122) rfl ?_
  refine ax_invG [.inl a1, .inl a2] [.inl (F_weak Ls (M 331) a1 a2)] dL_law_1122 mlL_125 sh_330 rfl rfl rfl (Nat.le_of_ble_eq_true rfl) (s_X12_weak E l _ (by omega) _ a1 a2 Ls ((funext fun i0 => frM_1108 331 i0 (fun h => h.elim (fun h => absurd h (by decide)) (fun h => absurd h (by decide)))).trans rfl) ((funext fun i0 => frM_1108 340 i0 (fun h => h.elim (fun h => absurd h (by decide)) (fun h => absurd h (by decide)))).trans rfl) ((funext fun i0 => frM_1108 341 i0 (fun h => h.elim (fun h => absurd h (by decide)) (fun h => absurd h (by decide)))).trans rfl) hjv.1 hjv.2.2) (pc' := 1125) rfl (fun vv M_1122 hq co1122 hcm1122 => ?_)
  obtain ⟨rfl, frM_1122⟩ := hq
  refine ax_reS (st2 := [.inl (F_weak Ls (M 331) a1 a2), .inl (F_weak Ls (M 331) a1 a2)]) rfl ?_
  have cc1122 : -2147483648 ≤ F_weak Ls (M 331) a1 a2 ∧ F_weak Ls (M 331) a1 a2 < 2147483648 := co1122 _ rfl
  refine ax_icmp_eq (tgt := 1416) dL_law_1125 (by decide) (pc' := 1128) rfl (fun h1125 => ?_) (fun h1125 => ?_)
  · exact kk _ (f_INV_mk (f_IV_fr hI (fun x0 i0 hai => by unfold f_rc at hai; exact ((frM_1122 x0 i0 (by omega)).trans ((frM_1108 x0 i0 (by omega)).trans rfl)))) ((funext fun i0 => frM_1122 331 i0 (fun h => h.elim (fun h => absurd h (by decide)) (fun h => absurd h (by decide)))).trans ((funext fun i0 => frM_1108 331 i0 (fun h => h.elim (fun h => absurd h (by decide)) (fun h => absurd h (by decide)))).trans rfl)) ((funext fun i0 => frM_1122 332 i0 (fun h => h.elim (fun h => absurd h (by decide)) (fun h => absurd h (by decide)))).trans ((funext fun i0 => frM_1108 332 i0 (fun h => h.elim (fun h => absurd h (by decide)) (fun h => absurd h (by decide)))).trans rfl)) ((funext fun i0 => frM_1122 333 i0 (fun h => h.elim (fun h => absurd h (by decide)) (fun h => absurd h (by decide)))).trans ((funext fun i0 => frM_1108 333 i0 (fun h => h.elim (fun h => absurd h (by decide)) (fun h => absurd h (by decide)))).trans rfl)) ((funext fun i0 => frM_1122 339 i0 (fun h => h.elim (fun h => absurd h (by decide)) (fun h => absurd h (by decide)))).trans ((funext fun i0 => frM_1108 339 i0 (fun h => h.elim (fun h => absurd h (by decide)) (fun h => absurd h (by decide)))).trans rfl)) ((frM_1122 330 4 (fun h => h.elim (fun h => absurd h (by decide)) (fun h => absurd h (by decide)))).trans ((frM_1108 330 4 (fun h => h.elim (fun h => absurd h (by decide)) (fun h => absurd h (by decide)))).trans rfl)) ((frM_1122 330 5 (fun h => h.elim (fun h => absurd h (by decide)) (fun h => absurd h (by decide)))).trans ((frM_1108 330 5 (fun h => h.elim (fun h => absurd h (by decide)) (fun h => absurd h (by decide)))).trans rfl)) ((frM_1122 330 17 (fun h => h.elim (fun h => absurd h (by decide)) (fun h => absurd h (by decide)))).trans ((frM_1108 330 17 (fun h => h.elim (fun h => absurd h (by decide)) (fun h => absurd h (by decide)))).trans rfl)) ((frM_1122 330 24 (fun h => h.elim (fun h => absurd h (by decide)) (fun h => absurd h (by decide)))).trans ((frM_1108 330 24 (fun h => h.elim (fun h => absurd h (by decide)) (fun h => absurd h (by decide)))).trans rfl)) ((frM_1122 330 26 (fun h => h.elim (fun h => absurd h (by decide)) (fun h => absurd h (by decide)))).trans ((frM_1108 330 26 (fun h => h.elim (fun h => absurd h (by decide)) (fun h => absurd h (by decide)))).trans rfl)) ((frM_1122 330 21 (fun h => h.elim (fun h => absurd h (by decide)) (fun h => absurd h (by decide)))).trans ((frM_1108 330 21 (fun h => h.elim (fun h => absurd h (by decide)) (fun h => absurd h (by decide)))).trans rfl)) hv)
  · exfalso
    exact h1125 rfl
set_option maxRecDepth 20000 in
theorem lc_26 (E : ax_Env) (l : Launch) (d : Nat) (hd : 60 ≤ d) (M : ax_Mem) (Q : ax_Post) (i : Int) (hx : ax_xl E ≤ 3072) (hi : 0 ≤ i ∧ i + 6 ≤ (ax_xl E : Int)) (hI : f_INV M) (kk : ∀ M2, f_INV M2 → ax_W E l (d + 1) 0 0 iL_law 1416 [some (.inr (-2)), some (.inr 0), some (.inr 330), some (.inl i)] [] SH M2 Q) : ax_W E l (d + 1) 0 0 iL_law 1130 [some (.inr (-2)), some (.inr 0), some (.inr 330), some (.inl i)] [] SH M Q := by
  obtain ⟨hv, Ls, Lk, hI⟩ := hI
  have hnb := hI.1.1
  have hjv := hI.1.2.1
  have hlq := hI.1.2.2
  have hpr := hI.2.1.1
  have hhs := hI.2.1.2
  have hlo := hI.2.2.1
  have qta := hI.2.2.2.1.1
  have qtn := hI.2.2.2.1.2.1
  have qt4 := hI.2.2.2.1.2.2.1
  have qtp := hI.2.2.2.1.2.2.2
  obtain ⟨a1, qa1⟩ : ∃ z, z = (ax_xs E (i + 1).toNat).toInt := ⟨_, rfl⟩
  have ca1 : -2147483648 ≤ a1 ∧ a1 < 2147483648 := by rw [qa1]; exact ax_can_toInt _
  obtain ⟨a2, qa2⟩ : ∃ z, z = (ax_xs E (i + 2).toNat).toInt := ⟨_, rfl⟩
  have ca2 : -2147483648 ≤ a2 ∧ a2 < 2147483648 := by rw [qa2]; exact ax_can_toInt _
  obtain ⟨a3, qa3⟩ : ∃ z, z = (ax_xs E (i + 3).toNat).toInt := ⟨_, rfl⟩
  have ca3 : -2147483648 ≤ a3 ∧ a3 < 2147483648 := by rw [qa3]; exact ax_can_toInt _
  obtain ⟨a4, qa4⟩ : ∃ z, z = (ax_xs E (i + 4).toNat).toInt := ⟨_, rfl⟩
  have ca4 : -2147483648 ≤ a4 ∧ a4 < 2147483648 := by rw [qa4]; exact ax_can_toInt _
  obtain ⟨a5, qa5⟩ : ∃ z, z = (ax_xs E (i + 5).toNat).toInt := ⟨_, rfl⟩
  have ca5 : -2147483648 ≤ a5 ∧ a5 < 2147483648 := by rw [qa5]; exact ax_can_toInt _
  refine ax_aload_n dL_law_1130 rfl rfl (pc' := 1131) rfl ?_
  refine ax_aload_n dL_law_1131 rfl rfl (pc' := 1132) rfl ?_
  refine ax_iload_n dL_law_1132 rfl rfl (pc' := 1133) rfl ?_
  refine ax_iconst dL_law_1133 (by decide) (pc' := 1134) rfl ?_
  refine ax_iadd dL_law_1134 (by omega) (pc' := 1135) rfl ?_
  refine ax_sald (v := a1) dL_law_1135 (by omega) (by omega) qa1.symm (pc' := 1136) rfl ?_
  refine ax_invG [.inl a1] [] dL_law_1136 mlL_126 sh_0 rfl rfl rfl (Nat.le_of_ble_eq_true rfl) (s_X11_ladder E l _ (by omega) _ a1 Ls (M 331) hnb hjv hlo.1) (pc' := 1139) rfl (fun vv M_1136 hq co1136 hcm1136 => ?_)
  obtain ⟨rfl, frM_1136⟩ := hq
  refine ax_reS (st2 := [.inl (F_ladder Ls (M 331) a1)]) rfl ?_
  have cc1136 : -2147483648 ≤ F_ladder Ls (M 331) a1 ∧ F_ladder Ls (M 331) a1 < 2147483648 := co1136 _ rfl
  refine ax_aload_n dL_law_1139 rfl rfl (pc' := 1140) rfl ?_
  refine ax_aload_n dL_law_1140 rfl rfl (pc' := 1141) rfl ?_
  refine ax_iload_n dL_law_1141 rfl rfl (pc' := 1142) rfl ?_
  refine ax_iconst dL_law_1142 (by decide) (pc' := 1143) rfl ?_
  refine ax_iadd dL_law_1143 (by omega) (pc' := 1144) rfl ?_
  refine ax_sald (v := a1) dL_law_1144 (by omega) (by omega) qa1.symm (pc' := 1145) rfl ?_
  refine ax_invG [.inl a1] [.inl (F_ladder Ls (M 331) a1)] dL_law_1145 mlL_129 sh_330 rfl rfl rfl (Nat.le_of_ble_eq_true rfl) (s_X12_ladder E l _ (by omega) _ a1 Ls ((funext fun i0 => frM_1136 331 i0 (fun h => h.elim (fun h => absurd h (by decide)) (fun h => absurd h (by decide)))).trans rfl) ((funext fun i0 => frM_1136 340 i0 (fun h => h.elim (fun h => absurd h (by decide)) (fun h => absurd h (by decide)))).trans rfl) ((funext fun i0 => frM_1136 341 i0 (fun h => h.elim (fun h => absurd h (by decide)) (fun h => absurd h (by decide)))).trans rfl) hjv.1 hjv.2.2) (pc' := 1148) rfl (fun vv M_1145 hq co1145 hcm1145 => ?_)
  obtain ⟨rfl, frM_1145⟩ := hq
  refine ax_reS (st2 := [.inl (F_ladder Ls (M 331) a1), .inl (F_ladder Ls (M 331) a1)]) rfl ?_
  have cc1145 : -2147483648 ≤ F_ladder Ls (M 331) a1 ∧ F_ladder Ls (M 331) a1 < 2147483648 := co1145 _ rfl
  refine ax_icmp_eq (tgt := 1416) dL_law_1148 (by decide) (pc' := 1151) rfl (fun h1148 => ?_) (fun h1148 => ?_)
  · exact kk _ (f_INV_mk (f_IV_fr hI (fun x0 i0 hai => by unfold f_rc at hai; exact ((frM_1145 x0 i0 (by omega)).trans ((frM_1136 x0 i0 (by omega)).trans rfl)))) ((funext fun i0 => frM_1145 331 i0 (fun h => h.elim (fun h => absurd h (by decide)) (fun h => absurd h (by decide)))).trans ((funext fun i0 => frM_1136 331 i0 (fun h => h.elim (fun h => absurd h (by decide)) (fun h => absurd h (by decide)))).trans rfl)) ((funext fun i0 => frM_1145 332 i0 (fun h => h.elim (fun h => absurd h (by decide)) (fun h => absurd h (by decide)))).trans ((funext fun i0 => frM_1136 332 i0 (fun h => h.elim (fun h => absurd h (by decide)) (fun h => absurd h (by decide)))).trans rfl)) ((funext fun i0 => frM_1145 333 i0 (fun h => h.elim (fun h => absurd h (by decide)) (fun h => absurd h (by decide)))).trans ((funext fun i0 => frM_1136 333 i0 (fun h => h.elim (fun h => absurd h (by decide)) (fun h => absurd h (by decide)))).trans rfl)) ((funext fun i0 => frM_1145 339 i0 (fun h => h.elim (fun h => absurd h (by decide)) (fun h => absurd h (by decide)))).trans ((funext fun i0 => frM_1136 339 i0 (fun h => h.elim (fun h => absurd h (by decide)) (fun h => absurd h (by decide)))).trans rfl)) ((frM_1145 330 4 (fun h => h.elim (fun h => absurd h (by decide)) (fun h => absurd h (by decide)))).trans ((frM_1136 330 4 (fun h => h.elim (fun h => absurd h (by decide)) (fun h => absurd h (by decide)))).trans rfl)) ((frM_1145 330 5 (fun h => h.elim (fun h => absurd h (by decide)) (fun h => absurd h (by decide)))).trans ((frM_1136 330 5 (fun h => h.elim (fun h => absurd h (by decide)) (fun h => absurd h (by decide)))).trans rfl)) ((frM_1145 330 17 (fun h => h.elim (fun h => absurd h (by decide)) (fun h => absurd h (by decide)))).trans ((frM_1136 330 17 (fun h => h.elim (fun h => absurd h (by decide)) (fun h => absurd h (by decide)))).trans rfl)) ((frM_1145 330 24 (fun h => h.elim (fun h => absurd h (by decide)) (fun h => absurd h (by decide)))).trans ((frM_1136 330 24 (fun h => h.elim (fun h => absurd h (by decide)) (fun h => absurd h (by decide)))).trans rfl)) ((frM_1145 330 26 (fun h => h.elim (fun h => absurd h (by decide)) (fun h => absurd h (by decide)))).trans ((frM_1136 330 26 (fun h => h.elim (fun h => absurd h (by decide)) (fun h => absurd h (by decide)))).trans rfl)) ((frM_1145 330 21 (fun h => h.elim (fun h => absurd h (by decide)) (fun h => absurd h (by decide)))).trans ((frM_1136 330 21 (fun h => h.elim (fun h => absurd h (by decide)) (fun h => absurd h (by decide)))).trans rfl)) hv)
  · exfalso
    exact h1148 rfl
set_option maxRecDepth 20000 in
theorem lc_20 (E : ax_Env) (l : Launch) (d : Nat) (hd : 60 ≤ d) (M : ax_Mem) (Q : ax_Post) (i : Int) (hx : ax_xl E ≤ 3072) (hi : 0 ≤ i ∧ i + 6 ≤ (ax_xl E : Int)) (hI : f_INV M) (kk : ∀ M2, f_INV M2 → ax_W E l (d + 1) 0 0 iL_law 1416 [some (.inr (-2)), some (.inr 0), some (.inr 330), some (.inl i)] [] SH M2 Q) : ax_W E l (d + 1) 0 0 iL_law 892 [some (.inr (-2)), some (.inr 0), some (.inr 330), some (.inl i)] [] SH M Q := by
  obtain ⟨hv, Ls, Lk, hI⟩ := hI
  have hnb := hI.1.1
  have hjv := hI.1.2.1
  have hlq := hI.1.2.2
  have hpr := hI.2.1.1
  have hhs := hI.2.1.2
  have hlo := hI.2.2.1
  have qta := hI.2.2.2.1.1
  have qtn := hI.2.2.2.1.2.1
  have qt4 := hI.2.2.2.1.2.2.1
  have qtp := hI.2.2.2.1.2.2.2
  obtain ⟨a1, qa1⟩ : ∃ z, z = (ax_xs E (i + 1).toNat).toInt := ⟨_, rfl⟩
  have ca1 : -2147483648 ≤ a1 ∧ a1 < 2147483648 := by rw [qa1]; exact ax_can_toInt _
  obtain ⟨a2, qa2⟩ : ∃ z, z = (ax_xs E (i + 2).toNat).toInt := ⟨_, rfl⟩
  have ca2 : -2147483648 ≤ a2 ∧ a2 < 2147483648 := by rw [qa2]; exact ax_can_toInt _
  obtain ⟨a3, qa3⟩ : ∃ z, z = (ax_xs E (i + 3).toNat).toInt := ⟨_, rfl⟩
  have ca3 : -2147483648 ≤ a3 ∧ a3 < 2147483648 := by rw [qa3]; exact ax_can_toInt _
  obtain ⟨a4, qa4⟩ : ∃ z, z = (ax_xs E (i + 4).toNat).toInt := ⟨_, rfl⟩
  have ca4 : -2147483648 ≤ a4 ∧ a4 < 2147483648 := by rw [qa4]; exact ax_can_toInt _
  obtain ⟨a5, qa5⟩ : ∃ z, z = (ax_xs E (i + 5).toNat).toInt := ⟨_, rfl⟩
  have ca5 : -2147483648 ≤ a5 ∧ a5 < 2147483648 := by rw [qa5]; exact ax_can_toInt _
  refine ax_aload_n dL_law_892 rfl rfl (pc' := 893) rfl ?_
  refine ax_aload_n dL_law_893 rfl rfl (pc' := 894) rfl ?_
  refine ax_iload_n dL_law_894 rfl rfl (pc' := 895) rfl ?_
  refine ax_iconst dL_law_895 (by decide) (pc' := 896) rfl ?_
  refine ax_iadd dL_law_896 (by omega) (pc' := 897) rfl ?_
  refine ax_sald (v := a1) dL_law_897 (by omega) (by omega) qa1.symm (pc' := 898) rfl ?_
  refine ax_aload_n dL_law_898 rfl rfl (pc' := 899) rfl ?_
  refine ax_iload_n dL_law_899 rfl rfl (pc' := 900) rfl ?_
  refine ax_iconst dL_law_900 (by decide) (pc' := 901) rfl ?_
  refine ax_iadd dL_law_901 (by omega) (pc' := 902) rfl ?_
  refine ax_sald (v := a2) dL_law_902 (by omega) (by omega) qa2.symm (pc' := 903) rfl ?_
  refine ax_aload_n dL_law_903 rfl rfl (pc' := 904) rfl ?_
  refine ax_iload_n dL_law_904 rfl rfl (pc' := 905) rfl ?_
  refine ax_iconst dL_law_905 (by decide) (pc' := 906) rfl ?_
  refine ax_iadd dL_law_906 (by omega) (pc' := 907) rfl ?_
  refine ax_sald (v := a3) dL_law_907 (by omega) (by omega) qa3.symm (pc' := 908) rfl ?_
  refine ax_invG [.inl a1, .inl a2, .inl a3] [] dL_law_908 mlL_102 sh_0 rfl rfl rfl (Nat.le_of_ble_eq_true rfl) (s_X11_would E l _ (by omega) _ a1 a2 a3 Ls (M 331) hnb hjv hlo.1) (pc' := 911) rfl (fun vv M_908 hq co908 hcm908 => ?_)
  obtain ⟨rfl, frM_908⟩ := hq
  refine ax_reS (st2 := [.inl (F_would Ls (M 331) a1 a2 a3)]) rfl ?_
  have cc908 : -2147483648 ≤ F_would Ls (M 331) a1 a2 a3 ∧ F_would Ls (M 331) a1 a2 a3 < 2147483648 := co908 _ rfl
  refine ax_aload_n dL_law_911 rfl rfl (pc' := 912) rfl ?_
  refine ax_aload_n dL_law_912 rfl rfl (pc' := 913) rfl ?_
  refine ax_iload_n dL_law_913 rfl rfl (pc' := 914) rfl ?_
  refine ax_iconst dL_law_914 (by decide) (pc' := 915) rfl ?_
  refine ax_iadd dL_law_915 (by omega) (pc' := 916) rfl ?_
  refine ax_sald (v := a1) dL_law_916 (by omega) (by omega) qa1.symm (pc' := 917) rfl ?_
  refine ax_aload_n dL_law_917 rfl rfl (pc' := 918) rfl ?_
  refine ax_iload_n dL_law_918 rfl rfl (pc' := 919) rfl ?_
  refine ax_iconst dL_law_919 (by decide) (pc' := 920) rfl ?_
  refine ax_iadd dL_law_920 (by omega) (pc' := 921) rfl ?_
  refine ax_sald (v := a2) dL_law_921 (by omega) (by omega) qa2.symm (pc' := 922) rfl ?_
  refine ax_aload_n dL_law_922 rfl rfl (pc' := 923) rfl ?_
  refine ax_iload_n dL_law_923 rfl rfl (pc' := 924) rfl ?_
  refine ax_iconst dL_law_924 (by decide) (pc' := 925) rfl ?_
  refine ax_iadd dL_law_925 (by omega) (pc' := 926) rfl ?_
  refine ax_sald (v := a3) dL_law_926 (by omega) (by omega) qa3.symm (pc' := 927) rfl ?_
  refine ax_invG [.inl a1, .inl a2, .inl a3] [.inl (F_would Ls (M 331) a1 a2 a3)] dL_law_927 mlL_105 sh_330 rfl rfl rfl (Nat.le_of_ble_eq_true rfl) (s_X12_would E l _ (by omega) _ a1 a2 a3 Ls ((funext fun i0 => frM_908 331 i0 (fun h => h.elim (fun h => absurd h.2 (by decide)) (fun h => h.elim (fun h => absurd h (by decide)) (fun h => h.elim (fun h => absurd h (by decide)) (fun h => h.elim (fun h => absurd h (by decide)) (fun h => h.elim (fun h => absurd h (by decide)) (fun h => h.elim (fun h => absurd h.1 (by decide)) (fun h => absurd h.1 (by decide))))))))).trans rfl) ((funext fun i0 => frM_908 340 i0 (fun h => h.elim (fun h => absurd h.2 (by decide)) (fun h => h.elim (fun h => absurd h (by decide)) (fun h => h.elim (fun h => absurd h (by decide)) (fun h => h.elim (fun h => absurd h (by decide)) (fun h => h.elim (fun h => absurd h (by decide)) (fun h => h.elim (fun h => absurd h.1 (by decide)) (fun h => absurd h.1 (by decide))))))))).trans rfl) ((funext fun i0 => frM_908 341 i0 (fun h => h.elim (fun h => absurd h.2 (by decide)) (fun h => h.elim (fun h => absurd h (by decide)) (fun h => h.elim (fun h => absurd h (by decide)) (fun h => h.elim (fun h => absurd h (by decide)) (fun h => h.elim (fun h => absurd h (by decide)) (fun h => h.elim (fun h => absurd h.1 (by decide)) (fun h => absurd h.1 (by decide))))))))).trans rfl) ((funext fun i0 => frM_908 342 i0 (fun h => h.elim (fun h => absurd h.2 (by decide)) (fun h => h.elim (fun h => absurd h (by decide)) (fun h => h.elim (fun h => absurd h (by decide)) (fun h => h.elim (fun h => absurd h (by decide)) (fun h => h.elim (fun h => absurd h (by decide)) (fun h => h.elim (fun h => absurd h.1 (by decide)) (fun h => absurd h.1 (by decide))))))))).trans rfl) ((funext fun i0 => frM_908 343 i0 (fun h => h.elim (fun h => absurd h.2 (by decide)) (fun h => h.elim (fun h => absurd h (by decide)) (fun h => h.elim (fun h => absurd h (by decide)) (fun h => h.elim (fun h => absurd h (by decide)) (fun h => h.elim (fun h => absurd h (by decide)) (fun h => h.elim (fun h => absurd h.1 (by decide)) (fun h => absurd h.1 (by decide))))))))).trans rfl) ((funext fun i0 => frM_908 334 i0 (fun h => h.elim (fun h => absurd h.2 (by decide)) (fun h => h.elim (fun h => absurd h (by decide)) (fun h => h.elim (fun h => absurd h (by decide)) (fun h => h.elim (fun h => absurd h (by decide)) (fun h => h.elim (fun h => absurd h (by decide)) (fun h => h.elim (fun h => absurd h.1 (by decide)) (fun h => absurd h.1 (by decide))))))))).trans rfl) hjv.1 hjv.2.2) (pc' := 930) rfl (fun vv M_927 hq co927 hcm927 => ?_)
  obtain ⟨rfl, frM_927, mrM_927_0⟩ := hq
  refine ax_reS (st2 := [.inl (F_would Ls (M 331) a1 a2 a3), .inl (F_would Ls (M 331) a1 a2 a3)]) rfl ?_
  have cc927 : -2147483648 ≤ F_would Ls (M 331) a1 a2 a3 ∧ F_would Ls (M 331) a1 a2 a3 < 2147483648 := co927 _ rfl
  refine ax_icmp_eq (tgt := 1416) dL_law_930 (by decide) (pc' := 933) rfl (fun h930 => ?_) (fun h930 => ?_)
  · exact kk _ (f_INV_mk (f_IV_fr hI (fun x0 i0 hai => by unfold f_rc at hai; exact ((frM_927 x0 i0 (by omega)).trans ((frM_908 x0 i0 (by omega)).trans rfl)))) mrM_927_0 ((funext fun i0 => frM_927 332 i0 (fun h => h.elim (fun h => absurd h (by decide)) (fun h => h.elim (fun h => absurd h (by decide)) (fun h => h.elim (fun h => absurd h (by decide)) (fun h => h.elim (fun h => absurd h (by decide)) (fun h => h.elim (fun h => absurd h (by decide)) (fun h => h.elim (fun h => absurd h (by decide)) (fun h => h.elim (fun h => absurd h.1 (by decide)) (fun h => h.elim (fun h => absurd h.1 (by decide)) (fun h => h.elim (fun h => absurd h.1 (by decide)) (fun h => absurd h.1 (by decide)))))))))))).trans ((funext fun i0 => frM_908 332 i0 (fun h => h.elim (fun h => absurd h.2 (by decide)) (fun h => h.elim (fun h => absurd h (by decide)) (fun h => h.elim (fun h => absurd h (by decide)) (fun h => h.elim (fun h => absurd h (by decide)) (fun h => h.elim (fun h => absurd h (by decide)) (fun h => h.elim (fun h => absurd h.1 (by decide)) (fun h => absurd h.1 (by decide))))))))).trans rfl)) ((funext fun i0 => frM_927 333 i0 (fun h => h.elim (fun h => absurd h (by decide)) (fun h => h.elim (fun h => absurd h (by decide)) (fun h => h.elim (fun h => absurd h (by decide)) (fun h => h.elim (fun h => absurd h (by decide)) (fun h => h.elim (fun h => absurd h (by decide)) (fun h => h.elim (fun h => absurd h (by decide)) (fun h => h.elim (fun h => absurd h.1 (by decide)) (fun h => h.elim (fun h => absurd h.1 (by decide)) (fun h => h.elim (fun h => absurd h.1 (by decide)) (fun h => absurd h.1 (by decide)))))))))))).trans ((funext fun i0 => frM_908 333 i0 (fun h => h.elim (fun h => absurd h.2 (by decide)) (fun h => h.elim (fun h => absurd h (by decide)) (fun h => h.elim (fun h => absurd h (by decide)) (fun h => h.elim (fun h => absurd h (by decide)) (fun h => h.elim (fun h => absurd h (by decide)) (fun h => h.elim (fun h => absurd h.1 (by decide)) (fun h => absurd h.1 (by decide))))))))).trans rfl)) ((funext fun i0 => frM_927 339 i0 (fun h => h.elim (fun h => absurd h (by decide)) (fun h => h.elim (fun h => absurd h (by decide)) (fun h => h.elim (fun h => absurd h (by decide)) (fun h => h.elim (fun h => absurd h (by decide)) (fun h => h.elim (fun h => absurd h (by decide)) (fun h => h.elim (fun h => absurd h (by decide)) (fun h => h.elim (fun h => absurd h.1 (by decide)) (fun h => h.elim (fun h => absurd h.1 (by decide)) (fun h => h.elim (fun h => absurd h.1 (by decide)) (fun h => absurd h.1 (by decide)))))))))))).trans ((funext fun i0 => frM_908 339 i0 (fun h => h.elim (fun h => absurd h.2 (by decide)) (fun h => h.elim (fun h => absurd h (by decide)) (fun h => h.elim (fun h => absurd h (by decide)) (fun h => h.elim (fun h => absurd h (by decide)) (fun h => h.elim (fun h => absurd h (by decide)) (fun h => h.elim (fun h => absurd h.1 (by decide)) (fun h => absurd h.1 (by decide))))))))).trans rfl)) ((frM_927 330 4 (fun h => h.elim (fun h => absurd h (by decide)) (fun h => h.elim (fun h => absurd h (by decide)) (fun h => h.elim (fun h => absurd h (by decide)) (fun h => h.elim (fun h => absurd h (by decide)) (fun h => h.elim (fun h => absurd h (by decide)) (fun h => h.elim (fun h => absurd h (by decide)) (fun h => h.elim (fun h => absurd h.2 (by decide)) (fun h => h.elim (fun h => absurd h.2 (by decide)) (fun h => h.elim (fun h => absurd h.2 (by decide)) (fun h => absurd h.2 (by decide)))))))))))).trans ((frM_908 330 4 (fun h => h.elim (fun h => absurd h.2 (by decide)) (fun h => h.elim (fun h => absurd h (by decide)) (fun h => h.elim (fun h => absurd h (by decide)) (fun h => h.elim (fun h => absurd h (by decide)) (fun h => h.elim (fun h => absurd h (by decide)) (fun h => h.elim (fun h => absurd h.1 (by decide)) (fun h => absurd h.1 (by decide))))))))).trans rfl)) ((frM_927 330 5 (fun h => h.elim (fun h => absurd h (by decide)) (fun h => h.elim (fun h => absurd h (by decide)) (fun h => h.elim (fun h => absurd h (by decide)) (fun h => h.elim (fun h => absurd h (by decide)) (fun h => h.elim (fun h => absurd h (by decide)) (fun h => h.elim (fun h => absurd h (by decide)) (fun h => h.elim (fun h => absurd h.2 (by decide)) (fun h => h.elim (fun h => absurd h.2 (by decide)) (fun h => h.elim (fun h => absurd h.2 (by decide)) (fun h => absurd h.2 (by decide)))))))))))).trans ((frM_908 330 5 (fun h => h.elim (fun h => absurd h.2 (by decide)) (fun h => h.elim (fun h => absurd h (by decide)) (fun h => h.elim (fun h => absurd h (by decide)) (fun h => h.elim (fun h => absurd h (by decide)) (fun h => h.elim (fun h => absurd h (by decide)) (fun h => h.elim (fun h => absurd h.1 (by decide)) (fun h => absurd h.1 (by decide))))))))).trans rfl)) ((frM_927 330 17 (fun h => h.elim (fun h => absurd h (by decide)) (fun h => h.elim (fun h => absurd h (by decide)) (fun h => h.elim (fun h => absurd h (by decide)) (fun h => h.elim (fun h => absurd h (by decide)) (fun h => h.elim (fun h => absurd h (by decide)) (fun h => h.elim (fun h => absurd h (by decide)) (fun h => h.elim (fun h => absurd h.2 (by decide)) (fun h => h.elim (fun h => absurd h.2 (by decide)) (fun h => h.elim (fun h => absurd h.2 (by decide)) (fun h => absurd h.2 (by decide)))))))))))).trans ((frM_908 330 17 (fun h => h.elim (fun h => absurd h.2 (by decide)) (fun h => h.elim (fun h => absurd h (by decide)) (fun h => h.elim (fun h => absurd h (by decide)) (fun h => h.elim (fun h => absurd h (by decide)) (fun h => h.elim (fun h => absurd h (by decide)) (fun h => h.elim (fun h => absurd h.1 (by decide)) (fun h => absurd h.1 (by decide))))))))).trans rfl)) ((frM_927 330 24 (fun h => h.elim (fun h => absurd h (by decide)) (fun h => h.elim (fun h => absurd h (by decide)) (fun h => h.elim (fun h => absurd h (by decide)) (fun h => h.elim (fun h => absurd h (by decide)) (fun h => h.elim (fun h => absurd h (by decide)) (fun h => h.elim (fun h => absurd h (by decide)) (fun h => h.elim (fun h => absurd h.2 (by decide)) (fun h => h.elim (fun h => absurd h.2 (by decide)) (fun h => h.elim (fun h => absurd h.2 (by decide)) (fun h => absurd h.2 (by decide)))))))))))).trans ((frM_908 330 24 (fun h => h.elim (fun h => absurd h.2 (by decide)) (fun h => h.elim (fun h => absurd h (by decide)) (fun h => h.elim (fun h => absurd h (by decide)) (fun h => h.elim (fun h => absurd h (by decide)) (fun h => h.elim (fun h => absurd h (by decide)) (fun h => h.elim (fun h => absurd h.1 (by decide)) (fun h => absurd h.1 (by decide))))))))).trans rfl)) ((frM_927 330 26 (fun h => h.elim (fun h => absurd h (by decide)) (fun h => h.elim (fun h => absurd h (by decide)) (fun h => h.elim (fun h => absurd h (by decide)) (fun h => h.elim (fun h => absurd h (by decide)) (fun h => h.elim (fun h => absurd h (by decide)) (fun h => h.elim (fun h => absurd h (by decide)) (fun h => h.elim (fun h => absurd h.2 (by decide)) (fun h => h.elim (fun h => absurd h.2 (by decide)) (fun h => h.elim (fun h => absurd h.2 (by decide)) (fun h => absurd h.2 (by decide)))))))))))).trans ((frM_908 330 26 (fun h => h.elim (fun h => absurd h.2 (by decide)) (fun h => h.elim (fun h => absurd h (by decide)) (fun h => h.elim (fun h => absurd h (by decide)) (fun h => h.elim (fun h => absurd h (by decide)) (fun h => h.elim (fun h => absurd h (by decide)) (fun h => h.elim (fun h => absurd h.1 (by decide)) (fun h => absurd h.1 (by decide))))))))).trans rfl)) ((frM_927 330 21 (fun h => h.elim (fun h => absurd h (by decide)) (fun h => h.elim (fun h => absurd h (by decide)) (fun h => h.elim (fun h => absurd h (by decide)) (fun h => h.elim (fun h => absurd h (by decide)) (fun h => h.elim (fun h => absurd h (by decide)) (fun h => h.elim (fun h => absurd h (by decide)) (fun h => h.elim (fun h => absurd h.2 (by decide)) (fun h => h.elim (fun h => absurd h.2 (by decide)) (fun h => h.elim (fun h => absurd h.2 (by decide)) (fun h => absurd h.2 (by decide)))))))))))).trans ((frM_908 330 21 (fun h => h.elim (fun h => absurd h.2 (by decide)) (fun h => h.elim (fun h => absurd h (by decide)) (fun h => h.elim (fun h => absurd h (by decide)) (fun h => h.elim (fun h => absurd h (by decide)) (fun h => h.elim (fun h => absurd h (by decide)) (fun h => h.elim (fun h => absurd h.1 (by decide)) (fun h => absurd h.1 (by decide))))))))).trans rfl)) hv)
  · exfalso
    exact h930 rfl
set_option maxRecDepth 20000 in
theorem lc_21 (E : ax_Env) (l : Launch) (d : Nat) (hd : 60 ≤ d) (M : ax_Mem) (Q : ax_Post) (i : Int) (hx : ax_xl E ≤ 3072) (hi : 0 ≤ i ∧ i + 6 ≤ (ax_xl E : Int)) (hI : f_INV M) (kk : ∀ M2, f_INV M2 → ax_W E l (d + 1) 0 0 iL_law 1416 [some (.inr (-2)), some (.inr 0), some (.inr 330), some (.inl i)] [] SH M2 Q) : ax_W E l (d + 1) 0 0 iL_law 935 [some (.inr (-2)), some (.inr 0), some (.inr 330), some (.inl i)] [] SH M Q := by
  obtain ⟨hv, Ls, Lk, hI⟩ := hI
  have hnb := hI.1.1
  have hjv := hI.1.2.1
  have hlq := hI.1.2.2
  have hpr := hI.2.1.1
  have hhs := hI.2.1.2
  have hlo := hI.2.2.1
  have qta := hI.2.2.2.1.1
  have qtn := hI.2.2.2.1.2.1
  have qt4 := hI.2.2.2.1.2.2.1
  have qtp := hI.2.2.2.1.2.2.2
  obtain ⟨a1, qa1⟩ : ∃ z, z = (ax_xs E (i + 1).toNat).toInt := ⟨_, rfl⟩
  have ca1 : -2147483648 ≤ a1 ∧ a1 < 2147483648 := by rw [qa1]; exact ax_can_toInt _
  obtain ⟨a2, qa2⟩ : ∃ z, z = (ax_xs E (i + 2).toNat).toInt := ⟨_, rfl⟩
  have ca2 : -2147483648 ≤ a2 ∧ a2 < 2147483648 := by rw [qa2]; exact ax_can_toInt _
  obtain ⟨a3, qa3⟩ : ∃ z, z = (ax_xs E (i + 3).toNat).toInt := ⟨_, rfl⟩
  have ca3 : -2147483648 ≤ a3 ∧ a3 < 2147483648 := by rw [qa3]; exact ax_can_toInt _
  obtain ⟨a4, qa4⟩ : ∃ z, z = (ax_xs E (i + 4).toNat).toInt := ⟨_, rfl⟩
  have ca4 : -2147483648 ≤ a4 ∧ a4 < 2147483648 := by rw [qa4]; exact ax_can_toInt _
  obtain ⟨a5, qa5⟩ : ∃ z, z = (ax_xs E (i + 5).toNat).toInt := ⟨_, rfl⟩
  have ca5 : -2147483648 ≤ a5 ∧ a5 < 2147483648 := by rw [qa5]; exact ax_can_toInt _
  refine ax_aload_n dL_law_935 rfl rfl (pc' := 936) rfl ?_
  refine ax_aload_n dL_law_936 rfl rfl (pc' := 937) rfl ?_
  refine ax_iload_n dL_law_937 rfl rfl (pc' := 938) rfl ?_
  refine ax_iconst dL_law_938 (by decide) (pc' := 939) rfl ?_
  refine ax_iadd dL_law_939 (by omega) (pc' := 940) rfl ?_
  refine ax_sald (v := a1) dL_law_940 (by omega) (by omega) qa1.symm (pc' := 941) rfl ?_
  refine ax_aload_n dL_law_941 rfl rfl (pc' := 942) rfl ?_
  refine ax_iload_n dL_law_942 rfl rfl (pc' := 943) rfl ?_
  refine ax_iconst dL_law_943 (by decide) (pc' := 944) rfl ?_
  refine ax_iadd dL_law_944 (by omega) (pc' := 945) rfl ?_
  refine ax_sald (v := a2) dL_law_945 (by omega) (by omega) qa2.symm (pc' := 946) rfl ?_
  refine ax_invG [.inl a1, .inl a2] [] dL_law_946 mlL_106 sh_0 rfl rfl rfl (Nat.le_of_ble_eq_true rfl) (s_X11_least E l _ (by omega) _ a1 a2 Ls (M 331) hnb hjv hlo.1) (pc' := 949) rfl (fun vv M_946 hq co946 hcm946 => ?_)
  obtain ⟨rfl, frM_946⟩ := hq
  refine ax_reS (st2 := [.inl (F_least Ls (M 331) a1 a2)]) rfl ?_
  have cc946 : -2147483648 ≤ F_least Ls (M 331) a1 a2 ∧ F_least Ls (M 331) a1 a2 < 2147483648 := co946 _ rfl
  refine ax_aload_n dL_law_949 rfl rfl (pc' := 950) rfl ?_
  refine ax_aload_n dL_law_950 rfl rfl (pc' := 951) rfl ?_
  refine ax_iload_n dL_law_951 rfl rfl (pc' := 952) rfl ?_
  refine ax_iconst dL_law_952 (by decide) (pc' := 953) rfl ?_
  refine ax_iadd dL_law_953 (by omega) (pc' := 954) rfl ?_
  refine ax_sald (v := a1) dL_law_954 (by omega) (by omega) qa1.symm (pc' := 955) rfl ?_
  refine ax_aload_n dL_law_955 rfl rfl (pc' := 956) rfl ?_
  refine ax_iload_n dL_law_956 rfl rfl (pc' := 957) rfl ?_
  refine ax_iconst dL_law_957 (by decide) (pc' := 958) rfl ?_
  refine ax_iadd dL_law_958 (by omega) (pc' := 959) rfl ?_
  refine ax_sald (v := a2) dL_law_959 (by omega) (by omega) qa2.symm (pc' := 960) rfl ?_
  refine ax_invG [.inl a1, .inl a2] [.inl (F_least Ls (M 331) a1 a2)] dL_law_960 mlL_109 sh_330 rfl rfl rfl (Nat.le_of_ble_eq_true rfl) (s_X12_least E l _ (by omega) _ a1 a2 Ls ((funext fun i0 => frM_946 331 i0 (fun h => h.elim (fun h => absurd h.2 (by decide)) (fun h => h.elim (fun h => absurd h (by decide)) (fun h => h.elim (fun h => absurd h (by decide)) (fun h => h.elim (fun h => absurd h (by decide)) (fun h => h.elim (fun h => absurd h (by decide)) (fun h => h.elim (fun h => absurd h.1 (by decide)) (fun h => absurd h.1 (by decide))))))))).trans rfl) ((funext fun i0 => frM_946 340 i0 (fun h => h.elim (fun h => absurd h.2 (by decide)) (fun h => h.elim (fun h => absurd h (by decide)) (fun h => h.elim (fun h => absurd h (by decide)) (fun h => h.elim (fun h => absurd h (by decide)) (fun h => h.elim (fun h => absurd h (by decide)) (fun h => h.elim (fun h => absurd h.1 (by decide)) (fun h => absurd h.1 (by decide))))))))).trans rfl) ((funext fun i0 => frM_946 341 i0 (fun h => h.elim (fun h => absurd h.2 (by decide)) (fun h => h.elim (fun h => absurd h (by decide)) (fun h => h.elim (fun h => absurd h (by decide)) (fun h => h.elim (fun h => absurd h (by decide)) (fun h => h.elim (fun h => absurd h (by decide)) (fun h => h.elim (fun h => absurd h.1 (by decide)) (fun h => absurd h.1 (by decide))))))))).trans rfl) ((funext fun i0 => frM_946 342 i0 (fun h => h.elim (fun h => absurd h.2 (by decide)) (fun h => h.elim (fun h => absurd h (by decide)) (fun h => h.elim (fun h => absurd h (by decide)) (fun h => h.elim (fun h => absurd h (by decide)) (fun h => h.elim (fun h => absurd h (by decide)) (fun h => h.elim (fun h => absurd h.1 (by decide)) (fun h => absurd h.1 (by decide))))))))).trans rfl) ((funext fun i0 => frM_946 343 i0 (fun h => h.elim (fun h => absurd h.2 (by decide)) (fun h => h.elim (fun h => absurd h (by decide)) (fun h => h.elim (fun h => absurd h (by decide)) (fun h => h.elim (fun h => absurd h (by decide)) (fun h => h.elim (fun h => absurd h (by decide)) (fun h => h.elim (fun h => absurd h.1 (by decide)) (fun h => absurd h.1 (by decide))))))))).trans rfl) ((funext fun i0 => frM_946 334 i0 (fun h => h.elim (fun h => absurd h.2 (by decide)) (fun h => h.elim (fun h => absurd h (by decide)) (fun h => h.elim (fun h => absurd h (by decide)) (fun h => h.elim (fun h => absurd h (by decide)) (fun h => h.elim (fun h => absurd h (by decide)) (fun h => h.elim (fun h => absurd h.1 (by decide)) (fun h => absurd h.1 (by decide))))))))).trans rfl) hjv.1 hjv.2.2) (pc' := 963) rfl (fun vv M_960 hq co960 hcm960 => ?_)
  obtain ⟨rfl, frM_960, mrM_960_0⟩ := hq
  refine ax_reS (st2 := [.inl (F_least Ls (M 331) a1 a2), .inl (F_least Ls (M 331) a1 a2)]) rfl ?_
  have cc960 : -2147483648 ≤ F_least Ls (M 331) a1 a2 ∧ F_least Ls (M 331) a1 a2 < 2147483648 := co960 _ rfl
  refine ax_icmp_eq (tgt := 1416) dL_law_963 (by decide) (pc' := 966) rfl (fun h963 => ?_) (fun h963 => ?_)
  · exact kk _ (f_INV_mk (f_IV_fr hI (fun x0 i0 hai => by unfold f_rc at hai; exact ((frM_960 x0 i0 (by omega)).trans ((frM_946 x0 i0 (by omega)).trans rfl)))) mrM_960_0 ((funext fun i0 => frM_960 332 i0 (fun h => h.elim (fun h => absurd h (by decide)) (fun h => h.elim (fun h => absurd h (by decide)) (fun h => h.elim (fun h => absurd h (by decide)) (fun h => h.elim (fun h => absurd h (by decide)) (fun h => h.elim (fun h => absurd h (by decide)) (fun h => h.elim (fun h => absurd h (by decide)) (fun h => h.elim (fun h => absurd h.1 (by decide)) (fun h => h.elim (fun h => absurd h.1 (by decide)) (fun h => h.elim (fun h => absurd h.1 (by decide)) (fun h => absurd h.1 (by decide)))))))))))).trans ((funext fun i0 => frM_946 332 i0 (fun h => h.elim (fun h => absurd h.2 (by decide)) (fun h => h.elim (fun h => absurd h (by decide)) (fun h => h.elim (fun h => absurd h (by decide)) (fun h => h.elim (fun h => absurd h (by decide)) (fun h => h.elim (fun h => absurd h (by decide)) (fun h => h.elim (fun h => absurd h.1 (by decide)) (fun h => absurd h.1 (by decide))))))))).trans rfl)) ((funext fun i0 => frM_960 333 i0 (fun h => h.elim (fun h => absurd h (by decide)) (fun h => h.elim (fun h => absurd h (by decide)) (fun h => h.elim (fun h => absurd h (by decide)) (fun h => h.elim (fun h => absurd h (by decide)) (fun h => h.elim (fun h => absurd h (by decide)) (fun h => h.elim (fun h => absurd h (by decide)) (fun h => h.elim (fun h => absurd h.1 (by decide)) (fun h => h.elim (fun h => absurd h.1 (by decide)) (fun h => h.elim (fun h => absurd h.1 (by decide)) (fun h => absurd h.1 (by decide)))))))))))).trans ((funext fun i0 => frM_946 333 i0 (fun h => h.elim (fun h => absurd h.2 (by decide)) (fun h => h.elim (fun h => absurd h (by decide)) (fun h => h.elim (fun h => absurd h (by decide)) (fun h => h.elim (fun h => absurd h (by decide)) (fun h => h.elim (fun h => absurd h (by decide)) (fun h => h.elim (fun h => absurd h.1 (by decide)) (fun h => absurd h.1 (by decide))))))))).trans rfl)) ((funext fun i0 => frM_960 339 i0 (fun h => h.elim (fun h => absurd h (by decide)) (fun h => h.elim (fun h => absurd h (by decide)) (fun h => h.elim (fun h => absurd h (by decide)) (fun h => h.elim (fun h => absurd h (by decide)) (fun h => h.elim (fun h => absurd h (by decide)) (fun h => h.elim (fun h => absurd h (by decide)) (fun h => h.elim (fun h => absurd h.1 (by decide)) (fun h => h.elim (fun h => absurd h.1 (by decide)) (fun h => h.elim (fun h => absurd h.1 (by decide)) (fun h => absurd h.1 (by decide)))))))))))).trans ((funext fun i0 => frM_946 339 i0 (fun h => h.elim (fun h => absurd h.2 (by decide)) (fun h => h.elim (fun h => absurd h (by decide)) (fun h => h.elim (fun h => absurd h (by decide)) (fun h => h.elim (fun h => absurd h (by decide)) (fun h => h.elim (fun h => absurd h (by decide)) (fun h => h.elim (fun h => absurd h.1 (by decide)) (fun h => absurd h.1 (by decide))))))))).trans rfl)) ((frM_960 330 4 (fun h => h.elim (fun h => absurd h (by decide)) (fun h => h.elim (fun h => absurd h (by decide)) (fun h => h.elim (fun h => absurd h (by decide)) (fun h => h.elim (fun h => absurd h (by decide)) (fun h => h.elim (fun h => absurd h (by decide)) (fun h => h.elim (fun h => absurd h (by decide)) (fun h => h.elim (fun h => absurd h.2 (by decide)) (fun h => h.elim (fun h => absurd h.2 (by decide)) (fun h => h.elim (fun h => absurd h.2 (by decide)) (fun h => absurd h.2 (by decide)))))))))))).trans ((frM_946 330 4 (fun h => h.elim (fun h => absurd h.2 (by decide)) (fun h => h.elim (fun h => absurd h (by decide)) (fun h => h.elim (fun h => absurd h (by decide)) (fun h => h.elim (fun h => absurd h (by decide)) (fun h => h.elim (fun h => absurd h (by decide)) (fun h => h.elim (fun h => absurd h.1 (by decide)) (fun h => absurd h.1 (by decide))))))))).trans rfl)) ((frM_960 330 5 (fun h => h.elim (fun h => absurd h (by decide)) (fun h => h.elim (fun h => absurd h (by decide)) (fun h => h.elim (fun h => absurd h (by decide)) (fun h => h.elim (fun h => absurd h (by decide)) (fun h => h.elim (fun h => absurd h (by decide)) (fun h => h.elim (fun h => absurd h (by decide)) (fun h => h.elim (fun h => absurd h.2 (by decide)) (fun h => h.elim (fun h => absurd h.2 (by decide)) (fun h => h.elim (fun h => absurd h.2 (by decide)) (fun h => absurd h.2 (by decide)))))))))))).trans ((frM_946 330 5 (fun h => h.elim (fun h => absurd h.2 (by decide)) (fun h => h.elim (fun h => absurd h (by decide)) (fun h => h.elim (fun h => absurd h (by decide)) (fun h => h.elim (fun h => absurd h (by decide)) (fun h => h.elim (fun h => absurd h (by decide)) (fun h => h.elim (fun h => absurd h.1 (by decide)) (fun h => absurd h.1 (by decide))))))))).trans rfl)) ((frM_960 330 17 (fun h => h.elim (fun h => absurd h (by decide)) (fun h => h.elim (fun h => absurd h (by decide)) (fun h => h.elim (fun h => absurd h (by decide)) (fun h => h.elim (fun h => absurd h (by decide)) (fun h => h.elim (fun h => absurd h (by decide)) (fun h => h.elim (fun h => absurd h (by decide)) (fun h => h.elim (fun h => absurd h.2 (by decide)) (fun h => h.elim (fun h => absurd h.2 (by decide)) (fun h => h.elim (fun h => absurd h.2 (by decide)) (fun h => absurd h.2 (by decide)))))))))))).trans ((frM_946 330 17 (fun h => h.elim (fun h => absurd h.2 (by decide)) (fun h => h.elim (fun h => absurd h (by decide)) (fun h => h.elim (fun h => absurd h (by decide)) (fun h => h.elim (fun h => absurd h (by decide)) (fun h => h.elim (fun h => absurd h (by decide)) (fun h => h.elim (fun h => absurd h.1 (by decide)) (fun h => absurd h.1 (by decide))))))))).trans rfl)) ((frM_960 330 24 (fun h => h.elim (fun h => absurd h (by decide)) (fun h => h.elim (fun h => absurd h (by decide)) (fun h => h.elim (fun h => absurd h (by decide)) (fun h => h.elim (fun h => absurd h (by decide)) (fun h => h.elim (fun h => absurd h (by decide)) (fun h => h.elim (fun h => absurd h (by decide)) (fun h => h.elim (fun h => absurd h.2 (by decide)) (fun h => h.elim (fun h => absurd h.2 (by decide)) (fun h => h.elim (fun h => absurd h.2 (by decide)) (fun h => absurd h.2 (by decide)))))))))))).trans ((frM_946 330 24 (fun h => h.elim (fun h => absurd h.2 (by decide)) (fun h => h.elim (fun h => absurd h (by decide)) (fun h => h.elim (fun h => absurd h (by decide)) (fun h => h.elim (fun h => absurd h (by decide)) (fun h => h.elim (fun h => absurd h (by decide)) (fun h => h.elim (fun h => absurd h.1 (by decide)) (fun h => absurd h.1 (by decide))))))))).trans rfl)) ((frM_960 330 26 (fun h => h.elim (fun h => absurd h (by decide)) (fun h => h.elim (fun h => absurd h (by decide)) (fun h => h.elim (fun h => absurd h (by decide)) (fun h => h.elim (fun h => absurd h (by decide)) (fun h => h.elim (fun h => absurd h (by decide)) (fun h => h.elim (fun h => absurd h (by decide)) (fun h => h.elim (fun h => absurd h.2 (by decide)) (fun h => h.elim (fun h => absurd h.2 (by decide)) (fun h => h.elim (fun h => absurd h.2 (by decide)) (fun h => absurd h.2 (by decide)))))))))))).trans ((frM_946 330 26 (fun h => h.elim (fun h => absurd h.2 (by decide)) (fun h => h.elim (fun h => absurd h (by decide)) (fun h => h.elim (fun h => absurd h (by decide)) (fun h => h.elim (fun h => absurd h (by decide)) (fun h => h.elim (fun h => absurd h (by decide)) (fun h => h.elim (fun h => absurd h.1 (by decide)) (fun h => absurd h.1 (by decide))))))))).trans rfl)) ((frM_960 330 21 (fun h => h.elim (fun h => absurd h (by decide)) (fun h => h.elim (fun h => absurd h (by decide)) (fun h => h.elim (fun h => absurd h (by decide)) (fun h => h.elim (fun h => absurd h (by decide)) (fun h => h.elim (fun h => absurd h (by decide)) (fun h => h.elim (fun h => absurd h (by decide)) (fun h => h.elim (fun h => absurd h.2 (by decide)) (fun h => h.elim (fun h => absurd h.2 (by decide)) (fun h => h.elim (fun h => absurd h.2 (by decide)) (fun h => absurd h.2 (by decide)))))))))))).trans ((frM_946 330 21 (fun h => h.elim (fun h => absurd h.2 (by decide)) (fun h => h.elim (fun h => absurd h (by decide)) (fun h => h.elim (fun h => absurd h (by decide)) (fun h => h.elim (fun h => absurd h (by decide)) (fun h => h.elim (fun h => absurd h (by decide)) (fun h => h.elim (fun h => absurd h.1 (by decide)) (fun h => absurd h.1 (by decide))))))))).trans rfl)) hv)
  · exfalso
    exact h963 rfl
set_option maxRecDepth 20000 in
theorem lc_22 (E : ax_Env) (l : Launch) (d : Nat) (hd : 60 ≤ d) (M : ax_Mem) (Q : ax_Post) (i : Int) (hx : ax_xl E ≤ 3072) (hi : 0 ≤ i ∧ i + 6 ≤ (ax_xl E : Int)) (hI : f_INV M) (kk : ∀ M2, f_INV M2 → ax_W E l (d + 1) 0 0 iL_law 1416 [some (.inr (-2)), some (.inr 0), some (.inr 330), some (.inl i)] [] SH M2 Q) : ax_W E l (d + 1) 0 0 iL_law 968 [some (.inr (-2)), some (.inr 0), some (.inr 330), some (.inl i)] [] SH M Q := by
  obtain ⟨hv, Ls, Lk, hI⟩ := hI
  have hnb := hI.1.1
  have hjv := hI.1.2.1
  have hlq := hI.1.2.2
  have hpr := hI.2.1.1
  have hhs := hI.2.1.2
  have hlo := hI.2.2.1
  have qta := hI.2.2.2.1.1
  have qtn := hI.2.2.2.1.2.1
  have qt4 := hI.2.2.2.1.2.2.1
  have qtp := hI.2.2.2.1.2.2.2
  obtain ⟨a1, qa1⟩ : ∃ z, z = (ax_xs E (i + 1).toNat).toInt := ⟨_, rfl⟩
  have ca1 : -2147483648 ≤ a1 ∧ a1 < 2147483648 := by rw [qa1]; exact ax_can_toInt _
  obtain ⟨a2, qa2⟩ : ∃ z, z = (ax_xs E (i + 2).toNat).toInt := ⟨_, rfl⟩
  have ca2 : -2147483648 ≤ a2 ∧ a2 < 2147483648 := by rw [qa2]; exact ax_can_toInt _
  obtain ⟨a3, qa3⟩ : ∃ z, z = (ax_xs E (i + 3).toNat).toInt := ⟨_, rfl⟩
  have ca3 : -2147483648 ≤ a3 ∧ a3 < 2147483648 := by rw [qa3]; exact ax_can_toInt _
  obtain ⟨a4, qa4⟩ : ∃ z, z = (ax_xs E (i + 4).toNat).toInt := ⟨_, rfl⟩
  have ca4 : -2147483648 ≤ a4 ∧ a4 < 2147483648 := by rw [qa4]; exact ax_can_toInt _
  obtain ⟨a5, qa5⟩ : ∃ z, z = (ax_xs E (i + 5).toNat).toInt := ⟨_, rfl⟩
  have ca5 : -2147483648 ≤ a5 ∧ a5 < 2147483648 := by rw [qa5]; exact ax_can_toInt _
  refine ax_aload_n dL_law_968 rfl rfl (pc' := 969) rfl ?_
  refine ax_aload_n dL_law_969 rfl rfl (pc' := 970) rfl ?_
  refine ax_iload_n dL_law_970 rfl rfl (pc' := 971) rfl ?_
  refine ax_iconst dL_law_971 (by decide) (pc' := 972) rfl ?_
  refine ax_iadd dL_law_972 (by omega) (pc' := 973) rfl ?_
  refine ax_sald (v := a1) dL_law_973 (by omega) (by omega) qa1.symm (pc' := 974) rfl ?_
  refine ax_aload_n dL_law_974 rfl rfl (pc' := 975) rfl ?_
  refine ax_iload_n dL_law_975 rfl rfl (pc' := 976) rfl ?_
  refine ax_iconst dL_law_976 (by decide) (pc' := 977) rfl ?_
  refine ax_iadd dL_law_977 (by omega) (pc' := 978) rfl ?_
  refine ax_sald (v := a2) dL_law_978 (by omega) (by omega) qa2.symm (pc' := 979) rfl ?_
  refine ax_aload_n dL_law_979 rfl rfl (pc' := 980) rfl ?_
  refine ax_iload_n dL_law_980 rfl rfl (pc' := 981) rfl ?_
  refine ax_iconst dL_law_981 (by decide) (pc' := 982) rfl ?_
  refine ax_iadd dL_law_982 (by omega) (pc' := 983) rfl ?_
  refine ax_sald (v := a3) dL_law_983 (by omega) (by omega) qa3.symm (pc' := 984) rfl ?_
  refine ax_aload_n dL_law_984 rfl rfl (pc' := 985) rfl ?_
  refine ax_iload_n dL_law_985 rfl rfl (pc' := 986) rfl ?_
  refine ax_iconst dL_law_986 (by decide) (pc' := 987) rfl ?_
  refine ax_iadd dL_law_987 (by omega) (pc' := 988) rfl ?_
  refine ax_sald (v := a4) dL_law_988 (by omega) (by omega) qa4.symm (pc' := 989) rfl ?_
  refine ax_invG [.inl a1, .inl a2, .inl a3, .inl a4] [] dL_law_989 mlL_110 sh_0 rfl rfl rfl (Nat.le_of_ble_eq_true rfl) (s_X11_train E l _ (by omega) _ a1 a2 a3 a4 Ls (M 331) hnb hjv hlo.1) (pc' := 992) rfl (fun vv M_989 hq co989 hcm989 => ?_)
  obtain ⟨rfl, frM_989⟩ := hq
  refine ax_reS (st2 := [.inl (F_train Ls (M 331) a1 a2 a3 a4)]) rfl ?_
  have cc989 : -2147483648 ≤ F_train Ls (M 331) a1 a2 a3 a4 ∧ F_train Ls (M 331) a1 a2 a3 a4 < 2147483648 := co989 _ rfl
  refine ax_aload_n dL_law_992 rfl rfl (pc' := 993) rfl ?_
  refine ax_aload_n dL_law_993 rfl rfl (pc' := 994) rfl ?_
  refine ax_iload_n dL_law_994 rfl rfl (pc' := 995) rfl ?_
  refine ax_iconst dL_law_995 (by decide) (pc' := 996) rfl ?_
  refine ax_iadd dL_law_996 (by omega) (pc' := 997) rfl ?_
  refine ax_sald (v := a1) dL_law_997 (by omega) (by omega) qa1.symm (pc' := 998) rfl ?_
  refine ax_aload_n dL_law_998 rfl rfl (pc' := 999) rfl ?_
  refine ax_iload_n dL_law_999 rfl rfl (pc' := 1000) rfl ?_
  refine ax_iconst dL_law_1000 (by decide) (pc' := 1001) rfl ?_
  refine ax_iadd dL_law_1001 (by omega) (pc' := 1002) rfl ?_
  refine ax_sald (v := a2) dL_law_1002 (by omega) (by omega) qa2.symm (pc' := 1003) rfl ?_
  refine ax_aload_n dL_law_1003 rfl rfl (pc' := 1004) rfl ?_
  refine ax_iload_n dL_law_1004 rfl rfl (pc' := 1005) rfl ?_
  refine ax_iconst dL_law_1005 (by decide) (pc' := 1006) rfl ?_
  refine ax_iadd dL_law_1006 (by omega) (pc' := 1007) rfl ?_
  refine ax_sald (v := a3) dL_law_1007 (by omega) (by omega) qa3.symm (pc' := 1008) rfl ?_
  refine ax_aload_n dL_law_1008 rfl rfl (pc' := 1009) rfl ?_
  refine ax_iload_n dL_law_1009 rfl rfl (pc' := 1010) rfl ?_
  refine ax_iconst dL_law_1010 (by decide) (pc' := 1011) rfl ?_
  refine ax_iadd dL_law_1011 (by omega) (pc' := 1012) rfl ?_
  refine ax_sald (v := a4) dL_law_1012 (by omega) (by omega) qa4.symm (pc' := 1013) rfl ?_
  refine ax_invG [.inl a1, .inl a2, .inl a3, .inl a4] [.inl (F_train Ls (M 331) a1 a2 a3 a4)] dL_law_1013 mlL_113 sh_330 rfl rfl rfl (Nat.le_of_ble_eq_true rfl) (s_X12_train E l _ (by omega) _ a1 a2 a3 a4 Ls ((funext fun i0 => frM_989 331 i0 (fun h => h.elim (fun h => absurd h.2 (by decide)) (fun h => h.elim (fun h => absurd h (by decide)) (fun h => h.elim (fun h => absurd h (by decide)) (fun h => h.elim (fun h => absurd h (by decide)) (fun h => h.elim (fun h => absurd h (by decide)) (fun h => h.elim (fun h => absurd h.1 (by decide)) (fun h => absurd h.1 (by decide))))))))).trans rfl) ((funext fun i0 => frM_989 340 i0 (fun h => h.elim (fun h => absurd h.2 (by decide)) (fun h => h.elim (fun h => absurd h (by decide)) (fun h => h.elim (fun h => absurd h (by decide)) (fun h => h.elim (fun h => absurd h (by decide)) (fun h => h.elim (fun h => absurd h (by decide)) (fun h => h.elim (fun h => absurd h.1 (by decide)) (fun h => absurd h.1 (by decide))))))))).trans rfl) ((funext fun i0 => frM_989 341 i0 (fun h => h.elim (fun h => absurd h.2 (by decide)) (fun h => h.elim (fun h => absurd h (by decide)) (fun h => h.elim (fun h => absurd h (by decide)) (fun h => h.elim (fun h => absurd h (by decide)) (fun h => h.elim (fun h => absurd h (by decide)) (fun h => h.elim (fun h => absurd h.1 (by decide)) (fun h => absurd h.1 (by decide))))))))).trans rfl) ((funext fun i0 => frM_989 342 i0 (fun h => h.elim (fun h => absurd h.2 (by decide)) (fun h => h.elim (fun h => absurd h (by decide)) (fun h => h.elim (fun h => absurd h (by decide)) (fun h => h.elim (fun h => absurd h (by decide)) (fun h => h.elim (fun h => absurd h (by decide)) (fun h => h.elim (fun h => absurd h.1 (by decide)) (fun h => absurd h.1 (by decide))))))))).trans rfl) ((funext fun i0 => frM_989 343 i0 (fun h => h.elim (fun h => absurd h.2 (by decide)) (fun h => h.elim (fun h => absurd h (by decide)) (fun h => h.elim (fun h => absurd h (by decide)) (fun h => h.elim (fun h => absurd h (by decide)) (fun h => h.elim (fun h => absurd h (by decide)) (fun h => h.elim (fun h => absurd h.1 (by decide)) (fun h => absurd h.1 (by decide))))))))).trans rfl) ((funext fun i0 => frM_989 334 i0 (fun h => h.elim (fun h => absurd h.2 (by decide)) (fun h => h.elim (fun h => absurd h (by decide)) (fun h => h.elim (fun h => absurd h (by decide)) (fun h => h.elim (fun h => absurd h (by decide)) (fun h => h.elim (fun h => absurd h (by decide)) (fun h => h.elim (fun h => absurd h.1 (by decide)) (fun h => absurd h.1 (by decide))))))))).trans rfl) hjv.1 hjv.2.2) (pc' := 1016) rfl (fun vv M_1013 hq co1013 hcm1013 => ?_)
  obtain ⟨rfl, frM_1013, mrM_1013_0⟩ := hq
  refine ax_reS (st2 := [.inl (F_train Ls (M 331) a1 a2 a3 a4), .inl (F_train Ls (M 331) a1 a2 a3 a4)]) rfl ?_
  have cc1013 : -2147483648 ≤ F_train Ls (M 331) a1 a2 a3 a4 ∧ F_train Ls (M 331) a1 a2 a3 a4 < 2147483648 := co1013 _ rfl
  refine ax_icmp_eq (tgt := 1416) dL_law_1016 (by decide) (pc' := 1019) rfl (fun h1016 => ?_) (fun h1016 => ?_)
  · exact kk _ (f_INV_mk (f_IV_fr hI (fun x0 i0 hai => by unfold f_rc at hai; exact ((frM_1013 x0 i0 (by omega)).trans ((frM_989 x0 i0 (by omega)).trans rfl)))) mrM_1013_0 ((funext fun i0 => frM_1013 332 i0 (fun h => h.elim (fun h => absurd h (by decide)) (fun h => h.elim (fun h => absurd h (by decide)) (fun h => h.elim (fun h => absurd h (by decide)) (fun h => h.elim (fun h => absurd h (by decide)) (fun h => h.elim (fun h => absurd h (by decide)) (fun h => h.elim (fun h => absurd h (by decide)) (fun h => h.elim (fun h => absurd h.1 (by decide)) (fun h => h.elim (fun h => absurd h.1 (by decide)) (fun h => h.elim (fun h => absurd h.1 (by decide)) (fun h => absurd h.1 (by decide)))))))))))).trans ((funext fun i0 => frM_989 332 i0 (fun h => h.elim (fun h => absurd h.2 (by decide)) (fun h => h.elim (fun h => absurd h (by decide)) (fun h => h.elim (fun h => absurd h (by decide)) (fun h => h.elim (fun h => absurd h (by decide)) (fun h => h.elim (fun h => absurd h (by decide)) (fun h => h.elim (fun h => absurd h.1 (by decide)) (fun h => absurd h.1 (by decide))))))))).trans rfl)) ((funext fun i0 => frM_1013 333 i0 (fun h => h.elim (fun h => absurd h (by decide)) (fun h => h.elim (fun h => absurd h (by decide)) (fun h => h.elim (fun h => absurd h (by decide)) (fun h => h.elim (fun h => absurd h (by decide)) (fun h => h.elim (fun h => absurd h (by decide)) (fun h => h.elim (fun h => absurd h (by decide)) (fun h => h.elim (fun h => absurd h.1 (by decide)) (fun h => h.elim (fun h => absurd h.1 (by decide)) (fun h => h.elim (fun h => absurd h.1 (by decide)) (fun h => absurd h.1 (by decide)))))))))))).trans ((funext fun i0 => frM_989 333 i0 (fun h => h.elim (fun h => absurd h.2 (by decide)) (fun h => h.elim (fun h => absurd h (by decide)) (fun h => h.elim (fun h => absurd h (by decide)) (fun h => h.elim (fun h => absurd h (by decide)) (fun h => h.elim (fun h => absurd h (by decide)) (fun h => h.elim (fun h => absurd h.1 (by decide)) (fun h => absurd h.1 (by decide))))))))).trans rfl)) ((funext fun i0 => frM_1013 339 i0 (fun h => h.elim (fun h => absurd h (by decide)) (fun h => h.elim (fun h => absurd h (by decide)) (fun h => h.elim (fun h => absurd h (by decide)) (fun h => h.elim (fun h => absurd h (by decide)) (fun h => h.elim (fun h => absurd h (by decide)) (fun h => h.elim (fun h => absurd h (by decide)) (fun h => h.elim (fun h => absurd h.1 (by decide)) (fun h => h.elim (fun h => absurd h.1 (by decide)) (fun h => h.elim (fun h => absurd h.1 (by decide)) (fun h => absurd h.1 (by decide)))))))))))).trans ((funext fun i0 => frM_989 339 i0 (fun h => h.elim (fun h => absurd h.2 (by decide)) (fun h => h.elim (fun h => absurd h (by decide)) (fun h => h.elim (fun h => absurd h (by decide)) (fun h => h.elim (fun h => absurd h (by decide)) (fun h => h.elim (fun h => absurd h (by decide)) (fun h => h.elim (fun h => absurd h.1 (by decide)) (fun h => absurd h.1 (by decide))))))))).trans rfl)) ((frM_1013 330 4 (fun h => h.elim (fun h => absurd h (by decide)) (fun h => h.elim (fun h => absurd h (by decide)) (fun h => h.elim (fun h => absurd h (by decide)) (fun h => h.elim (fun h => absurd h (by decide)) (fun h => h.elim (fun h => absurd h (by decide)) (fun h => h.elim (fun h => absurd h (by decide)) (fun h => h.elim (fun h => absurd h.2 (by decide)) (fun h => h.elim (fun h => absurd h.2 (by decide)) (fun h => h.elim (fun h => absurd h.2 (by decide)) (fun h => absurd h.2 (by decide)))))))))))).trans ((frM_989 330 4 (fun h => h.elim (fun h => absurd h.2 (by decide)) (fun h => h.elim (fun h => absurd h (by decide)) (fun h => h.elim (fun h => absurd h (by decide)) (fun h => h.elim (fun h => absurd h (by decide)) (fun h => h.elim (fun h => absurd h (by decide)) (fun h => h.elim (fun h => absurd h.1 (by decide)) (fun h => absurd h.1 (by decide))))))))).trans rfl)) ((frM_1013 330 5 (fun h => h.elim (fun h => absurd h (by decide)) (fun h => h.elim (fun h => absurd h (by decide)) (fun h => h.elim (fun h => absurd h (by decide)) (fun h => h.elim (fun h => absurd h (by decide)) (fun h => h.elim (fun h => absurd h (by decide)) (fun h => h.elim (fun h => absurd h (by decide)) (fun h => h.elim (fun h => absurd h.2 (by decide)) (fun h => h.elim (fun h => absurd h.2 (by decide)) (fun h => h.elim (fun h => absurd h.2 (by decide)) (fun h => absurd h.2 (by decide)))))))))))).trans ((frM_989 330 5 (fun h => h.elim (fun h => absurd h.2 (by decide)) (fun h => h.elim (fun h => absurd h (by decide)) (fun h => h.elim (fun h => absurd h (by decide)) (fun h => h.elim (fun h => absurd h (by decide)) (fun h => h.elim (fun h => absurd h (by decide)) (fun h => h.elim (fun h => absurd h.1 (by decide)) (fun h => absurd h.1 (by decide))))))))).trans rfl)) ((frM_1013 330 17 (fun h => h.elim (fun h => absurd h (by decide)) (fun h => h.elim (fun h => absurd h (by decide)) (fun h => h.elim (fun h => absurd h (by decide)) (fun h => h.elim (fun h => absurd h (by decide)) (fun h => h.elim (fun h => absurd h (by decide)) (fun h => h.elim (fun h => absurd h (by decide)) (fun h => h.elim (fun h => absurd h.2 (by decide)) (fun h => h.elim (fun h => absurd h.2 (by decide)) (fun h => h.elim (fun h => absurd h.2 (by decide)) (fun h => absurd h.2 (by decide)))))))))))).trans ((frM_989 330 17 (fun h => h.elim (fun h => absurd h.2 (by decide)) (fun h => h.elim (fun h => absurd h (by decide)) (fun h => h.elim (fun h => absurd h (by decide)) (fun h => h.elim (fun h => absurd h (by decide)) (fun h => h.elim (fun h => absurd h (by decide)) (fun h => h.elim (fun h => absurd h.1 (by decide)) (fun h => absurd h.1 (by decide))))))))).trans rfl)) ((frM_1013 330 24 (fun h => h.elim (fun h => absurd h (by decide)) (fun h => h.elim (fun h => absurd h (by decide)) (fun h => h.elim (fun h => absurd h (by decide)) (fun h => h.elim (fun h => absurd h (by decide)) (fun h => h.elim (fun h => absurd h (by decide)) (fun h => h.elim (fun h => absurd h (by decide)) (fun h => h.elim (fun h => absurd h.2 (by decide)) (fun h => h.elim (fun h => absurd h.2 (by decide)) (fun h => h.elim (fun h => absurd h.2 (by decide)) (fun h => absurd h.2 (by decide)))))))))))).trans ((frM_989 330 24 (fun h => h.elim (fun h => absurd h.2 (by decide)) (fun h => h.elim (fun h => absurd h (by decide)) (fun h => h.elim (fun h => absurd h (by decide)) (fun h => h.elim (fun h => absurd h (by decide)) (fun h => h.elim (fun h => absurd h (by decide)) (fun h => h.elim (fun h => absurd h.1 (by decide)) (fun h => absurd h.1 (by decide))))))))).trans rfl)) ((frM_1013 330 26 (fun h => h.elim (fun h => absurd h (by decide)) (fun h => h.elim (fun h => absurd h (by decide)) (fun h => h.elim (fun h => absurd h (by decide)) (fun h => h.elim (fun h => absurd h (by decide)) (fun h => h.elim (fun h => absurd h (by decide)) (fun h => h.elim (fun h => absurd h (by decide)) (fun h => h.elim (fun h => absurd h.2 (by decide)) (fun h => h.elim (fun h => absurd h.2 (by decide)) (fun h => h.elim (fun h => absurd h.2 (by decide)) (fun h => absurd h.2 (by decide)))))))))))).trans ((frM_989 330 26 (fun h => h.elim (fun h => absurd h.2 (by decide)) (fun h => h.elim (fun h => absurd h (by decide)) (fun h => h.elim (fun h => absurd h (by decide)) (fun h => h.elim (fun h => absurd h (by decide)) (fun h => h.elim (fun h => absurd h (by decide)) (fun h => h.elim (fun h => absurd h.1 (by decide)) (fun h => absurd h.1 (by decide))))))))).trans rfl)) ((frM_1013 330 21 (fun h => h.elim (fun h => absurd h (by decide)) (fun h => h.elim (fun h => absurd h (by decide)) (fun h => h.elim (fun h => absurd h (by decide)) (fun h => h.elim (fun h => absurd h (by decide)) (fun h => h.elim (fun h => absurd h (by decide)) (fun h => h.elim (fun h => absurd h (by decide)) (fun h => h.elim (fun h => absurd h.2 (by decide)) (fun h => h.elim (fun h => absurd h.2 (by decide)) (fun h => h.elim (fun h => absurd h.2 (by decide)) (fun h => absurd h.2 (by decide)))))))))))).trans ((frM_989 330 21 (fun h => h.elim (fun h => absurd h.2 (by decide)) (fun h => h.elim (fun h => absurd h (by decide)) (fun h => h.elim (fun h => absurd h (by decide)) (fun h => h.elim (fun h => absurd h (by decide)) (fun h => h.elim (fun h => absurd h (by decide)) (fun h => h.elim (fun h => absurd h.1 (by decide)) (fun h => absurd h.1 (by decide))))))))).trans rfl)) hv)
  · exfalso
    exact h1016 rfl
set_option maxRecDepth 20000 in
theorem lc_19 (E : ax_Env) (l : Launch) (d : Nat) (hd : 60 ≤ d) (M : ax_Mem) (Q : ax_Post) (i : Int) (hx : ax_xl E ≤ 3072) (hi : 0 ≤ i ∧ i + 6 ≤ (ax_xl E : Int)) (hI : f_INV M) (kk : ∀ M2, f_INV M2 → ax_W E l (d + 1) 0 0 iL_law 1416 [some (.inr (-2)), some (.inr 0), some (.inr 330), some (.inl i)] [] SH M2 Q) : ax_W E l (d + 1) 0 0 iL_law 859 [some (.inr (-2)), some (.inr 0), some (.inr 330), some (.inl i)] [] SH M Q := by
  obtain ⟨hv, Ls, Lk, hI⟩ := hI
  have hnb := hI.1.1
  have hjv := hI.1.2.1
  have hlq := hI.1.2.2
  have hpr := hI.2.1.1
  have hhs := hI.2.1.2
  have hlo := hI.2.2.1
  have qta := hI.2.2.2.1.1
  have qtn := hI.2.2.2.1.2.1
  have qt4 := hI.2.2.2.1.2.2.1
  have qtp := hI.2.2.2.1.2.2.2
  obtain ⟨a1, qa1⟩ : ∃ z, z = (ax_xs E (i + 1).toNat).toInt := ⟨_, rfl⟩
  have ca1 : -2147483648 ≤ a1 ∧ a1 < 2147483648 := by rw [qa1]; exact ax_can_toInt _
  obtain ⟨a2, qa2⟩ : ∃ z, z = (ax_xs E (i + 2).toNat).toInt := ⟨_, rfl⟩
  have ca2 : -2147483648 ≤ a2 ∧ a2 < 2147483648 := by rw [qa2]; exact ax_can_toInt _
  obtain ⟨a3, qa3⟩ : ∃ z, z = (ax_xs E (i + 3).toNat).toInt := ⟨_, rfl⟩
  have ca3 : -2147483648 ≤ a3 ∧ a3 < 2147483648 := by rw [qa3]; exact ax_can_toInt _
  obtain ⟨a4, qa4⟩ : ∃ z, z = (ax_xs E (i + 4).toNat).toInt := ⟨_, rfl⟩
  have ca4 : -2147483648 ≤ a4 ∧ a4 < 2147483648 := by rw [qa4]; exact ax_can_toInt _
  obtain ⟨a5, qa5⟩ : ∃ z, z = (ax_xs E (i + 5).toNat).toInt := ⟨_, rfl⟩
  have ca5 : -2147483648 ≤ a5 ∧ a5 < 2147483648 := by rw [qa5]; exact ax_can_toInt _
  refine ax_aload_n dL_law_859 rfl rfl (pc' := 860) rfl ?_
  refine ax_aload_n dL_law_860 rfl rfl (pc' := 861) rfl ?_
  refine ax_iload_n dL_law_861 rfl rfl (pc' := 862) rfl ?_
  refine ax_iconst dL_law_862 (by decide) (pc' := 863) rfl ?_
  refine ax_iadd dL_law_863 (by omega) (pc' := 864) rfl ?_
  refine ax_sald (v := a1) dL_law_864 (by omega) (by omega) qa1.symm (pc' := 865) rfl ?_
  refine ax_aload_n dL_law_865 rfl rfl (pc' := 866) rfl ?_
  refine ax_iload_n dL_law_866 rfl rfl (pc' := 867) rfl ?_
  refine ax_iconst dL_law_867 (by decide) (pc' := 868) rfl ?_
  refine ax_iadd dL_law_868 (by omega) (pc' := 869) rfl ?_
  refine ax_sald (v := a2) dL_law_869 (by omega) (by omega) qa2.symm (pc' := 870) rfl ?_
  refine ax_invG [.inl a1, .inl a2] [] dL_law_870 mlL_98 sh_0 rfl rfl rfl (Nat.le_of_ble_eq_true rfl) (s_X11_book E l _ (by omega) _ a1 a2 Ls (M 331) hnb hjv hlo.1) (pc' := 873) rfl (fun vv M_870 hq co870 hcm870 => ?_)
  obtain ⟨rfl, rfl⟩ := hq
  refine ax_reS (st2 := [.inl (F_book (M 331) a1 a2)]) rfl ?_
  have cc870 : -2147483648 ≤ F_book (M 331) a1 a2 ∧ F_book (M 331) a1 a2 < 2147483648 := co870 _ rfl
  refine ax_aload_n dL_law_873 rfl rfl (pc' := 874) rfl ?_
  refine ax_aload_n dL_law_874 rfl rfl (pc' := 875) rfl ?_
  refine ax_iload_n dL_law_875 rfl rfl (pc' := 876) rfl ?_
  refine ax_iconst dL_law_876 (by decide) (pc' := 877) rfl ?_
  refine ax_iadd dL_law_877 (by omega) (pc' := 878) rfl ?_
  refine ax_sald (v := a1) dL_law_878 (by omega) (by omega) qa1.symm (pc' := 879) rfl ?_
  refine ax_aload_n dL_law_879 rfl rfl (pc' := 880) rfl ?_
  refine ax_iload_n dL_law_880 rfl rfl (pc' := 881) rfl ?_
  refine ax_iconst dL_law_881 (by decide) (pc' := 882) rfl ?_
  refine ax_iadd dL_law_882 (by omega) (pc' := 883) rfl ?_
  refine ax_sald (v := a2) dL_law_883 (by omega) (by omega) qa2.symm (pc' := 884) rfl ?_
  refine ax_invG [.inl a1, .inl a2] [.inl (F_book (M 331) a1 a2)] dL_law_884 mlL_101 sh_330 rfl rfl rfl (Nat.le_of_ble_eq_true rfl) (s_X12_book E l _ (by omega) _ a1 a2 rfl hjv.1.2.2.2.1) (pc' := 887) rfl (fun vv M_884 hq co884 hcm884 => ?_)
  obtain ⟨rfl, rfl⟩ := hq
  refine ax_reS (st2 := [.inl (F_book (M 331) a1 a2), .inl (F_book (M 331) a1 a2)]) rfl ?_
  have cc884 : -2147483648 ≤ F_book (M 331) a1 a2 ∧ F_book (M 331) a1 a2 < 2147483648 := co884 _ rfl
  refine ax_icmp_eq (tgt := 1416) dL_law_887 (by decide) (pc' := 890) rfl (fun h887 => ?_) (fun h887 => ?_)
  · exact kk _ ⟨hv, Ls, Lk, hI⟩
  · exfalso
    exact h887 rfl
set_option maxRecDepth 20000 in
theorem lc_32 (E : ax_Env) (l : Launch) (d : Nat) (hd : 60 ≤ d) (M : ax_Mem) (Q : ax_Post) (i : Int) (hx : ax_xl E ≤ 3072) (hi : 0 ≤ i ∧ i + 6 ≤ (ax_xl E : Int)) (hI : f_INV M) (kk : ∀ M2, f_INV M2 → ax_W E l (d + 1) 0 0 iL_law 1416 [some (.inr (-2)), some (.inr 0), some (.inr 330), some (.inl i)] [] SH M2 Q) : ax_W E l (d + 1) 0 0 iL_law 1298 [some (.inr (-2)), some (.inr 0), some (.inr 330), some (.inl i)] [] SH M Q := by
  obtain ⟨hv, Ls, Lk, hI⟩ := hI
  have hnb := hI.1.1
  have hjv := hI.1.2.1
  have hlq := hI.1.2.2
  have hpr := hI.2.1.1
  have hhs := hI.2.1.2
  have hlo := hI.2.2.1
  have qta := hI.2.2.2.1.1
  have qtn := hI.2.2.2.1.2.1
  have qt4 := hI.2.2.2.1.2.2.1
  have qtp := hI.2.2.2.1.2.2.2
  obtain ⟨a1, qa1⟩ : ∃ z, z = (ax_xs E (i + 1).toNat).toInt := ⟨_, rfl⟩
  have ca1 : -2147483648 ≤ a1 ∧ a1 < 2147483648 := by rw [qa1]; exact ax_can_toInt _
  obtain ⟨a2, qa2⟩ : ∃ z, z = (ax_xs E (i + 2).toNat).toInt := ⟨_, rfl⟩
  have ca2 : -2147483648 ≤ a2 ∧ a2 < 2147483648 := by rw [qa2]; exact ax_can_toInt _
  obtain ⟨a3, qa3⟩ : ∃ z, z = (ax_xs E (i + 3).toNat).toInt := ⟨_, rfl⟩
  have ca3 : -2147483648 ≤ a3 ∧ a3 < 2147483648 := by rw [qa3]; exact ax_can_toInt _
  obtain ⟨a4, qa4⟩ : ∃ z, z = (ax_xs E (i + 4).toNat).toInt := ⟨_, rfl⟩
  have ca4 : -2147483648 ≤ a4 ∧ a4 < 2147483648 := by rw [qa4]; exact ax_can_toInt _
  obtain ⟨a5, qa5⟩ : ∃ z, z = (ax_xs E (i + 5).toNat).toInt := ⟨_, rfl⟩
  have ca5 : -2147483648 ≤ a5 ∧ a5 < 2147483648 := by rw [qa5]; exact ax_can_toInt _
  refine ax_aload_n dL_law_1298 rfl rfl (pc' := 1299) rfl ?_
  refine ax_aload_n dL_law_1299 rfl rfl (pc' := 1300) rfl ?_
  refine ax_iload_n dL_law_1300 rfl rfl (pc' := 1301) rfl ?_
  refine ax_iconst dL_law_1301 (by decide) (pc' := 1302) rfl ?_
  refine ax_iadd dL_law_1302 (by omega) (pc' := 1303) rfl ?_
  refine ax_sald (v := a1) dL_law_1303 (by omega) (by omega) qa1.symm (pc' := 1304) rfl ?_
  refine ax_aload_n dL_law_1304 rfl rfl (pc' := 1305) rfl ?_
  refine ax_iload_n dL_law_1305 rfl rfl (pc' := 1306) rfl ?_
  refine ax_iconst dL_law_1306 (by decide) (pc' := 1307) rfl ?_
  refine ax_iadd dL_law_1307 (by omega) (pc' := 1308) rfl ?_
  refine ax_sald (v := a2) dL_law_1308 (by omega) (by omega) qa2.symm (pc' := 1309) rfl ?_
  refine ax_aload_n dL_law_1309 rfl rfl (pc' := 1310) rfl ?_
  refine ax_iload_n dL_law_1310 rfl rfl (pc' := 1311) rfl ?_
  refine ax_iconst dL_law_1311 (by decide) (pc' := 1312) rfl ?_
  refine ax_iadd dL_law_1312 (by omega) (pc' := 1313) rfl ?_
  refine ax_sald (v := a3) dL_law_1313 (by omega) (by omega) qa3.symm (pc' := 1314) rfl ?_
  refine ax_invG [.inl a1, .inl a2, .inl a3] [] dL_law_1314 mlL_150 sh_0 rfl rfl rfl (Nat.le_of_ble_eq_true rfl) (s_X11_whose E l _ (by omega) _ a1 a2 a3 Ls (M 331) hnb hjv hlo.1) (pc' := 1317) rfl (fun vv M_1314 hq co1314 hcm1314 => ?_)
  obtain ⟨rfl, rfl⟩ := hq
  refine ax_reS (st2 := [.inl (F_whose (M 331) a1 a2 a3)]) rfl ?_
  have cc1314 : -2147483648 ≤ F_whose (M 331) a1 a2 a3 ∧ F_whose (M 331) a1 a2 a3 < 2147483648 := co1314 _ rfl
  refine ax_aload_n dL_law_1317 rfl rfl (pc' := 1318) rfl ?_
  refine ax_aload_n dL_law_1318 rfl rfl (pc' := 1319) rfl ?_
  refine ax_iload_n dL_law_1319 rfl rfl (pc' := 1320) rfl ?_
  refine ax_iconst dL_law_1320 (by decide) (pc' := 1321) rfl ?_
  refine ax_iadd dL_law_1321 (by omega) (pc' := 1322) rfl ?_
  refine ax_sald (v := a1) dL_law_1322 (by omega) (by omega) qa1.symm (pc' := 1323) rfl ?_
  refine ax_aload_n dL_law_1323 rfl rfl (pc' := 1324) rfl ?_
  refine ax_iload_n dL_law_1324 rfl rfl (pc' := 1325) rfl ?_
  refine ax_iconst dL_law_1325 (by decide) (pc' := 1326) rfl ?_
  refine ax_iadd dL_law_1326 (by omega) (pc' := 1327) rfl ?_
  refine ax_sald (v := a2) dL_law_1327 (by omega) (by omega) qa2.symm (pc' := 1328) rfl ?_
  refine ax_aload_n dL_law_1328 rfl rfl (pc' := 1329) rfl ?_
  refine ax_iload_n dL_law_1329 rfl rfl (pc' := 1330) rfl ?_
  refine ax_iconst dL_law_1330 (by decide) (pc' := 1331) rfl ?_
  refine ax_iadd dL_law_1331 (by omega) (pc' := 1332) rfl ?_
  refine ax_sald (v := a3) dL_law_1332 (by omega) (by omega) qa3.symm (pc' := 1333) rfl ?_
  refine ax_invG [.inl a1, .inl a2, .inl a3] [.inl (F_whose (M 331) a1 a2 a3)] dL_law_1333 mlL_153 sh_330 rfl rfl rfl (Nat.le_of_ble_eq_true rfl) (s_X12_whose E l _ (by omega) _ a1 a2 a3 rfl hjv.1.2.2.2.1) (pc' := 1336) rfl (fun vv M_1333 hq co1333 hcm1333 => ?_)
  obtain ⟨rfl, rfl⟩ := hq
  refine ax_reS (st2 := [.inl (F_whose (M 331) a1 a2 a3), .inl (F_whose (M 331) a1 a2 a3)]) rfl ?_
  have cc1333 : -2147483648 ≤ F_whose (M 331) a1 a2 a3 ∧ F_whose (M 331) a1 a2 a3 < 2147483648 := co1333 _ rfl
  refine ax_icmp_eq (tgt := 1416) dL_law_1336 (by decide) (pc' := 1339) rfl (fun h1336 => ?_) (fun h1336 => ?_)
  · exact kk _ ⟨hv, Ls, Lk, hI⟩
  · exfalso
    exact h1336 rfl
set_option maxRecDepth 20000 in
theorem lc_16 (E : ax_Env) (l : Launch) (d : Nat) (hd : 60 ≤ d) (M : ax_Mem) (Q : ax_Post) (i : Int) (hx : ax_xl E ≤ 3072) (hi : 0 ≤ i ∧ i + 6 ≤ (ax_xl E : Int)) (hI : f_INV M) (kk : ∀ M2, f_INV M2 → ax_W E l (d + 1) 0 0 iL_law 1416 [some (.inr (-2)), some (.inr 0), some (.inr 330), some (.inl i)] [] SH M2 Q) : ax_W E l (d + 1) 0 0 iL_law 730 [some (.inr (-2)), some (.inr 0), some (.inr 330), some (.inl i)] [] SH M Q := by
  obtain ⟨hv, Ls, Lk, hI⟩ := hI
  have hnb := hI.1.1
  have hjv := hI.1.2.1
  have hlq := hI.1.2.2
  have hpr := hI.2.1.1
  have hhs := hI.2.1.2
  have hlo := hI.2.2.1
  have qta := hI.2.2.2.1.1
  have qtn := hI.2.2.2.1.2.1
  have qt4 := hI.2.2.2.1.2.2.1
  have qtp := hI.2.2.2.1.2.2.2
  obtain ⟨a1, qa1⟩ : ∃ z, z = (ax_xs E (i + 1).toNat).toInt := ⟨_, rfl⟩
  have ca1 : -2147483648 ≤ a1 ∧ a1 < 2147483648 := by rw [qa1]; exact ax_can_toInt _
  obtain ⟨a2, qa2⟩ : ∃ z, z = (ax_xs E (i + 2).toNat).toInt := ⟨_, rfl⟩
  have ca2 : -2147483648 ≤ a2 ∧ a2 < 2147483648 := by rw [qa2]; exact ax_can_toInt _
  obtain ⟨a3, qa3⟩ : ∃ z, z = (ax_xs E (i + 3).toNat).toInt := ⟨_, rfl⟩
  have ca3 : -2147483648 ≤ a3 ∧ a3 < 2147483648 := by rw [qa3]; exact ax_can_toInt _
  obtain ⟨a4, qa4⟩ : ∃ z, z = (ax_xs E (i + 4).toNat).toInt := ⟨_, rfl⟩
  have ca4 : -2147483648 ≤ a4 ∧ a4 < 2147483648 := by rw [qa4]; exact ax_can_toInt _
  obtain ⟨a5, qa5⟩ : ∃ z, z = (ax_xs E (i + 5).toNat).toInt := ⟨_, rfl⟩
  have ca5 : -2147483648 ≤ a5 ∧ a5 < 2147483648 := by rw [qa5]; exact ax_can_toInt _
  refine ax_aload_n dL_law_730 rfl rfl (pc' := 731) rfl ?_
  refine ax_aload_n dL_law_731 rfl rfl (pc' := 732) rfl ?_
  refine ax_iload_n dL_law_732 rfl rfl (pc' := 733) rfl ?_
  refine ax_iconst dL_law_733 (by decide) (pc' := 734) rfl ?_
  refine ax_iadd dL_law_734 (by omega) (pc' := 735) rfl ?_
  refine ax_sald (v := a1) dL_law_735 (by omega) (by omega) qa1.symm (pc' := 736) rfl ?_
  refine ax_aload_n dL_law_736 rfl rfl (pc' := 737) rfl ?_
  refine ax_iload_n dL_law_737 rfl rfl (pc' := 738) rfl ?_
  refine ax_iconst dL_law_738 (by decide) (pc' := 739) rfl ?_
  refine ax_iadd dL_law_739 (by omega) (pc' := 740) rfl ?_
  refine ax_sald (v := a2) dL_law_740 (by omega) (by omega) qa2.symm (pc' := 741) rfl ?_
  refine ax_invG [.inl a1, .inl a2] [] dL_law_741 mlL_84 sh_0 rfl rfl rfl (Nat.le_of_ble_eq_true rfl) (s_X11_of E l _ (by omega) _ a1 a2 Ls (M 331) hnb hjv hlo.1) (pc' := 744) rfl (fun vv M_741 hq co741 hcm741 => ?_)
  obtain ⟨rfl, rfl⟩ := hq
  refine ax_reS (st2 := [.inl (if f_isR (M 331) a1 then F_of (M 331) a1 a2 else -1)]) rfl ?_
  have cc741 : -2147483648 ≤ (if f_isR (M 331) a1 then F_of (M 331) a1 a2 else -1) ∧ (if f_isR (M 331) a1 then F_of (M 331) a1 a2 else -1) < 2147483648 := co741 _ rfl
  refine ax_aload_n dL_law_744 rfl rfl (pc' := 745) rfl ?_
  refine ax_aload_n dL_law_745 rfl rfl (pc' := 746) rfl ?_
  refine ax_iload_n dL_law_746 rfl rfl (pc' := 747) rfl ?_
  refine ax_iconst dL_law_747 (by decide) (pc' := 748) rfl ?_
  refine ax_iadd dL_law_748 (by omega) (pc' := 749) rfl ?_
  refine ax_sald (v := a1) dL_law_749 (by omega) (by omega) qa1.symm (pc' := 750) rfl ?_
  refine ax_aload_n dL_law_750 rfl rfl (pc' := 751) rfl ?_
  refine ax_iload_n dL_law_751 rfl rfl (pc' := 752) rfl ?_
  refine ax_iconst dL_law_752 (by decide) (pc' := 753) rfl ?_
  refine ax_iadd dL_law_753 (by omega) (pc' := 754) rfl ?_
  refine ax_sald (v := a2) dL_law_754 (by omega) (by omega) qa2.symm (pc' := 755) rfl ?_
  by_cases hc : f_isR (M 331) a1
  · refine ax_invG [.inl a1, .inl a2] [.inl (if f_isR (M 331) a1 then F_of (M 331) a1 a2 else -1)] dL_law_755 mlL_87 sh_330 rfl rfl rfl (Nat.le_of_ble_eq_true rfl) (s_X12_of_ok E l _ (by omega) _ a1 a2 rfl hjv.1 hc) (pc' := 758) rfl (fun vv M_755 hq co755 hcm755 => ?_)
    obtain ⟨rfl, rfl⟩ := hq
    refine ax_reS (st2 := [.inl (F_of (M 331) a1 a2), .inl (if f_isR (M 331) a1 then F_of (M 331) a1 a2 else -1)]) rfl ?_
    have cc755 : -2147483648 ≤ F_of (M 331) a1 a2 ∧ F_of (M 331) a1 a2 < 2147483648 := co755 _ rfl
    refine ax_icmp_eq (tgt := 1416) dL_law_758 (by decide) (pc' := 761) rfl (fun h758 => ?_) (fun h758 => ?_)
    · exact kk _ ⟨hv, Ls, Lk, hI⟩
    · exfalso
      first | exact h758 (if_pos hc) | exact h758 (if_neg hc)
  · refine ax_invG [.inl a1, .inl a2] [.inl (if f_isR (M 331) a1 then F_of (M 331) a1 a2 else -1)] dL_law_755 mlL_87 sh_330 rfl rfl rfl (Nat.le_of_ble_eq_true rfl) (s_X12_of_no E l _ (by omega) _ a1 a2 rfl hc) (pc' := 758) rfl (fun vv M_755 hq co755 hcm755 => ?_)
    obtain ⟨rfl, rfl⟩ := hq
    refine ax_reS (st2 := [.inl (-1), .inl (if f_isR (M 331) a1 then F_of (M 331) a1 a2 else -1)]) rfl ?_
    refine ax_icmp_eq (tgt := 1416) dL_law_758 (by decide) (pc' := 761) rfl (fun h758 => ?_) (fun h758 => ?_)
    · exact kk _ ⟨hv, Ls, Lk, hI⟩
    · exfalso
      first | exact h758 (if_pos hc) | exact h758 (if_neg hc)
set_option maxRecDepth 20000 in
theorem lc_24 (E : ax_Env) (l : Launch) (d : Nat) (hd : 60 ≤ d) (M : ax_Mem) (Q : ax_Post) (i : Int) (hx : ax_xl E ≤ 3072) (hi : 0 ≤ i ∧ i + 6 ≤ (ax_xl E : Int)) (hI : f_INV M) (kk : ∀ M2, f_INV M2 → ax_W E l (d + 1) 0 0 iL_law 1416 [some (.inr (-2)), some (.inr 0), some (.inr 330), some (.inl i)] [] SH M2 Q) : ax_W E l (d + 1) 0 0 iL_law 1054 [some (.inr (-2)), some (.inr 0), some (.inr 330), some (.inl i)] [] SH M Q := by
  obtain ⟨hv, Ls, Lk, hI⟩ := hI
  have hnb := hI.1.1
  have hjv := hI.1.2.1
  have hlq := hI.1.2.2
  have hpr := hI.2.1.1
  have hhs := hI.2.1.2
  have hlo := hI.2.2.1
  have qta := hI.2.2.2.1.1
  have qtn := hI.2.2.2.1.2.1
  have qt4 := hI.2.2.2.1.2.2.1
  have qtp := hI.2.2.2.1.2.2.2
  obtain ⟨a1, qa1⟩ : ∃ z, z = (ax_xs E (i + 1).toNat).toInt := ⟨_, rfl⟩
  have ca1 : -2147483648 ≤ a1 ∧ a1 < 2147483648 := by rw [qa1]; exact ax_can_toInt _
  obtain ⟨a2, qa2⟩ : ∃ z, z = (ax_xs E (i + 2).toNat).toInt := ⟨_, rfl⟩
  have ca2 : -2147483648 ≤ a2 ∧ a2 < 2147483648 := by rw [qa2]; exact ax_can_toInt _
  obtain ⟨a3, qa3⟩ : ∃ z, z = (ax_xs E (i + 3).toNat).toInt := ⟨_, rfl⟩
  have ca3 : -2147483648 ≤ a3 ∧ a3 < 2147483648 := by rw [qa3]; exact ax_can_toInt _
  obtain ⟨a4, qa4⟩ : ∃ z, z = (ax_xs E (i + 4).toNat).toInt := ⟨_, rfl⟩
  have ca4 : -2147483648 ≤ a4 ∧ a4 < 2147483648 := by rw [qa4]; exact ax_can_toInt _
  obtain ⟨a5, qa5⟩ : ∃ z, z = (ax_xs E (i + 5).toNat).toInt := ⟨_, rfl⟩
  have ca5 : -2147483648 ≤ a5 ∧ a5 < 2147483648 := by rw [qa5]; exact ax_can_toInt _
  refine ax_aload_n dL_law_1054 rfl rfl (pc' := 1055) rfl ?_
  refine ax_aload_n dL_law_1055 rfl rfl (pc' := 1056) rfl ?_
  refine ax_iload_n dL_law_1056 rfl rfl (pc' := 1057) rfl ?_
  refine ax_iconst dL_law_1057 (by decide) (pc' := 1058) rfl ?_
  refine ax_iadd dL_law_1058 (by omega) (pc' := 1059) rfl ?_
  refine ax_sald (v := a1) dL_law_1059 (by omega) (by omega) qa1.symm (pc' := 1060) rfl ?_
  refine ax_aload_n dL_law_1060 rfl rfl (pc' := 1061) rfl ?_
  refine ax_iload_n dL_law_1061 rfl rfl (pc' := 1062) rfl ?_
  refine ax_iconst dL_law_1062 (by decide) (pc' := 1063) rfl ?_
  refine ax_iadd dL_law_1063 (by omega) (pc' := 1064) rfl ?_
  refine ax_sald (v := a2) dL_law_1064 (by omega) (by omega) qa2.symm (pc' := 1065) rfl ?_
  refine ax_aload_n dL_law_1065 rfl rfl (pc' := 1066) rfl ?_
  refine ax_iload_n dL_law_1066 rfl rfl (pc' := 1067) rfl ?_
  refine ax_iconst dL_law_1067 (by decide) (pc' := 1068) rfl ?_
  refine ax_iadd dL_law_1068 (by omega) (pc' := 1069) rfl ?_
  refine ax_sald (v := a3) dL_law_1069 (by omega) (by omega) qa3.symm (pc' := 1070) rfl ?_
  refine ax_invG [.inl a1, .inl a2, .inl a3] [] dL_law_1070 mlL_118 sh_0 rfl rfl rfl (Nat.le_of_ble_eq_true rfl) (s_X11_fits E l _ (by omega) _ a1 a2 a3 Ls (M 331) hnb hjv hlo.1 hlo.2.2.2.1 hlq.2.2.2.1) (pc' := 1073) rfl (fun vv M_1070 hq co1070 hcm1070 => ?_)
  obtain ⟨rfl, frM_1070⟩ := hq
  refine ax_reS (st2 := [.inl (F_fits Ls (M 331) a1 a2 a3)]) rfl ?_
  have cc1070 : -2147483648 ≤ F_fits Ls (M 331) a1 a2 a3 ∧ F_fits Ls (M 331) a1 a2 a3 < 2147483648 := co1070 _ rfl
  refine ax_aload_n dL_law_1073 rfl rfl (pc' := 1074) rfl ?_
  refine ax_aload_n dL_law_1074 rfl rfl (pc' := 1075) rfl ?_
  refine ax_iload_n dL_law_1075 rfl rfl (pc' := 1076) rfl ?_
  refine ax_iconst dL_law_1076 (by decide) (pc' := 1077) rfl ?_
  refine ax_iadd dL_law_1077 (by omega) (pc' := 1078) rfl ?_
  refine ax_sald (v := a1) dL_law_1078 (by omega) (by omega) qa1.symm (pc' := 1079) rfl ?_
  refine ax_aload_n dL_law_1079 rfl rfl (pc' := 1080) rfl ?_
  refine ax_iload_n dL_law_1080 rfl rfl (pc' := 1081) rfl ?_
  refine ax_iconst dL_law_1081 (by decide) (pc' := 1082) rfl ?_
  refine ax_iadd dL_law_1082 (by omega) (pc' := 1083) rfl ?_
  refine ax_sald (v := a2) dL_law_1083 (by omega) (by omega) qa2.symm (pc' := 1084) rfl ?_
  refine ax_aload_n dL_law_1084 rfl rfl (pc' := 1085) rfl ?_
  refine ax_iload_n dL_law_1085 rfl rfl (pc' := 1086) rfl ?_
  refine ax_iconst dL_law_1086 (by decide) (pc' := 1087) rfl ?_
  refine ax_iadd dL_law_1087 (by omega) (pc' := 1088) rfl ?_
  refine ax_sald (v := a3) dL_law_1088 (by omega) (by omega) qa3.symm (pc' := 1089) rfl ?_
  refine ax_invG [.inl a1, .inl a2, .inl a3] [.inl (F_fits Ls (M 331) a1 a2 a3)] dL_law_1089 mlL_121 sh_330 rfl rfl rfl (Nat.le_of_ble_eq_true rfl) (s_X12_fits E l _ (by omega) _ a1 a2 a3 Ls ((funext fun i0 => frM_1070 331 i0 (fun h => h.elim (fun h => absurd h.2 (by decide)) (fun h => h.elim (fun h => absurd h (by decide)) (fun h => h.elim (fun h => absurd h (by decide)) (fun h => h.elim (fun h => absurd h (by decide)) (fun h => h.elim (fun h => absurd h.1 (by decide)) (fun h => h.elim (fun h => absurd h.1 (by decide)) (fun h => absurd h.1 (by decide))))))))).trans rfl) ((funext fun i0 => frM_1070 340 i0 (fun h => h.elim (fun h => absurd h.2 (by decide)) (fun h => h.elim (fun h => absurd h (by decide)) (fun h => h.elim (fun h => absurd h (by decide)) (fun h => h.elim (fun h => absurd h (by decide)) (fun h => h.elim (fun h => absurd h.1 (by decide)) (fun h => h.elim (fun h => absurd h.1 (by decide)) (fun h => absurd h.1 (by decide))))))))).trans rfl) ((funext fun i0 => frM_1070 341 i0 (fun h => h.elim (fun h => absurd h.2 (by decide)) (fun h => h.elim (fun h => absurd h (by decide)) (fun h => h.elim (fun h => absurd h (by decide)) (fun h => h.elim (fun h => absurd h (by decide)) (fun h => h.elim (fun h => absurd h.1 (by decide)) (fun h => h.elim (fun h => absurd h.1 (by decide)) (fun h => absurd h.1 (by decide))))))))).trans rfl) ((funext fun i0 => frM_1070 344 i0 (fun h => h.elim (fun h => absurd h.2 (by decide)) (fun h => h.elim (fun h => absurd h (by decide)) (fun h => h.elim (fun h => absurd h (by decide)) (fun h => h.elim (fun h => absurd h (by decide)) (fun h => h.elim (fun h => absurd h.1 (by decide)) (fun h => h.elim (fun h => absurd h.1 (by decide)) (fun h => absurd h.1 (by decide))))))))).trans rfl) ((frM_1070 330 35 (fun h => h.elim (fun h => absurd h.2 (by decide)) (fun h => h.elim (fun h => absurd h (by decide)) (fun h => h.elim (fun h => absurd h (by decide)) (fun h => h.elim (fun h => absurd h (by decide)) (fun h => h.elim (fun h => absurd h.1 (by decide)) (fun h => h.elim (fun h => absurd h.1 (by decide)) (fun h => absurd h.1 (by decide))))))))).trans rfl) hjv.1 hjv.2.2 hlq.2.2.2.1) (pc' := 1092) rfl (fun vv M_1089 hq co1089 hcm1089 => ?_)
  obtain ⟨rfl, frM_1089⟩ := hq
  refine ax_reS (st2 := [.inl (F_fits Ls (M 331) a1 a2 a3), .inl (F_fits Ls (M 331) a1 a2 a3)]) rfl ?_
  have cc1089 : -2147483648 ≤ F_fits Ls (M 331) a1 a2 a3 ∧ F_fits Ls (M 331) a1 a2 a3 < 2147483648 := co1089 _ rfl
  refine ax_icmp_eq (tgt := 1416) dL_law_1092 (by decide) (pc' := 1095) rfl (fun h1092 => ?_) (fun h1092 => ?_)
  · exact kk _ (f_INV_mk (f_IV_fr hI (fun x0 i0 hai => by unfold f_rc at hai; exact ((frM_1089 x0 i0 (by omega)).trans ((frM_1070 x0 i0 (by omega)).trans rfl)))) ((funext fun i0 => frM_1089 331 i0 (fun h => h.elim (fun h => absurd h (by decide)) (fun h => h.elim (fun h => absurd h (by decide)) (fun h => h.elim (fun h => absurd h (by decide)) (fun h => absurd h.1 (by decide)))))).trans ((funext fun i0 => frM_1070 331 i0 (fun h => h.elim (fun h => absurd h.2 (by decide)) (fun h => h.elim (fun h => absurd h (by decide)) (fun h => h.elim (fun h => absurd h (by decide)) (fun h => h.elim (fun h => absurd h (by decide)) (fun h => h.elim (fun h => absurd h.1 (by decide)) (fun h => h.elim (fun h => absurd h.1 (by decide)) (fun h => absurd h.1 (by decide))))))))).trans rfl)) ((funext fun i0 => frM_1089 332 i0 (fun h => h.elim (fun h => absurd h (by decide)) (fun h => h.elim (fun h => absurd h (by decide)) (fun h => h.elim (fun h => absurd h (by decide)) (fun h => absurd h.1 (by decide)))))).trans ((funext fun i0 => frM_1070 332 i0 (fun h => h.elim (fun h => absurd h.2 (by decide)) (fun h => h.elim (fun h => absurd h (by decide)) (fun h => h.elim (fun h => absurd h (by decide)) (fun h => h.elim (fun h => absurd h (by decide)) (fun h => h.elim (fun h => absurd h.1 (by decide)) (fun h => h.elim (fun h => absurd h.1 (by decide)) (fun h => absurd h.1 (by decide))))))))).trans rfl)) ((funext fun i0 => frM_1089 333 i0 (fun h => h.elim (fun h => absurd h (by decide)) (fun h => h.elim (fun h => absurd h (by decide)) (fun h => h.elim (fun h => absurd h (by decide)) (fun h => absurd h.1 (by decide)))))).trans ((funext fun i0 => frM_1070 333 i0 (fun h => h.elim (fun h => absurd h.2 (by decide)) (fun h => h.elim (fun h => absurd h (by decide)) (fun h => h.elim (fun h => absurd h (by decide)) (fun h => h.elim (fun h => absurd h (by decide)) (fun h => h.elim (fun h => absurd h.1 (by decide)) (fun h => h.elim (fun h => absurd h.1 (by decide)) (fun h => absurd h.1 (by decide))))))))).trans rfl)) ((funext fun i0 => frM_1089 339 i0 (fun h => h.elim (fun h => absurd h (by decide)) (fun h => h.elim (fun h => absurd h (by decide)) (fun h => h.elim (fun h => absurd h (by decide)) (fun h => absurd h.1 (by decide)))))).trans ((funext fun i0 => frM_1070 339 i0 (fun h => h.elim (fun h => absurd h.2 (by decide)) (fun h => h.elim (fun h => absurd h (by decide)) (fun h => h.elim (fun h => absurd h (by decide)) (fun h => h.elim (fun h => absurd h (by decide)) (fun h => h.elim (fun h => absurd h.1 (by decide)) (fun h => h.elim (fun h => absurd h.1 (by decide)) (fun h => absurd h.1 (by decide))))))))).trans rfl)) ((frM_1089 330 4 (fun h => h.elim (fun h => absurd h (by decide)) (fun h => h.elim (fun h => absurd h (by decide)) (fun h => h.elim (fun h => absurd h (by decide)) (fun h => absurd h.2 (by decide)))))).trans ((frM_1070 330 4 (fun h => h.elim (fun h => absurd h.2 (by decide)) (fun h => h.elim (fun h => absurd h (by decide)) (fun h => h.elim (fun h => absurd h (by decide)) (fun h => h.elim (fun h => absurd h (by decide)) (fun h => h.elim (fun h => absurd h.1 (by decide)) (fun h => h.elim (fun h => absurd h.1 (by decide)) (fun h => absurd h.1 (by decide))))))))).trans rfl)) ((frM_1089 330 5 (fun h => h.elim (fun h => absurd h (by decide)) (fun h => h.elim (fun h => absurd h (by decide)) (fun h => h.elim (fun h => absurd h (by decide)) (fun h => absurd h.2 (by decide)))))).trans ((frM_1070 330 5 (fun h => h.elim (fun h => absurd h.2 (by decide)) (fun h => h.elim (fun h => absurd h (by decide)) (fun h => h.elim (fun h => absurd h (by decide)) (fun h => h.elim (fun h => absurd h (by decide)) (fun h => h.elim (fun h => absurd h.1 (by decide)) (fun h => h.elim (fun h => absurd h.1 (by decide)) (fun h => absurd h.1 (by decide))))))))).trans rfl)) ((frM_1089 330 17 (fun h => h.elim (fun h => absurd h (by decide)) (fun h => h.elim (fun h => absurd h (by decide)) (fun h => h.elim (fun h => absurd h (by decide)) (fun h => absurd h.2 (by decide)))))).trans ((frM_1070 330 17 (fun h => h.elim (fun h => absurd h.2 (by decide)) (fun h => h.elim (fun h => absurd h (by decide)) (fun h => h.elim (fun h => absurd h (by decide)) (fun h => h.elim (fun h => absurd h (by decide)) (fun h => h.elim (fun h => absurd h.1 (by decide)) (fun h => h.elim (fun h => absurd h.1 (by decide)) (fun h => absurd h.1 (by decide))))))))).trans rfl)) ((frM_1089 330 24 (fun h => h.elim (fun h => absurd h (by decide)) (fun h => h.elim (fun h => absurd h (by decide)) (fun h => h.elim (fun h => absurd h (by decide)) (fun h => absurd h.2 (by decide)))))).trans ((frM_1070 330 24 (fun h => h.elim (fun h => absurd h.2 (by decide)) (fun h => h.elim (fun h => absurd h (by decide)) (fun h => h.elim (fun h => absurd h (by decide)) (fun h => h.elim (fun h => absurd h (by decide)) (fun h => h.elim (fun h => absurd h.1 (by decide)) (fun h => h.elim (fun h => absurd h.1 (by decide)) (fun h => absurd h.1 (by decide))))))))).trans rfl)) ((frM_1089 330 26 (fun h => h.elim (fun h => absurd h (by decide)) (fun h => h.elim (fun h => absurd h (by decide)) (fun h => h.elim (fun h => absurd h (by decide)) (fun h => absurd h.2 (by decide)))))).trans ((frM_1070 330 26 (fun h => h.elim (fun h => absurd h.2 (by decide)) (fun h => h.elim (fun h => absurd h (by decide)) (fun h => h.elim (fun h => absurd h (by decide)) (fun h => h.elim (fun h => absurd h (by decide)) (fun h => h.elim (fun h => absurd h.1 (by decide)) (fun h => h.elim (fun h => absurd h.1 (by decide)) (fun h => absurd h.1 (by decide))))))))).trans rfl)) ((frM_1089 330 21 (fun h => h.elim (fun h => absurd h (by decide)) (fun h => h.elim (fun h => absurd h (by decide)) (fun h => h.elim (fun h => absurd h (by decide)) (fun h => absurd h.2 (by decide)))))).trans ((frM_1070 330 21 (fun h => h.elim (fun h => absurd h.2 (by decide)) (fun h => h.elim (fun h => absurd h (by decide)) (fun h => h.elim (fun h => absurd h (by decide)) (fun h => h.elim (fun h => absurd h (by decide)) (fun h => h.elim (fun h => absurd h.1 (by decide)) (fun h => h.elim (fun h => absurd h.1 (by decide)) (fun h => absurd h.1 (by decide))))))))).trans rfl)) hv)
  · exfalso
    exact h1092 rfl
set_option maxRecDepth 20000 in
theorem lc_28 (E : ax_Env) (l : Launch) (d : Nat) (hd : 60 ≤ d) (M : ax_Mem) (Q : ax_Post) (i : Int) (hx : ax_xl E ≤ 3072) (hi : 0 ≤ i ∧ i + 6 ≤ (ax_xl E : Int)) (hI : f_INV M) (kk : ∀ M2, f_INV M2 → ax_W E l (d + 1) 0 0 iL_law 1416 [some (.inr (-2)), some (.inr 0), some (.inr 330), some (.inl i)] [] SH M2 Q) : ax_W E l (d + 1) 0 0 iL_law 1176 [some (.inr (-2)), some (.inr 0), some (.inr 330), some (.inl i)] [] SH M Q := by
  obtain ⟨hv, Ls, Lk, hI⟩ := hI
  have hnb := hI.1.1
  have hjv := hI.1.2.1
  have hlq := hI.1.2.2
  have hpr := hI.2.1.1
  have hhs := hI.2.1.2
  have hlo := hI.2.2.1
  have qta := hI.2.2.2.1.1
  have qtn := hI.2.2.2.1.2.1
  have qt4 := hI.2.2.2.1.2.2.1
  have qtp := hI.2.2.2.1.2.2.2
  obtain ⟨a1, qa1⟩ : ∃ z, z = (ax_xs E (i + 1).toNat).toInt := ⟨_, rfl⟩
  have ca1 : -2147483648 ≤ a1 ∧ a1 < 2147483648 := by rw [qa1]; exact ax_can_toInt _
  obtain ⟨a2, qa2⟩ : ∃ z, z = (ax_xs E (i + 2).toNat).toInt := ⟨_, rfl⟩
  have ca2 : -2147483648 ≤ a2 ∧ a2 < 2147483648 := by rw [qa2]; exact ax_can_toInt _
  obtain ⟨a3, qa3⟩ : ∃ z, z = (ax_xs E (i + 3).toNat).toInt := ⟨_, rfl⟩
  have ca3 : -2147483648 ≤ a3 ∧ a3 < 2147483648 := by rw [qa3]; exact ax_can_toInt _
  obtain ⟨a4, qa4⟩ : ∃ z, z = (ax_xs E (i + 4).toNat).toInt := ⟨_, rfl⟩
  have ca4 : -2147483648 ≤ a4 ∧ a4 < 2147483648 := by rw [qa4]; exact ax_can_toInt _
  obtain ⟨a5, qa5⟩ : ∃ z, z = (ax_xs E (i + 5).toNat).toInt := ⟨_, rfl⟩
  have ca5 : -2147483648 ≤ a5 ∧ a5 < 2147483648 := by rw [qa5]; exact ax_can_toInt _
  obtain ⟨os, qos⟩ := f_ord_ex hlq
  refine ax_aload_n dL_law_1176 rfl rfl (pc' := 1177) rfl ?_
  refine ax_aload_n dL_law_1177 rfl rfl (pc' := 1178) rfl ?_
  refine ax_iload_n dL_law_1178 rfl rfl (pc' := 1179) rfl ?_
  refine ax_iconst dL_law_1179 (by decide) (pc' := 1180) rfl ?_
  refine ax_iadd dL_law_1180 (by omega) (pc' := 1181) rfl ?_
  refine ax_sald (v := a1) dL_law_1181 (by omega) (by omega) qa1.symm (pc' := 1182) rfl ?_
  refine ax_invG [.inl a1] [] dL_law_1182 mlL_134 sh_0 rfl rfl rfl (Nat.le_of_ble_eq_true rfl) (s_X11_yard E l _ (by omega) _ a1 (M 331) os rfl rfl rfl hnb.1 hjv.1.1 hlo.2.2.2.2 qos.1 qos.2) (pc' := 1185) rfl (fun vv M_1182 hq co1182 hcm1182 => ?_)
  obtain ⟨rfl, frM_1182⟩ := hq
  refine ax_reS (st2 := [.inl (f_yrd (M 331) os a1)]) rfl ?_
  have cc1182 : -2147483648 ≤ f_yrd (M 331) os a1 ∧ f_yrd (M 331) os a1 < 2147483648 := co1182 _ rfl
  refine ax_aload_n dL_law_1185 rfl rfl (pc' := 1186) rfl ?_
  refine ax_aload_n dL_law_1186 rfl rfl (pc' := 1187) rfl ?_
  refine ax_iload_n dL_law_1187 rfl rfl (pc' := 1188) rfl ?_
  refine ax_iconst dL_law_1188 (by decide) (pc' := 1189) rfl ?_
  refine ax_iadd dL_law_1189 (by omega) (pc' := 1190) rfl ?_
  refine ax_sald (v := a1) dL_law_1190 (by omega) (by omega) qa1.symm (pc' := 1191) rfl ?_
  refine ax_invG [.inl a1] [.inl (f_yrd (M 331) os a1)] dL_law_1191 mlL_137 sh_330 rfl rfl rfl (Nat.le_of_ble_eq_true rfl) (s_X12_yard E l _ (by omega) _ a1 os ((funext fun i0 => frM_1182 331 i0 (fun h => h.elim (fun h => absurd h (by decide)) (fun h => h.elim (fun h => absurd h (by decide)) (fun h => h.elim (fun h => absurd h (by decide)) (fun h => h.elim (fun h => absurd h (by decide)) (fun h => h.elim (fun h => absurd h (by decide)) (fun h => absurd h.1 (by decide)))))))).trans rfl) ((funext fun i0 => frM_1182 345 i0 (fun h => h.elim (fun h => absurd h (by decide)) (fun h => h.elim (fun h => absurd h (by decide)) (fun h => h.elim (fun h => absurd h (by decide)) (fun h => h.elim (fun h => absurd h (by decide)) (fun h => h.elim (fun h => absurd h (by decide)) (fun h => absurd h.1 (by decide)))))))).trans rfl) ((funext fun i0 => frM_1182 346 i0 (fun h => h.elim (fun h => absurd h (by decide)) (fun h => h.elim (fun h => absurd h (by decide)) (fun h => h.elim (fun h => absurd h (by decide)) (fun h => h.elim (fun h => absurd h (by decide)) (fun h => h.elim (fun h => absurd h (by decide)) (fun h => absurd h.1 (by decide)))))))).trans rfl) ((funext fun i0 => frM_1182 347 i0 (fun h => h.elim (fun h => absurd h (by decide)) (fun h => h.elim (fun h => absurd h (by decide)) (fun h => h.elim (fun h => absurd h (by decide)) (fun h => h.elim (fun h => absurd h (by decide)) (fun h => h.elim (fun h => absurd h (by decide)) (fun h => absurd h.1 (by decide)))))))).trans rfl) qos.1 qos.2 hjv.1.1) (pc' := 1194) rfl (fun vv M_1191 hq co1191 hcm1191 => ?_)
  obtain ⟨rfl, frM_1191⟩ := hq
  refine ax_reS (st2 := [.inl (f_yrd (M 331) os a1), .inl (f_yrd (M 331) os a1)]) rfl ?_
  have cc1191 : -2147483648 ≤ f_yrd (M 331) os a1 ∧ f_yrd (M 331) os a1 < 2147483648 := co1191 _ rfl
  refine ax_icmp_eq (tgt := 1416) dL_law_1194 (by decide) (pc' := 1197) rfl (fun h1194 => ?_) (fun h1194 => ?_)
  · exact kk _ (f_INV_mk (f_IV_fr hI (fun x0 i0 hai => by unfold f_rc at hai; exact ((frM_1191 x0 i0 (by omega)).trans ((frM_1182 x0 i0 (by omega)).trans rfl)))) ((funext fun i0 => frM_1191 331 i0 (fun h => h.elim (fun h => absurd h (by decide)) (fun h => h.elim (fun h => absurd h (by decide)) (fun h => h.elim (fun h => absurd h (by decide)) (fun h => absurd h.1 (by decide)))))).trans ((funext fun i0 => frM_1182 331 i0 (fun h => h.elim (fun h => absurd h (by decide)) (fun h => h.elim (fun h => absurd h (by decide)) (fun h => h.elim (fun h => absurd h (by decide)) (fun h => h.elim (fun h => absurd h (by decide)) (fun h => h.elim (fun h => absurd h (by decide)) (fun h => absurd h.1 (by decide)))))))).trans rfl)) ((funext fun i0 => frM_1191 332 i0 (fun h => h.elim (fun h => absurd h (by decide)) (fun h => h.elim (fun h => absurd h (by decide)) (fun h => h.elim (fun h => absurd h (by decide)) (fun h => absurd h.1 (by decide)))))).trans ((funext fun i0 => frM_1182 332 i0 (fun h => h.elim (fun h => absurd h (by decide)) (fun h => h.elim (fun h => absurd h (by decide)) (fun h => h.elim (fun h => absurd h (by decide)) (fun h => h.elim (fun h => absurd h (by decide)) (fun h => h.elim (fun h => absurd h (by decide)) (fun h => absurd h.1 (by decide)))))))).trans rfl)) ((funext fun i0 => frM_1191 333 i0 (fun h => h.elim (fun h => absurd h (by decide)) (fun h => h.elim (fun h => absurd h (by decide)) (fun h => h.elim (fun h => absurd h (by decide)) (fun h => absurd h.1 (by decide)))))).trans ((funext fun i0 => frM_1182 333 i0 (fun h => h.elim (fun h => absurd h (by decide)) (fun h => h.elim (fun h => absurd h (by decide)) (fun h => h.elim (fun h => absurd h (by decide)) (fun h => h.elim (fun h => absurd h (by decide)) (fun h => h.elim (fun h => absurd h (by decide)) (fun h => absurd h.1 (by decide)))))))).trans rfl)) ((funext fun i0 => frM_1191 339 i0 (fun h => h.elim (fun h => absurd h (by decide)) (fun h => h.elim (fun h => absurd h (by decide)) (fun h => h.elim (fun h => absurd h (by decide)) (fun h => absurd h.1 (by decide)))))).trans ((funext fun i0 => frM_1182 339 i0 (fun h => h.elim (fun h => absurd h (by decide)) (fun h => h.elim (fun h => absurd h (by decide)) (fun h => h.elim (fun h => absurd h (by decide)) (fun h => h.elim (fun h => absurd h (by decide)) (fun h => h.elim (fun h => absurd h (by decide)) (fun h => absurd h.1 (by decide)))))))).trans rfl)) ((frM_1191 330 4 (fun h => h.elim (fun h => absurd h (by decide)) (fun h => h.elim (fun h => absurd h (by decide)) (fun h => h.elim (fun h => absurd h (by decide)) (fun h => absurd h.2 (by decide)))))).trans ((frM_1182 330 4 (fun h => h.elim (fun h => absurd h (by decide)) (fun h => h.elim (fun h => absurd h (by decide)) (fun h => h.elim (fun h => absurd h (by decide)) (fun h => h.elim (fun h => absurd h (by decide)) (fun h => h.elim (fun h => absurd h (by decide)) (fun h => absurd h.1 (by decide)))))))).trans rfl)) ((frM_1191 330 5 (fun h => h.elim (fun h => absurd h (by decide)) (fun h => h.elim (fun h => absurd h (by decide)) (fun h => h.elim (fun h => absurd h (by decide)) (fun h => absurd h.2 (by decide)))))).trans ((frM_1182 330 5 (fun h => h.elim (fun h => absurd h (by decide)) (fun h => h.elim (fun h => absurd h (by decide)) (fun h => h.elim (fun h => absurd h (by decide)) (fun h => h.elim (fun h => absurd h (by decide)) (fun h => h.elim (fun h => absurd h (by decide)) (fun h => absurd h.1 (by decide)))))))).trans rfl)) ((frM_1191 330 17 (fun h => h.elim (fun h => absurd h (by decide)) (fun h => h.elim (fun h => absurd h (by decide)) (fun h => h.elim (fun h => absurd h (by decide)) (fun h => absurd h.2 (by decide)))))).trans ((frM_1182 330 17 (fun h => h.elim (fun h => absurd h (by decide)) (fun h => h.elim (fun h => absurd h (by decide)) (fun h => h.elim (fun h => absurd h (by decide)) (fun h => h.elim (fun h => absurd h (by decide)) (fun h => h.elim (fun h => absurd h (by decide)) (fun h => absurd h.1 (by decide)))))))).trans rfl)) ((frM_1191 330 24 (fun h => h.elim (fun h => absurd h (by decide)) (fun h => h.elim (fun h => absurd h (by decide)) (fun h => h.elim (fun h => absurd h (by decide)) (fun h => absurd h.2 (by decide)))))).trans ((frM_1182 330 24 (fun h => h.elim (fun h => absurd h (by decide)) (fun h => h.elim (fun h => absurd h (by decide)) (fun h => h.elim (fun h => absurd h (by decide)) (fun h => h.elim (fun h => absurd h (by decide)) (fun h => h.elim (fun h => absurd h (by decide)) (fun h => absurd h.1 (by decide)))))))).trans rfl)) ((frM_1191 330 26 (fun h => h.elim (fun h => absurd h (by decide)) (fun h => h.elim (fun h => absurd h (by decide)) (fun h => h.elim (fun h => absurd h (by decide)) (fun h => absurd h.2 (by decide)))))).trans ((frM_1182 330 26 (fun h => h.elim (fun h => absurd h (by decide)) (fun h => h.elim (fun h => absurd h (by decide)) (fun h => h.elim (fun h => absurd h (by decide)) (fun h => h.elim (fun h => absurd h (by decide)) (fun h => h.elim (fun h => absurd h (by decide)) (fun h => absurd h.1 (by decide)))))))).trans rfl)) ((frM_1191 330 21 (fun h => h.elim (fun h => absurd h (by decide)) (fun h => h.elim (fun h => absurd h (by decide)) (fun h => h.elim (fun h => absurd h (by decide)) (fun h => absurd h.2 (by decide)))))).trans ((frM_1182 330 21 (fun h => h.elim (fun h => absurd h (by decide)) (fun h => h.elim (fun h => absurd h (by decide)) (fun h => h.elim (fun h => absurd h (by decide)) (fun h => h.elim (fun h => absurd h (by decide)) (fun h => h.elim (fun h => absurd h (by decide)) (fun h => absurd h.1 (by decide)))))))).trans rfl)) hv)
  · exfalso
    exact h1194 rfl
set_option maxRecDepth 20000 in
theorem lc_29 (E : ax_Env) (l : Launch) (d : Nat) (hd : 60 ≤ d) (M : ax_Mem) (Q : ax_Post) (i : Int) (hx : ax_xl E ≤ 3072) (hi : 0 ≤ i ∧ i + 6 ≤ (ax_xl E : Int)) (hI : f_INV M) (kk : ∀ M2, f_INV M2 → ax_W E l (d + 1) 0 0 iL_law 1416 [some (.inr (-2)), some (.inr 0), some (.inr 330), some (.inl i)] [] SH M2 Q) : ax_W E l (d + 1) 0 0 iL_law 1199 [some (.inr (-2)), some (.inr 0), some (.inr 330), some (.inl i)] [] SH M Q := by
  obtain ⟨hv, Ls, Lk, hI⟩ := hI
  have hnb := hI.1.1
  have hjv := hI.1.2.1
  have hlq := hI.1.2.2
  have hpr := hI.2.1.1
  have hhs := hI.2.1.2
  have hlo := hI.2.2.1
  have qta := hI.2.2.2.1.1
  have qtn := hI.2.2.2.1.2.1
  have qt4 := hI.2.2.2.1.2.2.1
  have qtp := hI.2.2.2.1.2.2.2
  obtain ⟨a1, qa1⟩ : ∃ z, z = (ax_xs E (i + 1).toNat).toInt := ⟨_, rfl⟩
  have ca1 : -2147483648 ≤ a1 ∧ a1 < 2147483648 := by rw [qa1]; exact ax_can_toInt _
  obtain ⟨a2, qa2⟩ : ∃ z, z = (ax_xs E (i + 2).toNat).toInt := ⟨_, rfl⟩
  have ca2 : -2147483648 ≤ a2 ∧ a2 < 2147483648 := by rw [qa2]; exact ax_can_toInt _
  obtain ⟨a3, qa3⟩ : ∃ z, z = (ax_xs E (i + 3).toNat).toInt := ⟨_, rfl⟩
  have ca3 : -2147483648 ≤ a3 ∧ a3 < 2147483648 := by rw [qa3]; exact ax_can_toInt _
  obtain ⟨a4, qa4⟩ : ∃ z, z = (ax_xs E (i + 4).toNat).toInt := ⟨_, rfl⟩
  have ca4 : -2147483648 ≤ a4 ∧ a4 < 2147483648 := by rw [qa4]; exact ax_can_toInt _
  obtain ⟨a5, qa5⟩ : ∃ z, z = (ax_xs E (i + 5).toNat).toInt := ⟨_, rfl⟩
  have ca5 : -2147483648 ≤ a5 ∧ a5 < 2147483648 := by rw [qa5]; exact ax_can_toInt _
  refine ax_aload_n dL_law_1199 rfl rfl (pc' := 1200) rfl ?_
  refine ax_aload_n dL_law_1200 rfl rfl (pc' := 1201) rfl ?_
  refine ax_iload_n dL_law_1201 rfl rfl (pc' := 1202) rfl ?_
  refine ax_iconst dL_law_1202 (by decide) (pc' := 1203) rfl ?_
  refine ax_iadd dL_law_1203 (by omega) (pc' := 1204) rfl ?_
  refine ax_sald (v := a1) dL_law_1204 (by omega) (by omega) qa1.symm (pc' := 1205) rfl ?_
  refine ax_aload_n dL_law_1205 rfl rfl (pc' := 1206) rfl ?_
  refine ax_iload_n dL_law_1206 rfl rfl (pc' := 1207) rfl ?_
  refine ax_iconst dL_law_1207 (by decide) (pc' := 1208) rfl ?_
  refine ax_iadd dL_law_1208 (by omega) (pc' := 1209) rfl ?_
  refine ax_sald (v := a2) dL_law_1209 (by omega) (by omega) qa2.symm (pc' := 1210) rfl ?_
  refine ax_invG [.inl a1, .inl a2] [] dL_law_1210 mlL_138 sh_0 rfl rfl rfl (Nat.le_of_ble_eq_true rfl) (s_X11_moves E l _ (by omega) _ a1 a2 (M 331) (M 348) (M 349) hlo.2.2.1 hlq.2.2.1) (pc' := 1213) rfl (fun vv M_1210 hq co1210 hcm1210 => ?_)
  obtain ⟨rfl, frM_1210⟩ := hq
  refine ax_reS (st2 := [.inl (if (0 ≤ a1 ∧ a1 ≤ 3) ∧ 0 ≤ a2 ∧ a2 ≤ 3 then F_moves (M 348) (M 349) (M 331) a1 a2 else -1)]) rfl ?_
  have cc1210 : -2147483648 ≤ (if (0 ≤ a1 ∧ a1 ≤ 3) ∧ 0 ≤ a2 ∧ a2 ≤ 3 then F_moves (M 348) (M 349) (M 331) a1 a2 else -1) ∧ (if (0 ≤ a1 ∧ a1 ≤ 3) ∧ 0 ≤ a2 ∧ a2 ≤ 3 then F_moves (M 348) (M 349) (M 331) a1 a2 else -1) < 2147483648 := co1210 _ rfl
  refine ax_aload_n dL_law_1213 rfl rfl (pc' := 1214) rfl ?_
  refine ax_aload_n dL_law_1214 rfl rfl (pc' := 1215) rfl ?_
  refine ax_iload_n dL_law_1215 rfl rfl (pc' := 1216) rfl ?_
  refine ax_iconst dL_law_1216 (by decide) (pc' := 1217) rfl ?_
  refine ax_iadd dL_law_1217 (by omega) (pc' := 1218) rfl ?_
  refine ax_sald (v := a1) dL_law_1218 (by omega) (by omega) qa1.symm (pc' := 1219) rfl ?_
  refine ax_aload_n dL_law_1219 rfl rfl (pc' := 1220) rfl ?_
  refine ax_iload_n dL_law_1220 rfl rfl (pc' := 1221) rfl ?_
  refine ax_iconst dL_law_1221 (by decide) (pc' := 1222) rfl ?_
  refine ax_iadd dL_law_1222 (by omega) (pc' := 1223) rfl ?_
  refine ax_sald (v := a2) dL_law_1223 (by omega) (by omega) qa2.symm (pc' := 1224) rfl ?_
  refine ax_invG [.inl a1, .inl a2] [.inl (if (0 ≤ a1 ∧ a1 ≤ 3) ∧ 0 ≤ a2 ∧ a2 ≤ 3 then F_moves (M 348) (M 349) (M 331) a1 a2 else -1)] dL_law_1224 mlL_141 sh_330 rfl rfl rfl (Nat.le_of_ble_eq_true rfl) (s_X12_moves E l _ (by omega) _ a1 a2 ((funext fun i0 => frM_1210 331 i0 (fun h => h.elim (fun h => absurd h (by decide)) (fun h => h.elim (fun h => absurd h (by decide)) (fun h => h.elim (fun h => absurd h (by decide)) (fun h => h.elim (fun h => absurd h.1 (by decide)) (fun h => absurd h.1 (by decide))))))).trans rfl) ((funext fun i0 => frM_1210 348 i0 (fun h => h.elim (fun h => absurd h (by decide)) (fun h => h.elim (fun h => absurd h (by decide)) (fun h => h.elim (fun h => absurd h (by decide)) (fun h => h.elim (fun h => absurd h.1 (by decide)) (fun h => absurd h.1 (by decide))))))).trans rfl) ((funext fun i0 => frM_1210 349 i0 (fun h => h.elim (fun h => absurd h (by decide)) (fun h => h.elim (fun h => absurd h (by decide)) (fun h => h.elim (fun h => absurd h (by decide)) (fun h => h.elim (fun h => absurd h.1 (by decide)) (fun h => absurd h.1 (by decide))))))).trans rfl) ((funext fun i0 => frM_1210 350 i0 (fun h => h.elim (fun h => absurd h (by decide)) (fun h => h.elim (fun h => absurd h (by decide)) (fun h => h.elim (fun h => absurd h (by decide)) (fun h => h.elim (fun h => absurd h.1 (by decide)) (fun h => absurd h.1 (by decide))))))).trans rfl) hlq.2.2.1) (pc' := 1227) rfl (fun vv M_1224 hq co1224 hcm1224 => ?_)
  obtain ⟨rfl, frM_1224⟩ := hq
  refine ax_reS (st2 := [.inl (if (0 ≤ a1 ∧ a1 ≤ 3) ∧ 0 ≤ a2 ∧ a2 ≤ 3 then F_moves (M 348) (M 349) (M 331) a1 a2 else -1), .inl (if (0 ≤ a1 ∧ a1 ≤ 3) ∧ 0 ≤ a2 ∧ a2 ≤ 3 then F_moves (M 348) (M 349) (M 331) a1 a2 else -1)]) rfl ?_
  have cc1224 : -2147483648 ≤ (if (0 ≤ a1 ∧ a1 ≤ 3) ∧ 0 ≤ a2 ∧ a2 ≤ 3 then F_moves (M 348) (M 349) (M 331) a1 a2 else -1) ∧ (if (0 ≤ a1 ∧ a1 ≤ 3) ∧ 0 ≤ a2 ∧ a2 ≤ 3 then F_moves (M 348) (M 349) (M 331) a1 a2 else -1) < 2147483648 := co1224 _ rfl
  refine ax_icmp_eq (tgt := 1416) dL_law_1227 (by decide) (pc' := 1230) rfl (fun h1227 => ?_) (fun h1227 => ?_)
  · exact kk _ (f_INV_mk (f_IV_fr hI (fun x0 i0 hai => by unfold f_rc at hai; exact ((frM_1224 x0 i0 (by omega)).trans ((frM_1210 x0 i0 (by omega)).trans rfl)))) ((funext fun i0 => frM_1224 331 i0 (fun h => h.elim (fun h => absurd h (by decide)) (fun h => h.elim (fun h => absurd h (by decide)) (fun h => h.elim (fun h => absurd h (by decide)) (fun h => h.elim (fun h => absurd h.1 (by decide)) (fun h => absurd h.1 (by decide))))))).trans ((funext fun i0 => frM_1210 331 i0 (fun h => h.elim (fun h => absurd h (by decide)) (fun h => h.elim (fun h => absurd h (by decide)) (fun h => h.elim (fun h => absurd h (by decide)) (fun h => h.elim (fun h => absurd h.1 (by decide)) (fun h => absurd h.1 (by decide))))))).trans rfl)) ((funext fun i0 => frM_1224 332 i0 (fun h => h.elim (fun h => absurd h (by decide)) (fun h => h.elim (fun h => absurd h (by decide)) (fun h => h.elim (fun h => absurd h (by decide)) (fun h => h.elim (fun h => absurd h.1 (by decide)) (fun h => absurd h.1 (by decide))))))).trans ((funext fun i0 => frM_1210 332 i0 (fun h => h.elim (fun h => absurd h (by decide)) (fun h => h.elim (fun h => absurd h (by decide)) (fun h => h.elim (fun h => absurd h (by decide)) (fun h => h.elim (fun h => absurd h.1 (by decide)) (fun h => absurd h.1 (by decide))))))).trans rfl)) ((funext fun i0 => frM_1224 333 i0 (fun h => h.elim (fun h => absurd h (by decide)) (fun h => h.elim (fun h => absurd h (by decide)) (fun h => h.elim (fun h => absurd h (by decide)) (fun h => h.elim (fun h => absurd h.1 (by decide)) (fun h => absurd h.1 (by decide))))))).trans ((funext fun i0 => frM_1210 333 i0 (fun h => h.elim (fun h => absurd h (by decide)) (fun h => h.elim (fun h => absurd h (by decide)) (fun h => h.elim (fun h => absurd h (by decide)) (fun h => h.elim (fun h => absurd h.1 (by decide)) (fun h => absurd h.1 (by decide))))))).trans rfl)) ((funext fun i0 => frM_1224 339 i0 (fun h => h.elim (fun h => absurd h (by decide)) (fun h => h.elim (fun h => absurd h (by decide)) (fun h => h.elim (fun h => absurd h (by decide)) (fun h => h.elim (fun h => absurd h.1 (by decide)) (fun h => absurd h.1 (by decide))))))).trans ((funext fun i0 => frM_1210 339 i0 (fun h => h.elim (fun h => absurd h (by decide)) (fun h => h.elim (fun h => absurd h (by decide)) (fun h => h.elim (fun h => absurd h (by decide)) (fun h => h.elim (fun h => absurd h.1 (by decide)) (fun h => absurd h.1 (by decide))))))).trans rfl)) ((frM_1224 330 4 (fun h => h.elim (fun h => absurd h (by decide)) (fun h => h.elim (fun h => absurd h (by decide)) (fun h => h.elim (fun h => absurd h (by decide)) (fun h => h.elim (fun h => absurd h.2 (by decide)) (fun h => absurd h.2 (by decide))))))).trans ((frM_1210 330 4 (fun h => h.elim (fun h => absurd h (by decide)) (fun h => h.elim (fun h => absurd h (by decide)) (fun h => h.elim (fun h => absurd h (by decide)) (fun h => h.elim (fun h => absurd h.1 (by decide)) (fun h => absurd h.1 (by decide))))))).trans rfl)) ((frM_1224 330 5 (fun h => h.elim (fun h => absurd h (by decide)) (fun h => h.elim (fun h => absurd h (by decide)) (fun h => h.elim (fun h => absurd h (by decide)) (fun h => h.elim (fun h => absurd h.2 (by decide)) (fun h => absurd h.2 (by decide))))))).trans ((frM_1210 330 5 (fun h => h.elim (fun h => absurd h (by decide)) (fun h => h.elim (fun h => absurd h (by decide)) (fun h => h.elim (fun h => absurd h (by decide)) (fun h => h.elim (fun h => absurd h.1 (by decide)) (fun h => absurd h.1 (by decide))))))).trans rfl)) ((frM_1224 330 17 (fun h => h.elim (fun h => absurd h (by decide)) (fun h => h.elim (fun h => absurd h (by decide)) (fun h => h.elim (fun h => absurd h (by decide)) (fun h => h.elim (fun h => absurd h.2 (by decide)) (fun h => absurd h.2 (by decide))))))).trans ((frM_1210 330 17 (fun h => h.elim (fun h => absurd h (by decide)) (fun h => h.elim (fun h => absurd h (by decide)) (fun h => h.elim (fun h => absurd h (by decide)) (fun h => h.elim (fun h => absurd h.1 (by decide)) (fun h => absurd h.1 (by decide))))))).trans rfl)) ((frM_1224 330 24 (fun h => h.elim (fun h => absurd h (by decide)) (fun h => h.elim (fun h => absurd h (by decide)) (fun h => h.elim (fun h => absurd h (by decide)) (fun h => h.elim (fun h => absurd h.2 (by decide)) (fun h => absurd h.2 (by decide))))))).trans ((frM_1210 330 24 (fun h => h.elim (fun h => absurd h (by decide)) (fun h => h.elim (fun h => absurd h (by decide)) (fun h => h.elim (fun h => absurd h (by decide)) (fun h => h.elim (fun h => absurd h.1 (by decide)) (fun h => absurd h.1 (by decide))))))).trans rfl)) ((frM_1224 330 26 (fun h => h.elim (fun h => absurd h (by decide)) (fun h => h.elim (fun h => absurd h (by decide)) (fun h => h.elim (fun h => absurd h (by decide)) (fun h => h.elim (fun h => absurd h.2 (by decide)) (fun h => absurd h.2 (by decide))))))).trans ((frM_1210 330 26 (fun h => h.elim (fun h => absurd h (by decide)) (fun h => h.elim (fun h => absurd h (by decide)) (fun h => h.elim (fun h => absurd h (by decide)) (fun h => h.elim (fun h => absurd h.1 (by decide)) (fun h => absurd h.1 (by decide))))))).trans rfl)) ((frM_1224 330 21 (fun h => h.elim (fun h => absurd h (by decide)) (fun h => h.elim (fun h => absurd h (by decide)) (fun h => h.elim (fun h => absurd h (by decide)) (fun h => h.elim (fun h => absurd h.2 (by decide)) (fun h => absurd h.2 (by decide))))))).trans ((frM_1210 330 21 (fun h => h.elim (fun h => absurd h (by decide)) (fun h => h.elim (fun h => absurd h (by decide)) (fun h => h.elim (fun h => absurd h (by decide)) (fun h => h.elim (fun h => absurd h.1 (by decide)) (fun h => absurd h.1 (by decide))))))).trans rfl)) hv)
  · exfalso
    exact h1227 rfl
set_option maxRecDepth 20000 in
theorem lc_30 (E : ax_Env) (l : Launch) (d : Nat) (hd : 60 ≤ d) (M : ax_Mem) (Q : ax_Post) (i : Int) (hx : ax_xl E ≤ 3072) (hi : 0 ≤ i ∧ i + 6 ≤ (ax_xl E : Int)) (hI : f_INV M) (kk : ∀ M2, f_INV M2 → ax_W E l (d + 1) 0 0 iL_law 1416 [some (.inr (-2)), some (.inr 0), some (.inr 330), some (.inl i)] [] SH M2 Q) : ax_W E l (d + 1) 0 0 iL_law 1232 [some (.inr (-2)), some (.inr 0), some (.inr 330), some (.inl i)] [] SH M Q := by
  obtain ⟨hv, Ls, Lk, hI⟩ := hI
  have hnb := hI.1.1
  have hjv := hI.1.2.1
  have hlq := hI.1.2.2
  have hpr := hI.2.1.1
  have hhs := hI.2.1.2
  have hlo := hI.2.2.1
  have qta := hI.2.2.2.1.1
  have qtn := hI.2.2.2.1.2.1
  have qt4 := hI.2.2.2.1.2.2.1
  have qtp := hI.2.2.2.1.2.2.2
  obtain ⟨a1, qa1⟩ : ∃ z, z = (ax_xs E (i + 1).toNat).toInt := ⟨_, rfl⟩
  have ca1 : -2147483648 ≤ a1 ∧ a1 < 2147483648 := by rw [qa1]; exact ax_can_toInt _
  obtain ⟨a2, qa2⟩ : ∃ z, z = (ax_xs E (i + 2).toNat).toInt := ⟨_, rfl⟩
  have ca2 : -2147483648 ≤ a2 ∧ a2 < 2147483648 := by rw [qa2]; exact ax_can_toInt _
  obtain ⟨a3, qa3⟩ : ∃ z, z = (ax_xs E (i + 3).toNat).toInt := ⟨_, rfl⟩
  have ca3 : -2147483648 ≤ a3 ∧ a3 < 2147483648 := by rw [qa3]; exact ax_can_toInt _
  obtain ⟨a4, qa4⟩ : ∃ z, z = (ax_xs E (i + 4).toNat).toInt := ⟨_, rfl⟩
  have ca4 : -2147483648 ≤ a4 ∧ a4 < 2147483648 := by rw [qa4]; exact ax_can_toInt _
  obtain ⟨a5, qa5⟩ : ∃ z, z = (ax_xs E (i + 5).toNat).toInt := ⟨_, rfl⟩
  have ca5 : -2147483648 ≤ a5 ∧ a5 < 2147483648 := by rw [qa5]; exact ax_can_toInt _
  refine ax_aload_n dL_law_1232 rfl rfl (pc' := 1233) rfl ?_
  refine ax_aload_n dL_law_1233 rfl rfl (pc' := 1234) rfl ?_
  refine ax_iload_n dL_law_1234 rfl rfl (pc' := 1235) rfl ?_
  refine ax_iconst dL_law_1235 (by decide) (pc' := 1236) rfl ?_
  refine ax_iadd dL_law_1236 (by omega) (pc' := 1237) rfl ?_
  refine ax_sald (v := a1) dL_law_1237 (by omega) (by omega) qa1.symm (pc' := 1238) rfl ?_
  refine ax_aload_n dL_law_1238 rfl rfl (pc' := 1239) rfl ?_
  refine ax_iload_n dL_law_1239 rfl rfl (pc' := 1240) rfl ?_
  refine ax_iconst dL_law_1240 (by decide) (pc' := 1241) rfl ?_
  refine ax_iadd dL_law_1241 (by omega) (pc' := 1242) rfl ?_
  refine ax_sald (v := a2) dL_law_1242 (by omega) (by omega) qa2.symm (pc' := 1243) rfl ?_
  refine ax_invG [.inl a1, .inl a2] [] dL_law_1243 mlL_142 sh_0 rfl rfl rfl (Nat.le_of_ble_eq_true rfl) (s_X11_shape E l _ (by omega) _ a1 a2 (M 331) hlo.2.2.1 hlq.2.2.1) (pc' := 1246) rfl (fun vv M_1243 hq co1243 hcm1243 => ?_)
  obtain ⟨rfl, rfl⟩ := hq
  refine ax_reS (st2 := [.inl (F_shape (M 331) a1 a2)]) rfl ?_
  have cc1243 : -2147483648 ≤ F_shape (M 331) a1 a2 ∧ F_shape (M 331) a1 a2 < 2147483648 := co1243 _ rfl
  refine ax_aload_n dL_law_1246 rfl rfl (pc' := 1247) rfl ?_
  refine ax_aload_n dL_law_1247 rfl rfl (pc' := 1248) rfl ?_
  refine ax_iload_n dL_law_1248 rfl rfl (pc' := 1249) rfl ?_
  refine ax_iconst dL_law_1249 (by decide) (pc' := 1250) rfl ?_
  refine ax_iadd dL_law_1250 (by omega) (pc' := 1251) rfl ?_
  refine ax_sald (v := a1) dL_law_1251 (by omega) (by omega) qa1.symm (pc' := 1252) rfl ?_
  refine ax_aload_n dL_law_1252 rfl rfl (pc' := 1253) rfl ?_
  refine ax_iload_n dL_law_1253 rfl rfl (pc' := 1254) rfl ?_
  refine ax_iconst dL_law_1254 (by decide) (pc' := 1255) rfl ?_
  refine ax_iadd dL_law_1255 (by omega) (pc' := 1256) rfl ?_
  refine ax_sald (v := a2) dL_law_1256 (by omega) (by omega) qa2.symm (pc' := 1257) rfl ?_
  refine ax_invG [.inl a1, .inl a2] [.inl (F_shape (M 331) a1 a2)] dL_law_1257 mlL_145 sh_330 rfl rfl rfl (Nat.le_of_ble_eq_true rfl) (s_X12_shape E l _ (by omega) _ a1 a2 rfl hlq.2.2.1) (pc' := 1260) rfl (fun vv M_1257 hq co1257 hcm1257 => ?_)
  obtain ⟨rfl, rfl⟩ := hq
  refine ax_reS (st2 := [.inl (F_shape (M 331) a1 a2), .inl (F_shape (M 331) a1 a2)]) rfl ?_
  have cc1257 : -2147483648 ≤ F_shape (M 331) a1 a2 ∧ F_shape (M 331) a1 a2 < 2147483648 := co1257 _ rfl
  refine ax_icmp_eq (tgt := 1416) dL_law_1260 (by decide) (pc' := 1263) rfl (fun h1260 => ?_) (fun h1260 => ?_)
  · exact kk _ ⟨hv, Ls, Lk, hI⟩
  · exfalso
    exact h1260 rfl
set_option maxRecDepth 20000 in
theorem lc_31 (E : ax_Env) (l : Launch) (d : Nat) (hd : 60 ≤ d) (M : ax_Mem) (Q : ax_Post) (i : Int) (hx : ax_xl E ≤ 3072) (hi : 0 ≤ i ∧ i + 6 ≤ (ax_xl E : Int)) (hI : f_INV M) (kk : ∀ M2, f_INV M2 → ax_W E l (d + 1) 0 0 iL_law 1416 [some (.inr (-2)), some (.inr 0), some (.inr 330), some (.inl i)] [] SH M2 Q) : ax_W E l (d + 1) 0 0 iL_law 1265 [some (.inr (-2)), some (.inr 0), some (.inr 330), some (.inl i)] [] SH M Q := by
  obtain ⟨hv, Ls, Lk, hI⟩ := hI
  have hnb := hI.1.1
  have hjv := hI.1.2.1
  have hlq := hI.1.2.2
  have hpr := hI.2.1.1
  have hhs := hI.2.1.2
  have hlo := hI.2.2.1
  have qta := hI.2.2.2.1.1
  have qtn := hI.2.2.2.1.2.1
  have qt4 := hI.2.2.2.1.2.2.1
  have qtp := hI.2.2.2.1.2.2.2
  obtain ⟨a1, qa1⟩ : ∃ z, z = (ax_xs E (i + 1).toNat).toInt := ⟨_, rfl⟩
  have ca1 : -2147483648 ≤ a1 ∧ a1 < 2147483648 := by rw [qa1]; exact ax_can_toInt _
  obtain ⟨a2, qa2⟩ : ∃ z, z = (ax_xs E (i + 2).toNat).toInt := ⟨_, rfl⟩
  have ca2 : -2147483648 ≤ a2 ∧ a2 < 2147483648 := by rw [qa2]; exact ax_can_toInt _
  obtain ⟨a3, qa3⟩ : ∃ z, z = (ax_xs E (i + 3).toNat).toInt := ⟨_, rfl⟩
  have ca3 : -2147483648 ≤ a3 ∧ a3 < 2147483648 := by rw [qa3]; exact ax_can_toInt _
  obtain ⟨a4, qa4⟩ : ∃ z, z = (ax_xs E (i + 4).toNat).toInt := ⟨_, rfl⟩
  have ca4 : -2147483648 ≤ a4 ∧ a4 < 2147483648 := by rw [qa4]; exact ax_can_toInt _
  obtain ⟨a5, qa5⟩ : ∃ z, z = (ax_xs E (i + 5).toNat).toInt := ⟨_, rfl⟩
  have ca5 : -2147483648 ≤ a5 ∧ a5 < 2147483648 := by rw [qa5]; exact ax_can_toInt _
  refine ax_aload_n dL_law_1265 rfl rfl (pc' := 1266) rfl ?_
  refine ax_aload_n dL_law_1266 rfl rfl (pc' := 1267) rfl ?_
  refine ax_iload_n dL_law_1267 rfl rfl (pc' := 1268) rfl ?_
  refine ax_iconst dL_law_1268 (by decide) (pc' := 1269) rfl ?_
  refine ax_iadd dL_law_1269 (by omega) (pc' := 1270) rfl ?_
  refine ax_sald (v := a1) dL_law_1270 (by omega) (by omega) qa1.symm (pc' := 1271) rfl ?_
  refine ax_aload_n dL_law_1271 rfl rfl (pc' := 1272) rfl ?_
  refine ax_iload_n dL_law_1272 rfl rfl (pc' := 1273) rfl ?_
  refine ax_iconst dL_law_1273 (by decide) (pc' := 1274) rfl ?_
  refine ax_iadd dL_law_1274 (by omega) (pc' := 1275) rfl ?_
  refine ax_sald (v := a2) dL_law_1275 (by omega) (by omega) qa2.symm (pc' := 1276) rfl ?_
  refine ax_invG [.inl a1, .inl a2] [] dL_law_1276 mlL_146 sh_0 rfl rfl rfl (Nat.le_of_ble_eq_true rfl) (s_X11_unlike E l _ (by omega) _ a1 a2 (M 331) hlo.2.2.1 hlq.2.2.1) (pc' := 1279) rfl (fun vv M_1276 hq co1276 hcm1276 => ?_)
  obtain ⟨rfl, rfl⟩ := hq
  refine ax_reS (st2 := [.inl (F_unlike (M 331) a1 a2)]) rfl ?_
  have cc1276 : -2147483648 ≤ F_unlike (M 331) a1 a2 ∧ F_unlike (M 331) a1 a2 < 2147483648 := co1276 _ rfl
  refine ax_aload_n dL_law_1279 rfl rfl (pc' := 1280) rfl ?_
  refine ax_aload_n dL_law_1280 rfl rfl (pc' := 1281) rfl ?_
  refine ax_iload_n dL_law_1281 rfl rfl (pc' := 1282) rfl ?_
  refine ax_iconst dL_law_1282 (by decide) (pc' := 1283) rfl ?_
  refine ax_iadd dL_law_1283 (by omega) (pc' := 1284) rfl ?_
  refine ax_sald (v := a1) dL_law_1284 (by omega) (by omega) qa1.symm (pc' := 1285) rfl ?_
  refine ax_aload_n dL_law_1285 rfl rfl (pc' := 1286) rfl ?_
  refine ax_iload_n dL_law_1286 rfl rfl (pc' := 1287) rfl ?_
  refine ax_iconst dL_law_1287 (by decide) (pc' := 1288) rfl ?_
  refine ax_iadd dL_law_1288 (by omega) (pc' := 1289) rfl ?_
  refine ax_sald (v := a2) dL_law_1289 (by omega) (by omega) qa2.symm (pc' := 1290) rfl ?_
  refine ax_invG [.inl a1, .inl a2] [.inl (F_unlike (M 331) a1 a2)] dL_law_1290 mlL_149 sh_330 rfl rfl rfl (Nat.le_of_ble_eq_true rfl) (s_X12_unlike E l _ (by omega) _ a1 a2 rfl hlq.2.2.1) (pc' := 1293) rfl (fun vv M_1290 hq co1290 hcm1290 => ?_)
  obtain ⟨rfl, rfl⟩ := hq
  refine ax_reS (st2 := [.inl (F_unlike (M 331) a1 a2), .inl (F_unlike (M 331) a1 a2)]) rfl ?_
  have cc1290 : -2147483648 ≤ F_unlike (M 331) a1 a2 ∧ F_unlike (M 331) a1 a2 < 2147483648 := co1290 _ rfl
  refine ax_icmp_eq (tgt := 1416) dL_law_1293 (by decide) (pc' := 1296) rfl (fun h1293 => ?_) (fun h1293 => ?_)
  · exact kk _ ⟨hv, Ls, Lk, hI⟩
  · exfalso
    exact h1293 rfl
set_option maxRecDepth 20000 in
theorem lc_35 (E : ax_Env) (l : Launch) (d : Nat) (hd : 60 ≤ d) (M : ax_Mem) (Q : ax_Post) (i : Int) (hx : ax_xl E ≤ 3072) (hi : 0 ≤ i ∧ i + 6 ≤ (ax_xl E : Int)) (hI : f_INV M) (kk : ∀ M2, f_INV M2 → ax_W E l (d + 1) 0 0 iL_law 1416 [some (.inr (-2)), some (.inr 0), some (.inr 330), some (.inl i)] [] SH M2 Q) : ax_W E l (d + 1) 0 0 iL_law 1393 [some (.inr (-2)), some (.inr 0), some (.inr 330), some (.inl i)] [] SH M Q := by
  obtain ⟨hv, Ls, Lk, hI⟩ := hI
  have hnb := hI.1.1
  have hjv := hI.1.2.1
  have hlq := hI.1.2.2
  have hpr := hI.2.1.1
  have hhs := hI.2.1.2
  have hlo := hI.2.2.1
  have qta := hI.2.2.2.1.1
  have qtn := hI.2.2.2.1.2.1
  have qt4 := hI.2.2.2.1.2.2.1
  have qtp := hI.2.2.2.1.2.2.2
  obtain ⟨a1, qa1⟩ : ∃ z, z = (ax_xs E (i + 1).toNat).toInt := ⟨_, rfl⟩
  have ca1 : -2147483648 ≤ a1 ∧ a1 < 2147483648 := by rw [qa1]; exact ax_can_toInt _
  obtain ⟨a2, qa2⟩ : ∃ z, z = (ax_xs E (i + 2).toNat).toInt := ⟨_, rfl⟩
  have ca2 : -2147483648 ≤ a2 ∧ a2 < 2147483648 := by rw [qa2]; exact ax_can_toInt _
  obtain ⟨a3, qa3⟩ : ∃ z, z = (ax_xs E (i + 3).toNat).toInt := ⟨_, rfl⟩
  have ca3 : -2147483648 ≤ a3 ∧ a3 < 2147483648 := by rw [qa3]; exact ax_can_toInt _
  obtain ⟨a4, qa4⟩ : ∃ z, z = (ax_xs E (i + 4).toNat).toInt := ⟨_, rfl⟩
  have ca4 : -2147483648 ≤ a4 ∧ a4 < 2147483648 := by rw [qa4]; exact ax_can_toInt _
  obtain ⟨a5, qa5⟩ : ∃ z, z = (ax_xs E (i + 5).toNat).toInt := ⟨_, rfl⟩
  have ca5 : -2147483648 ≤ a5 ∧ a5 < 2147483648 := by rw [qa5]; exact ax_can_toInt _
  refine ax_aload_n dL_law_1393 rfl rfl (pc' := 1394) rfl ?_
  refine ax_aload_n dL_law_1394 rfl rfl (pc' := 1395) rfl ?_
  refine ax_iload_n dL_law_1395 rfl rfl (pc' := 1396) rfl ?_
  refine ax_iconst dL_law_1396 (by decide) (pc' := 1397) rfl ?_
  refine ax_iadd dL_law_1397 (by omega) (pc' := 1398) rfl ?_
  refine ax_sald (v := a1) dL_law_1398 (by omega) (by omega) qa1.symm (pc' := 1399) rfl ?_
  refine ax_invG [.inl a1] [] dL_law_1399 mlL_164 sh_0 rfl rfl rfl (Nat.le_of_ble_eq_true rfl) (s_X11_look E l _ (by omega) _ a1 Ls (M 331) (M 333) (M 330 4) hnb hjv hpr hlo.1 hlo.2.1.1 hlo.2.2.2.1.1 hlo.2.2.2.2.1) (pc' := 1402) rfl (fun vv M_1399 hq co1399 hcm1399 => ?_)
  obtain ⟨rfl, rfl⟩ := hq
  refine ax_reS (st2 := [.inl (F_look (M 331) (M 330 4) a1)]) rfl ?_
  have cc1399 : -2147483648 ≤ F_look (M 331) (M 330 4) a1 ∧ F_look (M 331) (M 330 4) a1 < 2147483648 := co1399 _ rfl
  refine ax_aload_n dL_law_1402 rfl rfl (pc' := 1403) rfl ?_
  refine ax_aload_n dL_law_1403 rfl rfl (pc' := 1404) rfl ?_
  refine ax_iload_n dL_law_1404 rfl rfl (pc' := 1405) rfl ?_
  refine ax_iconst dL_law_1405 (by decide) (pc' := 1406) rfl ?_
  refine ax_iadd dL_law_1406 (by omega) (pc' := 1407) rfl ?_
  refine ax_sald (v := a1) dL_law_1407 (by omega) (by omega) qa1.symm (pc' := 1408) rfl ?_
  refine ax_invG [.inl a1] [.inl (F_look (M 331) (M 330 4) a1)] dL_law_1408 mlL_167 sh_330 rfl rfl rfl (Nat.le_of_ble_eq_true rfl) (s_X12_look E l _ (by omega) _ a1 rfl rfl) (pc' := 1411) rfl (fun vv M_1408 hq co1408 hcm1408 => ?_)
  obtain ⟨rfl, rfl⟩ := hq
  refine ax_reS (st2 := [.inl (F_look (M 331) (M 330 4) a1), .inl (F_look (M 331) (M 330 4) a1)]) rfl ?_
  have cc1408 : -2147483648 ≤ F_look (M 331) (M 330 4) a1 ∧ F_look (M 331) (M 330 4) a1 < 2147483648 := co1408 _ rfl
  refine ax_icmp_eq (tgt := 1416) dL_law_1411 (by decide) (pc' := 1414) rfl (fun h1411 => ?_) (fun h1411 => ?_)
  · exact kk _ ⟨hv, Ls, Lk, hI⟩
  · exfalso
    exact h1411 rfl
set_option maxRecDepth 20000 in
theorem lc_14 (E : ax_Env) (l : Launch) (d : Nat) (hd : 60 ≤ d) (M : ax_Mem) (Q : ax_Post) (i : Int) (hx : ax_xl E ≤ 3072) (hi : 0 ≤ i ∧ i + 6 ≤ (ax_xl E : Int)) (hI : f_INV M) (kk : ∀ M2, f_INV M2 → ax_W E l (d + 1) 0 0 iL_law 1416 [some (.inr (-2)), some (.inr 0), some (.inr 330), some (.inl i)] [] SH M2 Q) : ax_W E l (d + 1) 0 0 iL_law 674 [some (.inr (-2)), some (.inr 0), some (.inr 330), some (.inl i)] [] SH M Q := by
  obtain ⟨hv, Ls, Lk, hI⟩ := hI
  have hnb := hI.1.1
  have hjv := hI.1.2.1
  have hlq := hI.1.2.2
  have hpr := hI.2.1.1
  have hhs := hI.2.1.2
  have hlo := hI.2.2.1
  have qta := hI.2.2.2.1.1
  have qtn := hI.2.2.2.1.2.1
  have qt4 := hI.2.2.2.1.2.2.1
  have qtp := hI.2.2.2.1.2.2.2
  obtain ⟨a1, qa1⟩ : ∃ z, z = (ax_xs E (i + 1).toNat).toInt := ⟨_, rfl⟩
  have ca1 : -2147483648 ≤ a1 ∧ a1 < 2147483648 := by rw [qa1]; exact ax_can_toInt _
  obtain ⟨a2, qa2⟩ : ∃ z, z = (ax_xs E (i + 2).toNat).toInt := ⟨_, rfl⟩
  have ca2 : -2147483648 ≤ a2 ∧ a2 < 2147483648 := by rw [qa2]; exact ax_can_toInt _
  obtain ⟨a3, qa3⟩ : ∃ z, z = (ax_xs E (i + 3).toNat).toInt := ⟨_, rfl⟩
  have ca3 : -2147483648 ≤ a3 ∧ a3 < 2147483648 := by rw [qa3]; exact ax_can_toInt _
  obtain ⟨a4, qa4⟩ : ∃ z, z = (ax_xs E (i + 4).toNat).toInt := ⟨_, rfl⟩
  have ca4 : -2147483648 ≤ a4 ∧ a4 < 2147483648 := by rw [qa4]; exact ax_can_toInt _
  obtain ⟨a5, qa5⟩ : ∃ z, z = (ax_xs E (i + 5).toNat).toInt := ⟨_, rfl⟩
  have ca5 : -2147483648 ≤ a5 ∧ a5 < 2147483648 := by rw [qa5]; exact ax_can_toInt _
  refine ax_aload_n dL_law_674 rfl rfl (pc' := 675) rfl ?_
  refine ax_aload_n dL_law_675 rfl rfl (pc' := 676) rfl ?_
  refine ax_iload_n dL_law_676 rfl rfl (pc' := 677) rfl ?_
  refine ax_iconst dL_law_677 (by decide) (pc' := 678) rfl ?_
  refine ax_iadd dL_law_678 (by omega) (pc' := 679) rfl ?_
  refine ax_sald (v := a1) dL_law_679 (by omega) (by omega) qa1.symm (pc' := 680) rfl ?_
  refine ax_invG [.inl a1] [] dL_law_680 mlL_76 sh_0 rfl rfl rfl (Nat.le_of_ble_eq_true rfl) (s_X11_fault E l _ (by omega) _ a1 rfl rfl) (pc' := 683) rfl (fun vv M_680 hq co680 hcm680 => ?_)
  obtain ⟨rfl, rfl⟩ := hq
  refine ax_reS (st2 := [.inl (if a1 = 0 then (M 58 2) else if a1 = 1 then (M 58 3) else -1)]) rfl ?_
  have cc680 : -2147483648 ≤ (if a1 = 0 then (M 58 2) else if a1 = 1 then (M 58 3) else -1) ∧ (if a1 = 0 then (M 58 2) else if a1 = 1 then (M 58 3) else -1) < 2147483648 := co680 _ rfl
  refine ax_aload_n dL_law_683 rfl rfl (pc' := 684) rfl ?_
  refine ax_aload_n dL_law_684 rfl rfl (pc' := 685) rfl ?_
  refine ax_iload_n dL_law_685 rfl rfl (pc' := 686) rfl ?_
  refine ax_iconst dL_law_686 (by decide) (pc' := 687) rfl ?_
  refine ax_iadd dL_law_687 (by omega) (pc' := 688) rfl ?_
  refine ax_sald (v := a1) dL_law_688 (by omega) (by omega) qa1.symm (pc' := 689) rfl ?_
  refine ax_invG [.inl a1] [.inl (if a1 = 0 then (M 58 2) else if a1 = 1 then (M 58 3) else -1)] dL_law_689 mlL_79 sh_330 rfl rfl rfl (Nat.le_of_ble_eq_true rfl) (s_X12_fault E l _ (by omega) _ a1 rfl rfl) (pc' := 692) rfl (fun vv M_689 hq co689 hcm689 => ?_)
  obtain ⟨rfl, rfl⟩ := hq
  refine ax_reS (st2 := [.inl (if a1 = 0 then (M 330 24) else if a1 = 1 then (M 330 26) else -1), .inl (if a1 = 0 then (M 58 2) else if a1 = 1 then (M 58 3) else -1)]) rfl ?_
  have cc689 : -2147483648 ≤ (if a1 = 0 then (M 330 24) else if a1 = 1 then (M 330 26) else -1) ∧ (if a1 = 0 then (M 330 24) else if a1 = 1 then (M 330 26) else -1) < 2147483648 := co689 _ rfl
  refine ax_icmp_eq (tgt := 1416) dL_law_692 (by decide) (pc' := 695) rfl (fun h692 => ?_) (fun h692 => ?_)
  · exact kk _ ⟨hv, Ls, Lk, hI⟩
  · exfalso
    rw [hI.2.2.2.2.1.1, hI.2.2.2.2.1.2] at h692
    exact h692 rfl
set_option maxRecDepth 20000 in
theorem lc_3 (E : ax_Env) (l : Launch) (d : Nat) (hd : 60 ≤ d) (M : ax_Mem) (Q : ax_Post) (i : Int) (hx : ax_xl E ≤ 3072) (hi : 0 ≤ i ∧ i + 6 ≤ (ax_xl E : Int)) (hI : f_INV M) (kk : ∀ M2, f_INV M2 → ax_W E l (d + 1) 0 0 iL_law 1416 [some (.inr (-2)), some (.inr 0), some (.inr 330), some (.inl i)] [] SH M2 Q) : ax_W E l (d + 1) 0 0 iL_law 291 [some (.inr (-2)), some (.inr 0), some (.inr 330), some (.inl i)] [] SH M Q := by
  obtain ⟨hv, Ls, Lk, hI⟩ := hI
  have hnb := hI.1.1
  have hjv := hI.1.2.1
  have hlq := hI.1.2.2
  have hpr := hI.2.1.1
  have hhs := hI.2.1.2
  have hlo := hI.2.2.1
  have qta := hI.2.2.2.1.1
  have qtn := hI.2.2.2.1.2.1
  have qt4 := hI.2.2.2.1.2.2.1
  have qtp := hI.2.2.2.1.2.2.2
  obtain ⟨a1, qa1⟩ : ∃ z, z = (ax_xs E (i + 1).toNat).toInt := ⟨_, rfl⟩
  have ca1 : -2147483648 ≤ a1 ∧ a1 < 2147483648 := by rw [qa1]; exact ax_can_toInt _
  obtain ⟨a2, qa2⟩ : ∃ z, z = (ax_xs E (i + 2).toNat).toInt := ⟨_, rfl⟩
  have ca2 : -2147483648 ≤ a2 ∧ a2 < 2147483648 := by rw [qa2]; exact ax_can_toInt _
  obtain ⟨a3, qa3⟩ : ∃ z, z = (ax_xs E (i + 3).toNat).toInt := ⟨_, rfl⟩
  have ca3 : -2147483648 ≤ a3 ∧ a3 < 2147483648 := by rw [qa3]; exact ax_can_toInt _
  obtain ⟨a4, qa4⟩ : ∃ z, z = (ax_xs E (i + 4).toNat).toInt := ⟨_, rfl⟩
  have ca4 : -2147483648 ≤ a4 ∧ a4 < 2147483648 := by rw [qa4]; exact ax_can_toInt _
  obtain ⟨a5, qa5⟩ : ∃ z, z = (ax_xs E (i + 5).toNat).toInt := ⟨_, rfl⟩
  have ca5 : -2147483648 ≤ a5 ∧ a5 < 2147483648 := by rw [qa5]; exact ax_can_toInt _
  refine ax_aload_n dL_law_291 rfl rfl (pc' := 292) rfl ?_
  refine ax_aload_n dL_law_292 rfl rfl (pc' := 293) rfl ?_
  refine ax_iload_n dL_law_293 rfl rfl (pc' := 294) rfl ?_
  refine ax_iconst dL_law_294 (by decide) (pc' := 295) rfl ?_
  refine ax_iadd dL_law_295 (by omega) (pc' := 296) rfl ?_
  refine ax_sald (v := a1) dL_law_296 (by omega) (by omega) qa1.symm (pc' := 297) rfl ?_
  refine ax_aload_n dL_law_297 rfl rfl (pc' := 298) rfl ?_
  refine ax_iload_n dL_law_298 rfl rfl (pc' := 299) rfl ?_
  refine ax_iconst dL_law_299 (by decide) (pc' := 300) rfl ?_
  refine ax_iadd dL_law_300 (by omega) (pc' := 301) rfl ?_
  refine ax_sald (v := a2) dL_law_301 (by omega) (by omega) qa2.symm (pc' := 302) rfl ?_
  refine ax_aload_n dL_law_302 rfl rfl (pc' := 303) rfl ?_
  refine ax_iload_n dL_law_303 rfl rfl (pc' := 304) rfl ?_
  refine ax_iconst dL_law_304 (by decide) (pc' := 305) rfl ?_
  refine ax_iadd dL_law_305 (by omega) (pc' := 306) rfl ?_
  refine ax_sald (v := a3) dL_law_306 (by omega) (by omega) qa3.symm (pc' := 307) rfl ?_
  refine ax_aload_n dL_law_307 rfl rfl (pc' := 308) rfl ?_
  refine ax_iload_n dL_law_308 rfl rfl (pc' := 309) rfl ?_
  refine ax_iconst dL_law_309 (by decide) (pc' := 310) rfl ?_
  refine ax_iadd dL_law_310 (by omega) (pc' := 311) rfl ?_
  refine ax_sald (v := a4) dL_law_311 (by omega) (by omega) qa4.symm (pc' := 312) rfl ?_
  by_cases hc : f_isP (M 331) a1 a2 ∧ f_P (M 331) a1 a2 0 = -1 ∧ 0 ≤ a3 ∧ a3 ≤ 5 ∧ 0 ≤ a4 ∧ a4 ≤ 9
  · have hr8 : 0 ≤ a1 ∧ a1 < 8 := by omega
    have hl24 := (hjv.1.1 a1 hr8.1 hr8.2).2.2
    have hp24 : 0 ≤ a2 ∧ a2 < 24 := by omega
    have hk6 : 0 ≤ a3 ∧ a3 < 6 := by omega
    refine ax_invG [.inl a1, .inl a2, .inl a3, .inl a4] [] dL_law_312 mlL_28 sh_0 rfl rfl rfl (Nat.le_of_ble_eq_true rfl) (s_X11_tie_ok E l _ (by omega) _ a1 a2 a3 a4 Ls (M 331) (M 333) (M 330 4) hnb hjv hpr hc) (pc' := 315) rfl (fun vv M_312 hq co312 hcm312 => ?_)
    obtain ⟨rfl, frM_312, fa312_0, fa312_1⟩ := hq
    refine ax_reS (st2 := [.inl 1]) rfl ?_
    refine ax_aload_n dL_law_315 rfl rfl (pc' := 316) rfl ?_
    refine ax_aload_n dL_law_316 rfl rfl (pc' := 317) rfl ?_
    refine ax_iload_n dL_law_317 rfl rfl (pc' := 318) rfl ?_
    refine ax_iconst dL_law_318 (by decide) (pc' := 319) rfl ?_
    refine ax_iadd dL_law_319 (by omega) (pc' := 320) rfl ?_
    refine ax_sald (v := a1) dL_law_320 (by omega) (by omega) qa1.symm (pc' := 321) rfl ?_
    refine ax_aload_n dL_law_321 rfl rfl (pc' := 322) rfl ?_
    refine ax_iload_n dL_law_322 rfl rfl (pc' := 323) rfl ?_
    refine ax_iconst dL_law_323 (by decide) (pc' := 324) rfl ?_
    refine ax_iadd dL_law_324 (by omega) (pc' := 325) rfl ?_
    refine ax_sald (v := a2) dL_law_325 (by omega) (by omega) qa2.symm (pc' := 326) rfl ?_
    refine ax_aload_n dL_law_326 rfl rfl (pc' := 327) rfl ?_
    refine ax_iload_n dL_law_327 rfl rfl (pc' := 328) rfl ?_
    refine ax_iconst dL_law_328 (by decide) (pc' := 329) rfl ?_
    refine ax_iadd dL_law_329 (by omega) (pc' := 330) rfl ?_
    refine ax_sald (v := a3) dL_law_330 (by omega) (by omega) qa3.symm (pc' := 331) rfl ?_
    refine ax_aload_n dL_law_331 rfl rfl (pc' := 332) rfl ?_
    refine ax_iload_n dL_law_332 rfl rfl (pc' := 333) rfl ?_
    refine ax_iconst dL_law_333 (by decide) (pc' := 334) rfl ?_
    refine ax_iadd dL_law_334 (by omega) (pc' := 335) rfl ?_
    refine ax_sald (v := a4) dL_law_335 (by omega) (by omega) qa4.symm (pc' := 336) rfl ?_
    refine ax_invG [.inl a1, .inl a2, .inl a3, .inl a4] [.inl 1] dL_law_336 mlL_32 sh_330 rfl rfl rfl (Nat.le_of_ble_eq_true rfl) (s_X12_tie_ok E l _ (by omega) _ a1 a2 a3 a4 ((funext fun i0 => frM_312 331 i0 (fun h => h.elim (fun h => absurd h.2 (by decide)) (fun h => h.elim (fun h => absurd h.2 (by decide)) (fun h => h.elim (fun h => absurd h.1 (by decide)) (fun h => h.elim (fun h => absurd h (by decide)) (fun h => h.elim (fun h => absurd h (by decide)) (fun h => h.elim (fun h => absurd h (by decide)) (fun h => h.elim (fun h => absurd h (by decide)) (fun h => h.elim (fun h => absurd h.1 (by decide)) (fun h => absurd h.1 (by decide))))))))))).trans rfl) ((funext fun i0 => frM_312 333 i0 (fun h => h.elim (fun h => absurd h.2 (by decide)) (fun h => h.elim (fun h => absurd h.2 (by decide)) (fun h => h.elim (fun h => absurd h.1 (by decide)) (fun h => h.elim (fun h => absurd h (by decide)) (fun h => h.elim (fun h => absurd h (by decide)) (fun h => h.elim (fun h => absurd h (by decide)) (fun h => h.elim (fun h => absurd h (by decide)) (fun h => h.elim (fun h => absurd h.1 (by decide)) (fun h => absurd h.1 (by decide))))))))))).trans rfl) ((frM_312 330 4 (fun h => h.elim (fun h => absurd h.2 (by decide)) (fun h => h.elim (fun h => absurd h.2 (by decide)) (fun h => h.elim (fun h => absurd h.1 (by decide)) (fun h => h.elim (fun h => absurd h (by decide)) (fun h => h.elim (fun h => absurd h (by decide)) (fun h => h.elim (fun h => absurd h (by decide)) (fun h => h.elim (fun h => absurd h (by decide)) (fun h => h.elim (fun h => absurd h.1 (by decide)) (fun h => absurd h.1 (by decide))))))))))).trans rfl) hjv.1 hhs.1 hc) (pc' := 339) rfl (fun vv M_336 hq co336 hcm336 => ?_)
    obtain ⟨rfl, frM_336, mrM_336_0, mrM_336_1, msM_336_0⟩ := hq
    refine ax_reS (st2 := [.inl 1, .inl 1]) rfl ?_
    refine ax_icmp_eq (tgt := 1416) dL_law_339 (by decide) (pc' := 342) rfl (fun h339 => ?_) (fun h339 => ?_)
    · refine kk _ (f_INV_mk (f_IV_fr (f_IV_act hI (fun x0 i0 hai => frM_312 x0 i0 (by unfold f_rd at hai; omega)) fa312_0 fa312_1 ?_ ?_ ?_) (fun x0 i0 hai => frM_336 x0 i0 (by unfold f_rc at hai; omega))) mrM_336_0 ((funext fun i0 => frM_336 332 i0 (fun h => h.elim (fun h => absurd h (by decide)) (fun h => h.elim (fun h => absurd h (by decide)) (fun h => absurd h.1 (by decide))))).trans ((funext fun i0 => frM_312 332 i0 (fun h => h.elim (fun h => absurd h.2 (by decide)) (fun h => h.elim (fun h => absurd h.2 (by decide)) (fun h => h.elim (fun h => absurd h.1 (by decide)) (fun h => h.elim (fun h => absurd h (by decide)) (fun h => h.elim (fun h => absurd h (by decide)) (fun h => h.elim (fun h => absurd h (by decide)) (fun h => h.elim (fun h => absurd h (by decide)) (fun h => h.elim (fun h => absurd h.1 (by decide)) (fun h => absurd h.1 (by decide))))))))))).trans rfl)) mrM_336_1 ((funext fun i0 => frM_336 339 i0 (fun h => h.elim (fun h => absurd h (by decide)) (fun h => h.elim (fun h => absurd h (by decide)) (fun h => absurd h.1 (by decide))))).trans ((funext fun i0 => frM_312 339 i0 (fun h => h.elim (fun h => absurd h.2 (by decide)) (fun h => h.elim (fun h => absurd h.2 (by decide)) (fun h => h.elim (fun h => absurd h.1 (by decide)) (fun h => h.elim (fun h => absurd h (by decide)) (fun h => h.elim (fun h => absurd h (by decide)) (fun h => h.elim (fun h => absurd h (by decide)) (fun h => h.elim (fun h => absurd h (by decide)) (fun h => h.elim (fun h => absurd h.1 (by decide)) (fun h => absurd h.1 (by decide))))))))))).trans rfl)) msM_336_0 ((frM_336 330 5 (fun h => h.elim (fun h => absurd h (by decide)) (fun h => h.elim (fun h => absurd h (by decide)) (fun h => absurd h.2 (by decide))))).trans ((frM_312 330 5 (fun h => h.elim (fun h => absurd h.2 (by decide)) (fun h => h.elim (fun h => absurd h.2 (by decide)) (fun h => h.elim (fun h => absurd h.1 (by decide)) (fun h => h.elim (fun h => absurd h (by decide)) (fun h => h.elim (fun h => absurd h (by decide)) (fun h => h.elim (fun h => absurd h (by decide)) (fun h => h.elim (fun h => absurd h (by decide)) (fun h => h.elim (fun h => absurd h.1 (by decide)) (fun h => absurd h.1 (by decide))))))))))).trans rfl)) ((frM_336 330 17 (fun h => h.elim (fun h => absurd h (by decide)) (fun h => h.elim (fun h => absurd h (by decide)) (fun h => absurd h.2 (by decide))))).trans ((frM_312 330 17 (fun h => h.elim (fun h => absurd h.2 (by decide)) (fun h => h.elim (fun h => absurd h.2 (by decide)) (fun h => h.elim (fun h => absurd h.1 (by decide)) (fun h => h.elim (fun h => absurd h (by decide)) (fun h => h.elim (fun h => absurd h (by decide)) (fun h => h.elim (fun h => absurd h (by decide)) (fun h => h.elim (fun h => absurd h (by decide)) (fun h => h.elim (fun h => absurd h.1 (by decide)) (fun h => absurd h.1 (by decide))))))))))).trans rfl)) ((frM_336 330 24 (fun h => h.elim (fun h => absurd h (by decide)) (fun h => h.elim (fun h => absurd h (by decide)) (fun h => absurd h.2 (by decide))))).trans ((frM_312 330 24 (fun h => h.elim (fun h => absurd h.2 (by decide)) (fun h => h.elim (fun h => absurd h.2 (by decide)) (fun h => h.elim (fun h => absurd h.1 (by decide)) (fun h => h.elim (fun h => absurd h (by decide)) (fun h => h.elim (fun h => absurd h (by decide)) (fun h => h.elim (fun h => absurd h (by decide)) (fun h => h.elim (fun h => absurd h (by decide)) (fun h => h.elim (fun h => absurd h.1 (by decide)) (fun h => absurd h.1 (by decide))))))))))).trans rfl)) ((frM_336 330 26 (fun h => h.elim (fun h => absurd h (by decide)) (fun h => h.elim (fun h => absurd h (by decide)) (fun h => absurd h.2 (by decide))))).trans ((frM_312 330 26 (fun h => h.elim (fun h => absurd h.2 (by decide)) (fun h => h.elim (fun h => absurd h.2 (by decide)) (fun h => h.elim (fun h => absurd h.1 (by decide)) (fun h => h.elim (fun h => absurd h (by decide)) (fun h => h.elim (fun h => absurd h (by decide)) (fun h => h.elim (fun h => absurd h (by decide)) (fun h => h.elim (fun h => absurd h (by decide)) (fun h => h.elim (fun h => absurd h.1 (by decide)) (fun h => absurd h.1 (by decide))))))))))).trans rfl)) ((frM_336 330 21 (fun h => h.elim (fun h => absurd h (by decide)) (fun h => h.elim (fun h => absurd h (by decide)) (fun h => absurd h.2 (by decide))))).trans ((frM_312 330 21 (fun h => h.elim (fun h => absurd h.2 (by decide)) (fun h => h.elim (fun h => absurd h.2 (by decide)) (fun h => h.elim (fun h => absurd h.1 (by decide)) (fun h => h.elim (fun h => absurd h (by decide)) (fun h => h.elim (fun h => absurd h (by decide)) (fun h => h.elim (fun h => absurd h (by decide)) (fun h => h.elim (fun h => absurd h (by decide)) (fun h => h.elim (fun h => absurd h.1 (by decide)) (fun h => absurd h.1 (by decide))))))))))).trans rfl)) hv)
      · exact f_jv_tie (hand := a4) hr8 hp24 hk6 hjv
      · exact f_a2_ag ((f_tie_sm hr8 hp24 hk6 hjv.1).1)
      · exact f_hs_keep hhs (f_mp_jv hjv) (ml_tie hr8.1 hp24 hk6)
    · exfalso
      exact h339 rfl
  · refine ax_invG [.inl a1, .inl a2, .inl a3, .inl a4] [] dL_law_312 mlL_28 sh_0 rfl rfl rfl (Nat.le_of_ble_eq_true rfl) (s_X11_tie_no E l _ (by omega) _ a1 a2 a3 a4 Ls (M 331) hnb hjv hc) (pc' := 315) rfl (fun vv M_312 hq co312 hcm312 => ?_)
    obtain ⟨rfl, rfl⟩ := hq
    refine ax_reS (st2 := [.inl 0]) rfl ?_
    refine ax_aload_n dL_law_315 rfl rfl (pc' := 316) rfl ?_
    refine ax_aload_n dL_law_316 rfl rfl (pc' := 317) rfl ?_
    refine ax_iload_n dL_law_317 rfl rfl (pc' := 318) rfl ?_
    refine ax_iconst dL_law_318 (by decide) (pc' := 319) rfl ?_
    refine ax_iadd dL_law_319 (by omega) (pc' := 320) rfl ?_
    refine ax_sald (v := a1) dL_law_320 (by omega) (by omega) qa1.symm (pc' := 321) rfl ?_
    refine ax_aload_n dL_law_321 rfl rfl (pc' := 322) rfl ?_
    refine ax_iload_n dL_law_322 rfl rfl (pc' := 323) rfl ?_
    refine ax_iconst dL_law_323 (by decide) (pc' := 324) rfl ?_
    refine ax_iadd dL_law_324 (by omega) (pc' := 325) rfl ?_
    refine ax_sald (v := a2) dL_law_325 (by omega) (by omega) qa2.symm (pc' := 326) rfl ?_
    refine ax_aload_n dL_law_326 rfl rfl (pc' := 327) rfl ?_
    refine ax_iload_n dL_law_327 rfl rfl (pc' := 328) rfl ?_
    refine ax_iconst dL_law_328 (by decide) (pc' := 329) rfl ?_
    refine ax_iadd dL_law_329 (by omega) (pc' := 330) rfl ?_
    refine ax_sald (v := a3) dL_law_330 (by omega) (by omega) qa3.symm (pc' := 331) rfl ?_
    refine ax_aload_n dL_law_331 rfl rfl (pc' := 332) rfl ?_
    refine ax_iload_n dL_law_332 rfl rfl (pc' := 333) rfl ?_
    refine ax_iconst dL_law_333 (by decide) (pc' := 334) rfl ?_
    refine ax_iadd dL_law_334 (by omega) (pc' := 335) rfl ?_
    refine ax_sald (v := a4) dL_law_335 (by omega) (by omega) qa4.symm (pc' := 336) rfl ?_
    refine ax_invG [.inl a1, .inl a2, .inl a3, .inl a4] [.inl 0] dL_law_336 mlL_32 sh_330 rfl rfl rfl (Nat.le_of_ble_eq_true rfl) (s_X12_tie_no E l _ (by omega) _ a1 a2 a3 a4 rfl hjv.1 hc) (pc' := 339) rfl (fun vv M_336 hq co336 hcm336 => ?_)
    obtain ⟨rfl, rfl⟩ := hq
    refine ax_reS (st2 := [.inl 0, .inl 0]) rfl ?_
    refine ax_icmp_eq (tgt := 1416) dL_law_339 (by decide) (pc' := 342) rfl (fun h339 => ?_) (fun h339 => ?_)
    · exact kk _ ⟨hv, Ls, Lk, hI⟩
    · exfalso
      exact h339 rfl
set_option maxRecDepth 20000 in
theorem lc_4 (E : ax_Env) (l : Launch) (d : Nat) (hd : 60 ≤ d) (M : ax_Mem) (Q : ax_Post) (i : Int) (hx : ax_xl E ≤ 3072) (hi : 0 ≤ i ∧ i + 6 ≤ (ax_xl E : Int)) (hI : f_INV M) (kk : ∀ M2, f_INV M2 → ax_W E l (d + 1) 0 0 iL_law 1416 [some (.inr (-2)), some (.inr 0), some (.inr 330), some (.inl i)] [] SH M2 Q) : ax_W E l (d + 1) 0 0 iL_law 344 [some (.inr (-2)), some (.inr 0), some (.inr 330), some (.inl i)] [] SH M Q := by
  obtain ⟨hv, Ls, Lk, hI⟩ := hI
  have hnb := hI.1.1
  have hjv := hI.1.2.1
  have hlq := hI.1.2.2
  have hpr := hI.2.1.1
  have hhs := hI.2.1.2
  have hlo := hI.2.2.1
  have qta := hI.2.2.2.1.1
  have qtn := hI.2.2.2.1.2.1
  have qt4 := hI.2.2.2.1.2.2.1
  have qtp := hI.2.2.2.1.2.2.2
  obtain ⟨a1, qa1⟩ : ∃ z, z = (ax_xs E (i + 1).toNat).toInt := ⟨_, rfl⟩
  have ca1 : -2147483648 ≤ a1 ∧ a1 < 2147483648 := by rw [qa1]; exact ax_can_toInt _
  obtain ⟨a2, qa2⟩ : ∃ z, z = (ax_xs E (i + 2).toNat).toInt := ⟨_, rfl⟩
  have ca2 : -2147483648 ≤ a2 ∧ a2 < 2147483648 := by rw [qa2]; exact ax_can_toInt _
  obtain ⟨a3, qa3⟩ : ∃ z, z = (ax_xs E (i + 3).toNat).toInt := ⟨_, rfl⟩
  have ca3 : -2147483648 ≤ a3 ∧ a3 < 2147483648 := by rw [qa3]; exact ax_can_toInt _
  obtain ⟨a4, qa4⟩ : ∃ z, z = (ax_xs E (i + 4).toNat).toInt := ⟨_, rfl⟩
  have ca4 : -2147483648 ≤ a4 ∧ a4 < 2147483648 := by rw [qa4]; exact ax_can_toInt _
  obtain ⟨a5, qa5⟩ : ∃ z, z = (ax_xs E (i + 5).toNat).toInt := ⟨_, rfl⟩
  have ca5 : -2147483648 ≤ a5 ∧ a5 < 2147483648 := by rw [qa5]; exact ax_can_toInt _
  refine ax_aload_n dL_law_344 rfl rfl (pc' := 345) rfl ?_
  refine ax_aload_n dL_law_345 rfl rfl (pc' := 346) rfl ?_
  refine ax_iload_n dL_law_346 rfl rfl (pc' := 347) rfl ?_
  refine ax_iconst dL_law_347 (by decide) (pc' := 348) rfl ?_
  refine ax_iadd dL_law_348 (by omega) (pc' := 349) rfl ?_
  refine ax_sald (v := a1) dL_law_349 (by omega) (by omega) qa1.symm (pc' := 350) rfl ?_
  refine ax_aload_n dL_law_350 rfl rfl (pc' := 351) rfl ?_
  refine ax_iload_n dL_law_351 rfl rfl (pc' := 352) rfl ?_
  refine ax_iconst dL_law_352 (by decide) (pc' := 353) rfl ?_
  refine ax_iadd dL_law_353 (by omega) (pc' := 354) rfl ?_
  refine ax_sald (v := a2) dL_law_354 (by omega) (by omega) qa2.symm (pc' := 355) rfl ?_
  by_cases hc : f_isP (M 331) a1 a2 ∧ f_P (M 331) a1 a2 0 ≠ -1
  · have hr8 : 0 ≤ a1 ∧ a1 < 8 := by omega
    have hl24 := (hjv.1.1 a1 hr8.1 hr8.2).2.2
    have hp24 : 0 ≤ a2 ∧ a2 < 24 := by omega
    refine ax_invG [.inl a1, .inl a2] [] dL_law_355 mlL_33 sh_0 rfl rfl rfl (Nat.le_of_ble_eq_true rfl) (s_X11_untie_ok E l _ (by omega) _ a1 a2 Ls (M 331) (M 333) (M 330 4) hnb hjv hpr hc) (pc' := 358) rfl (fun vv M_355 hq co355 hcm355 => ?_)
    obtain ⟨rfl, frM_355, fa355_0, fa355_1⟩ := hq
    refine ax_reS (st2 := [.inl (f_P (M 331) a1 a2 0)]) rfl ?_
    have cc355 : -2147483648 ≤ f_P (M 331) a1 a2 0 ∧ f_P (M 331) a1 a2 0 < 2147483648 := co355 _ rfl
    refine ax_aload_n dL_law_358 rfl rfl (pc' := 359) rfl ?_
    refine ax_aload_n dL_law_359 rfl rfl (pc' := 360) rfl ?_
    refine ax_iload_n dL_law_360 rfl rfl (pc' := 361) rfl ?_
    refine ax_iconst dL_law_361 (by decide) (pc' := 362) rfl ?_
    refine ax_iadd dL_law_362 (by omega) (pc' := 363) rfl ?_
    refine ax_sald (v := a1) dL_law_363 (by omega) (by omega) qa1.symm (pc' := 364) rfl ?_
    refine ax_aload_n dL_law_364 rfl rfl (pc' := 365) rfl ?_
    refine ax_iload_n dL_law_365 rfl rfl (pc' := 366) rfl ?_
    refine ax_iconst dL_law_366 (by decide) (pc' := 367) rfl ?_
    refine ax_iadd dL_law_367 (by omega) (pc' := 368) rfl ?_
    refine ax_sald (v := a2) dL_law_368 (by omega) (by omega) qa2.symm (pc' := 369) rfl ?_
    refine ax_invG [.inl a1, .inl a2] [.inl (f_P (M 331) a1 a2 0)] dL_law_369 mlL_36 sh_330 rfl rfl rfl (Nat.le_of_ble_eq_true rfl) (s_X12_untie_ok E l _ (by omega) _ a1 a2 ((funext fun i0 => frM_355 331 i0 (fun h => h.elim (fun h => absurd h.2 (by decide)) (fun h => h.elim (fun h => absurd h.2 (by decide)) (fun h => h.elim (fun h => absurd h.1 (by decide)) (fun h => h.elim (fun h => absurd h (by decide)) (fun h => h.elim (fun h => absurd h (by decide)) (fun h => h.elim (fun h => absurd h (by decide)) (fun h => h.elim (fun h => absurd h (by decide)) (fun h => h.elim (fun h => absurd h.1 (by decide)) (fun h => absurd h.1 (by decide))))))))))).trans rfl) ((funext fun i0 => frM_355 333 i0 (fun h => h.elim (fun h => absurd h.2 (by decide)) (fun h => h.elim (fun h => absurd h.2 (by decide)) (fun h => h.elim (fun h => absurd h.1 (by decide)) (fun h => h.elim (fun h => absurd h (by decide)) (fun h => h.elim (fun h => absurd h (by decide)) (fun h => h.elim (fun h => absurd h (by decide)) (fun h => h.elim (fun h => absurd h (by decide)) (fun h => h.elim (fun h => absurd h.1 (by decide)) (fun h => absurd h.1 (by decide))))))))))).trans rfl) ((frM_355 330 4 (fun h => h.elim (fun h => absurd h.2 (by decide)) (fun h => h.elim (fun h => absurd h.2 (by decide)) (fun h => h.elim (fun h => absurd h.1 (by decide)) (fun h => h.elim (fun h => absurd h (by decide)) (fun h => h.elim (fun h => absurd h (by decide)) (fun h => h.elim (fun h => absurd h (by decide)) (fun h => h.elim (fun h => absurd h (by decide)) (fun h => h.elim (fun h => absurd h.1 (by decide)) (fun h => absurd h.1 (by decide))))))))))).trans rfl) hjv.1 hhs.1 hc) (pc' := 372) rfl (fun vv M_369 hq co369 hcm369 => ?_)
    obtain ⟨rfl, frM_369, mrM_369_0, mrM_369_1, msM_369_0⟩ := hq
    refine ax_reS (st2 := [.inl (f_P (M 331) a1 a2 0), .inl (f_P (M 331) a1 a2 0)]) rfl ?_
    have cc369 : -2147483648 ≤ f_P (M 331) a1 a2 0 ∧ f_P (M 331) a1 a2 0 < 2147483648 := co369 _ rfl
    refine ax_icmp_eq (tgt := 1416) dL_law_372 (by decide) (pc' := 375) rfl (fun h372 => ?_) (fun h372 => ?_)
    · refine kk _ (f_INV_mk (f_IV_fr (f_IV_act hI (fun x0 i0 hai => frM_355 x0 i0 (by unfold f_rd at hai; omega)) fa355_0 fa355_1 ?_ ?_ ?_) (fun x0 i0 hai => frM_369 x0 i0 (by unfold f_rc at hai; omega))) mrM_369_0 ((funext fun i0 => frM_369 332 i0 (fun h => h.elim (fun h => absurd h (by decide)) (fun h => h.elim (fun h => absurd h (by decide)) (fun h => absurd h.1 (by decide))))).trans ((funext fun i0 => frM_355 332 i0 (fun h => h.elim (fun h => absurd h.2 (by decide)) (fun h => h.elim (fun h => absurd h.2 (by decide)) (fun h => h.elim (fun h => absurd h.1 (by decide)) (fun h => h.elim (fun h => absurd h (by decide)) (fun h => h.elim (fun h => absurd h (by decide)) (fun h => h.elim (fun h => absurd h (by decide)) (fun h => h.elim (fun h => absurd h (by decide)) (fun h => h.elim (fun h => absurd h.1 (by decide)) (fun h => absurd h.1 (by decide))))))))))).trans rfl)) mrM_369_1 ((funext fun i0 => frM_369 339 i0 (fun h => h.elim (fun h => absurd h (by decide)) (fun h => h.elim (fun h => absurd h (by decide)) (fun h => absurd h.1 (by decide))))).trans ((funext fun i0 => frM_355 339 i0 (fun h => h.elim (fun h => absurd h.2 (by decide)) (fun h => h.elim (fun h => absurd h.2 (by decide)) (fun h => h.elim (fun h => absurd h.1 (by decide)) (fun h => h.elim (fun h => absurd h (by decide)) (fun h => h.elim (fun h => absurd h (by decide)) (fun h => h.elim (fun h => absurd h (by decide)) (fun h => h.elim (fun h => absurd h (by decide)) (fun h => h.elim (fun h => absurd h.1 (by decide)) (fun h => absurd h.1 (by decide))))))))))).trans rfl)) msM_369_0 ((frM_369 330 5 (fun h => h.elim (fun h => absurd h (by decide)) (fun h => h.elim (fun h => absurd h (by decide)) (fun h => absurd h.2 (by decide))))).trans ((frM_355 330 5 (fun h => h.elim (fun h => absurd h.2 (by decide)) (fun h => h.elim (fun h => absurd h.2 (by decide)) (fun h => h.elim (fun h => absurd h.1 (by decide)) (fun h => h.elim (fun h => absurd h (by decide)) (fun h => h.elim (fun h => absurd h (by decide)) (fun h => h.elim (fun h => absurd h (by decide)) (fun h => h.elim (fun h => absurd h (by decide)) (fun h => h.elim (fun h => absurd h.1 (by decide)) (fun h => absurd h.1 (by decide))))))))))).trans rfl)) ((frM_369 330 17 (fun h => h.elim (fun h => absurd h (by decide)) (fun h => h.elim (fun h => absurd h (by decide)) (fun h => absurd h.2 (by decide))))).trans ((frM_355 330 17 (fun h => h.elim (fun h => absurd h.2 (by decide)) (fun h => h.elim (fun h => absurd h.2 (by decide)) (fun h => h.elim (fun h => absurd h.1 (by decide)) (fun h => h.elim (fun h => absurd h (by decide)) (fun h => h.elim (fun h => absurd h (by decide)) (fun h => h.elim (fun h => absurd h (by decide)) (fun h => h.elim (fun h => absurd h (by decide)) (fun h => h.elim (fun h => absurd h.1 (by decide)) (fun h => absurd h.1 (by decide))))))))))).trans rfl)) ((frM_369 330 24 (fun h => h.elim (fun h => absurd h (by decide)) (fun h => h.elim (fun h => absurd h (by decide)) (fun h => absurd h.2 (by decide))))).trans ((frM_355 330 24 (fun h => h.elim (fun h => absurd h.2 (by decide)) (fun h => h.elim (fun h => absurd h.2 (by decide)) (fun h => h.elim (fun h => absurd h.1 (by decide)) (fun h => h.elim (fun h => absurd h (by decide)) (fun h => h.elim (fun h => absurd h (by decide)) (fun h => h.elim (fun h => absurd h (by decide)) (fun h => h.elim (fun h => absurd h (by decide)) (fun h => h.elim (fun h => absurd h.1 (by decide)) (fun h => absurd h.1 (by decide))))))))))).trans rfl)) ((frM_369 330 26 (fun h => h.elim (fun h => absurd h (by decide)) (fun h => h.elim (fun h => absurd h (by decide)) (fun h => absurd h.2 (by decide))))).trans ((frM_355 330 26 (fun h => h.elim (fun h => absurd h.2 (by decide)) (fun h => h.elim (fun h => absurd h.2 (by decide)) (fun h => h.elim (fun h => absurd h.1 (by decide)) (fun h => h.elim (fun h => absurd h (by decide)) (fun h => h.elim (fun h => absurd h (by decide)) (fun h => h.elim (fun h => absurd h (by decide)) (fun h => h.elim (fun h => absurd h (by decide)) (fun h => h.elim (fun h => absurd h.1 (by decide)) (fun h => absurd h.1 (by decide))))))))))).trans rfl)) ((frM_369 330 21 (fun h => h.elim (fun h => absurd h (by decide)) (fun h => h.elim (fun h => absurd h (by decide)) (fun h => absurd h.2 (by decide))))).trans ((frM_355 330 21 (fun h => h.elim (fun h => absurd h.2 (by decide)) (fun h => h.elim (fun h => absurd h.2 (by decide)) (fun h => h.elim (fun h => absurd h.1 (by decide)) (fun h => h.elim (fun h => absurd h (by decide)) (fun h => h.elim (fun h => absurd h (by decide)) (fun h => h.elim (fun h => absurd h (by decide)) (fun h => h.elim (fun h => absurd h (by decide)) (fun h => h.elim (fun h => absurd h.1 (by decide)) (fun h => absurd h.1 (by decide))))))))))).trans rfl)) hv)
      · exact f_jv_unt hr8 hp24 hjv
      · exact f_a2_ag ((f_sm_sP ⟨hr8.1, hr8.2, hp24.1, hp24.2, by decide, by decide⟩).1)
      · exact f_hs_keep hhs (f_mp_jv hjv) (Int.le_of_eq (ml_onl hr8.1 (f_onl_sP hp24 (by decide))).symm)
    · exfalso
      exact h372 rfl
  · refine ax_invG [.inl a1, .inl a2] [] dL_law_355 mlL_33 sh_0 rfl rfl rfl (Nat.le_of_ble_eq_true rfl) (s_X11_untie_no E l _ (by omega) _ a1 a2 Ls (M 331) hnb hjv hc) (pc' := 358) rfl (fun vv M_355 hq co355 hcm355 => ?_)
    obtain ⟨rfl, rfl⟩ := hq
    refine ax_reS (st2 := [.inl (-1)]) rfl ?_
    refine ax_aload_n dL_law_358 rfl rfl (pc' := 359) rfl ?_
    refine ax_aload_n dL_law_359 rfl rfl (pc' := 360) rfl ?_
    refine ax_iload_n dL_law_360 rfl rfl (pc' := 361) rfl ?_
    refine ax_iconst dL_law_361 (by decide) (pc' := 362) rfl ?_
    refine ax_iadd dL_law_362 (by omega) (pc' := 363) rfl ?_
    refine ax_sald (v := a1) dL_law_363 (by omega) (by omega) qa1.symm (pc' := 364) rfl ?_
    refine ax_aload_n dL_law_364 rfl rfl (pc' := 365) rfl ?_
    refine ax_iload_n dL_law_365 rfl rfl (pc' := 366) rfl ?_
    refine ax_iconst dL_law_366 (by decide) (pc' := 367) rfl ?_
    refine ax_iadd dL_law_367 (by omega) (pc' := 368) rfl ?_
    refine ax_sald (v := a2) dL_law_368 (by omega) (by omega) qa2.symm (pc' := 369) rfl ?_
    refine ax_invG [.inl a1, .inl a2] [.inl (-1)] dL_law_369 mlL_36 sh_330 rfl rfl rfl (Nat.le_of_ble_eq_true rfl) (s_X12_untie_no E l _ (by omega) _ a1 a2 rfl hjv.1 hc) (pc' := 372) rfl (fun vv M_369 hq co369 hcm369 => ?_)
    obtain ⟨rfl, rfl⟩ := hq
    refine ax_reS (st2 := [.inl (-1), .inl (-1)]) rfl ?_
    refine ax_icmp_eq (tgt := 1416) dL_law_372 (by decide) (pc' := 375) rfl (fun h372 => ?_) (fun h372 => ?_)
    · exact kk _ ⟨hv, Ls, Lk, hI⟩
    · exfalso
      exact h372 rfl
set_option maxRecDepth 20000 in
theorem lc_5 (E : ax_Env) (l : Launch) (d : Nat) (hd : 60 ≤ d) (M : ax_Mem) (Q : ax_Post) (i : Int) (hx : ax_xl E ≤ 3072) (hi : 0 ≤ i ∧ i + 6 ≤ (ax_xl E : Int)) (hI : f_INV M) (kk : ∀ M2, f_INV M2 → ax_W E l (d + 1) 0 0 iL_law 1416 [some (.inr (-2)), some (.inr 0), some (.inr 330), some (.inl i)] [] SH M2 Q) : ax_W E l (d + 1) 0 0 iL_law 377 [some (.inr (-2)), some (.inr 0), some (.inr 330), some (.inl i)] [] SH M Q := by
  obtain ⟨hv, Ls, Lk, hI⟩ := hI
  have hnb := hI.1.1
  have hjv := hI.1.2.1
  have hlq := hI.1.2.2
  have hpr := hI.2.1.1
  have hhs := hI.2.1.2
  have hlo := hI.2.2.1
  have qta := hI.2.2.2.1.1
  have qtn := hI.2.2.2.1.2.1
  have qt4 := hI.2.2.2.1.2.2.1
  have qtp := hI.2.2.2.1.2.2.2
  obtain ⟨a1, qa1⟩ : ∃ z, z = (ax_xs E (i + 1).toNat).toInt := ⟨_, rfl⟩
  have ca1 : -2147483648 ≤ a1 ∧ a1 < 2147483648 := by rw [qa1]; exact ax_can_toInt _
  obtain ⟨a2, qa2⟩ : ∃ z, z = (ax_xs E (i + 2).toNat).toInt := ⟨_, rfl⟩
  have ca2 : -2147483648 ≤ a2 ∧ a2 < 2147483648 := by rw [qa2]; exact ax_can_toInt _
  obtain ⟨a3, qa3⟩ : ∃ z, z = (ax_xs E (i + 3).toNat).toInt := ⟨_, rfl⟩
  have ca3 : -2147483648 ≤ a3 ∧ a3 < 2147483648 := by rw [qa3]; exact ax_can_toInt _
  obtain ⟨a4, qa4⟩ : ∃ z, z = (ax_xs E (i + 4).toNat).toInt := ⟨_, rfl⟩
  have ca4 : -2147483648 ≤ a4 ∧ a4 < 2147483648 := by rw [qa4]; exact ax_can_toInt _
  obtain ⟨a5, qa5⟩ : ∃ z, z = (ax_xs E (i + 5).toNat).toInt := ⟨_, rfl⟩
  have ca5 : -2147483648 ≤ a5 ∧ a5 < 2147483648 := by rw [qa5]; exact ax_can_toInt _
  refine ax_aload_n dL_law_377 rfl rfl (pc' := 378) rfl ?_
  refine ax_aload_n dL_law_378 rfl rfl (pc' := 379) rfl ?_
  refine ax_iload_n dL_law_379 rfl rfl (pc' := 380) rfl ?_
  refine ax_iconst dL_law_380 (by decide) (pc' := 381) rfl ?_
  refine ax_iadd dL_law_381 (by omega) (pc' := 382) rfl ?_
  refine ax_sald (v := a1) dL_law_382 (by omega) (by omega) qa1.symm (pc' := 383) rfl ?_
  refine ax_aload_n dL_law_383 rfl rfl (pc' := 384) rfl ?_
  refine ax_iload_n dL_law_384 rfl rfl (pc' := 385) rfl ?_
  refine ax_iconst dL_law_385 (by decide) (pc' := 386) rfl ?_
  refine ax_iadd dL_law_386 (by omega) (pc' := 387) rfl ?_
  refine ax_sald (v := a2) dL_law_387 (by omega) (by omega) qa2.symm (pc' := 388) rfl ?_
  by_cases hc : f_isR (M 331) a1 ∧ 0 ≤ a2 ∧ a2 ≤ 99
  · have hr8 : 0 ≤ a1 ∧ a1 < 8 := by omega
    have hl24 := (hjv.1.1 a1 hr8.1 hr8.2).2.2
    have hl2 := (hjv.2.1 a1 hr8.1 hr8.2).2 (by omega)
    have hl1 : 1 ≤ f_R (M 331) a1 1 := by omega
    refine ax_invG [.inl a1, .inl a2] [] dL_law_388 mlL_37 sh_0 rfl rfl rfl (Nat.le_of_ble_eq_true rfl) (s_X11_pull_ok E l _ (by omega) _ a1 a2 Ls (M 331) (M 333) (M 330 4) hnb hjv hpr hc hlo.1) (pc' := 391) rfl (fun vv M_388 hq co388 hcm388 => ?_)
    obtain ⟨rfl, frM_388, fa388_0, fa388_1⟩ := hq
    refine ax_reS (st2 := [.inl ((f_stch Ls (M 331) a1 a2).2.1)]) rfl ?_
    have cc388 : -2147483648 ≤ (f_stch Ls (M 331) a1 a2).2.1 ∧ (f_stch Ls (M 331) a1 a2).2.1 < 2147483648 := co388 _ rfl
    refine ax_aload_n dL_law_391 rfl rfl (pc' := 392) rfl ?_
    refine ax_aload_n dL_law_392 rfl rfl (pc' := 393) rfl ?_
    refine ax_iload_n dL_law_393 rfl rfl (pc' := 394) rfl ?_
    refine ax_iconst dL_law_394 (by decide) (pc' := 395) rfl ?_
    refine ax_iadd dL_law_395 (by omega) (pc' := 396) rfl ?_
    refine ax_sald (v := a1) dL_law_396 (by omega) (by omega) qa1.symm (pc' := 397) rfl ?_
    refine ax_aload_n dL_law_397 rfl rfl (pc' := 398) rfl ?_
    refine ax_iload_n dL_law_398 rfl rfl (pc' := 399) rfl ?_
    refine ax_iconst dL_law_399 (by decide) (pc' := 400) rfl ?_
    refine ax_iadd dL_law_400 (by omega) (pc' := 401) rfl ?_
    refine ax_sald (v := a2) dL_law_401 (by omega) (by omega) qa2.symm (pc' := 402) rfl ?_
    refine ax_invG [.inl a1, .inl a2] [.inl ((f_stch Ls (M 331) a1 a2).2.1)] dL_law_402 mlL_40 sh_330 rfl rfl rfl (Nat.le_of_ble_eq_true rfl) (s_X12_pull_ok E l _ (by omega) _ a1 a2 Ls ((funext fun i0 => frM_388 331 i0 (fun h => h.elim (fun h => absurd h.2 (by decide)) (fun h => h.elim (fun h => absurd h.2 (by decide)) (fun h => h.elim (fun h => absurd h.1 (by decide)) (fun h => h.elim (fun h => absurd h (by decide)) (fun h => h.elim (fun h => absurd h (by decide)) (fun h => h.elim (fun h => absurd h (by decide)) (fun h => h.elim (fun h => absurd h (by decide)) (fun h => h.elim (fun h => absurd h.1 (by decide)) (fun h => absurd h.1 (by decide))))))))))).trans rfl) ((funext fun i0 => frM_388 340 i0 (fun h => h.elim (fun h => absurd h.2 (by decide)) (fun h => h.elim (fun h => absurd h.2 (by decide)) (fun h => h.elim (fun h => absurd h.1 (by decide)) (fun h => h.elim (fun h => absurd h (by decide)) (fun h => h.elim (fun h => absurd h (by decide)) (fun h => h.elim (fun h => absurd h (by decide)) (fun h => h.elim (fun h => absurd h (by decide)) (fun h => h.elim (fun h => absurd h.1 (by decide)) (fun h => absurd h.1 (by decide))))))))))).trans rfl) ((funext fun i0 => frM_388 341 i0 (fun h => h.elim (fun h => absurd h.2 (by decide)) (fun h => h.elim (fun h => absurd h.2 (by decide)) (fun h => h.elim (fun h => absurd h.1 (by decide)) (fun h => h.elim (fun h => absurd h (by decide)) (fun h => h.elim (fun h => absurd h (by decide)) (fun h => h.elim (fun h => absurd h (by decide)) (fun h => h.elim (fun h => absurd h (by decide)) (fun h => h.elim (fun h => absurd h.1 (by decide)) (fun h => absurd h.1 (by decide))))))))))).trans rfl) ((funext fun i0 => frM_388 342 i0 (fun h => h.elim (fun h => absurd h.2 (by decide)) (fun h => h.elim (fun h => absurd h.2 (by decide)) (fun h => h.elim (fun h => absurd h.1 (by decide)) (fun h => h.elim (fun h => absurd h (by decide)) (fun h => h.elim (fun h => absurd h (by decide)) (fun h => h.elim (fun h => absurd h (by decide)) (fun h => h.elim (fun h => absurd h (by decide)) (fun h => h.elim (fun h => absurd h.1 (by decide)) (fun h => absurd h.1 (by decide))))))))))).trans rfl) ((funext fun i0 => frM_388 343 i0 (fun h => h.elim (fun h => absurd h.2 (by decide)) (fun h => h.elim (fun h => absurd h.2 (by decide)) (fun h => h.elim (fun h => absurd h.1 (by decide)) (fun h => h.elim (fun h => absurd h (by decide)) (fun h => h.elim (fun h => absurd h (by decide)) (fun h => h.elim (fun h => absurd h (by decide)) (fun h => h.elim (fun h => absurd h (by decide)) (fun h => h.elim (fun h => absurd h.1 (by decide)) (fun h => absurd h.1 (by decide))))))))))).trans rfl) ((funext fun i0 => frM_388 333 i0 (fun h => h.elim (fun h => absurd h.2 (by decide)) (fun h => h.elim (fun h => absurd h.2 (by decide)) (fun h => h.elim (fun h => absurd h.1 (by decide)) (fun h => h.elim (fun h => absurd h (by decide)) (fun h => h.elim (fun h => absurd h (by decide)) (fun h => h.elim (fun h => absurd h (by decide)) (fun h => h.elim (fun h => absurd h (by decide)) (fun h => h.elim (fun h => absurd h.1 (by decide)) (fun h => absurd h.1 (by decide))))))))))).trans rfl) ((frM_388 330 4 (fun h => h.elim (fun h => absurd h.2 (by decide)) (fun h => h.elim (fun h => absurd h.2 (by decide)) (fun h => h.elim (fun h => absurd h.1 (by decide)) (fun h => h.elim (fun h => absurd h (by decide)) (fun h => h.elim (fun h => absurd h (by decide)) (fun h => h.elim (fun h => absurd h (by decide)) (fun h => h.elim (fun h => absurd h (by decide)) (fun h => h.elim (fun h => absurd h.1 (by decide)) (fun h => absurd h.1 (by decide))))))))))).trans rfl) hjv hhs.1 hc) (pc' := 405) rfl (fun vv M_402 hq co402 hcm402 => ?_)
    obtain ⟨rfl, frM_402, mrM_402_0, mrM_402_1, msM_402_0⟩ := hq
    refine ax_reS (st2 := [.inl ((f_stch Ls (M 331) a1 a2).2.1), .inl ((f_stch Ls (M 331) a1 a2).2.1)]) rfl ?_
    have cc402 : -2147483648 ≤ (f_stch Ls (M 331) a1 a2).2.1 ∧ (f_stch Ls (M 331) a1 a2).2.1 < 2147483648 := co402 _ rfl
    refine ax_icmp_eq (tgt := 1416) dL_law_405 (by decide) (pc' := 408) rfl (fun h405 => ?_) (fun h405 => ?_)
    · refine kk _ (f_INV_mk (f_IV_fr (f_IV_act hI (fun x0 i0 hai => frM_388 x0 i0 (by unfold f_rd at hai; omega)) fa388_0 fa388_1 ?_ ?_ ?_) (fun x0 i0 hai => frM_402 x0 i0 (by unfold f_rc at hai; omega))) mrM_402_0 ((funext fun i0 => frM_402 332 i0 (fun h => h.elim (fun h => absurd h (by decide)) (fun h => h.elim (fun h => absurd h (by decide)) (fun h => h.elim (fun h => absurd h.1 (by decide)) (fun h => h.elim (fun h => absurd h (by decide)) (fun h => h.elim (fun h => absurd h (by decide)) (fun h => h.elim (fun h => absurd h (by decide)) (fun h => h.elim (fun h => absurd h (by decide)) (fun h => h.elim (fun h => absurd h.1 (by decide)) (fun h => h.elim (fun h => absurd h.1 (by decide)) (fun h => h.elim (fun h => absurd h.1 (by decide)) (fun h => absurd h.1 (by decide))))))))))))).trans ((funext fun i0 => frM_388 332 i0 (fun h => h.elim (fun h => absurd h.2 (by decide)) (fun h => h.elim (fun h => absurd h.2 (by decide)) (fun h => h.elim (fun h => absurd h.1 (by decide)) (fun h => h.elim (fun h => absurd h (by decide)) (fun h => h.elim (fun h => absurd h (by decide)) (fun h => h.elim (fun h => absurd h (by decide)) (fun h => h.elim (fun h => absurd h (by decide)) (fun h => h.elim (fun h => absurd h.1 (by decide)) (fun h => absurd h.1 (by decide))))))))))).trans rfl)) mrM_402_1 ((funext fun i0 => frM_402 339 i0 (fun h => h.elim (fun h => absurd h (by decide)) (fun h => h.elim (fun h => absurd h (by decide)) (fun h => h.elim (fun h => absurd h.1 (by decide)) (fun h => h.elim (fun h => absurd h (by decide)) (fun h => h.elim (fun h => absurd h (by decide)) (fun h => h.elim (fun h => absurd h (by decide)) (fun h => h.elim (fun h => absurd h (by decide)) (fun h => h.elim (fun h => absurd h.1 (by decide)) (fun h => h.elim (fun h => absurd h.1 (by decide)) (fun h => h.elim (fun h => absurd h.1 (by decide)) (fun h => absurd h.1 (by decide))))))))))))).trans ((funext fun i0 => frM_388 339 i0 (fun h => h.elim (fun h => absurd h.2 (by decide)) (fun h => h.elim (fun h => absurd h.2 (by decide)) (fun h => h.elim (fun h => absurd h.1 (by decide)) (fun h => h.elim (fun h => absurd h (by decide)) (fun h => h.elim (fun h => absurd h (by decide)) (fun h => h.elim (fun h => absurd h (by decide)) (fun h => h.elim (fun h => absurd h (by decide)) (fun h => h.elim (fun h => absurd h.1 (by decide)) (fun h => absurd h.1 (by decide))))))))))).trans rfl)) msM_402_0 ((frM_402 330 5 (fun h => h.elim (fun h => absurd h (by decide)) (fun h => h.elim (fun h => absurd h (by decide)) (fun h => h.elim (fun h => absurd h.2 (by decide)) (fun h => h.elim (fun h => absurd h (by decide)) (fun h => h.elim (fun h => absurd h (by decide)) (fun h => h.elim (fun h => absurd h (by decide)) (fun h => h.elim (fun h => absurd h (by decide)) (fun h => h.elim (fun h => absurd h.2 (by decide)) (fun h => h.elim (fun h => absurd h.2 (by decide)) (fun h => h.elim (fun h => absurd h.2 (by decide)) (fun h => absurd h.2 (by decide))))))))))))).trans ((frM_388 330 5 (fun h => h.elim (fun h => absurd h.2 (by decide)) (fun h => h.elim (fun h => absurd h.2 (by decide)) (fun h => h.elim (fun h => absurd h.1 (by decide)) (fun h => h.elim (fun h => absurd h (by decide)) (fun h => h.elim (fun h => absurd h (by decide)) (fun h => h.elim (fun h => absurd h (by decide)) (fun h => h.elim (fun h => absurd h (by decide)) (fun h => h.elim (fun h => absurd h.1 (by decide)) (fun h => absurd h.1 (by decide))))))))))).trans rfl)) ((frM_402 330 17 (fun h => h.elim (fun h => absurd h (by decide)) (fun h => h.elim (fun h => absurd h (by decide)) (fun h => h.elim (fun h => absurd h.2 (by decide)) (fun h => h.elim (fun h => absurd h (by decide)) (fun h => h.elim (fun h => absurd h (by decide)) (fun h => h.elim (fun h => absurd h (by decide)) (fun h => h.elim (fun h => absurd h (by decide)) (fun h => h.elim (fun h => absurd h.2 (by decide)) (fun h => h.elim (fun h => absurd h.2 (by decide)) (fun h => h.elim (fun h => absurd h.2 (by decide)) (fun h => absurd h.2 (by decide))))))))))))).trans ((frM_388 330 17 (fun h => h.elim (fun h => absurd h.2 (by decide)) (fun h => h.elim (fun h => absurd h.2 (by decide)) (fun h => h.elim (fun h => absurd h.1 (by decide)) (fun h => h.elim (fun h => absurd h (by decide)) (fun h => h.elim (fun h => absurd h (by decide)) (fun h => h.elim (fun h => absurd h (by decide)) (fun h => h.elim (fun h => absurd h (by decide)) (fun h => h.elim (fun h => absurd h.1 (by decide)) (fun h => absurd h.1 (by decide))))))))))).trans rfl)) ((frM_402 330 24 (fun h => h.elim (fun h => absurd h (by decide)) (fun h => h.elim (fun h => absurd h (by decide)) (fun h => h.elim (fun h => absurd h.2 (by decide)) (fun h => h.elim (fun h => absurd h (by decide)) (fun h => h.elim (fun h => absurd h (by decide)) (fun h => h.elim (fun h => absurd h (by decide)) (fun h => h.elim (fun h => absurd h (by decide)) (fun h => h.elim (fun h => absurd h.2 (by decide)) (fun h => h.elim (fun h => absurd h.2 (by decide)) (fun h => h.elim (fun h => absurd h.2 (by decide)) (fun h => absurd h.2 (by decide))))))))))))).trans ((frM_388 330 24 (fun h => h.elim (fun h => absurd h.2 (by decide)) (fun h => h.elim (fun h => absurd h.2 (by decide)) (fun h => h.elim (fun h => absurd h.1 (by decide)) (fun h => h.elim (fun h => absurd h (by decide)) (fun h => h.elim (fun h => absurd h (by decide)) (fun h => h.elim (fun h => absurd h (by decide)) (fun h => h.elim (fun h => absurd h (by decide)) (fun h => h.elim (fun h => absurd h.1 (by decide)) (fun h => absurd h.1 (by decide))))))))))).trans rfl)) ((frM_402 330 26 (fun h => h.elim (fun h => absurd h (by decide)) (fun h => h.elim (fun h => absurd h (by decide)) (fun h => h.elim (fun h => absurd h.2 (by decide)) (fun h => h.elim (fun h => absurd h (by decide)) (fun h => h.elim (fun h => absurd h (by decide)) (fun h => h.elim (fun h => absurd h (by decide)) (fun h => h.elim (fun h => absurd h (by decide)) (fun h => h.elim (fun h => absurd h.2 (by decide)) (fun h => h.elim (fun h => absurd h.2 (by decide)) (fun h => h.elim (fun h => absurd h.2 (by decide)) (fun h => absurd h.2 (by decide))))))))))))).trans ((frM_388 330 26 (fun h => h.elim (fun h => absurd h.2 (by decide)) (fun h => h.elim (fun h => absurd h.2 (by decide)) (fun h => h.elim (fun h => absurd h.1 (by decide)) (fun h => h.elim (fun h => absurd h (by decide)) (fun h => h.elim (fun h => absurd h (by decide)) (fun h => h.elim (fun h => absurd h (by decide)) (fun h => h.elim (fun h => absurd h (by decide)) (fun h => h.elim (fun h => absurd h.1 (by decide)) (fun h => absurd h.1 (by decide))))))))))).trans rfl)) ((frM_402 330 21 (fun h => h.elim (fun h => absurd h (by decide)) (fun h => h.elim (fun h => absurd h (by decide)) (fun h => h.elim (fun h => absurd h.2 (by decide)) (fun h => h.elim (fun h => absurd h (by decide)) (fun h => h.elim (fun h => absurd h (by decide)) (fun h => h.elim (fun h => absurd h (by decide)) (fun h => h.elim (fun h => absurd h (by decide)) (fun h => h.elim (fun h => absurd h.2 (by decide)) (fun h => h.elim (fun h => absurd h.2 (by decide)) (fun h => h.elim (fun h => absurd h.2 (by decide)) (fun h => absurd h.2 (by decide))))))))))))).trans ((frM_388 330 21 (fun h => h.elim (fun h => absurd h.2 (by decide)) (fun h => h.elim (fun h => absurd h.2 (by decide)) (fun h => h.elim (fun h => absurd h.1 (by decide)) (fun h => h.elim (fun h => absurd h (by decide)) (fun h => h.elim (fun h => absurd h (by decide)) (fun h => h.elim (fun h => absurd h (by decide)) (fun h => h.elim (fun h => absurd h (by decide)) (fun h => h.elim (fun h => absurd h.1 (by decide)) (fun h => absurd h.1 (by decide))))))))))).trans rfl)) hv)
      · exact f_jv_puls (f := a2) hr8 hl1 hjv
      · exact f_a2_ag ((f_puls_ok hr8 hl1 hjv).1.2)
      · exact f_hs_keep hhs (f_mp_jv hjv) (ml_puls hr8 hl1 hjv)
    · exfalso
      exact h405 rfl
  · refine ax_invG [.inl a1, .inl a2] [] dL_law_388 mlL_37 sh_0 rfl rfl rfl (Nat.le_of_ble_eq_true rfl) (s_X11_pull_no E l _ (by omega) _ a1 a2 Ls (M 331) hnb hjv hc) (pc' := 391) rfl (fun vv M_388 hq co388 hcm388 => ?_)
    obtain ⟨rfl, rfl⟩ := hq
    refine ax_reS (st2 := [.inl (-1)]) rfl ?_
    refine ax_aload_n dL_law_391 rfl rfl (pc' := 392) rfl ?_
    refine ax_aload_n dL_law_392 rfl rfl (pc' := 393) rfl ?_
    refine ax_iload_n dL_law_393 rfl rfl (pc' := 394) rfl ?_
    refine ax_iconst dL_law_394 (by decide) (pc' := 395) rfl ?_
    refine ax_iadd dL_law_395 (by omega) (pc' := 396) rfl ?_
    refine ax_sald (v := a1) dL_law_396 (by omega) (by omega) qa1.symm (pc' := 397) rfl ?_
    refine ax_aload_n dL_law_397 rfl rfl (pc' := 398) rfl ?_
    refine ax_iload_n dL_law_398 rfl rfl (pc' := 399) rfl ?_
    refine ax_iconst dL_law_399 (by decide) (pc' := 400) rfl ?_
    refine ax_iadd dL_law_400 (by omega) (pc' := 401) rfl ?_
    refine ax_sald (v := a2) dL_law_401 (by omega) (by omega) qa2.symm (pc' := 402) rfl ?_
    refine ax_invG [.inl a1, .inl a2] [.inl (-1)] dL_law_402 mlL_40 sh_330 rfl rfl rfl (Nat.le_of_ble_eq_true rfl) (s_X12_pull_no E l _ (by omega) _ a1 a2 rfl hc) (pc' := 405) rfl (fun vv M_402 hq co402 hcm402 => ?_)
    obtain ⟨rfl, rfl⟩ := hq
    refine ax_reS (st2 := [.inl (-1), .inl (-1)]) rfl ?_
    refine ax_icmp_eq (tgt := 1416) dL_law_405 (by decide) (pc' := 408) rfl (fun h405 => ?_) (fun h405 => ?_)
    · exact kk _ ⟨hv, Ls, Lk, hI⟩
    · exfalso
      exact h405 rfl
set_option maxRecDepth 20000 in
theorem lc_6 (E : ax_Env) (l : Launch) (d : Nat) (hd : 60 ≤ d) (M : ax_Mem) (Q : ax_Post) (i : Int) (hx : ax_xl E ≤ 3072) (hi : 0 ≤ i ∧ i + 6 ≤ (ax_xl E : Int)) (hI : f_INV M) (kk : ∀ M2, f_INV M2 → ax_W E l (d + 1) 0 0 iL_law 1416 [some (.inr (-2)), some (.inr 0), some (.inr 330), some (.inl i)] [] SH M2 Q) : ax_W E l (d + 1) 0 0 iL_law 410 [some (.inr (-2)), some (.inr 0), some (.inr 330), some (.inl i)] [] SH M Q := by
  obtain ⟨hv, Ls, Lk, hI⟩ := hI
  have hnb := hI.1.1
  have hjv := hI.1.2.1
  have hlq := hI.1.2.2
  have hpr := hI.2.1.1
  have hhs := hI.2.1.2
  have hlo := hI.2.2.1
  have qta := hI.2.2.2.1.1
  have qtn := hI.2.2.2.1.2.1
  have qt4 := hI.2.2.2.1.2.2.1
  have qtp := hI.2.2.2.1.2.2.2
  obtain ⟨a1, qa1⟩ : ∃ z, z = (ax_xs E (i + 1).toNat).toInt := ⟨_, rfl⟩
  have ca1 : -2147483648 ≤ a1 ∧ a1 < 2147483648 := by rw [qa1]; exact ax_can_toInt _
  obtain ⟨a2, qa2⟩ : ∃ z, z = (ax_xs E (i + 2).toNat).toInt := ⟨_, rfl⟩
  have ca2 : -2147483648 ≤ a2 ∧ a2 < 2147483648 := by rw [qa2]; exact ax_can_toInt _
  obtain ⟨a3, qa3⟩ : ∃ z, z = (ax_xs E (i + 3).toNat).toInt := ⟨_, rfl⟩
  have ca3 : -2147483648 ≤ a3 ∧ a3 < 2147483648 := by rw [qa3]; exact ax_can_toInt _
  obtain ⟨a4, qa4⟩ : ∃ z, z = (ax_xs E (i + 4).toNat).toInt := ⟨_, rfl⟩
  have ca4 : -2147483648 ≤ a4 ∧ a4 < 2147483648 := by rw [qa4]; exact ax_can_toInt _
  obtain ⟨a5, qa5⟩ : ∃ z, z = (ax_xs E (i + 5).toNat).toInt := ⟨_, rfl⟩
  have ca5 : -2147483648 ≤ a5 ∧ a5 < 2147483648 := by rw [qa5]; exact ax_can_toInt _
  refine ax_aload_n dL_law_410 rfl rfl (pc' := 411) rfl ?_
  refine ax_aload_n dL_law_411 rfl rfl (pc' := 412) rfl ?_
  refine ax_iload_n dL_law_412 rfl rfl (pc' := 413) rfl ?_
  refine ax_iconst dL_law_413 (by decide) (pc' := 414) rfl ?_
  refine ax_iadd dL_law_414 (by omega) (pc' := 415) rfl ?_
  refine ax_sald (v := a1) dL_law_415 (by omega) (by omega) qa1.symm (pc' := 416) rfl ?_
  refine ax_aload_n dL_law_416 rfl rfl (pc' := 417) rfl ?_
  refine ax_iload_n dL_law_417 rfl rfl (pc' := 418) rfl ?_
  refine ax_iconst dL_law_418 (by decide) (pc' := 419) rfl ?_
  refine ax_iadd dL_law_419 (by omega) (pc' := 420) rfl ?_
  refine ax_sald (v := a2) dL_law_420 (by omega) (by omega) qa2.symm (pc' := 421) rfl ?_
  by_cases hc : f_isR (M 331) a1 ∧ 0 ≤ a2 ∧ a2 ≤ 9
  · have hr8 : 0 ≤ a1 ∧ a1 < 8 := by omega
    have hl24 := (hjv.1.1 a1 hr8.1 hr8.2).2.2
    refine ax_invG [.inl a1, .inl a2] [] dL_law_421 mlL_41 sh_0 rfl rfl rfl (Nat.le_of_ble_eq_true rfl) (s_X11_wet_ok E l _ (by omega) _ a1 a2 Ls (M 331) (M 333) (M 330 4) hnb hjv hpr hc) (pc' := 424) rfl (fun vv M_421 hq co421 hcm421 => ?_)
    obtain ⟨rfl, frM_421, fa421_0, fa421_1⟩ := hq
    refine ax_reS (st2 := [.inl 1]) rfl ?_
    refine ax_aload_n dL_law_424 rfl rfl (pc' := 425) rfl ?_
    refine ax_aload_n dL_law_425 rfl rfl (pc' := 426) rfl ?_
    refine ax_iload_n dL_law_426 rfl rfl (pc' := 427) rfl ?_
    refine ax_iconst dL_law_427 (by decide) (pc' := 428) rfl ?_
    refine ax_iadd dL_law_428 (by omega) (pc' := 429) rfl ?_
    refine ax_sald (v := a1) dL_law_429 (by omega) (by omega) qa1.symm (pc' := 430) rfl ?_
    refine ax_aload_n dL_law_430 rfl rfl (pc' := 431) rfl ?_
    refine ax_iload_n dL_law_431 rfl rfl (pc' := 432) rfl ?_
    refine ax_iconst dL_law_432 (by decide) (pc' := 433) rfl ?_
    refine ax_iadd dL_law_433 (by omega) (pc' := 434) rfl ?_
    refine ax_sald (v := a2) dL_law_434 (by omega) (by omega) qa2.symm (pc' := 435) rfl ?_
    refine ax_invG [.inl a1, .inl a2] [.inl 1] dL_law_435 mlL_45 sh_330 rfl rfl rfl (Nat.le_of_ble_eq_true rfl) (s_X12_wet_ok E l _ (by omega) _ a1 a2 ((funext fun i0 => frM_421 331 i0 (fun h => h.elim (fun h => absurd h.2 (by decide)) (fun h => h.elim (fun h => absurd h.2 (by decide)) (fun h => h.elim (fun h => absurd h.1 (by decide)) (fun h => h.elim (fun h => absurd h (by decide)) (fun h => h.elim (fun h => absurd h (by decide)) (fun h => h.elim (fun h => absurd h (by decide)) (fun h => h.elim (fun h => absurd h (by decide)) (fun h => h.elim (fun h => absurd h.1 (by decide)) (fun h => absurd h.1 (by decide))))))))))).trans rfl) ((funext fun i0 => frM_421 333 i0 (fun h => h.elim (fun h => absurd h.2 (by decide)) (fun h => h.elim (fun h => absurd h.2 (by decide)) (fun h => h.elim (fun h => absurd h.1 (by decide)) (fun h => h.elim (fun h => absurd h (by decide)) (fun h => h.elim (fun h => absurd h (by decide)) (fun h => h.elim (fun h => absurd h (by decide)) (fun h => h.elim (fun h => absurd h (by decide)) (fun h => h.elim (fun h => absurd h.1 (by decide)) (fun h => absurd h.1 (by decide))))))))))).trans rfl) ((frM_421 330 4 (fun h => h.elim (fun h => absurd h.2 (by decide)) (fun h => h.elim (fun h => absurd h.2 (by decide)) (fun h => h.elim (fun h => absurd h.1 (by decide)) (fun h => h.elim (fun h => absurd h (by decide)) (fun h => h.elim (fun h => absurd h (by decide)) (fun h => h.elim (fun h => absurd h (by decide)) (fun h => h.elim (fun h => absurd h (by decide)) (fun h => h.elim (fun h => absurd h.1 (by decide)) (fun h => absurd h.1 (by decide))))))))))).trans rfl) hjv.1 hhs.1 hc) (pc' := 438) rfl (fun vv M_435 hq co435 hcm435 => ?_)
    obtain ⟨rfl, frM_435, mrM_435_0, mrM_435_1, msM_435_0⟩ := hq
    refine ax_reS (st2 := [.inl 1, .inl 1]) rfl ?_
    refine ax_icmp_eq (tgt := 1416) dL_law_438 (by decide) (pc' := 441) rfl (fun h438 => ?_) (fun h438 => ?_)
    · refine kk _ (f_INV_mk (f_IV_fr (f_IV_act hI (fun x0 i0 hai => frM_421 x0 i0 (by unfold f_rd at hai; omega)) fa421_0 fa421_1 ?_ ?_ ?_) (fun x0 i0 hai => frM_435 x0 i0 (by unfold f_rc at hai; omega))) mrM_435_0 ((funext fun i0 => frM_435 332 i0 (fun h => h.elim (fun h => absurd h (by decide)) (fun h => h.elim (fun h => absurd h (by decide)) (fun h => absurd h.1 (by decide))))).trans ((funext fun i0 => frM_421 332 i0 (fun h => h.elim (fun h => absurd h.2 (by decide)) (fun h => h.elim (fun h => absurd h.2 (by decide)) (fun h => h.elim (fun h => absurd h.1 (by decide)) (fun h => h.elim (fun h => absurd h (by decide)) (fun h => h.elim (fun h => absurd h (by decide)) (fun h => h.elim (fun h => absurd h (by decide)) (fun h => h.elim (fun h => absurd h (by decide)) (fun h => h.elim (fun h => absurd h.1 (by decide)) (fun h => absurd h.1 (by decide))))))))))).trans rfl)) mrM_435_1 ((funext fun i0 => frM_435 339 i0 (fun h => h.elim (fun h => absurd h (by decide)) (fun h => h.elim (fun h => absurd h (by decide)) (fun h => absurd h.1 (by decide))))).trans ((funext fun i0 => frM_421 339 i0 (fun h => h.elim (fun h => absurd h.2 (by decide)) (fun h => h.elim (fun h => absurd h.2 (by decide)) (fun h => h.elim (fun h => absurd h.1 (by decide)) (fun h => h.elim (fun h => absurd h (by decide)) (fun h => h.elim (fun h => absurd h (by decide)) (fun h => h.elim (fun h => absurd h (by decide)) (fun h => h.elim (fun h => absurd h (by decide)) (fun h => h.elim (fun h => absurd h.1 (by decide)) (fun h => absurd h.1 (by decide))))))))))).trans rfl)) msM_435_0 ((frM_435 330 5 (fun h => h.elim (fun h => absurd h (by decide)) (fun h => h.elim (fun h => absurd h (by decide)) (fun h => absurd h.2 (by decide))))).trans ((frM_421 330 5 (fun h => h.elim (fun h => absurd h.2 (by decide)) (fun h => h.elim (fun h => absurd h.2 (by decide)) (fun h => h.elim (fun h => absurd h.1 (by decide)) (fun h => h.elim (fun h => absurd h (by decide)) (fun h => h.elim (fun h => absurd h (by decide)) (fun h => h.elim (fun h => absurd h (by decide)) (fun h => h.elim (fun h => absurd h (by decide)) (fun h => h.elim (fun h => absurd h.1 (by decide)) (fun h => absurd h.1 (by decide))))))))))).trans rfl)) ((frM_435 330 17 (fun h => h.elim (fun h => absurd h (by decide)) (fun h => h.elim (fun h => absurd h (by decide)) (fun h => absurd h.2 (by decide))))).trans ((frM_421 330 17 (fun h => h.elim (fun h => absurd h.2 (by decide)) (fun h => h.elim (fun h => absurd h.2 (by decide)) (fun h => h.elim (fun h => absurd h.1 (by decide)) (fun h => h.elim (fun h => absurd h (by decide)) (fun h => h.elim (fun h => absurd h (by decide)) (fun h => h.elim (fun h => absurd h (by decide)) (fun h => h.elim (fun h => absurd h (by decide)) (fun h => h.elim (fun h => absurd h.1 (by decide)) (fun h => absurd h.1 (by decide))))))))))).trans rfl)) ((frM_435 330 24 (fun h => h.elim (fun h => absurd h (by decide)) (fun h => h.elim (fun h => absurd h (by decide)) (fun h => absurd h.2 (by decide))))).trans ((frM_421 330 24 (fun h => h.elim (fun h => absurd h.2 (by decide)) (fun h => h.elim (fun h => absurd h.2 (by decide)) (fun h => h.elim (fun h => absurd h.1 (by decide)) (fun h => h.elim (fun h => absurd h (by decide)) (fun h => h.elim (fun h => absurd h (by decide)) (fun h => h.elim (fun h => absurd h (by decide)) (fun h => h.elim (fun h => absurd h (by decide)) (fun h => h.elim (fun h => absurd h.1 (by decide)) (fun h => absurd h.1 (by decide))))))))))).trans rfl)) ((frM_435 330 26 (fun h => h.elim (fun h => absurd h (by decide)) (fun h => h.elim (fun h => absurd h (by decide)) (fun h => absurd h.2 (by decide))))).trans ((frM_421 330 26 (fun h => h.elim (fun h => absurd h.2 (by decide)) (fun h => h.elim (fun h => absurd h.2 (by decide)) (fun h => h.elim (fun h => absurd h.1 (by decide)) (fun h => h.elim (fun h => absurd h (by decide)) (fun h => h.elim (fun h => absurd h (by decide)) (fun h => h.elim (fun h => absurd h (by decide)) (fun h => h.elim (fun h => absurd h (by decide)) (fun h => h.elim (fun h => absurd h.1 (by decide)) (fun h => absurd h.1 (by decide))))))))))).trans rfl)) ((frM_435 330 21 (fun h => h.elim (fun h => absurd h (by decide)) (fun h => h.elim (fun h => absurd h (by decide)) (fun h => absurd h.2 (by decide))))).trans ((frM_421 330 21 (fun h => h.elim (fun h => absurd h.2 (by decide)) (fun h => h.elim (fun h => absurd h.2 (by decide)) (fun h => h.elim (fun h => absurd h.1 (by decide)) (fun h => h.elim (fun h => absurd h (by decide)) (fun h => h.elim (fun h => absurd h (by decide)) (fun h => h.elim (fun h => absurd h (by decide)) (fun h => h.elim (fun h => absurd h (by decide)) (fun h => h.elim (fun h => absurd h.1 (by decide)) (fun h => absurd h.1 (by decide))))))))))).trans rfl)) hv)
      · exact (f_jv_wets hr8 hc.2 hjv).1
      · exact f_a2_ag ((f_jv_wets hr8 hc.2 hjv).2.2)
      · exact f_hs_keep hhs (f_mp_jv hjv) (Int.le_of_eq (ml_wets hr8.1 hl24).symm)
    · exfalso
      exact h438 rfl
  · refine ax_invG [.inl a1, .inl a2] [] dL_law_421 mlL_41 sh_0 rfl rfl rfl (Nat.le_of_ble_eq_true rfl) (s_X11_wet_no E l _ (by omega) _ a1 a2 Ls (M 331) hnb hjv hc) (pc' := 424) rfl (fun vv M_421 hq co421 hcm421 => ?_)
    obtain ⟨rfl, rfl⟩ := hq
    refine ax_reS (st2 := [.inl 0]) rfl ?_
    refine ax_aload_n dL_law_424 rfl rfl (pc' := 425) rfl ?_
    refine ax_aload_n dL_law_425 rfl rfl (pc' := 426) rfl ?_
    refine ax_iload_n dL_law_426 rfl rfl (pc' := 427) rfl ?_
    refine ax_iconst dL_law_427 (by decide) (pc' := 428) rfl ?_
    refine ax_iadd dL_law_428 (by omega) (pc' := 429) rfl ?_
    refine ax_sald (v := a1) dL_law_429 (by omega) (by omega) qa1.symm (pc' := 430) rfl ?_
    refine ax_aload_n dL_law_430 rfl rfl (pc' := 431) rfl ?_
    refine ax_iload_n dL_law_431 rfl rfl (pc' := 432) rfl ?_
    refine ax_iconst dL_law_432 (by decide) (pc' := 433) rfl ?_
    refine ax_iadd dL_law_433 (by omega) (pc' := 434) rfl ?_
    refine ax_sald (v := a2) dL_law_434 (by omega) (by omega) qa2.symm (pc' := 435) rfl ?_
    refine ax_invG [.inl a1, .inl a2] [.inl 0] dL_law_435 mlL_45 sh_330 rfl rfl rfl (Nat.le_of_ble_eq_true rfl) (s_X12_wet_no E l _ (by omega) _ a1 a2 rfl hjv.1 hc) (pc' := 438) rfl (fun vv M_435 hq co435 hcm435 => ?_)
    obtain ⟨rfl, rfl⟩ := hq
    refine ax_reS (st2 := [.inl 0, .inl 0]) rfl ?_
    refine ax_icmp_eq (tgt := 1416) dL_law_438 (by decide) (pc' := 441) rfl (fun h438 => ?_) (fun h438 => ?_)
    · exact kk _ ⟨hv, Ls, Lk, hI⟩
    · exfalso
      exact h438 rfl
set_option maxRecDepth 20000 in
theorem lc_7 (E : ax_Env) (l : Launch) (d : Nat) (hd : 60 ≤ d) (M : ax_Mem) (Q : ax_Post) (i : Int) (hx : ax_xl E ≤ 3072) (hi : 0 ≤ i ∧ i + 6 ≤ (ax_xl E : Int)) (hI : f_INV M) (kk : ∀ M2, f_INV M2 → ax_W E l (d + 1) 0 0 iL_law 1416 [some (.inr (-2)), some (.inr 0), some (.inr 330), some (.inl i)] [] SH M2 Q) : ax_W E l (d + 1) 0 0 iL_law 443 [some (.inr (-2)), some (.inr 0), some (.inr 330), some (.inl i)] [] SH M Q := by
  obtain ⟨hv, Ls, Lk, hI⟩ := hI
  have hnb := hI.1.1
  have hjv := hI.1.2.1
  have hlq := hI.1.2.2
  have hpr := hI.2.1.1
  have hhs := hI.2.1.2
  have hlo := hI.2.2.1
  have qta := hI.2.2.2.1.1
  have qtn := hI.2.2.2.1.2.1
  have qt4 := hI.2.2.2.1.2.2.1
  have qtp := hI.2.2.2.1.2.2.2
  obtain ⟨a1, qa1⟩ : ∃ z, z = (ax_xs E (i + 1).toNat).toInt := ⟨_, rfl⟩
  have ca1 : -2147483648 ≤ a1 ∧ a1 < 2147483648 := by rw [qa1]; exact ax_can_toInt _
  obtain ⟨a2, qa2⟩ : ∃ z, z = (ax_xs E (i + 2).toNat).toInt := ⟨_, rfl⟩
  have ca2 : -2147483648 ≤ a2 ∧ a2 < 2147483648 := by rw [qa2]; exact ax_can_toInt _
  obtain ⟨a3, qa3⟩ : ∃ z, z = (ax_xs E (i + 3).toNat).toInt := ⟨_, rfl⟩
  have ca3 : -2147483648 ≤ a3 ∧ a3 < 2147483648 := by rw [qa3]; exact ax_can_toInt _
  obtain ⟨a4, qa4⟩ : ∃ z, z = (ax_xs E (i + 4).toNat).toInt := ⟨_, rfl⟩
  have ca4 : -2147483648 ≤ a4 ∧ a4 < 2147483648 := by rw [qa4]; exact ax_can_toInt _
  obtain ⟨a5, qa5⟩ : ∃ z, z = (ax_xs E (i + 5).toNat).toInt := ⟨_, rfl⟩
  have ca5 : -2147483648 ≤ a5 ∧ a5 < 2147483648 := by rw [qa5]; exact ax_can_toInt _
  refine ax_aload_n dL_law_443 rfl rfl (pc' := 444) rfl ?_
  refine ax_aload_n dL_law_444 rfl rfl (pc' := 445) rfl ?_
  refine ax_iload_n dL_law_445 rfl rfl (pc' := 446) rfl ?_
  refine ax_iconst dL_law_446 (by decide) (pc' := 447) rfl ?_
  refine ax_iadd dL_law_447 (by omega) (pc' := 448) rfl ?_
  refine ax_sald (v := a1) dL_law_448 (by omega) (by omega) qa1.symm (pc' := 449) rfl ?_
  refine ax_aload_n dL_law_449 rfl rfl (pc' := 450) rfl ?_
  refine ax_iload_n dL_law_450 rfl rfl (pc' := 451) rfl ?_
  refine ax_iconst dL_law_451 (by decide) (pc' := 452) rfl ?_
  refine ax_iadd dL_law_452 (by omega) (pc' := 453) rfl ?_
  refine ax_sald (v := a2) dL_law_453 (by omega) (by omega) qa2.symm (pc' := 454) rfl ?_
  by_cases hc : f_isR (M 331) a1 ∧ 2 ≤ a2 ∧ a2 ≤ f_R (M 331) a1 1 - 2
  · have hr8 : 0 ≤ a1 ∧ a1 < 8 := by omega
    have hl24 := (hjv.1.1 a1 hr8.1 hr8.2).2.2
    have hpl : 0 ≤ a2 ∧ a2 < f_R (M 331) a1 1 := by omega
    have hpj := f_jv_part hr8 hpl hjv
    have hout := (f_part_ok hr8 hpl hl24).1
    have hN := hpj.1.2.2.2.1
    refine ax_invG [.inl a1, .inl a2] [] dL_law_454 mlL_46 sh_0 rfl rfl rfl (Nat.le_of_ble_eq_true rfl) (s_X11_cut_ok E l _ (by omega) _ a1 a2 Ls (M 331) (M 333) (M 330 4) hnb hjv hpr hc) (pc' := 457) rfl (fun vv M_454 hq co454 hcm454 => ?_)
    obtain ⟨rfl, frM_454, fa454_0, fa454_1⟩ := hq
    refine ax_reS (st2 := [.inl (f_lost (f_pfr (M 331) a1 a2))]) rfl ?_
    have cc454 : -2147483648 ≤ f_lost (f_pfr (M 331) a1 a2) ∧ f_lost (f_pfr (M 331) a1 a2) < 2147483648 := co454 _ rfl
    refine ax_aload_n dL_law_457 rfl rfl (pc' := 458) rfl ?_
    refine ax_aload_n dL_law_458 rfl rfl (pc' := 459) rfl ?_
    refine ax_iload_n dL_law_459 rfl rfl (pc' := 460) rfl ?_
    refine ax_iconst dL_law_460 (by decide) (pc' := 461) rfl ?_
    refine ax_iadd dL_law_461 (by omega) (pc' := 462) rfl ?_
    refine ax_sald (v := a1) dL_law_462 (by omega) (by omega) qa1.symm (pc' := 463) rfl ?_
    refine ax_aload_n dL_law_463 rfl rfl (pc' := 464) rfl ?_
    refine ax_iload_n dL_law_464 rfl rfl (pc' := 465) rfl ?_
    refine ax_iconst dL_law_465 (by decide) (pc' := 466) rfl ?_
    refine ax_iadd dL_law_466 (by omega) (pc' := 467) rfl ?_
    refine ax_sald (v := a2) dL_law_467 (by omega) (by omega) qa2.symm (pc' := 468) rfl ?_
    refine ax_invG [.inl a1, .inl a2] [.inl (f_lost (f_pfr (M 331) a1 a2))] dL_law_468 mlL_49 sh_330 rfl rfl rfl (Nat.le_of_ble_eq_true rfl) (s_X12_cut_ok E l _ (by omega) _ a1 a2 ((funext fun i0 => frM_454 331 i0 (fun h => h.elim (fun h => absurd h.2 (by decide)) (fun h => h.elim (fun h => absurd h.2 (by decide)) (fun h => h.elim (fun h => absurd h.1 (by decide)) (fun h => h.elim (fun h => absurd h (by decide)) (fun h => h.elim (fun h => absurd h (by decide)) (fun h => h.elim (fun h => absurd h (by decide)) (fun h => h.elim (fun h => absurd h (by decide)) (fun h => h.elim (fun h => absurd h.1 (by decide)) (fun h => absurd h.1 (by decide))))))))))).trans rfl) ((funext fun i0 => frM_454 333 i0 (fun h => h.elim (fun h => absurd h.2 (by decide)) (fun h => h.elim (fun h => absurd h.2 (by decide)) (fun h => h.elim (fun h => absurd h.1 (by decide)) (fun h => h.elim (fun h => absurd h (by decide)) (fun h => h.elim (fun h => absurd h (by decide)) (fun h => h.elim (fun h => absurd h (by decide)) (fun h => h.elim (fun h => absurd h (by decide)) (fun h => h.elim (fun h => absurd h.1 (by decide)) (fun h => absurd h.1 (by decide))))))))))).trans rfl) ((frM_454 330 4 (fun h => h.elim (fun h => absurd h.2 (by decide)) (fun h => h.elim (fun h => absurd h.2 (by decide)) (fun h => h.elim (fun h => absurd h.1 (by decide)) (fun h => h.elim (fun h => absurd h (by decide)) (fun h => h.elim (fun h => absurd h (by decide)) (fun h => h.elim (fun h => absurd h (by decide)) (fun h => h.elim (fun h => absurd h (by decide)) (fun h => h.elim (fun h => absurd h.1 (by decide)) (fun h => absurd h.1 (by decide))))))))))).trans rfl) hjv.1 hhs.1 hc) (pc' := 471) rfl (fun vv M_468 hq co468 hcm468 => ?_)
    obtain ⟨rfl, frM_468, mrM_468_0, mrM_468_1, msM_468_0⟩ := hq
    refine ax_reS (st2 := [.inl (f_lost (f_pfr (M 331) a1 a2)), .inl (f_lost (f_pfr (M 331) a1 a2))]) rfl ?_
    have cc468 : -2147483648 ≤ f_lost (f_pfr (M 331) a1 a2) ∧ f_lost (f_pfr (M 331) a1 a2) < 2147483648 := co468 _ rfl
    refine ax_icmp_eq (tgt := 1416) dL_law_471 (by decide) (pc' := 474) rfl (fun h471 => ?_) (fun h471 => ?_)
    · refine kk _ (f_INV_mk (f_IV_fr (f_IV_act hI (fun x0 i0 hai => frM_454 x0 i0 (by unfold f_rd at hai; omega)) fa454_0 fa454_1 ?_ ?_ ?_) (fun x0 i0 hai => frM_468 x0 i0 (by unfold f_rc at hai; omega))) mrM_468_0 ((funext fun i0 => frM_468 332 i0 (fun h => h.elim (fun h => absurd h (by decide)) (fun h => h.elim (fun h => absurd h (by decide)) (fun h => absurd h.1 (by decide))))).trans ((funext fun i0 => frM_454 332 i0 (fun h => h.elim (fun h => absurd h.2 (by decide)) (fun h => h.elim (fun h => absurd h.2 (by decide)) (fun h => h.elim (fun h => absurd h.1 (by decide)) (fun h => h.elim (fun h => absurd h (by decide)) (fun h => h.elim (fun h => absurd h (by decide)) (fun h => h.elim (fun h => absurd h (by decide)) (fun h => h.elim (fun h => absurd h (by decide)) (fun h => h.elim (fun h => absurd h.1 (by decide)) (fun h => absurd h.1 (by decide))))))))))).trans rfl)) mrM_468_1 ((funext fun i0 => frM_468 339 i0 (fun h => h.elim (fun h => absurd h (by decide)) (fun h => h.elim (fun h => absurd h (by decide)) (fun h => absurd h.1 (by decide))))).trans ((funext fun i0 => frM_454 339 i0 (fun h => h.elim (fun h => absurd h.2 (by decide)) (fun h => h.elim (fun h => absurd h.2 (by decide)) (fun h => h.elim (fun h => absurd h.1 (by decide)) (fun h => h.elim (fun h => absurd h (by decide)) (fun h => h.elim (fun h => absurd h (by decide)) (fun h => h.elim (fun h => absurd h (by decide)) (fun h => h.elim (fun h => absurd h (by decide)) (fun h => h.elim (fun h => absurd h.1 (by decide)) (fun h => absurd h.1 (by decide))))))))))).trans rfl)) msM_468_0 ((frM_468 330 5 (fun h => h.elim (fun h => absurd h (by decide)) (fun h => h.elim (fun h => absurd h (by decide)) (fun h => absurd h.2 (by decide))))).trans ((frM_454 330 5 (fun h => h.elim (fun h => absurd h.2 (by decide)) (fun h => h.elim (fun h => absurd h.2 (by decide)) (fun h => h.elim (fun h => absurd h.1 (by decide)) (fun h => h.elim (fun h => absurd h (by decide)) (fun h => h.elim (fun h => absurd h (by decide)) (fun h => h.elim (fun h => absurd h (by decide)) (fun h => h.elim (fun h => absurd h (by decide)) (fun h => h.elim (fun h => absurd h.1 (by decide)) (fun h => absurd h.1 (by decide))))))))))).trans rfl)) ((frM_468 330 17 (fun h => h.elim (fun h => absurd h (by decide)) (fun h => h.elim (fun h => absurd h (by decide)) (fun h => absurd h.2 (by decide))))).trans ((frM_454 330 17 (fun h => h.elim (fun h => absurd h.2 (by decide)) (fun h => h.elim (fun h => absurd h.2 (by decide)) (fun h => h.elim (fun h => absurd h.1 (by decide)) (fun h => h.elim (fun h => absurd h (by decide)) (fun h => h.elim (fun h => absurd h (by decide)) (fun h => h.elim (fun h => absurd h (by decide)) (fun h => h.elim (fun h => absurd h (by decide)) (fun h => h.elim (fun h => absurd h.1 (by decide)) (fun h => absurd h.1 (by decide))))))))))).trans rfl)) ((frM_468 330 24 (fun h => h.elim (fun h => absurd h (by decide)) (fun h => h.elim (fun h => absurd h (by decide)) (fun h => absurd h.2 (by decide))))).trans ((frM_454 330 24 (fun h => h.elim (fun h => absurd h.2 (by decide)) (fun h => h.elim (fun h => absurd h.2 (by decide)) (fun h => h.elim (fun h => absurd h.1 (by decide)) (fun h => h.elim (fun h => absurd h (by decide)) (fun h => h.elim (fun h => absurd h (by decide)) (fun h => h.elim (fun h => absurd h (by decide)) (fun h => h.elim (fun h => absurd h (by decide)) (fun h => h.elim (fun h => absurd h.1 (by decide)) (fun h => absurd h.1 (by decide))))))))))).trans rfl)) ((frM_468 330 26 (fun h => h.elim (fun h => absurd h (by decide)) (fun h => h.elim (fun h => absurd h (by decide)) (fun h => absurd h.2 (by decide))))).trans ((frM_454 330 26 (fun h => h.elim (fun h => absurd h.2 (by decide)) (fun h => h.elim (fun h => absurd h.2 (by decide)) (fun h => h.elim (fun h => absurd h.1 (by decide)) (fun h => h.elim (fun h => absurd h (by decide)) (fun h => h.elim (fun h => absurd h (by decide)) (fun h => h.elim (fun h => absurd h (by decide)) (fun h => h.elim (fun h => absurd h (by decide)) (fun h => h.elim (fun h => absurd h.1 (by decide)) (fun h => absurd h.1 (by decide))))))))))).trans rfl)) ((frM_468 330 21 (fun h => h.elim (fun h => absurd h (by decide)) (fun h => h.elim (fun h => absurd h (by decide)) (fun h => absurd h.2 (by decide))))).trans ((frM_454 330 21 (fun h => h.elim (fun h => absurd h.2 (by decide)) (fun h => h.elim (fun h => absurd h.2 (by decide)) (fun h => h.elim (fun h => absurd h.1 (by decide)) (fun h => h.elim (fun h => absurd h (by decide)) (fun h => h.elim (fun h => absurd h (by decide)) (fun h => h.elim (fun h => absurd h (by decide)) (fun h => h.elim (fun h => absurd h (by decide)) (fun h => h.elim (fun h => absurd h.1 (by decide)) (fun h => absurd h.1 (by decide))))))))))).trans rfl)) hv)
      · exact f_jv_note hpj
      · exact f_a2_ag ((fun i0 u v => ((f_sm_note hN).1 i0 u v).trans (f_out_ag hout i0 u v)))
      · exact f_hs_keep hhs (f_mp_jv hjv) (Int.le_trans (Int.le_of_eq (ml_out hout).symm) ml_note)
    · exfalso
      exact h471 rfl
  · refine ax_invG [.inl a1, .inl a2] [] dL_law_454 mlL_46 sh_0 rfl rfl rfl (Nat.le_of_ble_eq_true rfl) (s_X11_cut_no E l _ (by omega) _ a1 a2 Ls (M 331) hnb hjv hc) (pc' := 457) rfl (fun vv M_454 hq co454 hcm454 => ?_)
    obtain ⟨rfl, rfl⟩ := hq
    refine ax_reS (st2 := [.inl (-1)]) rfl ?_
    refine ax_aload_n dL_law_457 rfl rfl (pc' := 458) rfl ?_
    refine ax_aload_n dL_law_458 rfl rfl (pc' := 459) rfl ?_
    refine ax_iload_n dL_law_459 rfl rfl (pc' := 460) rfl ?_
    refine ax_iconst dL_law_460 (by decide) (pc' := 461) rfl ?_
    refine ax_iadd dL_law_461 (by omega) (pc' := 462) rfl ?_
    refine ax_sald (v := a1) dL_law_462 (by omega) (by omega) qa1.symm (pc' := 463) rfl ?_
    refine ax_aload_n dL_law_463 rfl rfl (pc' := 464) rfl ?_
    refine ax_iload_n dL_law_464 rfl rfl (pc' := 465) rfl ?_
    refine ax_iconst dL_law_465 (by decide) (pc' := 466) rfl ?_
    refine ax_iadd dL_law_466 (by omega) (pc' := 467) rfl ?_
    refine ax_sald (v := a2) dL_law_467 (by omega) (by omega) qa2.symm (pc' := 468) rfl ?_
    refine ax_invG [.inl a1, .inl a2] [.inl (-1)] dL_law_468 mlL_49 sh_330 rfl rfl rfl (Nat.le_of_ble_eq_true rfl) (s_X12_cut_no E l _ (by omega) _ a1 a2 rfl hjv.1 hc) (pc' := 471) rfl (fun vv M_468 hq co468 hcm468 => ?_)
    obtain ⟨rfl, rfl⟩ := hq
    refine ax_reS (st2 := [.inl (-1), .inl (-1)]) rfl ?_
    refine ax_icmp_eq (tgt := 1416) dL_law_471 (by decide) (pc' := 474) rfl (fun h471 => ?_) (fun h471 => ?_)
    · exact kk _ ⟨hv, Ls, Lk, hI⟩
    · exfalso
      exact h471 rfl
set_option maxRecDepth 20000 in
theorem lc_9 (E : ax_Env) (l : Launch) (d : Nat) (hd : 60 ≤ d) (M : ax_Mem) (Q : ax_Post) (i : Int) (hx : ax_xl E ≤ 3072) (hi : 0 ≤ i ∧ i + 6 ≤ (ax_xl E : Int)) (hI : f_INV M) (kk : ∀ M2, f_INV M2 → ax_W E l (d + 1) 0 0 iL_law 1416 [some (.inr (-2)), some (.inr 0), some (.inr 330), some (.inl i)] [] SH M2 Q) : ax_W E l (d + 1) 0 0 iL_law 509 [some (.inr (-2)), some (.inr 0), some (.inr 330), some (.inl i)] [] SH M Q := by
  obtain ⟨hv, Ls, Lk, hI⟩ := hI
  have hnb := hI.1.1
  have hjv := hI.1.2.1
  have hlq := hI.1.2.2
  have hpr := hI.2.1.1
  have hhs := hI.2.1.2
  have hlo := hI.2.2.1
  have qta := hI.2.2.2.1.1
  have qtn := hI.2.2.2.1.2.1
  have qt4 := hI.2.2.2.1.2.2.1
  have qtp := hI.2.2.2.1.2.2.2
  obtain ⟨a1, qa1⟩ : ∃ z, z = (ax_xs E (i + 1).toNat).toInt := ⟨_, rfl⟩
  have ca1 : -2147483648 ≤ a1 ∧ a1 < 2147483648 := by rw [qa1]; exact ax_can_toInt _
  obtain ⟨a2, qa2⟩ : ∃ z, z = (ax_xs E (i + 2).toNat).toInt := ⟨_, rfl⟩
  have ca2 : -2147483648 ≤ a2 ∧ a2 < 2147483648 := by rw [qa2]; exact ax_can_toInt _
  obtain ⟨a3, qa3⟩ : ∃ z, z = (ax_xs E (i + 3).toNat).toInt := ⟨_, rfl⟩
  have ca3 : -2147483648 ≤ a3 ∧ a3 < 2147483648 := by rw [qa3]; exact ax_can_toInt _
  obtain ⟨a4, qa4⟩ : ∃ z, z = (ax_xs E (i + 4).toNat).toInt := ⟨_, rfl⟩
  have ca4 : -2147483648 ≤ a4 ∧ a4 < 2147483648 := by rw [qa4]; exact ax_can_toInt _
  obtain ⟨a5, qa5⟩ : ∃ z, z = (ax_xs E (i + 5).toNat).toInt := ⟨_, rfl⟩
  have ca5 : -2147483648 ≤ a5 ∧ a5 < 2147483648 := by rw [qa5]; exact ax_can_toInt _
  refine ax_aload_n dL_law_509 rfl rfl (pc' := 510) rfl ?_
  refine ax_aload_n dL_law_510 rfl rfl (pc' := 511) rfl ?_
  refine ax_iload_n dL_law_511 rfl rfl (pc' := 512) rfl ?_
  refine ax_iconst dL_law_512 (by decide) (pc' := 513) rfl ?_
  refine ax_iadd dL_law_513 (by omega) (pc' := 514) rfl ?_
  refine ax_sald (v := a1) dL_law_514 (by omega) (by omega) qa1.symm (pc' := 515) rfl ?_
  refine ax_aload_n dL_law_515 rfl rfl (pc' := 516) rfl ?_
  refine ax_iload_n dL_law_516 rfl rfl (pc' := 517) rfl ?_
  refine ax_iconst dL_law_517 (by decide) (pc' := 518) rfl ?_
  refine ax_iadd dL_law_518 (by omega) (pc' := 519) rfl ?_
  refine ax_sald (v := a2) dL_law_519 (by omega) (by omega) qa2.symm (pc' := 520) rfl ?_
  by_cases hc : f_isR (M 331) a1 ∧ 0 ≤ a2 ∧ a2 ≤ 9 ∧ f_R (M 331) a1 2 ≠ a2
  · have hr8 : 0 ≤ a1 ∧ a1 < 8 := by omega
    have hl24 := (hjv.1.1 a1 hr8.1 hr8.2).2.2
    have hpj := f_jv_sell (v := a2) hr8 hjv
    have hout := hpj.2
    have hN := hpj.1.1.2.2.2.1
    refine ax_invG [.inl a1, .inl a2] [] dL_law_520 mlL_54 sh_0 rfl rfl rfl (Nat.le_of_ble_eq_true rfl) (s_X11_sell_ok E l _ (by omega) _ a1 a2 Ls (M 331) (M 333) (M 330 4) hnb hjv hpr hc) (pc' := 523) rfl (fun vv M_520 hq co520 hcm520 => ?_)
    obtain ⟨rfl, frM_520, fa520_0, fa520_1⟩ := hq
    refine ax_reS (st2 := [.inl 1]) rfl ?_
    refine ax_aload_n dL_law_523 rfl rfl (pc' := 524) rfl ?_
    refine ax_aload_n dL_law_524 rfl rfl (pc' := 525) rfl ?_
    refine ax_iload_n dL_law_525 rfl rfl (pc' := 526) rfl ?_
    refine ax_iconst dL_law_526 (by decide) (pc' := 527) rfl ?_
    refine ax_iadd dL_law_527 (by omega) (pc' := 528) rfl ?_
    refine ax_sald (v := a1) dL_law_528 (by omega) (by omega) qa1.symm (pc' := 529) rfl ?_
    refine ax_aload_n dL_law_529 rfl rfl (pc' := 530) rfl ?_
    refine ax_iload_n dL_law_530 rfl rfl (pc' := 531) rfl ?_
    refine ax_iconst dL_law_531 (by decide) (pc' := 532) rfl ?_
    refine ax_iadd dL_law_532 (by omega) (pc' := 533) rfl ?_
    refine ax_sald (v := a2) dL_law_533 (by omega) (by omega) qa2.symm (pc' := 534) rfl ?_
    refine ax_invG [.inl a1, .inl a2] [.inl 1] dL_law_534 mlL_57 sh_330 rfl rfl rfl (Nat.le_of_ble_eq_true rfl) (s_X12_sell_ok E l _ (by omega) _ a1 a2 ((funext fun i0 => frM_520 331 i0 (fun h => h.elim (fun h => absurd h.2 (by decide)) (fun h => h.elim (fun h => absurd h.2 (by decide)) (fun h => h.elim (fun h => absurd h.1 (by decide)) (fun h => h.elim (fun h => absurd h (by decide)) (fun h => h.elim (fun h => absurd h (by decide)) (fun h => h.elim (fun h => absurd h (by decide)) (fun h => h.elim (fun h => absurd h (by decide)) (fun h => h.elim (fun h => absurd h.1 (by decide)) (fun h => absurd h.1 (by decide))))))))))).trans rfl) ((funext fun i0 => frM_520 333 i0 (fun h => h.elim (fun h => absurd h.2 (by decide)) (fun h => h.elim (fun h => absurd h.2 (by decide)) (fun h => h.elim (fun h => absurd h.1 (by decide)) (fun h => h.elim (fun h => absurd h (by decide)) (fun h => h.elim (fun h => absurd h (by decide)) (fun h => h.elim (fun h => absurd h (by decide)) (fun h => h.elim (fun h => absurd h (by decide)) (fun h => h.elim (fun h => absurd h.1 (by decide)) (fun h => absurd h.1 (by decide))))))))))).trans rfl) ((frM_520 330 4 (fun h => h.elim (fun h => absurd h.2 (by decide)) (fun h => h.elim (fun h => absurd h.2 (by decide)) (fun h => h.elim (fun h => absurd h.1 (by decide)) (fun h => h.elim (fun h => absurd h (by decide)) (fun h => h.elim (fun h => absurd h (by decide)) (fun h => h.elim (fun h => absurd h (by decide)) (fun h => h.elim (fun h => absurd h (by decide)) (fun h => h.elim (fun h => absurd h.1 (by decide)) (fun h => absurd h.1 (by decide))))))))))).trans rfl) hjv.1 hhs.1 hc) (pc' := 537) rfl (fun vv M_534 hq co534 hcm534 => ?_)
    obtain ⟨rfl, frM_534, mrM_534_0, mrM_534_1, msM_534_0⟩ := hq
    refine ax_reS (st2 := [.inl 1, .inl 1]) rfl ?_
    refine ax_icmp_eq (tgt := 1416) dL_law_537 (by decide) (pc' := 540) rfl (fun h537 => ?_) (fun h537 => ?_)
    · refine kk _ (f_INV_mk (f_IV_fr (f_IV_act hI (fun x0 i0 hai => frM_520 x0 i0 (by unfold f_rd at hai; omega)) fa520_0 fa520_1 ?_ ?_ ?_) (fun x0 i0 hai => frM_534 x0 i0 (by unfold f_rc at hai; omega))) mrM_534_0 ((funext fun i0 => frM_534 332 i0 (fun h => h.elim (fun h => absurd h (by decide)) (fun h => h.elim (fun h => absurd h (by decide)) (fun h => absurd h.1 (by decide))))).trans ((funext fun i0 => frM_520 332 i0 (fun h => h.elim (fun h => absurd h.2 (by decide)) (fun h => h.elim (fun h => absurd h.2 (by decide)) (fun h => h.elim (fun h => absurd h.1 (by decide)) (fun h => h.elim (fun h => absurd h (by decide)) (fun h => h.elim (fun h => absurd h (by decide)) (fun h => h.elim (fun h => absurd h (by decide)) (fun h => h.elim (fun h => absurd h (by decide)) (fun h => h.elim (fun h => absurd h.1 (by decide)) (fun h => absurd h.1 (by decide))))))))))).trans rfl)) mrM_534_1 ((funext fun i0 => frM_534 339 i0 (fun h => h.elim (fun h => absurd h (by decide)) (fun h => h.elim (fun h => absurd h (by decide)) (fun h => absurd h.1 (by decide))))).trans ((funext fun i0 => frM_520 339 i0 (fun h => h.elim (fun h => absurd h.2 (by decide)) (fun h => h.elim (fun h => absurd h.2 (by decide)) (fun h => h.elim (fun h => absurd h.1 (by decide)) (fun h => h.elim (fun h => absurd h (by decide)) (fun h => h.elim (fun h => absurd h (by decide)) (fun h => h.elim (fun h => absurd h (by decide)) (fun h => h.elim (fun h => absurd h (by decide)) (fun h => h.elim (fun h => absurd h.1 (by decide)) (fun h => absurd h.1 (by decide))))))))))).trans rfl)) msM_534_0 ((frM_534 330 5 (fun h => h.elim (fun h => absurd h (by decide)) (fun h => h.elim (fun h => absurd h (by decide)) (fun h => absurd h.2 (by decide))))).trans ((frM_520 330 5 (fun h => h.elim (fun h => absurd h.2 (by decide)) (fun h => h.elim (fun h => absurd h.2 (by decide)) (fun h => h.elim (fun h => absurd h.1 (by decide)) (fun h => h.elim (fun h => absurd h (by decide)) (fun h => h.elim (fun h => absurd h (by decide)) (fun h => h.elim (fun h => absurd h (by decide)) (fun h => h.elim (fun h => absurd h (by decide)) (fun h => h.elim (fun h => absurd h.1 (by decide)) (fun h => absurd h.1 (by decide))))))))))).trans rfl)) ((frM_534 330 17 (fun h => h.elim (fun h => absurd h (by decide)) (fun h => h.elim (fun h => absurd h (by decide)) (fun h => absurd h.2 (by decide))))).trans ((frM_520 330 17 (fun h => h.elim (fun h => absurd h.2 (by decide)) (fun h => h.elim (fun h => absurd h.2 (by decide)) (fun h => h.elim (fun h => absurd h.1 (by decide)) (fun h => h.elim (fun h => absurd h (by decide)) (fun h => h.elim (fun h => absurd h (by decide)) (fun h => h.elim (fun h => absurd h (by decide)) (fun h => h.elim (fun h => absurd h (by decide)) (fun h => h.elim (fun h => absurd h.1 (by decide)) (fun h => absurd h.1 (by decide))))))))))).trans rfl)) ((frM_534 330 24 (fun h => h.elim (fun h => absurd h (by decide)) (fun h => h.elim (fun h => absurd h (by decide)) (fun h => absurd h.2 (by decide))))).trans ((frM_520 330 24 (fun h => h.elim (fun h => absurd h.2 (by decide)) (fun h => h.elim (fun h => absurd h.2 (by decide)) (fun h => h.elim (fun h => absurd h.1 (by decide)) (fun h => h.elim (fun h => absurd h (by decide)) (fun h => h.elim (fun h => absurd h (by decide)) (fun h => h.elim (fun h => absurd h (by decide)) (fun h => h.elim (fun h => absurd h (by decide)) (fun h => h.elim (fun h => absurd h.1 (by decide)) (fun h => absurd h.1 (by decide))))))))))).trans rfl)) ((frM_534 330 26 (fun h => h.elim (fun h => absurd h (by decide)) (fun h => h.elim (fun h => absurd h (by decide)) (fun h => absurd h.2 (by decide))))).trans ((frM_520 330 26 (fun h => h.elim (fun h => absurd h.2 (by decide)) (fun h => h.elim (fun h => absurd h.2 (by decide)) (fun h => h.elim (fun h => absurd h.1 (by decide)) (fun h => h.elim (fun h => absurd h (by decide)) (fun h => h.elim (fun h => absurd h (by decide)) (fun h => h.elim (fun h => absurd h (by decide)) (fun h => h.elim (fun h => absurd h (by decide)) (fun h => h.elim (fun h => absurd h.1 (by decide)) (fun h => absurd h.1 (by decide))))))))))).trans rfl)) ((frM_534 330 21 (fun h => h.elim (fun h => absurd h (by decide)) (fun h => h.elim (fun h => absurd h (by decide)) (fun h => absurd h.2 (by decide))))).trans ((frM_520 330 21 (fun h => h.elim (fun h => absurd h.2 (by decide)) (fun h => h.elim (fun h => absurd h.2 (by decide)) (fun h => h.elim (fun h => absurd h.1 (by decide)) (fun h => h.elim (fun h => absurd h (by decide)) (fun h => h.elim (fun h => absurd h (by decide)) (fun h => h.elim (fun h => absurd h (by decide)) (fun h => h.elim (fun h => absurd h (by decide)) (fun h => h.elim (fun h => absurd h.1 (by decide)) (fun h => absurd h.1 (by decide))))))))))).trans rfl)) hv)
      · exact f_jv_note hpj.1
      · exact f_a2_ag ((fun i0 u v => ((f_sm_note hN).1 i0 u v).trans (f_out_ag hout i0 u v)))
      · exact f_hs_keep hhs (f_mp_jv hjv) (Int.le_trans (Int.le_of_eq (ml_out hout).symm) ml_note)
    · exfalso
      exact h537 rfl
  · refine ax_invG [.inl a1, .inl a2] [] dL_law_520 mlL_54 sh_0 rfl rfl rfl (Nat.le_of_ble_eq_true rfl) (s_X11_sell_no E l _ (by omega) _ a1 a2 Ls (M 331) hnb hjv hc) (pc' := 523) rfl (fun vv M_520 hq co520 hcm520 => ?_)
    obtain ⟨rfl, rfl⟩ := hq
    refine ax_reS (st2 := [.inl 0]) rfl ?_
    refine ax_aload_n dL_law_523 rfl rfl (pc' := 524) rfl ?_
    refine ax_aload_n dL_law_524 rfl rfl (pc' := 525) rfl ?_
    refine ax_iload_n dL_law_525 rfl rfl (pc' := 526) rfl ?_
    refine ax_iconst dL_law_526 (by decide) (pc' := 527) rfl ?_
    refine ax_iadd dL_law_527 (by omega) (pc' := 528) rfl ?_
    refine ax_sald (v := a1) dL_law_528 (by omega) (by omega) qa1.symm (pc' := 529) rfl ?_
    refine ax_aload_n dL_law_529 rfl rfl (pc' := 530) rfl ?_
    refine ax_iload_n dL_law_530 rfl rfl (pc' := 531) rfl ?_
    refine ax_iconst dL_law_531 (by decide) (pc' := 532) rfl ?_
    refine ax_iadd dL_law_532 (by omega) (pc' := 533) rfl ?_
    refine ax_sald (v := a2) dL_law_533 (by omega) (by omega) qa2.symm (pc' := 534) rfl ?_
    refine ax_invG [.inl a1, .inl a2] [.inl 0] dL_law_534 mlL_57 sh_330 rfl rfl rfl (Nat.le_of_ble_eq_true rfl) (s_X12_sell_no E l _ (by omega) _ a1 a2 rfl hjv.1 hc) (pc' := 537) rfl (fun vv M_534 hq co534 hcm534 => ?_)
    obtain ⟨rfl, rfl⟩ := hq
    refine ax_reS (st2 := [.inl 0, .inl 0]) rfl ?_
    refine ax_icmp_eq (tgt := 1416) dL_law_537 (by decide) (pc' := 540) rfl (fun h537 => ?_) (fun h537 => ?_)
    · exact kk _ ⟨hv, Ls, Lk, hI⟩
    · exfalso
      exact h537 rfl
set_option maxRecDepth 20000 in
theorem lc_8 (E : ax_Env) (l : Launch) (d : Nat) (hd : 60 ≤ d) (M : ax_Mem) (Q : ax_Post) (i : Int) (hx : ax_xl E ≤ 3072) (hi : 0 ≤ i ∧ i + 6 ≤ (ax_xl E : Int)) (hI : f_INV M) (kk : ∀ M2, f_INV M2 → ax_W E l (d + 1) 0 0 iL_law 1416 [some (.inr (-2)), some (.inr 0), some (.inr 330), some (.inl i)] [] SH M2 Q) : ax_W E l (d + 1) 0 0 iL_law 476 [some (.inr (-2)), some (.inr 0), some (.inr 330), some (.inl i)] [] SH M Q := by
  obtain ⟨hv, Ls, Lk, hI⟩ := hI
  have hnb := hI.1.1
  have hjv := hI.1.2.1
  have hlq := hI.1.2.2
  have hpr := hI.2.1.1
  have hhs := hI.2.1.2
  have hlo := hI.2.2.1
  have qta := hI.2.2.2.1.1
  have qtn := hI.2.2.2.1.2.1
  have qt4 := hI.2.2.2.1.2.2.1
  have qtp := hI.2.2.2.1.2.2.2
  obtain ⟨a1, qa1⟩ : ∃ z, z = (ax_xs E (i + 1).toNat).toInt := ⟨_, rfl⟩
  have ca1 : -2147483648 ≤ a1 ∧ a1 < 2147483648 := by rw [qa1]; exact ax_can_toInt _
  obtain ⟨a2, qa2⟩ : ∃ z, z = (ax_xs E (i + 2).toNat).toInt := ⟨_, rfl⟩
  have ca2 : -2147483648 ≤ a2 ∧ a2 < 2147483648 := by rw [qa2]; exact ax_can_toInt _
  obtain ⟨a3, qa3⟩ : ∃ z, z = (ax_xs E (i + 3).toNat).toInt := ⟨_, rfl⟩
  have ca3 : -2147483648 ≤ a3 ∧ a3 < 2147483648 := by rw [qa3]; exact ax_can_toInt _
  obtain ⟨a4, qa4⟩ : ∃ z, z = (ax_xs E (i + 4).toNat).toInt := ⟨_, rfl⟩
  have ca4 : -2147483648 ≤ a4 ∧ a4 < 2147483648 := by rw [qa4]; exact ax_can_toInt _
  obtain ⟨a5, qa5⟩ : ∃ z, z = (ax_xs E (i + 5).toNat).toInt := ⟨_, rfl⟩
  have ca5 : -2147483648 ≤ a5 ∧ a5 < 2147483648 := by rw [qa5]; exact ax_can_toInt _
  refine ax_aload_n dL_law_476 rfl rfl (pc' := 477) rfl ?_
  refine ax_aload_n dL_law_477 rfl rfl (pc' := 478) rfl ?_
  refine ax_iload_n dL_law_478 rfl rfl (pc' := 479) rfl ?_
  refine ax_iconst dL_law_479 (by decide) (pc' := 480) rfl ?_
  refine ax_iadd dL_law_480 (by omega) (pc' := 481) rfl ?_
  refine ax_sald (v := a1) dL_law_481 (by omega) (by omega) qa1.symm (pc' := 482) rfl ?_
  refine ax_aload_n dL_law_482 rfl rfl (pc' := 483) rfl ?_
  refine ax_iload_n dL_law_483 rfl rfl (pc' := 484) rfl ?_
  refine ax_iconst dL_law_484 (by decide) (pc' := 485) rfl ?_
  refine ax_iadd dL_law_485 (by omega) (pc' := 486) rfl ?_
  refine ax_sald (v := a2) dL_law_486 (by omega) (by omega) qa2.symm (pc' := 487) rfl ?_
  by_cases hc : f_isR (M 331) a1 ∧ f_isR (M 331) a2 ∧ a1 ≠ a2 ∧ f_R (M 331) a1 1 + f_R (M 331) a2 1 ≤ 24
  · have hr8 : 0 ≤ a1 ∧ a1 < 8 := by omega
    have hl24 := (hjv.1.1 a1 hr8.1 hr8.2).2.2
    have hl2 := (hjv.2.1 a1 hr8.1 hr8.2).2 (by omega)
    have hl1 : 1 ≤ f_R (M 331) a1 1 := by omega
    have hs8 : 0 ≤ a2 ∧ a2 < 8 := by omega
    have hb1 := (hjv.1.1 a2 hs8.1 hs8.2).2.1
    refine ax_invG [.inl a1, .inl a2] [] dL_law_487 mlL_50 sh_0 rfl rfl rfl (Nat.le_of_ble_eq_true rfl) (s_X11_splice_ok E l _ (by omega) _ a1 a2 Ls (M 331) (M 333) (M 330 4) hnb hjv hpr hc) (pc' := 490) rfl (fun vv M_487 hq co487 hcm487 => ?_)
    obtain ⟨rfl, frM_487, fa487_0, fa487_1⟩ := hq
    refine ax_reS (st2 := [.inl (f_R (f_splice (M 331) a1 a2) a1 1)]) rfl ?_
    have cc487 : -2147483648 ≤ f_R (f_splice (M 331) a1 a2) a1 1 ∧ f_R (f_splice (M 331) a1 a2) a1 1 < 2147483648 := co487 _ rfl
    refine ax_aload_n dL_law_490 rfl rfl (pc' := 491) rfl ?_
    refine ax_aload_n dL_law_491 rfl rfl (pc' := 492) rfl ?_
    refine ax_iload_n dL_law_492 rfl rfl (pc' := 493) rfl ?_
    refine ax_iconst dL_law_493 (by decide) (pc' := 494) rfl ?_
    refine ax_iadd dL_law_494 (by omega) (pc' := 495) rfl ?_
    refine ax_sald (v := a1) dL_law_495 (by omega) (by omega) qa1.symm (pc' := 496) rfl ?_
    refine ax_aload_n dL_law_496 rfl rfl (pc' := 497) rfl ?_
    refine ax_iload_n dL_law_497 rfl rfl (pc' := 498) rfl ?_
    refine ax_iconst dL_law_498 (by decide) (pc' := 499) rfl ?_
    refine ax_iadd dL_law_499 (by omega) (pc' := 500) rfl ?_
    refine ax_sald (v := a2) dL_law_500 (by omega) (by omega) qa2.symm (pc' := 501) rfl ?_
    refine ax_invG [.inl a1, .inl a2] [.inl (f_R (f_splice (M 331) a1 a2) a1 1)] dL_law_501 mlL_53 sh_330 rfl rfl rfl (Nat.le_of_ble_eq_true rfl) (s_X12_splice_ok E l _ (by omega) _ a1 a2 ((funext fun i0 => frM_487 331 i0 (fun h => h.elim (fun h => absurd h.2 (by decide)) (fun h => h.elim (fun h => absurd h.2 (by decide)) (fun h => h.elim (fun h => absurd h.1 (by decide)) (fun h => h.elim (fun h => absurd h (by decide)) (fun h => h.elim (fun h => absurd h (by decide)) (fun h => h.elim (fun h => absurd h (by decide)) (fun h => h.elim (fun h => absurd h (by decide)) (fun h => h.elim (fun h => absurd h.1 (by decide)) (fun h => absurd h.1 (by decide))))))))))).trans rfl) ((funext fun i0 => frM_487 333 i0 (fun h => h.elim (fun h => absurd h.2 (by decide)) (fun h => h.elim (fun h => absurd h.2 (by decide)) (fun h => h.elim (fun h => absurd h.1 (by decide)) (fun h => h.elim (fun h => absurd h (by decide)) (fun h => h.elim (fun h => absurd h (by decide)) (fun h => h.elim (fun h => absurd h (by decide)) (fun h => h.elim (fun h => absurd h (by decide)) (fun h => h.elim (fun h => absurd h.1 (by decide)) (fun h => absurd h.1 (by decide))))))))))).trans rfl) ((frM_487 330 4 (fun h => h.elim (fun h => absurd h.2 (by decide)) (fun h => h.elim (fun h => absurd h.2 (by decide)) (fun h => h.elim (fun h => absurd h.1 (by decide)) (fun h => h.elim (fun h => absurd h (by decide)) (fun h => h.elim (fun h => absurd h (by decide)) (fun h => h.elim (fun h => absurd h (by decide)) (fun h => h.elim (fun h => absurd h (by decide)) (fun h => h.elim (fun h => absurd h.1 (by decide)) (fun h => absurd h.1 (by decide))))))))))).trans rfl) hjv.1 hhs.1 hc hl1) (pc' := 504) rfl (fun vv M_501 hq co501 hcm501 => ?_)
    obtain ⟨rfl, frM_501, mrM_501_0, mrM_501_1, msM_501_0⟩ := hq
    refine ax_reS (st2 := [.inl (f_R (f_splice (M 331) a1 a2) a1 1), .inl (f_R (f_splice (M 331) a1 a2) a1 1)]) rfl ?_
    have cc501 : -2147483648 ≤ f_R (f_splice (M 331) a1 a2) a1 1 ∧ f_R (f_splice (M 331) a1 a2) a1 1 < 2147483648 := co501 _ rfl
    refine ax_icmp_eq (tgt := 1416) dL_law_504 (by decide) (pc' := 507) rfl (fun h504 => ?_) (fun h504 => ?_)
    · refine kk _ (f_INV_mk (f_IV_fr (f_IV_act hI (fun x0 i0 hai => frM_487 x0 i0 (by unfold f_rd at hai; omega)) fa487_0 fa487_1 ?_ ?_ ?_) (fun x0 i0 hai => frM_501 x0 i0 (by unfold f_rc at hai; omega))) mrM_501_0 ((funext fun i0 => frM_501 332 i0 (fun h => h.elim (fun h => absurd h (by decide)) (fun h => h.elim (fun h => absurd h (by decide)) (fun h => absurd h.1 (by decide))))).trans ((funext fun i0 => frM_487 332 i0 (fun h => h.elim (fun h => absurd h.2 (by decide)) (fun h => h.elim (fun h => absurd h.2 (by decide)) (fun h => h.elim (fun h => absurd h.1 (by decide)) (fun h => h.elim (fun h => absurd h (by decide)) (fun h => h.elim (fun h => absurd h (by decide)) (fun h => h.elim (fun h => absurd h (by decide)) (fun h => h.elim (fun h => absurd h (by decide)) (fun h => h.elim (fun h => absurd h.1 (by decide)) (fun h => absurd h.1 (by decide))))))))))).trans rfl)) mrM_501_1 ((funext fun i0 => frM_501 339 i0 (fun h => h.elim (fun h => absurd h (by decide)) (fun h => h.elim (fun h => absurd h (by decide)) (fun h => absurd h.1 (by decide))))).trans ((funext fun i0 => frM_487 339 i0 (fun h => h.elim (fun h => absurd h.2 (by decide)) (fun h => h.elim (fun h => absurd h.2 (by decide)) (fun h => h.elim (fun h => absurd h.1 (by decide)) (fun h => h.elim (fun h => absurd h (by decide)) (fun h => h.elim (fun h => absurd h (by decide)) (fun h => h.elim (fun h => absurd h (by decide)) (fun h => h.elim (fun h => absurd h (by decide)) (fun h => h.elim (fun h => absurd h.1 (by decide)) (fun h => absurd h.1 (by decide))))))))))).trans rfl)) msM_501_0 ((frM_501 330 5 (fun h => h.elim (fun h => absurd h (by decide)) (fun h => h.elim (fun h => absurd h (by decide)) (fun h => absurd h.2 (by decide))))).trans ((frM_487 330 5 (fun h => h.elim (fun h => absurd h.2 (by decide)) (fun h => h.elim (fun h => absurd h.2 (by decide)) (fun h => h.elim (fun h => absurd h.1 (by decide)) (fun h => h.elim (fun h => absurd h (by decide)) (fun h => h.elim (fun h => absurd h (by decide)) (fun h => h.elim (fun h => absurd h (by decide)) (fun h => h.elim (fun h => absurd h (by decide)) (fun h => h.elim (fun h => absurd h.1 (by decide)) (fun h => absurd h.1 (by decide))))))))))).trans rfl)) ((frM_501 330 17 (fun h => h.elim (fun h => absurd h (by decide)) (fun h => h.elim (fun h => absurd h (by decide)) (fun h => absurd h.2 (by decide))))).trans ((frM_487 330 17 (fun h => h.elim (fun h => absurd h.2 (by decide)) (fun h => h.elim (fun h => absurd h.2 (by decide)) (fun h => h.elim (fun h => absurd h.1 (by decide)) (fun h => h.elim (fun h => absurd h (by decide)) (fun h => h.elim (fun h => absurd h (by decide)) (fun h => h.elim (fun h => absurd h (by decide)) (fun h => h.elim (fun h => absurd h (by decide)) (fun h => h.elim (fun h => absurd h.1 (by decide)) (fun h => absurd h.1 (by decide))))))))))).trans rfl)) ((frM_501 330 24 (fun h => h.elim (fun h => absurd h (by decide)) (fun h => h.elim (fun h => absurd h (by decide)) (fun h => absurd h.2 (by decide))))).trans ((frM_487 330 24 (fun h => h.elim (fun h => absurd h.2 (by decide)) (fun h => h.elim (fun h => absurd h.2 (by decide)) (fun h => h.elim (fun h => absurd h.1 (by decide)) (fun h => h.elim (fun h => absurd h (by decide)) (fun h => h.elim (fun h => absurd h (by decide)) (fun h => h.elim (fun h => absurd h (by decide)) (fun h => h.elim (fun h => absurd h (by decide)) (fun h => h.elim (fun h => absurd h.1 (by decide)) (fun h => absurd h.1 (by decide))))))))))).trans rfl)) ((frM_501 330 26 (fun h => h.elim (fun h => absurd h (by decide)) (fun h => h.elim (fun h => absurd h (by decide)) (fun h => absurd h.2 (by decide))))).trans ((frM_487 330 26 (fun h => h.elim (fun h => absurd h.2 (by decide)) (fun h => h.elim (fun h => absurd h.2 (by decide)) (fun h => h.elim (fun h => absurd h.1 (by decide)) (fun h => h.elim (fun h => absurd h (by decide)) (fun h => h.elim (fun h => absurd h (by decide)) (fun h => h.elim (fun h => absurd h (by decide)) (fun h => h.elim (fun h => absurd h (by decide)) (fun h => h.elim (fun h => absurd h.1 (by decide)) (fun h => absurd h.1 (by decide))))))))))).trans rfl)) ((frM_501 330 21 (fun h => h.elim (fun h => absurd h (by decide)) (fun h => h.elim (fun h => absurd h (by decide)) (fun h => absurd h.2 (by decide))))).trans ((frM_487 330 21 (fun h => h.elim (fun h => absurd h.2 (by decide)) (fun h => h.elim (fun h => absurd h.2 (by decide)) (fun h => h.elim (fun h => absurd h.1 (by decide)) (fun h => h.elim (fun h => absurd h (by decide)) (fun h => h.elim (fun h => absurd h (by decide)) (fun h => h.elim (fun h => absurd h (by decide)) (fun h => h.elim (fun h => absurd h (by decide)) (fun h => h.elim (fun h => absurd h.1 (by decide)) (fun h => absurd h.1 (by decide))))))))))).trans rfl)) hv)
      · exact f_jv_splice hr8 hs8 hc.2.2.1 ⟨hc.1.2.2, hc.2.1.2.2⟩ hc.2.2.2 hjv
      · exact f_a2_ag (f_ag_splice hr8 hs8 ⟨hl1, hc.2.2.2⟩ hb1 hjv.1.2.2.2.1)
      · exact f_hs_keep hhs (f_mp_jv hjv) (ml_splice hr8 hs8 ⟨hl1, hc.2.2.2⟩ hb1)
    · exfalso
      exact h504 rfl
  · refine ax_invG [.inl a1, .inl a2] [] dL_law_487 mlL_50 sh_0 rfl rfl rfl (Nat.le_of_ble_eq_true rfl) (s_X11_splice_no E l _ (by omega) _ a1 a2 Ls (M 331) hnb hjv hc) (pc' := 490) rfl (fun vv M_487 hq co487 hcm487 => ?_)
    obtain ⟨rfl, rfl⟩ := hq
    refine ax_reS (st2 := [.inl (-1)]) rfl ?_
    refine ax_aload_n dL_law_490 rfl rfl (pc' := 491) rfl ?_
    refine ax_aload_n dL_law_491 rfl rfl (pc' := 492) rfl ?_
    refine ax_iload_n dL_law_492 rfl rfl (pc' := 493) rfl ?_
    refine ax_iconst dL_law_493 (by decide) (pc' := 494) rfl ?_
    refine ax_iadd dL_law_494 (by omega) (pc' := 495) rfl ?_
    refine ax_sald (v := a1) dL_law_495 (by omega) (by omega) qa1.symm (pc' := 496) rfl ?_
    refine ax_aload_n dL_law_496 rfl rfl (pc' := 497) rfl ?_
    refine ax_iload_n dL_law_497 rfl rfl (pc' := 498) rfl ?_
    refine ax_iconst dL_law_498 (by decide) (pc' := 499) rfl ?_
    refine ax_iadd dL_law_499 (by omega) (pc' := 500) rfl ?_
    refine ax_sald (v := a2) dL_law_500 (by omega) (by omega) qa2.symm (pc' := 501) rfl ?_
    refine ax_invG [.inl a1, .inl a2] [.inl (-1)] dL_law_501 mlL_53 sh_330 rfl rfl rfl (Nat.le_of_ble_eq_true rfl) (s_X12_splice_no E l _ (by omega) _ a1 a2 rfl hjv.1 hc) (pc' := 504) rfl (fun vv M_501 hq co501 hcm501 => ?_)
    obtain ⟨rfl, rfl⟩ := hq
    refine ax_reS (st2 := [.inl (-1), .inl (-1)]) rfl ?_
    refine ax_icmp_eq (tgt := 1416) dL_law_504 (by decide) (pc' := 507) rfl (fun h504 => ?_) (fun h504 => ?_)
    · exact kk _ ⟨hv, Ls, Lk, hI⟩
    · exfalso
      exact h504 rfl
set_option maxRecDepth 20000 in
theorem lc_15 (E : ax_Env) (l : Launch) (d : Nat) (hd : 60 ≤ d) (M : ax_Mem) (Q : ax_Post) (i : Int) (hx : ax_xl E ≤ 3072) (hi : 0 ≤ i ∧ i + 6 ≤ (ax_xl E : Int)) (hI : f_INV M) (kk : ∀ M2, f_INV M2 → ax_W E l (d + 1) 0 0 iL_law 1416 [some (.inr (-2)), some (.inr 0), some (.inr 330), some (.inl i)] [] SH M2 Q) : ax_W E l (d + 1) 0 0 iL_law 697 [some (.inr (-2)), some (.inr 0), some (.inr 330), some (.inl i)] [] SH M Q := by
  obtain ⟨hv, Ls, Lk, hI⟩ := hI
  have hnb := hI.1.1
  have hjv := hI.1.2.1
  have hlq := hI.1.2.2
  have hpr := hI.2.1.1
  have hhs := hI.2.1.2
  have hlo := hI.2.2.1
  have qta := hI.2.2.2.1.1
  have qtn := hI.2.2.2.1.2.1
  have qt4 := hI.2.2.2.1.2.2.1
  have qtp := hI.2.2.2.1.2.2.2
  obtain ⟨a1, qa1⟩ : ∃ z, z = (ax_xs E (i + 1).toNat).toInt := ⟨_, rfl⟩
  have ca1 : -2147483648 ≤ a1 ∧ a1 < 2147483648 := by rw [qa1]; exact ax_can_toInt _
  obtain ⟨a2, qa2⟩ : ∃ z, z = (ax_xs E (i + 2).toNat).toInt := ⟨_, rfl⟩
  have ca2 : -2147483648 ≤ a2 ∧ a2 < 2147483648 := by rw [qa2]; exact ax_can_toInt _
  obtain ⟨a3, qa3⟩ : ∃ z, z = (ax_xs E (i + 3).toNat).toInt := ⟨_, rfl⟩
  have ca3 : -2147483648 ≤ a3 ∧ a3 < 2147483648 := by rw [qa3]; exact ax_can_toInt _
  obtain ⟨a4, qa4⟩ : ∃ z, z = (ax_xs E (i + 4).toNat).toInt := ⟨_, rfl⟩
  have ca4 : -2147483648 ≤ a4 ∧ a4 < 2147483648 := by rw [qa4]; exact ax_can_toInt _
  obtain ⟨a5, qa5⟩ : ∃ z, z = (ax_xs E (i + 5).toNat).toInt := ⟨_, rfl⟩
  have ca5 : -2147483648 ≤ a5 ∧ a5 < 2147483648 := by rw [qa5]; exact ax_can_toInt _
  refine ax_aload_n dL_law_697 rfl rfl (pc' := 698) rfl ?_
  refine ax_aload_n dL_law_698 rfl rfl (pc' := 699) rfl ?_
  refine ax_iload_n dL_law_699 rfl rfl (pc' := 700) rfl ?_
  refine ax_iconst dL_law_700 (by decide) (pc' := 701) rfl ?_
  refine ax_iadd dL_law_701 (by omega) (pc' := 702) rfl ?_
  refine ax_sald (v := a1) dL_law_702 (by omega) (by omega) qa1.symm (pc' := 703) rfl ?_
  refine ax_aload_n dL_law_703 rfl rfl (pc' := 704) rfl ?_
  refine ax_iload_n dL_law_704 rfl rfl (pc' := 705) rfl ?_
  refine ax_iconst dL_law_705 (by decide) (pc' := 706) rfl ?_
  refine ax_iadd dL_law_706 (by omega) (pc' := 707) rfl ?_
  refine ax_sald (v := a2) dL_law_707 (by omega) (by omega) qa2.symm (pc' := 708) rfl ?_
  by_cases hc : f_isR (M 331) a1 ∧ (0 ≤ a2 ∧ a2 ≤ 9) ∧ (M 331) 0 + f_rs (M 331) ≤ 9999
  · have hdl := f_dl_ok (r := a1) (hand := a2) hjv hlq.1 hc.2.2
    refine ax_invG [.inl a1, .inl a2] [] dL_law_708 mlL_80 sh_0 rfl rfl rfl (Nat.le_of_ble_eq_true rfl) (s_X11_drill_ok E l _ (by omega) _ a1 a2 Ls (M 331) (M 333) (M 330 4) hnb hjv hpr hlo.1 hlo.2.1 hlq.1 hlq.2.1 hc) (pc' := 711) rfl (fun vv M_708 hq co708 hcm708 => ?_)
    obtain ⟨rfl, frM_708, fa708_0, fa708_1⟩ := hq
    refine ax_reS (st2 := [.inl ((f_dl Ls (M 331) a1 a2).2)]) rfl ?_
    have cc708 : -2147483648 ≤ (f_dl Ls (M 331) a1 a2).2 ∧ (f_dl Ls (M 331) a1 a2).2 < 2147483648 := co708 _ rfl
    refine ax_aload_n dL_law_711 rfl rfl (pc' := 712) rfl ?_
    refine ax_aload_n dL_law_712 rfl rfl (pc' := 713) rfl ?_
    refine ax_iload_n dL_law_713 rfl rfl (pc' := 714) rfl ?_
    refine ax_iconst dL_law_714 (by decide) (pc' := 715) rfl ?_
    refine ax_iadd dL_law_715 (by omega) (pc' := 716) rfl ?_
    refine ax_sald (v := a1) dL_law_716 (by omega) (by omega) qa1.symm (pc' := 717) rfl ?_
    refine ax_aload_n dL_law_717 rfl rfl (pc' := 718) rfl ?_
    refine ax_iload_n dL_law_718 rfl rfl (pc' := 719) rfl ?_
    refine ax_iconst dL_law_719 (by decide) (pc' := 720) rfl ?_
    refine ax_iadd dL_law_720 (by omega) (pc' := 721) rfl ?_
    refine ax_sald (v := a2) dL_law_721 (by omega) (by omega) qa2.symm (pc' := 722) rfl ?_
    refine ax_invG [.inl a1, .inl a2] [.inl ((f_dl Ls (M 331) a1 a2).2)] dL_law_722 mlL_83 sh_330 rfl rfl rfl (Nat.le_of_ble_eq_true rfl) (s_X12_drill_ok E l _ (by omega) _ a1 a2 Ls ((funext fun i0 => frM_708 331 i0 (fun h => h.elim (fun h => absurd h.2 (by decide)) (fun h => h.elim (fun h => absurd h.2 (by decide)) (fun h => h.elim (fun h => absurd h.1 (by decide)) (fun h => h.elim (fun h => absurd h (by decide)) (fun h => h.elim (fun h => absurd h (by decide)) (fun h => h.elim (fun h => absurd h (by decide)) (fun h => h.elim (fun h => absurd h (by decide)) (fun h => h.elim (fun h => absurd h.1 (by decide)) (fun h => absurd h.1 (by decide))))))))))).trans rfl) ((funext fun i0 => frM_708 340 i0 (fun h => h.elim (fun h => absurd h.2 (by decide)) (fun h => h.elim (fun h => absurd h.2 (by decide)) (fun h => h.elim (fun h => absurd h.1 (by decide)) (fun h => h.elim (fun h => absurd h (by decide)) (fun h => h.elim (fun h => absurd h (by decide)) (fun h => h.elim (fun h => absurd h (by decide)) (fun h => h.elim (fun h => absurd h (by decide)) (fun h => h.elim (fun h => absurd h.1 (by decide)) (fun h => absurd h.1 (by decide))))))))))).trans rfl) ((funext fun i0 => frM_708 341 i0 (fun h => h.elim (fun h => absurd h.2 (by decide)) (fun h => h.elim (fun h => absurd h.2 (by decide)) (fun h => h.elim (fun h => absurd h.1 (by decide)) (fun h => h.elim (fun h => absurd h (by decide)) (fun h => h.elim (fun h => absurd h (by decide)) (fun h => h.elim (fun h => absurd h (by decide)) (fun h => h.elim (fun h => absurd h (by decide)) (fun h => h.elim (fun h => absurd h.1 (by decide)) (fun h => absurd h.1 (by decide))))))))))).trans rfl) ((funext fun i0 => frM_708 342 i0 (fun h => h.elim (fun h => absurd h.2 (by decide)) (fun h => h.elim (fun h => absurd h.2 (by decide)) (fun h => h.elim (fun h => absurd h.1 (by decide)) (fun h => h.elim (fun h => absurd h (by decide)) (fun h => h.elim (fun h => absurd h (by decide)) (fun h => h.elim (fun h => absurd h (by decide)) (fun h => h.elim (fun h => absurd h (by decide)) (fun h => h.elim (fun h => absurd h.1 (by decide)) (fun h => absurd h.1 (by decide))))))))))).trans rfl) ((funext fun i0 => frM_708 343 i0 (fun h => h.elim (fun h => absurd h.2 (by decide)) (fun h => h.elim (fun h => absurd h.2 (by decide)) (fun h => h.elim (fun h => absurd h.1 (by decide)) (fun h => h.elim (fun h => absurd h (by decide)) (fun h => h.elim (fun h => absurd h (by decide)) (fun h => h.elim (fun h => absurd h (by decide)) (fun h => h.elim (fun h => absurd h (by decide)) (fun h => h.elim (fun h => absurd h.1 (by decide)) (fun h => absurd h.1 (by decide))))))))))).trans rfl) ((funext fun i0 => frM_708 333 i0 (fun h => h.elim (fun h => absurd h.2 (by decide)) (fun h => h.elim (fun h => absurd h.2 (by decide)) (fun h => h.elim (fun h => absurd h.1 (by decide)) (fun h => h.elim (fun h => absurd h (by decide)) (fun h => h.elim (fun h => absurd h (by decide)) (fun h => h.elim (fun h => absurd h (by decide)) (fun h => h.elim (fun h => absurd h (by decide)) (fun h => h.elim (fun h => absurd h.1 (by decide)) (fun h => absurd h.1 (by decide))))))))))).trans rfl) ((frM_708 330 4 (fun h => h.elim (fun h => absurd h.2 (by decide)) (fun h => h.elim (fun h => absurd h.2 (by decide)) (fun h => h.elim (fun h => absurd h.1 (by decide)) (fun h => h.elim (fun h => absurd h (by decide)) (fun h => h.elim (fun h => absurd h (by decide)) (fun h => h.elim (fun h => absurd h (by decide)) (fun h => h.elim (fun h => absurd h (by decide)) (fun h => h.elim (fun h => absurd h.1 (by decide)) (fun h => absurd h.1 (by decide))))))))))).trans rfl) hjv hhs.1 hlq.1 hc) (pc' := 725) rfl (fun vv M_722 hq co722 hcm722 => ?_)
    obtain ⟨rfl, frM_722, mrM_722_0, mrM_722_1, msM_722_0⟩ := hq
    refine ax_reS (st2 := [.inl ((f_dl Ls (M 331) a1 a2).2), .inl ((f_dl Ls (M 331) a1 a2).2)]) rfl ?_
    have cc722 : -2147483648 ≤ (f_dl Ls (M 331) a1 a2).2 ∧ (f_dl Ls (M 331) a1 a2).2 < 2147483648 := co722 _ rfl
    refine ax_icmp_eq (tgt := 1416) dL_law_725 (by decide) (pc' := 728) rfl (fun h725 => ?_) (fun h725 => ?_)
    · refine kk _ (f_INV_mk (f_IV_fr (f_IV_act hI (fun x0 i0 hai => frM_708 x0 i0 (by unfold f_rd at hai; omega)) fa708_0 fa708_1 ?_ ?_ ?_) (fun x0 i0 hai => frM_722 x0 i0 (by unfold f_rc at hai; omega))) mrM_722_0 ((funext fun i0 => frM_722 332 i0 (fun h => h.elim (fun h => absurd h (by decide)) (fun h => h.elim (fun h => absurd h (by decide)) (fun h => h.elim (fun h => absurd h.1 (by decide)) (fun h => h.elim (fun h => absurd h (by decide)) (fun h => h.elim (fun h => absurd h (by decide)) (fun h => h.elim (fun h => absurd h (by decide)) (fun h => h.elim (fun h => absurd h (by decide)) (fun h => h.elim (fun h => absurd h.1 (by decide)) (fun h => h.elim (fun h => absurd h.1 (by decide)) (fun h => h.elim (fun h => absurd h.1 (by decide)) (fun h => absurd h.1 (by decide))))))))))))).trans ((funext fun i0 => frM_708 332 i0 (fun h => h.elim (fun h => absurd h.2 (by decide)) (fun h => h.elim (fun h => absurd h.2 (by decide)) (fun h => h.elim (fun h => absurd h.1 (by decide)) (fun h => h.elim (fun h => absurd h (by decide)) (fun h => h.elim (fun h => absurd h (by decide)) (fun h => h.elim (fun h => absurd h (by decide)) (fun h => h.elim (fun h => absurd h (by decide)) (fun h => h.elim (fun h => absurd h.1 (by decide)) (fun h => absurd h.1 (by decide))))))))))).trans rfl)) mrM_722_1 ((funext fun i0 => frM_722 339 i0 (fun h => h.elim (fun h => absurd h (by decide)) (fun h => h.elim (fun h => absurd h (by decide)) (fun h => h.elim (fun h => absurd h.1 (by decide)) (fun h => h.elim (fun h => absurd h (by decide)) (fun h => h.elim (fun h => absurd h (by decide)) (fun h => h.elim (fun h => absurd h (by decide)) (fun h => h.elim (fun h => absurd h (by decide)) (fun h => h.elim (fun h => absurd h.1 (by decide)) (fun h => h.elim (fun h => absurd h.1 (by decide)) (fun h => h.elim (fun h => absurd h.1 (by decide)) (fun h => absurd h.1 (by decide))))))))))))).trans ((funext fun i0 => frM_708 339 i0 (fun h => h.elim (fun h => absurd h.2 (by decide)) (fun h => h.elim (fun h => absurd h.2 (by decide)) (fun h => h.elim (fun h => absurd h.1 (by decide)) (fun h => h.elim (fun h => absurd h (by decide)) (fun h => h.elim (fun h => absurd h (by decide)) (fun h => h.elim (fun h => absurd h (by decide)) (fun h => h.elim (fun h => absurd h (by decide)) (fun h => h.elim (fun h => absurd h.1 (by decide)) (fun h => absurd h.1 (by decide))))))))))).trans rfl)) msM_722_0 ((frM_722 330 5 (fun h => h.elim (fun h => absurd h (by decide)) (fun h => h.elim (fun h => absurd h (by decide)) (fun h => h.elim (fun h => absurd h.2 (by decide)) (fun h => h.elim (fun h => absurd h (by decide)) (fun h => h.elim (fun h => absurd h (by decide)) (fun h => h.elim (fun h => absurd h (by decide)) (fun h => h.elim (fun h => absurd h (by decide)) (fun h => h.elim (fun h => absurd h.2 (by decide)) (fun h => h.elim (fun h => absurd h.2 (by decide)) (fun h => h.elim (fun h => absurd h.2 (by decide)) (fun h => absurd h.2 (by decide))))))))))))).trans ((frM_708 330 5 (fun h => h.elim (fun h => absurd h.2 (by decide)) (fun h => h.elim (fun h => absurd h.2 (by decide)) (fun h => h.elim (fun h => absurd h.1 (by decide)) (fun h => h.elim (fun h => absurd h (by decide)) (fun h => h.elim (fun h => absurd h (by decide)) (fun h => h.elim (fun h => absurd h (by decide)) (fun h => h.elim (fun h => absurd h (by decide)) (fun h => h.elim (fun h => absurd h.1 (by decide)) (fun h => absurd h.1 (by decide))))))))))).trans rfl)) ((frM_722 330 17 (fun h => h.elim (fun h => absurd h (by decide)) (fun h => h.elim (fun h => absurd h (by decide)) (fun h => h.elim (fun h => absurd h.2 (by decide)) (fun h => h.elim (fun h => absurd h (by decide)) (fun h => h.elim (fun h => absurd h (by decide)) (fun h => h.elim (fun h => absurd h (by decide)) (fun h => h.elim (fun h => absurd h (by decide)) (fun h => h.elim (fun h => absurd h.2 (by decide)) (fun h => h.elim (fun h => absurd h.2 (by decide)) (fun h => h.elim (fun h => absurd h.2 (by decide)) (fun h => absurd h.2 (by decide))))))))))))).trans ((frM_708 330 17 (fun h => h.elim (fun h => absurd h.2 (by decide)) (fun h => h.elim (fun h => absurd h.2 (by decide)) (fun h => h.elim (fun h => absurd h.1 (by decide)) (fun h => h.elim (fun h => absurd h (by decide)) (fun h => h.elim (fun h => absurd h (by decide)) (fun h => h.elim (fun h => absurd h (by decide)) (fun h => h.elim (fun h => absurd h (by decide)) (fun h => h.elim (fun h => absurd h.1 (by decide)) (fun h => absurd h.1 (by decide))))))))))).trans rfl)) ((frM_722 330 24 (fun h => h.elim (fun h => absurd h (by decide)) (fun h => h.elim (fun h => absurd h (by decide)) (fun h => h.elim (fun h => absurd h.2 (by decide)) (fun h => h.elim (fun h => absurd h (by decide)) (fun h => h.elim (fun h => absurd h (by decide)) (fun h => h.elim (fun h => absurd h (by decide)) (fun h => h.elim (fun h => absurd h (by decide)) (fun h => h.elim (fun h => absurd h.2 (by decide)) (fun h => h.elim (fun h => absurd h.2 (by decide)) (fun h => h.elim (fun h => absurd h.2 (by decide)) (fun h => absurd h.2 (by decide))))))))))))).trans ((frM_708 330 24 (fun h => h.elim (fun h => absurd h.2 (by decide)) (fun h => h.elim (fun h => absurd h.2 (by decide)) (fun h => h.elim (fun h => absurd h.1 (by decide)) (fun h => h.elim (fun h => absurd h (by decide)) (fun h => h.elim (fun h => absurd h (by decide)) (fun h => h.elim (fun h => absurd h (by decide)) (fun h => h.elim (fun h => absurd h (by decide)) (fun h => h.elim (fun h => absurd h.1 (by decide)) (fun h => absurd h.1 (by decide))))))))))).trans rfl)) ((frM_722 330 26 (fun h => h.elim (fun h => absurd h (by decide)) (fun h => h.elim (fun h => absurd h (by decide)) (fun h => h.elim (fun h => absurd h.2 (by decide)) (fun h => h.elim (fun h => absurd h (by decide)) (fun h => h.elim (fun h => absurd h (by decide)) (fun h => h.elim (fun h => absurd h (by decide)) (fun h => h.elim (fun h => absurd h (by decide)) (fun h => h.elim (fun h => absurd h.2 (by decide)) (fun h => h.elim (fun h => absurd h.2 (by decide)) (fun h => h.elim (fun h => absurd h.2 (by decide)) (fun h => absurd h.2 (by decide))))))))))))).trans ((frM_708 330 26 (fun h => h.elim (fun h => absurd h.2 (by decide)) (fun h => h.elim (fun h => absurd h.2 (by decide)) (fun h => h.elim (fun h => absurd h.1 (by decide)) (fun h => h.elim (fun h => absurd h (by decide)) (fun h => h.elim (fun h => absurd h (by decide)) (fun h => h.elim (fun h => absurd h (by decide)) (fun h => h.elim (fun h => absurd h (by decide)) (fun h => h.elim (fun h => absurd h.1 (by decide)) (fun h => absurd h.1 (by decide))))))))))).trans rfl)) ((frM_722 330 21 (fun h => h.elim (fun h => absurd h (by decide)) (fun h => h.elim (fun h => absurd h (by decide)) (fun h => h.elim (fun h => absurd h.2 (by decide)) (fun h => h.elim (fun h => absurd h (by decide)) (fun h => h.elim (fun h => absurd h (by decide)) (fun h => h.elim (fun h => absurd h (by decide)) (fun h => h.elim (fun h => absurd h (by decide)) (fun h => h.elim (fun h => absurd h.2 (by decide)) (fun h => h.elim (fun h => absurd h.2 (by decide)) (fun h => h.elim (fun h => absurd h.2 (by decide)) (fun h => absurd h.2 (by decide))))))))))))).trans ((frM_708 330 21 (fun h => h.elim (fun h => absurd h.2 (by decide)) (fun h => h.elim (fun h => absurd h.2 (by decide)) (fun h => h.elim (fun h => absurd h.1 (by decide)) (fun h => h.elim (fun h => absurd h (by decide)) (fun h => h.elim (fun h => absurd h (by decide)) (fun h => h.elim (fun h => absurd h (by decide)) (fun h => h.elim (fun h => absurd h (by decide)) (fun h => h.elim (fun h => absurd h.1 (by decide)) (fun h => absurd h.1 (by decide))))))))))).trans rfl)) hv)
      · exact hdl.1
      · exact f_a2_ag (hdl.2.1)
      · exact f_hs_keep hhs (f_mp_jv hjv) (hdl.2.2)
    · exfalso
      exact h725 rfl
  · refine ax_invG [.inl a1, .inl a2] [] dL_law_708 mlL_80 sh_0 rfl rfl rfl (Nat.le_of_ble_eq_true rfl) (s_X11_drill_no E l _ (by omega) _ a1 a2 Ls (M 331) hnb hjv hlo.2.1 hlq.1 hc) (pc' := 711) rfl (fun vv M_708 hq co708 hcm708 => ?_)
    obtain ⟨rfl, rfl⟩ := hq
    refine ax_reS (st2 := [.inl (-1)]) rfl ?_
    refine ax_aload_n dL_law_711 rfl rfl (pc' := 712) rfl ?_
    refine ax_aload_n dL_law_712 rfl rfl (pc' := 713) rfl ?_
    refine ax_iload_n dL_law_713 rfl rfl (pc' := 714) rfl ?_
    refine ax_iconst dL_law_714 (by decide) (pc' := 715) rfl ?_
    refine ax_iadd dL_law_715 (by omega) (pc' := 716) rfl ?_
    refine ax_sald (v := a1) dL_law_716 (by omega) (by omega) qa1.symm (pc' := 717) rfl ?_
    refine ax_aload_n dL_law_717 rfl rfl (pc' := 718) rfl ?_
    refine ax_iload_n dL_law_718 rfl rfl (pc' := 719) rfl ?_
    refine ax_iconst dL_law_719 (by decide) (pc' := 720) rfl ?_
    refine ax_iadd dL_law_720 (by omega) (pc' := 721) rfl ?_
    refine ax_sald (v := a2) dL_law_721 (by omega) (by omega) qa2.symm (pc' := 722) rfl ?_
    refine ax_invG [.inl a1, .inl a2] [.inl (-1)] dL_law_722 mlL_83 sh_330 rfl rfl rfl (Nat.le_of_ble_eq_true rfl) (s_X12_drill_no E l _ (by omega) _ a1 a2 rfl hjv.1 hlq.1 hc) (pc' := 725) rfl (fun vv M_722 hq co722 hcm722 => ?_)
    obtain ⟨rfl, rfl⟩ := hq
    refine ax_reS (st2 := [.inl (-1), .inl (-1)]) rfl ?_
    refine ax_icmp_eq (tgt := 1416) dL_law_725 (by decide) (pc' := 728) rfl (fun h725 => ?_) (fun h725 => ?_)
    · exact kk _ ⟨hv, Ls, Lk, hI⟩
    · exfalso
      exact h725 rfl
set_option maxRecDepth 20000 in
theorem lc_10 (E : ax_Env) (l : Launch) (d : Nat) (hd : 60 ≤ d) (M : ax_Mem) (Q : ax_Post) (i : Int) (hx : ax_xl E ≤ 3072) (hi : 0 ≤ i ∧ i + 6 ≤ (ax_xl E : Int)) (hI : f_INV M) (kk : ∀ M2, f_INV M2 → ax_W E l (d + 1) 0 0 iL_law 1416 [some (.inr (-2)), some (.inr 0), some (.inr 330), some (.inl i)] [] SH M2 Q) : ax_W E l (d + 1) 0 0 iL_law 542 [some (.inr (-2)), some (.inr 0), some (.inr 330), some (.inl i)] [] SH M Q := by
  obtain ⟨hv, Ls, Lk, hI⟩ := hI
  have hnb := hI.1.1
  have hjv := hI.1.2.1
  have hlq := hI.1.2.2
  have hpr := hI.2.1.1
  have hhs := hI.2.1.2
  have hlo := hI.2.2.1
  have qta := hI.2.2.2.1.1
  have qtn := hI.2.2.2.1.2.1
  have qt4 := hI.2.2.2.1.2.2.1
  have qtp := hI.2.2.2.1.2.2.2
  obtain ⟨a1, qa1⟩ : ∃ z, z = (ax_xs E (i + 1).toNat).toInt := ⟨_, rfl⟩
  have ca1 : -2147483648 ≤ a1 ∧ a1 < 2147483648 := by rw [qa1]; exact ax_can_toInt _
  obtain ⟨a2, qa2⟩ : ∃ z, z = (ax_xs E (i + 2).toNat).toInt := ⟨_, rfl⟩
  have ca2 : -2147483648 ≤ a2 ∧ a2 < 2147483648 := by rw [qa2]; exact ax_can_toInt _
  obtain ⟨a3, qa3⟩ : ∃ z, z = (ax_xs E (i + 3).toNat).toInt := ⟨_, rfl⟩
  have ca3 : -2147483648 ≤ a3 ∧ a3 < 2147483648 := by rw [qa3]; exact ax_can_toInt _
  obtain ⟨a4, qa4⟩ : ∃ z, z = (ax_xs E (i + 4).toNat).toInt := ⟨_, rfl⟩
  have ca4 : -2147483648 ≤ a4 ∧ a4 < 2147483648 := by rw [qa4]; exact ax_can_toInt _
  obtain ⟨a5, qa5⟩ : ∃ z, z = (ax_xs E (i + 5).toNat).toInt := ⟨_, rfl⟩
  have ca5 : -2147483648 ≤ a5 ∧ a5 < 2147483648 := by rw [qa5]; exact ax_can_toInt _
  refine ax_aload_n dL_law_542 rfl rfl (pc' := 543) rfl ?_
  refine ax_aload_n dL_law_543 rfl rfl (pc' := 544) rfl ?_
  refine ax_iload_n dL_law_544 rfl rfl (pc' := 545) rfl ?_
  refine ax_iconst dL_law_545 (by decide) (pc' := 546) rfl ?_
  refine ax_iadd dL_law_546 (by omega) (pc' := 547) rfl ?_
  refine ax_sald (v := a1) dL_law_547 (by omega) (by omega) qa1.symm (pc' := 548) rfl ?_
  by_cases hc : 1 ≤ a1 ∧ a1 ≤ 60 ∧ (M 331) 0 + a1 ≤ 9999
  · have hdy := f_dys_ok hjv ⟨hc.1, hc.2.2⟩ hhs
    refine ax_invG [.inl a1] [] dL_law_548 mlL_58 sh_0 rfl rfl rfl (Nat.le_of_ble_eq_true rfl) (s_X11_days_ok E l _ (by omega) _ a1 Ls (M 331) (M 333) (M 330 4) hnb hjv hpr hc hlo.1) (pc' := 551) rfl (fun vv M_548 hq co548 hcm548 => ?_)
    obtain ⟨rfl, frM_548, fa548_0, fa548_1⟩ := hq
    refine ax_reS (st2 := [.inl ((f_dys Ls (M 331) (M 333) (M 330 4) a1).2.2.2)]) rfl ?_
    have cc548 : -2147483648 ≤ (f_dys Ls (M 331) (M 333) (M 330 4) a1).2.2.2 ∧ (f_dys Ls (M 331) (M 333) (M 330 4) a1).2.2.2 < 2147483648 := co548 _ rfl
    refine ax_aload_n dL_law_551 rfl rfl (pc' := 552) rfl ?_
    refine ax_aload_n dL_law_552 rfl rfl (pc' := 553) rfl ?_
    refine ax_iload_n dL_law_553 rfl rfl (pc' := 554) rfl ?_
    refine ax_iconst dL_law_554 (by decide) (pc' := 555) rfl ?_
    refine ax_iadd dL_law_555 (by omega) (pc' := 556) rfl ?_
    refine ax_sald (v := a1) dL_law_556 (by omega) (by omega) qa1.symm (pc' := 557) rfl ?_
    refine ax_invG [.inl a1] [.inl ((f_dys Ls (M 331) (M 333) (M 330 4) a1).2.2.2)] dL_law_557 mlL_61 sh_330 rfl rfl rfl (Nat.le_of_ble_eq_true rfl) (s_X12_days_ok E l _ (by omega) _ a1 Ls ((funext fun i0 => frM_548 331 i0 (fun h => h.elim (fun h => absurd h.2 (by decide)) (fun h => h.elim (fun h => absurd h.2 (by decide)) (fun h => h.elim (fun h => absurd h.1 (by decide)) (fun h => h.elim (fun h => absurd h (by decide)) (fun h => h.elim (fun h => absurd h (by decide)) (fun h => h.elim (fun h => absurd h (by decide)) (fun h => h.elim (fun h => absurd h (by decide)) (fun h => h.elim (fun h => absurd h.1 (by decide)) (fun h => absurd h.1 (by decide))))))))))).trans rfl) ((funext fun i0 => frM_548 340 i0 (fun h => h.elim (fun h => absurd h.2 (by decide)) (fun h => h.elim (fun h => absurd h.2 (by decide)) (fun h => h.elim (fun h => absurd h.1 (by decide)) (fun h => h.elim (fun h => absurd h (by decide)) (fun h => h.elim (fun h => absurd h (by decide)) (fun h => h.elim (fun h => absurd h (by decide)) (fun h => h.elim (fun h => absurd h (by decide)) (fun h => h.elim (fun h => absurd h.1 (by decide)) (fun h => absurd h.1 (by decide))))))))))).trans rfl) ((funext fun i0 => frM_548 341 i0 (fun h => h.elim (fun h => absurd h.2 (by decide)) (fun h => h.elim (fun h => absurd h.2 (by decide)) (fun h => h.elim (fun h => absurd h.1 (by decide)) (fun h => h.elim (fun h => absurd h (by decide)) (fun h => h.elim (fun h => absurd h (by decide)) (fun h => h.elim (fun h => absurd h (by decide)) (fun h => h.elim (fun h => absurd h (by decide)) (fun h => h.elim (fun h => absurd h.1 (by decide)) (fun h => absurd h.1 (by decide))))))))))).trans rfl) ((funext fun i0 => frM_548 342 i0 (fun h => h.elim (fun h => absurd h.2 (by decide)) (fun h => h.elim (fun h => absurd h.2 (by decide)) (fun h => h.elim (fun h => absurd h.1 (by decide)) (fun h => h.elim (fun h => absurd h (by decide)) (fun h => h.elim (fun h => absurd h (by decide)) (fun h => h.elim (fun h => absurd h (by decide)) (fun h => h.elim (fun h => absurd h (by decide)) (fun h => h.elim (fun h => absurd h.1 (by decide)) (fun h => absurd h.1 (by decide))))))))))).trans rfl) ((funext fun i0 => frM_548 343 i0 (fun h => h.elim (fun h => absurd h.2 (by decide)) (fun h => h.elim (fun h => absurd h.2 (by decide)) (fun h => h.elim (fun h => absurd h.1 (by decide)) (fun h => h.elim (fun h => absurd h (by decide)) (fun h => h.elim (fun h => absurd h (by decide)) (fun h => h.elim (fun h => absurd h (by decide)) (fun h => h.elim (fun h => absurd h (by decide)) (fun h => h.elim (fun h => absurd h.1 (by decide)) (fun h => absurd h.1 (by decide))))))))))).trans rfl) ((funext fun i0 => frM_548 333 i0 (fun h => h.elim (fun h => absurd h.2 (by decide)) (fun h => h.elim (fun h => absurd h.2 (by decide)) (fun h => h.elim (fun h => absurd h.1 (by decide)) (fun h => h.elim (fun h => absurd h (by decide)) (fun h => h.elim (fun h => absurd h (by decide)) (fun h => h.elim (fun h => absurd h (by decide)) (fun h => h.elim (fun h => absurd h (by decide)) (fun h => h.elim (fun h => absurd h.1 (by decide)) (fun h => absurd h.1 (by decide))))))))))).trans rfl) ((frM_548 330 4 (fun h => h.elim (fun h => absurd h.2 (by decide)) (fun h => h.elim (fun h => absurd h.2 (by decide)) (fun h => h.elim (fun h => absurd h.1 (by decide)) (fun h => h.elim (fun h => absurd h (by decide)) (fun h => h.elim (fun h => absurd h (by decide)) (fun h => h.elim (fun h => absurd h (by decide)) (fun h => h.elim (fun h => absurd h (by decide)) (fun h => h.elim (fun h => absurd h.1 (by decide)) (fun h => absurd h.1 (by decide))))))))))).trans rfl) hjv hhs.1 hc) (pc' := 560) rfl (fun vv M_557 hq co557 hcm557 => ?_)
    obtain ⟨rfl, frM_557, mrM_557_0, mrM_557_1, msM_557_0⟩ := hq
    refine ax_reS (st2 := [.inl ((f_dys Ls (M 331) (M 333) (M 330 4) a1).2.2.2), .inl ((f_dys Ls (M 331) (M 333) (M 330 4) a1).2.2.2)]) rfl ?_
    have cc557 : -2147483648 ≤ (f_dys Ls (M 331) (M 333) (M 330 4) a1).2.2.2 ∧ (f_dys Ls (M 331) (M 333) (M 330 4) a1).2.2.2 < 2147483648 := co557 _ rfl
    refine ax_icmp_eq (tgt := 1416) dL_law_560 (by decide) (pc' := 563) rfl (fun h560 => ?_) (fun h560 => ?_)
    · refine kk _ (f_INV_mk (f_IV_fr (f_IV_act hI (fun x0 i0 hai => frM_548 x0 i0 (by unfold f_rd at hai; omega)) fa548_0 fa548_1 ?_ ?_ ?_) (fun x0 i0 hai => frM_557 x0 i0 (by unfold f_rc at hai; omega))) mrM_557_0 ((funext fun i0 => frM_557 332 i0 (fun h => h.elim (fun h => absurd h (by decide)) (fun h => h.elim (fun h => absurd h (by decide)) (fun h => h.elim (fun h => absurd h.1 (by decide)) (fun h => h.elim (fun h => absurd h (by decide)) (fun h => h.elim (fun h => absurd h (by decide)) (fun h => h.elim (fun h => absurd h (by decide)) (fun h => h.elim (fun h => absurd h (by decide)) (fun h => h.elim (fun h => absurd h.1 (by decide)) (fun h => h.elim (fun h => absurd h.1 (by decide)) (fun h => h.elim (fun h => absurd h.1 (by decide)) (fun h => absurd h.1 (by decide))))))))))))).trans ((funext fun i0 => frM_548 332 i0 (fun h => h.elim (fun h => absurd h.2 (by decide)) (fun h => h.elim (fun h => absurd h.2 (by decide)) (fun h => h.elim (fun h => absurd h.1 (by decide)) (fun h => h.elim (fun h => absurd h (by decide)) (fun h => h.elim (fun h => absurd h (by decide)) (fun h => h.elim (fun h => absurd h (by decide)) (fun h => h.elim (fun h => absurd h (by decide)) (fun h => h.elim (fun h => absurd h.1 (by decide)) (fun h => absurd h.1 (by decide))))))))))).trans rfl)) mrM_557_1 ((funext fun i0 => frM_557 339 i0 (fun h => h.elim (fun h => absurd h (by decide)) (fun h => h.elim (fun h => absurd h (by decide)) (fun h => h.elim (fun h => absurd h.1 (by decide)) (fun h => h.elim (fun h => absurd h (by decide)) (fun h => h.elim (fun h => absurd h (by decide)) (fun h => h.elim (fun h => absurd h (by decide)) (fun h => h.elim (fun h => absurd h (by decide)) (fun h => h.elim (fun h => absurd h.1 (by decide)) (fun h => h.elim (fun h => absurd h.1 (by decide)) (fun h => h.elim (fun h => absurd h.1 (by decide)) (fun h => absurd h.1 (by decide))))))))))))).trans ((funext fun i0 => frM_548 339 i0 (fun h => h.elim (fun h => absurd h.2 (by decide)) (fun h => h.elim (fun h => absurd h.2 (by decide)) (fun h => h.elim (fun h => absurd h.1 (by decide)) (fun h => h.elim (fun h => absurd h (by decide)) (fun h => h.elim (fun h => absurd h (by decide)) (fun h => h.elim (fun h => absurd h (by decide)) (fun h => h.elim (fun h => absurd h (by decide)) (fun h => h.elim (fun h => absurd h.1 (by decide)) (fun h => absurd h.1 (by decide))))))))))).trans rfl)) msM_557_0 ((frM_557 330 5 (fun h => h.elim (fun h => absurd h (by decide)) (fun h => h.elim (fun h => absurd h (by decide)) (fun h => h.elim (fun h => absurd h.2 (by decide)) (fun h => h.elim (fun h => absurd h (by decide)) (fun h => h.elim (fun h => absurd h (by decide)) (fun h => h.elim (fun h => absurd h (by decide)) (fun h => h.elim (fun h => absurd h (by decide)) (fun h => h.elim (fun h => absurd h.2 (by decide)) (fun h => h.elim (fun h => absurd h.2 (by decide)) (fun h => h.elim (fun h => absurd h.2 (by decide)) (fun h => absurd h.2 (by decide))))))))))))).trans ((frM_548 330 5 (fun h => h.elim (fun h => absurd h.2 (by decide)) (fun h => h.elim (fun h => absurd h.2 (by decide)) (fun h => h.elim (fun h => absurd h.1 (by decide)) (fun h => h.elim (fun h => absurd h (by decide)) (fun h => h.elim (fun h => absurd h (by decide)) (fun h => h.elim (fun h => absurd h (by decide)) (fun h => h.elim (fun h => absurd h (by decide)) (fun h => h.elim (fun h => absurd h.1 (by decide)) (fun h => absurd h.1 (by decide))))))))))).trans rfl)) ((frM_557 330 17 (fun h => h.elim (fun h => absurd h (by decide)) (fun h => h.elim (fun h => absurd h (by decide)) (fun h => h.elim (fun h => absurd h.2 (by decide)) (fun h => h.elim (fun h => absurd h (by decide)) (fun h => h.elim (fun h => absurd h (by decide)) (fun h => h.elim (fun h => absurd h (by decide)) (fun h => h.elim (fun h => absurd h (by decide)) (fun h => h.elim (fun h => absurd h.2 (by decide)) (fun h => h.elim (fun h => absurd h.2 (by decide)) (fun h => h.elim (fun h => absurd h.2 (by decide)) (fun h => absurd h.2 (by decide))))))))))))).trans ((frM_548 330 17 (fun h => h.elim (fun h => absurd h.2 (by decide)) (fun h => h.elim (fun h => absurd h.2 (by decide)) (fun h => h.elim (fun h => absurd h.1 (by decide)) (fun h => h.elim (fun h => absurd h (by decide)) (fun h => h.elim (fun h => absurd h (by decide)) (fun h => h.elim (fun h => absurd h (by decide)) (fun h => h.elim (fun h => absurd h (by decide)) (fun h => h.elim (fun h => absurd h.1 (by decide)) (fun h => absurd h.1 (by decide))))))))))).trans rfl)) ((frM_557 330 24 (fun h => h.elim (fun h => absurd h (by decide)) (fun h => h.elim (fun h => absurd h (by decide)) (fun h => h.elim (fun h => absurd h.2 (by decide)) (fun h => h.elim (fun h => absurd h (by decide)) (fun h => h.elim (fun h => absurd h (by decide)) (fun h => h.elim (fun h => absurd h (by decide)) (fun h => h.elim (fun h => absurd h (by decide)) (fun h => h.elim (fun h => absurd h.2 (by decide)) (fun h => h.elim (fun h => absurd h.2 (by decide)) (fun h => h.elim (fun h => absurd h.2 (by decide)) (fun h => absurd h.2 (by decide))))))))))))).trans ((frM_548 330 24 (fun h => h.elim (fun h => absurd h.2 (by decide)) (fun h => h.elim (fun h => absurd h.2 (by decide)) (fun h => h.elim (fun h => absurd h.1 (by decide)) (fun h => h.elim (fun h => absurd h (by decide)) (fun h => h.elim (fun h => absurd h (by decide)) (fun h => h.elim (fun h => absurd h (by decide)) (fun h => h.elim (fun h => absurd h (by decide)) (fun h => h.elim (fun h => absurd h.1 (by decide)) (fun h => absurd h.1 (by decide))))))))))).trans rfl)) ((frM_557 330 26 (fun h => h.elim (fun h => absurd h (by decide)) (fun h => h.elim (fun h => absurd h (by decide)) (fun h => h.elim (fun h => absurd h.2 (by decide)) (fun h => h.elim (fun h => absurd h (by decide)) (fun h => h.elim (fun h => absurd h (by decide)) (fun h => h.elim (fun h => absurd h (by decide)) (fun h => h.elim (fun h => absurd h (by decide)) (fun h => h.elim (fun h => absurd h.2 (by decide)) (fun h => h.elim (fun h => absurd h.2 (by decide)) (fun h => h.elim (fun h => absurd h.2 (by decide)) (fun h => absurd h.2 (by decide))))))))))))).trans ((frM_548 330 26 (fun h => h.elim (fun h => absurd h.2 (by decide)) (fun h => h.elim (fun h => absurd h.2 (by decide)) (fun h => h.elim (fun h => absurd h.1 (by decide)) (fun h => h.elim (fun h => absurd h (by decide)) (fun h => h.elim (fun h => absurd h (by decide)) (fun h => h.elim (fun h => absurd h (by decide)) (fun h => h.elim (fun h => absurd h (by decide)) (fun h => h.elim (fun h => absurd h.1 (by decide)) (fun h => absurd h.1 (by decide))))))))))).trans rfl)) ((frM_557 330 21 (fun h => h.elim (fun h => absurd h (by decide)) (fun h => h.elim (fun h => absurd h (by decide)) (fun h => h.elim (fun h => absurd h.2 (by decide)) (fun h => h.elim (fun h => absurd h (by decide)) (fun h => h.elim (fun h => absurd h (by decide)) (fun h => h.elim (fun h => absurd h (by decide)) (fun h => h.elim (fun h => absurd h (by decide)) (fun h => h.elim (fun h => absurd h.2 (by decide)) (fun h => h.elim (fun h => absurd h.2 (by decide)) (fun h => h.elim (fun h => absurd h.2 (by decide)) (fun h => absurd h.2 (by decide))))))))))))).trans ((frM_548 330 21 (fun h => h.elim (fun h => absurd h.2 (by decide)) (fun h => h.elim (fun h => absurd h.2 (by decide)) (fun h => h.elim (fun h => absurd h.1 (by decide)) (fun h => h.elim (fun h => absurd h (by decide)) (fun h => h.elim (fun h => absurd h (by decide)) (fun h => h.elim (fun h => absurd h (by decide)) (fun h => h.elim (fun h => absurd h (by decide)) (fun h => h.elim (fun h => absurd h.1 (by decide)) (fun h => absurd h.1 (by decide))))))))))).trans rfl)) hv)
      · exact hdy.1
      · exact f_a2_ag hdy.2.1
      · exact hdy.2.2
    · exfalso
      exact h560 rfl
  · refine ax_invG [.inl a1] [] dL_law_548 mlL_58 sh_0 rfl rfl rfl (Nat.le_of_ble_eq_true rfl) (s_X11_days_no E l _ (by omega) _ a1 Ls (M 331) hnb hjv hc) (pc' := 551) rfl (fun vv M_548 hq co548 hcm548 => ?_)
    obtain ⟨rfl, rfl⟩ := hq
    refine ax_reS (st2 := [.inl (-1)]) rfl ?_
    refine ax_aload_n dL_law_551 rfl rfl (pc' := 552) rfl ?_
    refine ax_aload_n dL_law_552 rfl rfl (pc' := 553) rfl ?_
    refine ax_iload_n dL_law_553 rfl rfl (pc' := 554) rfl ?_
    refine ax_iconst dL_law_554 (by decide) (pc' := 555) rfl ?_
    refine ax_iadd dL_law_555 (by omega) (pc' := 556) rfl ?_
    refine ax_sald (v := a1) dL_law_556 (by omega) (by omega) qa1.symm (pc' := 557) rfl ?_
    refine ax_invG [.inl a1] [.inl (-1)] dL_law_557 mlL_61 sh_330 rfl rfl rfl (Nat.le_of_ble_eq_true rfl) (s_X12_days_no E l _ (by omega) _ a1 rfl hjv.1 hc) (pc' := 560) rfl (fun vv M_557 hq co557 hcm557 => ?_)
    obtain ⟨rfl, rfl⟩ := hq
    refine ax_reS (st2 := [.inl (-1), .inl (-1)]) rfl ?_
    refine ax_icmp_eq (tgt := 1416) dL_law_560 (by decide) (pc' := 563) rfl (fun h560 => ?_) (fun h560 => ?_)
    · exact kk _ ⟨hv, Ls, Lk, hI⟩
    · exfalso
      exact h560 rfl
set_option maxRecDepth 20000 in
theorem lc_1 (E : ax_Env) (l : Launch) (d : Nat) (hd : 60 ≤ d) (M : ax_Mem) (Q : ax_Post) (i : Int) (hx : ax_xl E ≤ 3072) (hi : 0 ≤ i ∧ i + 6 ≤ (ax_xl E : Int)) (hI : f_INV M) (kk : ∀ M2, f_INV M2 → ax_W E l (d + 1) 0 0 iL_law 1416 [some (.inr (-2)), some (.inr 0), some (.inr 330), some (.inl i)] [] SH M2 Q) : ax_W E l (d + 1) 0 0 iL_law 215 [some (.inr (-2)), some (.inr 0), some (.inr 330), some (.inl i)] [] SH M Q := by
  obtain ⟨hv, Ls, Lk, hI⟩ := hI
  have hnb := hI.1.1
  have hjv := hI.1.2.1
  have hlq := hI.1.2.2
  have hpr := hI.2.1.1
  have hhs := hI.2.1.2
  have hlo := hI.2.2.1
  have qta := hI.2.2.2.1.1
  have qtn := hI.2.2.2.1.2.1
  have qt4 := hI.2.2.2.1.2.2.1
  have qtp := hI.2.2.2.1.2.2.2
  obtain ⟨a1, qa1⟩ : ∃ z, z = (ax_xs E (i + 1).toNat).toInt := ⟨_, rfl⟩
  have ca1 : -2147483648 ≤ a1 ∧ a1 < 2147483648 := by rw [qa1]; exact ax_can_toInt _
  obtain ⟨a2, qa2⟩ : ∃ z, z = (ax_xs E (i + 2).toNat).toInt := ⟨_, rfl⟩
  have ca2 : -2147483648 ≤ a2 ∧ a2 < 2147483648 := by rw [qa2]; exact ax_can_toInt _
  obtain ⟨a3, qa3⟩ : ∃ z, z = (ax_xs E (i + 3).toNat).toInt := ⟨_, rfl⟩
  have ca3 : -2147483648 ≤ a3 ∧ a3 < 2147483648 := by rw [qa3]; exact ax_can_toInt _
  obtain ⟨a4, qa4⟩ : ∃ z, z = (ax_xs E (i + 4).toNat).toInt := ⟨_, rfl⟩
  have ca4 : -2147483648 ≤ a4 ∧ a4 < 2147483648 := by rw [qa4]; exact ax_can_toInt _
  obtain ⟨a5, qa5⟩ : ∃ z, z = (ax_xs E (i + 5).toNat).toInt := ⟨_, rfl⟩
  have ca5 : -2147483648 ≤ a5 ∧ a5 < 2147483648 := by rw [qa5]; exact ax_can_toInt _
  refine ax_aload_n dL_law_215 rfl rfl (pc' := 216) rfl ?_
  refine ax_aload_n dL_law_216 rfl rfl (pc' := 217) rfl ?_
  refine ax_iload_n dL_law_217 rfl rfl (pc' := 218) rfl ?_
  refine ax_iconst dL_law_218 (by decide) (pc' := 219) rfl ?_
  refine ax_iadd dL_law_219 (by omega) (pc' := 220) rfl ?_
  refine ax_sald (v := a1) dL_law_220 (by omega) (by omega) qa1.symm (pc' := 221) rfl ?_
  refine ax_aload_n dL_law_221 rfl rfl (pc' := 222) rfl ?_
  refine ax_iload_n dL_law_222 rfl rfl (pc' := 223) rfl ?_
  refine ax_iconst dL_law_223 (by decide) (pc' := 224) rfl ?_
  refine ax_iadd dL_law_224 (by omega) (pc' := 225) rfl ?_
  refine ax_sald (v := a2) dL_law_225 (by omega) (by omega) qa2.symm (pc' := 226) rfl ?_
  by_cases hc : f_free (M 331) ≠ -1 ∧ (2 ≤ a1 ∧ a1 ≤ 24) ∧ 0 ≤ a2 ∧ a2 ≤ 9
  · have hfr : 0 ≤ f_free (M 331) ∧ f_free (M 331) < 8 := by
      rcases f_free_rg (w := M 331) with q | q
      · exact absurd q hc.1
      · exact ⟨q.1, q.2.1⟩
    refine ax_invG [.inl a1, .inl a2] [] dL_law_226 mlL_18 sh_0 rfl rfl rfl (Nat.le_of_ble_eq_true rfl) (s_X11_rope_ok E l _ (by omega) _ a1 a2 Ls (M 331) (M 333) (M 330 4) hnb hjv hpr hc) (pc' := 229) rfl (fun vv M_226 hq co226 hcm226 => ?_)
    obtain ⟨rfl, frM_226, fa226_0, fa226_1⟩ := hq
    refine ax_reS (st2 := [.inl (f_free (M 331))]) rfl ?_
    have cc226 : -2147483648 ≤ f_free (M 331) ∧ f_free (M 331) < 2147483648 := co226 _ rfl
    refine ax_aload_n dL_law_229 rfl rfl (pc' := 230) rfl ?_
    refine ax_aload_n dL_law_230 rfl rfl (pc' := 231) rfl ?_
    refine ax_iload_n dL_law_231 rfl rfl (pc' := 232) rfl ?_
    refine ax_iconst dL_law_232 (by decide) (pc' := 233) rfl ?_
    refine ax_iadd dL_law_233 (by omega) (pc' := 234) rfl ?_
    refine ax_sald (v := a1) dL_law_234 (by omega) (by omega) qa1.symm (pc' := 235) rfl ?_
    refine ax_aload_n dL_law_235 rfl rfl (pc' := 236) rfl ?_
    refine ax_iload_n dL_law_236 rfl rfl (pc' := 237) rfl ?_
    refine ax_iconst dL_law_237 (by decide) (pc' := 238) rfl ?_
    refine ax_iadd dL_law_238 (by omega) (pc' := 239) rfl ?_
    refine ax_sald (v := a2) dL_law_239 (by omega) (by omega) qa2.symm (pc' := 240) rfl ?_
    refine ax_invG [.inl a1, .inl a2] [.inl (f_free (M 331))] dL_law_240 mlL_22 sh_330 rfl rfl rfl (Nat.le_of_ble_eq_true rfl) (s_X12_rope_ok E l _ (by omega) _ a1 a2 ((funext fun i0 => frM_226 331 i0 (fun h => h.elim (fun h => absurd h.2 (by decide)) (fun h => h.elim (fun h => absurd h.2 (by decide)) (fun h => h.elim (fun h => absurd h.1 (by decide)) (fun h => h.elim (fun h => absurd h (by decide)) (fun h => h.elim (fun h => absurd h (by decide)) (fun h => h.elim (fun h => absurd h (by decide)) (fun h => h.elim (fun h => absurd h (by decide)) (fun h => h.elim (fun h => absurd h.1 (by decide)) (fun h => absurd h.1 (by decide))))))))))).trans rfl) hc) (pc' := 243) rfl (fun vv M_240 hq co240 hcm240 => ?_)
    obtain ⟨rfl, frM_240, mrM_240_0, msM_240_0⟩ := hq
    refine ax_reS (st2 := [.inl (f_free (M 331)), .inl (f_free (M 331))]) rfl ?_
    have cc240 : -2147483648 ≤ f_free (M 331) ∧ f_free (M 331) < 2147483648 := co240 _ rfl
    refine ax_icmp_eq (tgt := 1416) dL_law_243 (by decide) (pc' := 246) rfl (fun h243 => ?_) (fun h243 => ?_)
    · refine kk _ (f_INV_mk (f_IV_fr (f_IV_act hI (fun x0 i0 hai => frM_226 x0 i0 (by unfold f_rd at hai; omega)) fa226_0 fa226_1 ?_ ?_ ?_) (fun x0 i0 hai => frM_240 x0 i0 (by unfold f_rc at hai; omega))) mrM_240_0 ((funext fun i0 => frM_240 332 i0 (fun h => h.elim (fun h => absurd h (by decide)) (fun h => absurd h.1 (by decide)))).trans ((funext fun i0 => frM_226 332 i0 (fun h => h.elim (fun h => absurd h.2 (by decide)) (fun h => h.elim (fun h => absurd h.2 (by decide)) (fun h => h.elim (fun h => absurd h.1 (by decide)) (fun h => h.elim (fun h => absurd h (by decide)) (fun h => h.elim (fun h => absurd h (by decide)) (fun h => h.elim (fun h => absurd h (by decide)) (fun h => h.elim (fun h => absurd h (by decide)) (fun h => h.elim (fun h => absurd h.1 (by decide)) (fun h => absurd h.1 (by decide))))))))))).trans rfl)) ((funext fun i0 => frM_240 333 i0 (fun h => h.elim (fun h => absurd h (by decide)) (fun h => absurd h.1 (by decide)))).trans ((funext fun i0 => frM_226 333 i0 (fun h => h.elim (fun h => absurd h.2 (by decide)) (fun h => h.elim (fun h => absurd h.2 (by decide)) (fun h => h.elim (fun h => absurd h.1 (by decide)) (fun h => h.elim (fun h => absurd h (by decide)) (fun h => h.elim (fun h => absurd h (by decide)) (fun h => h.elim (fun h => absurd h (by decide)) (fun h => h.elim (fun h => absurd h (by decide)) (fun h => h.elim (fun h => absurd h.1 (by decide)) (fun h => absurd h.1 (by decide))))))))))).trans rfl)) ((funext fun i0 => frM_240 339 i0 (fun h => h.elim (fun h => absurd h (by decide)) (fun h => absurd h.1 (by decide)))).trans ((funext fun i0 => frM_226 339 i0 (fun h => h.elim (fun h => absurd h.2 (by decide)) (fun h => h.elim (fun h => absurd h.2 (by decide)) (fun h => h.elim (fun h => absurd h.1 (by decide)) (fun h => h.elim (fun h => absurd h (by decide)) (fun h => h.elim (fun h => absurd h (by decide)) (fun h => h.elim (fun h => absurd h (by decide)) (fun h => h.elim (fun h => absurd h (by decide)) (fun h => h.elim (fun h => absurd h.1 (by decide)) (fun h => absurd h.1 (by decide))))))))))).trans rfl)) msM_240_0 ((frM_240 330 5 (fun h => h.elim (fun h => absurd h (by decide)) (fun h => absurd h.2 (by decide)))).trans ((frM_226 330 5 (fun h => h.elim (fun h => absurd h.2 (by decide)) (fun h => h.elim (fun h => absurd h.2 (by decide)) (fun h => h.elim (fun h => absurd h.1 (by decide)) (fun h => h.elim (fun h => absurd h (by decide)) (fun h => h.elim (fun h => absurd h (by decide)) (fun h => h.elim (fun h => absurd h (by decide)) (fun h => h.elim (fun h => absurd h (by decide)) (fun h => h.elim (fun h => absurd h.1 (by decide)) (fun h => absurd h.1 (by decide))))))))))).trans rfl)) ((frM_240 330 17 (fun h => h.elim (fun h => absurd h (by decide)) (fun h => absurd h.2 (by decide)))).trans ((frM_226 330 17 (fun h => h.elim (fun h => absurd h.2 (by decide)) (fun h => h.elim (fun h => absurd h.2 (by decide)) (fun h => h.elim (fun h => absurd h.1 (by decide)) (fun h => h.elim (fun h => absurd h (by decide)) (fun h => h.elim (fun h => absurd h (by decide)) (fun h => h.elim (fun h => absurd h (by decide)) (fun h => h.elim (fun h => absurd h (by decide)) (fun h => h.elim (fun h => absurd h.1 (by decide)) (fun h => absurd h.1 (by decide))))))))))).trans rfl)) ((frM_240 330 24 (fun h => h.elim (fun h => absurd h (by decide)) (fun h => absurd h.2 (by decide)))).trans ((frM_226 330 24 (fun h => h.elim (fun h => absurd h.2 (by decide)) (fun h => h.elim (fun h => absurd h.2 (by decide)) (fun h => h.elim (fun h => absurd h.1 (by decide)) (fun h => h.elim (fun h => absurd h (by decide)) (fun h => h.elim (fun h => absurd h (by decide)) (fun h => h.elim (fun h => absurd h (by decide)) (fun h => h.elim (fun h => absurd h (by decide)) (fun h => h.elim (fun h => absurd h.1 (by decide)) (fun h => absurd h.1 (by decide))))))))))).trans rfl)) ((frM_240 330 26 (fun h => h.elim (fun h => absurd h (by decide)) (fun h => absurd h.2 (by decide)))).trans ((frM_226 330 26 (fun h => h.elim (fun h => absurd h.2 (by decide)) (fun h => h.elim (fun h => absurd h.2 (by decide)) (fun h => h.elim (fun h => absurd h.1 (by decide)) (fun h => h.elim (fun h => absurd h (by decide)) (fun h => h.elim (fun h => absurd h (by decide)) (fun h => h.elim (fun h => absurd h (by decide)) (fun h => h.elim (fun h => absurd h (by decide)) (fun h => h.elim (fun h => absurd h.1 (by decide)) (fun h => absurd h.1 (by decide))))))))))).trans rfl)) ((frM_240 330 21 (fun h => h.elim (fun h => absurd h (by decide)) (fun h => absurd h.2 (by decide)))).trans ((frM_226 330 21 (fun h => h.elim (fun h => absurd h.2 (by decide)) (fun h => h.elim (fun h => absurd h.2 (by decide)) (fun h => h.elim (fun h => absurd h.1 (by decide)) (fun h => h.elim (fun h => absurd h (by decide)) (fun h => h.elim (fun h => absurd h (by decide)) (fun h => h.elim (fun h => absurd h (by decide)) (fun h => h.elim (fun h => absurd h (by decide)) (fun h => h.elim (fun h => absurd h.1 (by decide)) (fun h => absurd h.1 (by decide))))))))))).trans rfl)) hv)
      · exact f_jv_beg hfr hc.2.1 hjv
      · exact f_a2_ag (f_out_ag (f_out_beg hfr))
      · exact f_hs_0
    · exfalso
      exact h243 rfl
  · refine ax_invG [.inl a1, .inl a2] [] dL_law_226 mlL_18 sh_0 rfl rfl rfl (Nat.le_of_ble_eq_true rfl) (s_X11_rope_no E l _ (by omega) _ a1 a2 Ls (M 331) hnb hjv hc) (pc' := 229) rfl (fun vv M_226 hq co226 hcm226 => ?_)
    obtain ⟨rfl, rfl⟩ := hq
    refine ax_reS (st2 := [.inl (-1)]) rfl ?_
    refine ax_aload_n dL_law_229 rfl rfl (pc' := 230) rfl ?_
    refine ax_aload_n dL_law_230 rfl rfl (pc' := 231) rfl ?_
    refine ax_iload_n dL_law_231 rfl rfl (pc' := 232) rfl ?_
    refine ax_iconst dL_law_232 (by decide) (pc' := 233) rfl ?_
    refine ax_iadd dL_law_233 (by omega) (pc' := 234) rfl ?_
    refine ax_sald (v := a1) dL_law_234 (by omega) (by omega) qa1.symm (pc' := 235) rfl ?_
    refine ax_aload_n dL_law_235 rfl rfl (pc' := 236) rfl ?_
    refine ax_iload_n dL_law_236 rfl rfl (pc' := 237) rfl ?_
    refine ax_iconst dL_law_237 (by decide) (pc' := 238) rfl ?_
    refine ax_iadd dL_law_238 (by omega) (pc' := 239) rfl ?_
    refine ax_sald (v := a2) dL_law_239 (by omega) (by omega) qa2.symm (pc' := 240) rfl ?_
    refine ax_invG [.inl a1, .inl a2] [.inl (-1)] dL_law_240 mlL_22 sh_330 rfl rfl rfl (Nat.le_of_ble_eq_true rfl) (s_X12_rope_no E l _ (by omega) _ a1 a2 rfl hc) (pc' := 243) rfl (fun vv M_240 hq co240 hcm240 => ?_)
    obtain ⟨rfl, rfl⟩ := hq
    refine ax_reS (st2 := [.inl (-1), .inl (-1)]) rfl ?_
    refine ax_icmp_eq (tgt := 1416) dL_law_243 (by decide) (pc' := 246) rfl (fun h243 => ?_) (fun h243 => ?_)
    · exact kk _ ⟨hv, Ls, Lk, hI⟩
    · exfalso
      exact h243 rfl
set_option maxRecDepth 20000 in
theorem lc_0 (E : ax_Env) (l : Launch) (d : Nat) (hd : 60 ≤ d) (M : ax_Mem) (Q : ax_Post) (i : Int) (hx : ax_xl E ≤ 3072) (hi : 0 ≤ i ∧ i + 6 ≤ (ax_xl E : Int)) (hI : f_INV M) (kk : ∀ M2, f_INV M2 → ax_W E l (d + 1) 0 0 iL_law 1416 [some (.inr (-2)), some (.inr 0), some (.inr 330), some (.inl i)] [] SH M2 Q) : ax_W E l (d + 1) 0 0 iL_law 192 [some (.inr (-2)), some (.inr 0), some (.inr 330), some (.inl i)] [] SH M Q := by
  obtain ⟨hv, Ls, Lk, hI⟩ := hI
  have hnb := hI.1.1
  have hjv := hI.1.2.1
  have hlq := hI.1.2.2
  have hpr := hI.2.1.1
  have hhs := hI.2.1.2
  have hlo := hI.2.2.1
  have qta := hI.2.2.2.1.1
  have qtn := hI.2.2.2.1.2.1
  have qt4 := hI.2.2.2.1.2.2.1
  have qtp := hI.2.2.2.1.2.2.2
  obtain ⟨a1, qa1⟩ : ∃ z, z = (ax_xs E (i + 1).toNat).toInt := ⟨_, rfl⟩
  have ca1 : -2147483648 ≤ a1 ∧ a1 < 2147483648 := by rw [qa1]; exact ax_can_toInt _
  obtain ⟨a2, qa2⟩ : ∃ z, z = (ax_xs E (i + 2).toNat).toInt := ⟨_, rfl⟩
  have ca2 : -2147483648 ≤ a2 ∧ a2 < 2147483648 := by rw [qa2]; exact ax_can_toInt _
  obtain ⟨a3, qa3⟩ : ∃ z, z = (ax_xs E (i + 3).toNat).toInt := ⟨_, rfl⟩
  have ca3 : -2147483648 ≤ a3 ∧ a3 < 2147483648 := by rw [qa3]; exact ax_can_toInt _
  obtain ⟨a4, qa4⟩ : ∃ z, z = (ax_xs E (i + 4).toNat).toInt := ⟨_, rfl⟩
  have ca4 : -2147483648 ≤ a4 ∧ a4 < 2147483648 := by rw [qa4]; exact ax_can_toInt _
  obtain ⟨a5, qa5⟩ : ∃ z, z = (ax_xs E (i + 5).toNat).toInt := ⟨_, rfl⟩
  have ca5 : -2147483648 ≤ a5 ∧ a5 < 2147483648 := by rw [qa5]; exact ax_can_toInt _
  refine ax_aload_n dL_law_192 rfl rfl (pc' := 193) rfl ?_
  refine ax_aload_n dL_law_193 rfl rfl (pc' := 194) rfl ?_
  refine ax_iload_n dL_law_194 rfl rfl (pc' := 195) rfl ?_
  refine ax_iconst dL_law_195 (by decide) (pc' := 196) rfl ?_
  refine ax_iadd dL_law_196 (by omega) (pc' := 197) rfl ?_
  refine ax_sald (v := a1) dL_law_197 (by omega) (by omega) qa1.symm (pc' := 198) rfl ?_
  refine ax_invG [.inl a1] [] dL_law_198 mlL_13 sh_0 rfl rfl rfl (Nat.le_of_ble_eq_true rfl) (s_X11_state E l _ (by omega) _ a1 Ls (M 331) (M 333) (M 330 4) hnb hjv hpr) (pc' := 201) rfl (fun vv M_198 hq co198 hcm198 => ?_)
  obtain ⟨rfl, frM_198, fa198_0, fa198_1⟩ := hq
  refine ax_reS (st2 := [.inl ((M 331) 2)]) rfl ?_
  have cc198 : -2147483648 ≤ (M 331) 2 ∧ (M 331) 2 < 2147483648 := co198 _ rfl
  refine ax_aload_n dL_law_201 rfl rfl (pc' := 202) rfl ?_
  refine ax_aload_n dL_law_202 rfl rfl (pc' := 203) rfl ?_
  refine ax_iload_n dL_law_203 rfl rfl (pc' := 204) rfl ?_
  refine ax_iconst dL_law_204 (by decide) (pc' := 205) rfl ?_
  refine ax_iadd dL_law_205 (by omega) (pc' := 206) rfl ?_
  refine ax_sald (v := a1) dL_law_206 (by omega) (by omega) qa1.symm (pc' := 207) rfl ?_
  refine ax_invG [.inl a1] [.inl ((M 331) 2)] dL_law_207 mlL_17 sh_330 rfl rfl rfl (Nat.le_of_ble_eq_true rfl) (s_X12_state E l _ (by omega) _ a1 ((funext fun i0 => frM_198 331 i0 (fun h => h.elim (fun h => absurd h.2 (by decide)) (fun h => h.elim (fun h => absurd h.2 (by decide)) (fun h => h.elim (fun h => absurd h.1 (by decide)) (fun h => h.elim (fun h => absurd h (by decide)) (fun h => h.elim (fun h => absurd h (by decide)) (fun h => h.elim (fun h => absurd h (by decide)) (fun h => h.elim (fun h => absurd h (by decide)) (fun h => h.elim (fun h => absurd h.1 (by decide)) (fun h => absurd h.1 (by decide))))))))))).trans rfl)) (pc' := 210) rfl (fun vv M_207 hq co207 hcm207 => ?_)
  obtain ⟨rfl, frM_207, mrM_207_0, msM_207_0⟩ := hq
  refine ax_reS (st2 := [.inl ((M 331) 2), .inl ((M 331) 2)]) rfl ?_
  have cc207 : -2147483648 ≤ (M 331) 2 ∧ (M 331) 2 < 2147483648 := co207 _ rfl
  refine ax_icmp_eq (tgt := 1416) dL_law_210 (by decide) (pc' := 213) rfl (fun h210 => ?_) (fun h210 => ?_)
  · refine kk _ (f_INV_mk (f_IV_fr (f_IV_act hI (fun x0 i0 hai => frM_198 x0 i0 (by unfold f_rd at hai; omega)) fa198_0 fa198_1 ?_ ?_ ?_) (fun x0 i0 hai => frM_207 x0 i0 (by unfold f_rc at hai; omega))) mrM_207_0 ((funext fun i0 => frM_207 332 i0 (fun h => h.elim (fun h => absurd h (by decide)) (fun h => absurd h.1 (by decide)))).trans ((funext fun i0 => frM_198 332 i0 (fun h => h.elim (fun h => absurd h.2 (by decide)) (fun h => h.elim (fun h => absurd h.2 (by decide)) (fun h => h.elim (fun h => absurd h.1 (by decide)) (fun h => h.elim (fun h => absurd h (by decide)) (fun h => h.elim (fun h => absurd h (by decide)) (fun h => h.elim (fun h => absurd h (by decide)) (fun h => h.elim (fun h => absurd h (by decide)) (fun h => h.elim (fun h => absurd h.1 (by decide)) (fun h => absurd h.1 (by decide))))))))))).trans rfl)) ((funext fun i0 => frM_207 333 i0 (fun h => h.elim (fun h => absurd h (by decide)) (fun h => absurd h.1 (by decide)))).trans ((funext fun i0 => frM_198 333 i0 (fun h => h.elim (fun h => absurd h.2 (by decide)) (fun h => h.elim (fun h => absurd h.2 (by decide)) (fun h => h.elim (fun h => absurd h.1 (by decide)) (fun h => h.elim (fun h => absurd h (by decide)) (fun h => h.elim (fun h => absurd h (by decide)) (fun h => h.elim (fun h => absurd h (by decide)) (fun h => h.elim (fun h => absurd h (by decide)) (fun h => h.elim (fun h => absurd h.1 (by decide)) (fun h => absurd h.1 (by decide))))))))))).trans rfl)) ((funext fun i0 => frM_207 339 i0 (fun h => h.elim (fun h => absurd h (by decide)) (fun h => absurd h.1 (by decide)))).trans ((funext fun i0 => frM_198 339 i0 (fun h => h.elim (fun h => absurd h.2 (by decide)) (fun h => h.elim (fun h => absurd h.2 (by decide)) (fun h => h.elim (fun h => absurd h.1 (by decide)) (fun h => h.elim (fun h => absurd h (by decide)) (fun h => h.elim (fun h => absurd h (by decide)) (fun h => h.elim (fun h => absurd h (by decide)) (fun h => h.elim (fun h => absurd h (by decide)) (fun h => h.elim (fun h => absurd h.1 (by decide)) (fun h => absurd h.1 (by decide))))))))))).trans rfl)) msM_207_0 ((frM_207 330 5 (fun h => h.elim (fun h => absurd h (by decide)) (fun h => absurd h.2 (by decide)))).trans ((frM_198 330 5 (fun h => h.elim (fun h => absurd h.2 (by decide)) (fun h => h.elim (fun h => absurd h.2 (by decide)) (fun h => h.elim (fun h => absurd h.1 (by decide)) (fun h => h.elim (fun h => absurd h (by decide)) (fun h => h.elim (fun h => absurd h (by decide)) (fun h => h.elim (fun h => absurd h (by decide)) (fun h => h.elim (fun h => absurd h (by decide)) (fun h => h.elim (fun h => absurd h.1 (by decide)) (fun h => absurd h.1 (by decide))))))))))).trans rfl)) ((frM_207 330 17 (fun h => h.elim (fun h => absurd h (by decide)) (fun h => absurd h.2 (by decide)))).trans ((frM_198 330 17 (fun h => h.elim (fun h => absurd h.2 (by decide)) (fun h => h.elim (fun h => absurd h.2 (by decide)) (fun h => h.elim (fun h => absurd h.1 (by decide)) (fun h => h.elim (fun h => absurd h (by decide)) (fun h => h.elim (fun h => absurd h (by decide)) (fun h => h.elim (fun h => absurd h (by decide)) (fun h => h.elim (fun h => absurd h (by decide)) (fun h => h.elim (fun h => absurd h.1 (by decide)) (fun h => absurd h.1 (by decide))))))))))).trans rfl)) ((frM_207 330 24 (fun h => h.elim (fun h => absurd h (by decide)) (fun h => absurd h.2 (by decide)))).trans ((frM_198 330 24 (fun h => h.elim (fun h => absurd h.2 (by decide)) (fun h => h.elim (fun h => absurd h.2 (by decide)) (fun h => h.elim (fun h => absurd h.1 (by decide)) (fun h => h.elim (fun h => absurd h (by decide)) (fun h => h.elim (fun h => absurd h (by decide)) (fun h => h.elim (fun h => absurd h (by decide)) (fun h => h.elim (fun h => absurd h (by decide)) (fun h => h.elim (fun h => absurd h.1 (by decide)) (fun h => absurd h.1 (by decide))))))))))).trans rfl)) ((frM_207 330 26 (fun h => h.elim (fun h => absurd h (by decide)) (fun h => absurd h.2 (by decide)))).trans ((frM_198 330 26 (fun h => h.elim (fun h => absurd h.2 (by decide)) (fun h => h.elim (fun h => absurd h.2 (by decide)) (fun h => h.elim (fun h => absurd h.1 (by decide)) (fun h => h.elim (fun h => absurd h (by decide)) (fun h => h.elim (fun h => absurd h (by decide)) (fun h => h.elim (fun h => absurd h (by decide)) (fun h => h.elim (fun h => absurd h (by decide)) (fun h => h.elim (fun h => absurd h.1 (by decide)) (fun h => absurd h.1 (by decide))))))))))).trans rfl)) ((frM_207 330 21 (fun h => h.elim (fun h => absurd h (by decide)) (fun h => absurd h.2 (by decide)))).trans ((frM_198 330 21 (fun h => h.elim (fun h => absurd h.2 (by decide)) (fun h => h.elim (fun h => absurd h.2 (by decide)) (fun h => h.elim (fun h => absurd h.1 (by decide)) (fun h => h.elim (fun h => absurd h (by decide)) (fun h => h.elim (fun h => absurd h (by decide)) (fun h => h.elim (fun h => absurd h (by decide)) (fun h => h.elim (fun h => absurd h (by decide)) (fun h => h.elim (fun h => absurd h.1 (by decide)) (fun h => absurd h.1 (by decide))))))))))).trans rfl)) hv)
    · exact f_jv_up (i := 2) (v := a1) (Or.inl rfl) (by omega) hjv
    · exact f_a2_up (by decide)
    · exact f_hs_0
  · exfalso
    exact h210 rfl
set_option maxRecDepth 20000 in
theorem lc_2 (E : ax_Env) (l : Launch) (d : Nat) (hd : 60 ≤ d) (M : ax_Mem) (Q : ax_Post) (i : Int) (hx : ax_xl E ≤ 3072) (hi : 0 ≤ i ∧ i + 6 ≤ (ax_xl E : Int)) (hI : f_INV M) (kk : ∀ M2, f_INV M2 → ax_W E l (d + 1) 0 0 iL_law 1416 [some (.inr (-2)), some (.inr 0), some (.inr 330), some (.inl i)] [] SH M2 Q) : ax_W E l (d + 1) 0 0 iL_law 248 [some (.inr (-2)), some (.inr 0), some (.inr 330), some (.inl i)] [] SH M Q := by
  obtain ⟨hv, Ls, Lk, hI⟩ := hI
  have hnb := hI.1.1
  have hjv := hI.1.2.1
  have hlq := hI.1.2.2
  have hpr := hI.2.1.1
  have hhs := hI.2.1.2
  have hlo := hI.2.2.1
  have qta := hI.2.2.2.1.1
  have qtn := hI.2.2.2.1.2.1
  have qt4 := hI.2.2.2.1.2.2.1
  have qtp := hI.2.2.2.1.2.2.2
  obtain ⟨a1, qa1⟩ : ∃ z, z = (ax_xs E (i + 1).toNat).toInt := ⟨_, rfl⟩
  have ca1 : -2147483648 ≤ a1 ∧ a1 < 2147483648 := by rw [qa1]; exact ax_can_toInt _
  obtain ⟨a2, qa2⟩ : ∃ z, z = (ax_xs E (i + 2).toNat).toInt := ⟨_, rfl⟩
  have ca2 : -2147483648 ≤ a2 ∧ a2 < 2147483648 := by rw [qa2]; exact ax_can_toInt _
  obtain ⟨a3, qa3⟩ : ∃ z, z = (ax_xs E (i + 3).toNat).toInt := ⟨_, rfl⟩
  have ca3 : -2147483648 ≤ a3 ∧ a3 < 2147483648 := by rw [qa3]; exact ax_can_toInt _
  obtain ⟨a4, qa4⟩ : ∃ z, z = (ax_xs E (i + 4).toNat).toInt := ⟨_, rfl⟩
  have ca4 : -2147483648 ≤ a4 ∧ a4 < 2147483648 := by rw [qa4]; exact ax_can_toInt _
  obtain ⟨a5, qa5⟩ : ∃ z, z = (ax_xs E (i + 5).toNat).toInt := ⟨_, rfl⟩
  have ca5 : -2147483648 ≤ a5 ∧ a5 < 2147483648 := by rw [qa5]; exact ax_can_toInt _
  refine ax_aload_n dL_law_248 rfl rfl (pc' := 249) rfl ?_
  refine ax_aload_n dL_law_249 rfl rfl (pc' := 250) rfl ?_
  refine ax_iload_n dL_law_250 rfl rfl (pc' := 251) rfl ?_
  refine ax_iconst dL_law_251 (by decide) (pc' := 252) rfl ?_
  refine ax_iadd dL_law_252 (by omega) (pc' := 253) rfl ?_
  refine ax_sald (v := a1) dL_law_253 (by omega) (by omega) qa1.symm (pc' := 254) rfl ?_
  refine ax_aload_n dL_law_254 rfl rfl (pc' := 255) rfl ?_
  refine ax_iload_n dL_law_255 rfl rfl (pc' := 256) rfl ?_
  refine ax_iconst dL_law_256 (by decide) (pc' := 257) rfl ?_
  refine ax_iadd dL_law_257 (by omega) (pc' := 258) rfl ?_
  refine ax_sald (v := a2) dL_law_258 (by omega) (by omega) qa2.symm (pc' := 259) rfl ?_
  refine ax_aload_n dL_law_259 rfl rfl (pc' := 260) rfl ?_
  refine ax_iload_n dL_law_260 rfl rfl (pc' := 261) rfl ?_
  refine ax_iconst dL_law_261 (by decide) (pc' := 262) rfl ?_
  refine ax_iadd dL_law_262 (by omega) (pc' := 263) rfl ?_
  refine ax_sald (v := a3) dL_law_263 (by omega) (by omega) qa3.symm (pc' := 264) rfl ?_
  by_cases hc0 : a1 = 0 ∧ (0 ≤ a2 ∧ a2 ≤ 5) ∧ 1 ≤ a3 ∧ a3 ≤ 9
  · refine ax_invG [.inl a1, .inl a2, .inl a3] [] dL_law_264 mlL_23 sh_0 rfl rfl rfl (Nat.le_of_ble_eq_true rfl) (s_X11_set_0 E l _ (by omega) _ a1 a2 a3 Ls (M 331) (M 333) (M 330 4) hnb hjv hpr hc0) (pc' := 267) rfl (fun vv M_264 hq co264 hcm264 => ?_)
    obtain ⟨rfl, frM_264, fa264_0, fa264_1⟩ := hq
    refine ax_reS (st2 := [.inl 1]) rfl ?_
    refine ax_aload_n dL_law_267 rfl rfl (pc' := 268) rfl ?_
    refine ax_aload_n dL_law_268 rfl rfl (pc' := 269) rfl ?_
    refine ax_iload_n dL_law_269 rfl rfl (pc' := 270) rfl ?_
    refine ax_iconst dL_law_270 (by decide) (pc' := 271) rfl ?_
    refine ax_iadd dL_law_271 (by omega) (pc' := 272) rfl ?_
    refine ax_sald (v := a1) dL_law_272 (by omega) (by omega) qa1.symm (pc' := 273) rfl ?_
    refine ax_aload_n dL_law_273 rfl rfl (pc' := 274) rfl ?_
    refine ax_iload_n dL_law_274 rfl rfl (pc' := 275) rfl ?_
    refine ax_iconst dL_law_275 (by decide) (pc' := 276) rfl ?_
    refine ax_iadd dL_law_276 (by omega) (pc' := 277) rfl ?_
    refine ax_sald (v := a2) dL_law_277 (by omega) (by omega) qa2.symm (pc' := 278) rfl ?_
    refine ax_aload_n dL_law_278 rfl rfl (pc' := 279) rfl ?_
    refine ax_iload_n dL_law_279 rfl rfl (pc' := 280) rfl ?_
    refine ax_iconst dL_law_280 (by decide) (pc' := 281) rfl ?_
    refine ax_iadd dL_law_281 (by omega) (pc' := 282) rfl ?_
    refine ax_sald (v := a3) dL_law_282 (by omega) (by omega) qa3.symm (pc' := 283) rfl ?_
    refine ax_invG [.inl a1, .inl a2, .inl a3] [.inl 1] dL_law_283 mlL_27 sh_330 rfl rfl rfl (Nat.le_of_ble_eq_true rfl) (s_X12_set_0 E l _ (by omega) _ a1 a2 a3 ((funext fun i0 => frM_264 331 i0 (fun h => h.elim (fun h => absurd h.2 (by decide)) (fun h => h.elim (fun h => absurd h.2 (by decide)) (fun h => h.elim (fun h => absurd h.1 (by decide)) (fun h => h.elim (fun h => absurd h (by decide)) (fun h => h.elim (fun h => absurd h (by decide)) (fun h => h.elim (fun h => absurd h (by decide)) (fun h => h.elim (fun h => absurd h (by decide)) (fun h => h.elim (fun h => absurd h.1 (by decide)) (fun h => absurd h.1 (by decide))))))))))).trans rfl) hc0) (pc' := 286) rfl (fun vv M_283 hq co283 hcm283 => ?_)
    obtain ⟨rfl, frM_283, mrM_283_0, msM_283_0⟩ := hq
    refine ax_reS (st2 := [.inl 1, .inl 1]) rfl ?_
    refine ax_icmp_eq (tgt := 1416) dL_law_286 (by decide) (pc' := 289) rfl (fun h286 => ?_) (fun h286 => ?_)
    · refine kk _ (f_INV_mk (f_IV_fr (f_IV_act hI (fun x0 i0 hai => frM_264 x0 i0 (by unfold f_rd at hai; omega)) fa264_0 fa264_1 ?_ ?_ ?_) (fun x0 i0 hai => frM_283 x0 i0 (by unfold f_rc at hai; omega))) mrM_283_0 ((funext fun i0 => frM_283 332 i0 (fun h => h.elim (fun h => absurd h (by decide)) (fun h => absurd h.1 (by decide)))).trans ((funext fun i0 => frM_264 332 i0 (fun h => h.elim (fun h => absurd h.2 (by decide)) (fun h => h.elim (fun h => absurd h.2 (by decide)) (fun h => h.elim (fun h => absurd h.1 (by decide)) (fun h => h.elim (fun h => absurd h (by decide)) (fun h => h.elim (fun h => absurd h (by decide)) (fun h => h.elim (fun h => absurd h (by decide)) (fun h => h.elim (fun h => absurd h (by decide)) (fun h => h.elim (fun h => absurd h.1 (by decide)) (fun h => absurd h.1 (by decide))))))))))).trans rfl)) ((funext fun i0 => frM_283 333 i0 (fun h => h.elim (fun h => absurd h (by decide)) (fun h => absurd h.1 (by decide)))).trans ((funext fun i0 => frM_264 333 i0 (fun h => h.elim (fun h => absurd h.2 (by decide)) (fun h => h.elim (fun h => absurd h.2 (by decide)) (fun h => h.elim (fun h => absurd h.1 (by decide)) (fun h => h.elim (fun h => absurd h (by decide)) (fun h => h.elim (fun h => absurd h (by decide)) (fun h => h.elim (fun h => absurd h (by decide)) (fun h => h.elim (fun h => absurd h (by decide)) (fun h => h.elim (fun h => absurd h.1 (by decide)) (fun h => absurd h.1 (by decide))))))))))).trans rfl)) ((funext fun i0 => frM_283 339 i0 (fun h => h.elim (fun h => absurd h (by decide)) (fun h => absurd h.1 (by decide)))).trans ((funext fun i0 => frM_264 339 i0 (fun h => h.elim (fun h => absurd h.2 (by decide)) (fun h => h.elim (fun h => absurd h.2 (by decide)) (fun h => h.elim (fun h => absurd h.1 (by decide)) (fun h => h.elim (fun h => absurd h (by decide)) (fun h => h.elim (fun h => absurd h (by decide)) (fun h => h.elim (fun h => absurd h (by decide)) (fun h => h.elim (fun h => absurd h (by decide)) (fun h => h.elim (fun h => absurd h.1 (by decide)) (fun h => absurd h.1 (by decide))))))))))).trans rfl)) msM_283_0 ((frM_283 330 5 (fun h => h.elim (fun h => absurd h (by decide)) (fun h => absurd h.2 (by decide)))).trans ((frM_264 330 5 (fun h => h.elim (fun h => absurd h.2 (by decide)) (fun h => h.elim (fun h => absurd h.2 (by decide)) (fun h => h.elim (fun h => absurd h.1 (by decide)) (fun h => h.elim (fun h => absurd h (by decide)) (fun h => h.elim (fun h => absurd h (by decide)) (fun h => h.elim (fun h => absurd h (by decide)) (fun h => h.elim (fun h => absurd h (by decide)) (fun h => h.elim (fun h => absurd h.1 (by decide)) (fun h => absurd h.1 (by decide))))))))))).trans rfl)) ((frM_283 330 17 (fun h => h.elim (fun h => absurd h (by decide)) (fun h => absurd h.2 (by decide)))).trans ((frM_264 330 17 (fun h => h.elim (fun h => absurd h.2 (by decide)) (fun h => h.elim (fun h => absurd h.2 (by decide)) (fun h => h.elim (fun h => absurd h.1 (by decide)) (fun h => h.elim (fun h => absurd h (by decide)) (fun h => h.elim (fun h => absurd h (by decide)) (fun h => h.elim (fun h => absurd h (by decide)) (fun h => h.elim (fun h => absurd h (by decide)) (fun h => h.elim (fun h => absurd h.1 (by decide)) (fun h => absurd h.1 (by decide))))))))))).trans rfl)) ((frM_283 330 24 (fun h => h.elim (fun h => absurd h (by decide)) (fun h => absurd h.2 (by decide)))).trans ((frM_264 330 24 (fun h => h.elim (fun h => absurd h.2 (by decide)) (fun h => h.elim (fun h => absurd h.2 (by decide)) (fun h => h.elim (fun h => absurd h.1 (by decide)) (fun h => h.elim (fun h => absurd h (by decide)) (fun h => h.elim (fun h => absurd h (by decide)) (fun h => h.elim (fun h => absurd h (by decide)) (fun h => h.elim (fun h => absurd h (by decide)) (fun h => h.elim (fun h => absurd h.1 (by decide)) (fun h => absurd h.1 (by decide))))))))))).trans rfl)) ((frM_283 330 26 (fun h => h.elim (fun h => absurd h (by decide)) (fun h => absurd h.2 (by decide)))).trans ((frM_264 330 26 (fun h => h.elim (fun h => absurd h.2 (by decide)) (fun h => h.elim (fun h => absurd h.2 (by decide)) (fun h => h.elim (fun h => absurd h.1 (by decide)) (fun h => h.elim (fun h => absurd h (by decide)) (fun h => h.elim (fun h => absurd h (by decide)) (fun h => h.elim (fun h => absurd h (by decide)) (fun h => h.elim (fun h => absurd h (by decide)) (fun h => h.elim (fun h => absurd h.1 (by decide)) (fun h => absurd h.1 (by decide))))))))))).trans rfl)) ((frM_283 330 21 (fun h => h.elim (fun h => absurd h (by decide)) (fun h => absurd h.2 (by decide)))).trans ((frM_264 330 21 (fun h => h.elim (fun h => absurd h.2 (by decide)) (fun h => h.elim (fun h => absurd h.2 (by decide)) (fun h => h.elim (fun h => absurd h.1 (by decide)) (fun h => h.elim (fun h => absurd h (by decide)) (fun h => h.elim (fun h => absurd h (by decide)) (fun h => h.elim (fun h => absurd h (by decide)) (fun h => h.elim (fun h => absurd h (by decide)) (fun h => h.elim (fun h => absurd h.1 (by decide)) (fun h => absurd h.1 (by decide))))))))))).trans rfl)) hv)
      · exact f_jv_up (i := (2564 + a2)) (v := a3) (Or.inr (by omega)) (by omega) hjv
      · exact f_a2_up (by omega)
      · exact f_hs_0
    · exfalso
      exact h286 rfl
  · by_cases hc1 : a1 = 1 ∧ (0 ≤ a2 ∧ a2 ≤ 5) ∧ 0 ≤ a3 ∧ a3 ≤ 9
    · refine ax_invG [.inl a1, .inl a2, .inl a3] [] dL_law_264 mlL_23 sh_0 rfl rfl rfl (Nat.le_of_ble_eq_true rfl) (s_X11_set_1 E l _ (by omega) _ a1 a2 a3 Ls (M 331) (M 333) (M 330 4) hnb hjv hpr hc1) (pc' := 267) rfl (fun vv M_264 hq co264 hcm264 => ?_)
      obtain ⟨rfl, frM_264, fa264_0, fa264_1⟩ := hq
      refine ax_reS (st2 := [.inl 1]) rfl ?_
      refine ax_aload_n dL_law_267 rfl rfl (pc' := 268) rfl ?_
      refine ax_aload_n dL_law_268 rfl rfl (pc' := 269) rfl ?_
      refine ax_iload_n dL_law_269 rfl rfl (pc' := 270) rfl ?_
      refine ax_iconst dL_law_270 (by decide) (pc' := 271) rfl ?_
      refine ax_iadd dL_law_271 (by omega) (pc' := 272) rfl ?_
      refine ax_sald (v := a1) dL_law_272 (by omega) (by omega) qa1.symm (pc' := 273) rfl ?_
      refine ax_aload_n dL_law_273 rfl rfl (pc' := 274) rfl ?_
      refine ax_iload_n dL_law_274 rfl rfl (pc' := 275) rfl ?_
      refine ax_iconst dL_law_275 (by decide) (pc' := 276) rfl ?_
      refine ax_iadd dL_law_276 (by omega) (pc' := 277) rfl ?_
      refine ax_sald (v := a2) dL_law_277 (by omega) (by omega) qa2.symm (pc' := 278) rfl ?_
      refine ax_aload_n dL_law_278 rfl rfl (pc' := 279) rfl ?_
      refine ax_iload_n dL_law_279 rfl rfl (pc' := 280) rfl ?_
      refine ax_iconst dL_law_280 (by decide) (pc' := 281) rfl ?_
      refine ax_iadd dL_law_281 (by omega) (pc' := 282) rfl ?_
      refine ax_sald (v := a3) dL_law_282 (by omega) (by omega) qa3.symm (pc' := 283) rfl ?_
      refine ax_invG [.inl a1, .inl a2, .inl a3] [.inl 1] dL_law_283 mlL_27 sh_330 rfl rfl rfl (Nat.le_of_ble_eq_true rfl) (s_X12_set_1 E l _ (by omega) _ a1 a2 a3 ((funext fun i0 => frM_264 331 i0 (fun h => h.elim (fun h => absurd h.2 (by decide)) (fun h => h.elim (fun h => absurd h.2 (by decide)) (fun h => h.elim (fun h => absurd h.1 (by decide)) (fun h => h.elim (fun h => absurd h (by decide)) (fun h => h.elim (fun h => absurd h (by decide)) (fun h => h.elim (fun h => absurd h (by decide)) (fun h => h.elim (fun h => absurd h (by decide)) (fun h => h.elim (fun h => absurd h.1 (by decide)) (fun h => absurd h.1 (by decide))))))))))).trans rfl) hc1) (pc' := 286) rfl (fun vv M_283 hq co283 hcm283 => ?_)
      obtain ⟨rfl, frM_283, mrM_283_0, msM_283_0⟩ := hq
      refine ax_reS (st2 := [.inl 1, .inl 1]) rfl ?_
      refine ax_icmp_eq (tgt := 1416) dL_law_286 (by decide) (pc' := 289) rfl (fun h286 => ?_) (fun h286 => ?_)
      · refine kk _ (f_INV_mk (f_IV_fr (f_IV_act hI (fun x0 i0 hai => frM_264 x0 i0 (by unfold f_rd at hai; omega)) fa264_0 fa264_1 ?_ ?_ ?_) (fun x0 i0 hai => frM_283 x0 i0 (by unfold f_rc at hai; omega))) mrM_283_0 ((funext fun i0 => frM_283 332 i0 (fun h => h.elim (fun h => absurd h (by decide)) (fun h => absurd h.1 (by decide)))).trans ((funext fun i0 => frM_264 332 i0 (fun h => h.elim (fun h => absurd h.2 (by decide)) (fun h => h.elim (fun h => absurd h.2 (by decide)) (fun h => h.elim (fun h => absurd h.1 (by decide)) (fun h => h.elim (fun h => absurd h (by decide)) (fun h => h.elim (fun h => absurd h (by decide)) (fun h => h.elim (fun h => absurd h (by decide)) (fun h => h.elim (fun h => absurd h (by decide)) (fun h => h.elim (fun h => absurd h.1 (by decide)) (fun h => absurd h.1 (by decide))))))))))).trans rfl)) ((funext fun i0 => frM_283 333 i0 (fun h => h.elim (fun h => absurd h (by decide)) (fun h => absurd h.1 (by decide)))).trans ((funext fun i0 => frM_264 333 i0 (fun h => h.elim (fun h => absurd h.2 (by decide)) (fun h => h.elim (fun h => absurd h.2 (by decide)) (fun h => h.elim (fun h => absurd h.1 (by decide)) (fun h => h.elim (fun h => absurd h (by decide)) (fun h => h.elim (fun h => absurd h (by decide)) (fun h => h.elim (fun h => absurd h (by decide)) (fun h => h.elim (fun h => absurd h (by decide)) (fun h => h.elim (fun h => absurd h.1 (by decide)) (fun h => absurd h.1 (by decide))))))))))).trans rfl)) ((funext fun i0 => frM_283 339 i0 (fun h => h.elim (fun h => absurd h (by decide)) (fun h => absurd h.1 (by decide)))).trans ((funext fun i0 => frM_264 339 i0 (fun h => h.elim (fun h => absurd h.2 (by decide)) (fun h => h.elim (fun h => absurd h.2 (by decide)) (fun h => h.elim (fun h => absurd h.1 (by decide)) (fun h => h.elim (fun h => absurd h (by decide)) (fun h => h.elim (fun h => absurd h (by decide)) (fun h => h.elim (fun h => absurd h (by decide)) (fun h => h.elim (fun h => absurd h (by decide)) (fun h => h.elim (fun h => absurd h.1 (by decide)) (fun h => absurd h.1 (by decide))))))))))).trans rfl)) msM_283_0 ((frM_283 330 5 (fun h => h.elim (fun h => absurd h (by decide)) (fun h => absurd h.2 (by decide)))).trans ((frM_264 330 5 (fun h => h.elim (fun h => absurd h.2 (by decide)) (fun h => h.elim (fun h => absurd h.2 (by decide)) (fun h => h.elim (fun h => absurd h.1 (by decide)) (fun h => h.elim (fun h => absurd h (by decide)) (fun h => h.elim (fun h => absurd h (by decide)) (fun h => h.elim (fun h => absurd h (by decide)) (fun h => h.elim (fun h => absurd h (by decide)) (fun h => h.elim (fun h => absurd h.1 (by decide)) (fun h => absurd h.1 (by decide))))))))))).trans rfl)) ((frM_283 330 17 (fun h => h.elim (fun h => absurd h (by decide)) (fun h => absurd h.2 (by decide)))).trans ((frM_264 330 17 (fun h => h.elim (fun h => absurd h.2 (by decide)) (fun h => h.elim (fun h => absurd h.2 (by decide)) (fun h => h.elim (fun h => absurd h.1 (by decide)) (fun h => h.elim (fun h => absurd h (by decide)) (fun h => h.elim (fun h => absurd h (by decide)) (fun h => h.elim (fun h => absurd h (by decide)) (fun h => h.elim (fun h => absurd h (by decide)) (fun h => h.elim (fun h => absurd h.1 (by decide)) (fun h => absurd h.1 (by decide))))))))))).trans rfl)) ((frM_283 330 24 (fun h => h.elim (fun h => absurd h (by decide)) (fun h => absurd h.2 (by decide)))).trans ((frM_264 330 24 (fun h => h.elim (fun h => absurd h.2 (by decide)) (fun h => h.elim (fun h => absurd h.2 (by decide)) (fun h => h.elim (fun h => absurd h.1 (by decide)) (fun h => h.elim (fun h => absurd h (by decide)) (fun h => h.elim (fun h => absurd h (by decide)) (fun h => h.elim (fun h => absurd h (by decide)) (fun h => h.elim (fun h => absurd h (by decide)) (fun h => h.elim (fun h => absurd h.1 (by decide)) (fun h => absurd h.1 (by decide))))))))))).trans rfl)) ((frM_283 330 26 (fun h => h.elim (fun h => absurd h (by decide)) (fun h => absurd h.2 (by decide)))).trans ((frM_264 330 26 (fun h => h.elim (fun h => absurd h.2 (by decide)) (fun h => h.elim (fun h => absurd h.2 (by decide)) (fun h => h.elim (fun h => absurd h.1 (by decide)) (fun h => h.elim (fun h => absurd h (by decide)) (fun h => h.elim (fun h => absurd h (by decide)) (fun h => h.elim (fun h => absurd h (by decide)) (fun h => h.elim (fun h => absurd h (by decide)) (fun h => h.elim (fun h => absurd h.1 (by decide)) (fun h => absurd h.1 (by decide))))))))))).trans rfl)) ((frM_283 330 21 (fun h => h.elim (fun h => absurd h (by decide)) (fun h => absurd h.2 (by decide)))).trans ((frM_264 330 21 (fun h => h.elim (fun h => absurd h.2 (by decide)) (fun h => h.elim (fun h => absurd h.2 (by decide)) (fun h => h.elim (fun h => absurd h.1 (by decide)) (fun h => h.elim (fun h => absurd h (by decide)) (fun h => h.elim (fun h => absurd h (by decide)) (fun h => h.elim (fun h => absurd h (by decide)) (fun h => h.elim (fun h => absurd h (by decide)) (fun h => h.elim (fun h => absurd h.1 (by decide)) (fun h => absurd h.1 (by decide))))))))))).trans rfl)) hv)
        · exact f_jv_up (i := (2570 + a2)) (v := a3) (Or.inr (by omega)) (by omega) hjv
        · exact f_a2_up (by omega)
        · exact f_hs_0
      · exfalso
        exact h286 rfl
    · by_cases hc2 : a1 = 2 ∧ 0 ≤ a3 ∧ a3 ≤ 1000
      · refine ax_invG [.inl a1, .inl a2, .inl a3] [] dL_law_264 mlL_23 sh_0 rfl rfl rfl (Nat.le_of_ble_eq_true rfl) (s_X11_set_2 E l _ (by omega) _ a1 a2 a3 Ls (M 331) (M 333) (M 330 4) hnb hjv hpr hc2) (pc' := 267) rfl (fun vv M_264 hq co264 hcm264 => ?_)
        obtain ⟨rfl, frM_264, fa264_0, fa264_1⟩ := hq
        refine ax_reS (st2 := [.inl 1]) rfl ?_
        refine ax_aload_n dL_law_267 rfl rfl (pc' := 268) rfl ?_
        refine ax_aload_n dL_law_268 rfl rfl (pc' := 269) rfl ?_
        refine ax_iload_n dL_law_269 rfl rfl (pc' := 270) rfl ?_
        refine ax_iconst dL_law_270 (by decide) (pc' := 271) rfl ?_
        refine ax_iadd dL_law_271 (by omega) (pc' := 272) rfl ?_
        refine ax_sald (v := a1) dL_law_272 (by omega) (by omega) qa1.symm (pc' := 273) rfl ?_
        refine ax_aload_n dL_law_273 rfl rfl (pc' := 274) rfl ?_
        refine ax_iload_n dL_law_274 rfl rfl (pc' := 275) rfl ?_
        refine ax_iconst dL_law_275 (by decide) (pc' := 276) rfl ?_
        refine ax_iadd dL_law_276 (by omega) (pc' := 277) rfl ?_
        refine ax_sald (v := a2) dL_law_277 (by omega) (by omega) qa2.symm (pc' := 278) rfl ?_
        refine ax_aload_n dL_law_278 rfl rfl (pc' := 279) rfl ?_
        refine ax_iload_n dL_law_279 rfl rfl (pc' := 280) rfl ?_
        refine ax_iconst dL_law_280 (by decide) (pc' := 281) rfl ?_
        refine ax_iadd dL_law_281 (by omega) (pc' := 282) rfl ?_
        refine ax_sald (v := a3) dL_law_282 (by omega) (by omega) qa3.symm (pc' := 283) rfl ?_
        refine ax_invG [.inl a1, .inl a2, .inl a3] [.inl 1] dL_law_283 mlL_27 sh_330 rfl rfl rfl (Nat.le_of_ble_eq_true rfl) (s_X12_set_2 E l _ (by omega) _ a1 a2 a3 ((funext fun i0 => frM_264 331 i0 (fun h => h.elim (fun h => absurd h.2 (by decide)) (fun h => h.elim (fun h => absurd h.2 (by decide)) (fun h => h.elim (fun h => absurd h.1 (by decide)) (fun h => h.elim (fun h => absurd h (by decide)) (fun h => h.elim (fun h => absurd h (by decide)) (fun h => h.elim (fun h => absurd h (by decide)) (fun h => h.elim (fun h => absurd h (by decide)) (fun h => h.elim (fun h => absurd h.1 (by decide)) (fun h => absurd h.1 (by decide))))))))))).trans rfl) hc2) (pc' := 286) rfl (fun vv M_283 hq co283 hcm283 => ?_)
        obtain ⟨rfl, frM_283, mrM_283_0, msM_283_0⟩ := hq
        refine ax_reS (st2 := [.inl 1, .inl 1]) rfl ?_
        refine ax_icmp_eq (tgt := 1416) dL_law_286 (by decide) (pc' := 289) rfl (fun h286 => ?_) (fun h286 => ?_)
        · refine kk _ (f_INV_mk (f_IV_fr (f_IV_act hI (fun x0 i0 hai => frM_264 x0 i0 (by unfold f_rd at hai; omega)) fa264_0 fa264_1 ?_ ?_ ?_) (fun x0 i0 hai => frM_283 x0 i0 (by unfold f_rc at hai; omega))) mrM_283_0 ((funext fun i0 => frM_283 332 i0 (fun h => h.elim (fun h => absurd h (by decide)) (fun h => absurd h.1 (by decide)))).trans ((funext fun i0 => frM_264 332 i0 (fun h => h.elim (fun h => absurd h.2 (by decide)) (fun h => h.elim (fun h => absurd h.2 (by decide)) (fun h => h.elim (fun h => absurd h.1 (by decide)) (fun h => h.elim (fun h => absurd h (by decide)) (fun h => h.elim (fun h => absurd h (by decide)) (fun h => h.elim (fun h => absurd h (by decide)) (fun h => h.elim (fun h => absurd h (by decide)) (fun h => h.elim (fun h => absurd h.1 (by decide)) (fun h => absurd h.1 (by decide))))))))))).trans rfl)) ((funext fun i0 => frM_283 333 i0 (fun h => h.elim (fun h => absurd h (by decide)) (fun h => absurd h.1 (by decide)))).trans ((funext fun i0 => frM_264 333 i0 (fun h => h.elim (fun h => absurd h.2 (by decide)) (fun h => h.elim (fun h => absurd h.2 (by decide)) (fun h => h.elim (fun h => absurd h.1 (by decide)) (fun h => h.elim (fun h => absurd h (by decide)) (fun h => h.elim (fun h => absurd h (by decide)) (fun h => h.elim (fun h => absurd h (by decide)) (fun h => h.elim (fun h => absurd h (by decide)) (fun h => h.elim (fun h => absurd h.1 (by decide)) (fun h => absurd h.1 (by decide))))))))))).trans rfl)) ((funext fun i0 => frM_283 339 i0 (fun h => h.elim (fun h => absurd h (by decide)) (fun h => absurd h.1 (by decide)))).trans ((funext fun i0 => frM_264 339 i0 (fun h => h.elim (fun h => absurd h.2 (by decide)) (fun h => h.elim (fun h => absurd h.2 (by decide)) (fun h => h.elim (fun h => absurd h.1 (by decide)) (fun h => h.elim (fun h => absurd h (by decide)) (fun h => h.elim (fun h => absurd h (by decide)) (fun h => h.elim (fun h => absurd h (by decide)) (fun h => h.elim (fun h => absurd h (by decide)) (fun h => h.elim (fun h => absurd h.1 (by decide)) (fun h => absurd h.1 (by decide))))))))))).trans rfl)) msM_283_0 ((frM_283 330 5 (fun h => h.elim (fun h => absurd h (by decide)) (fun h => absurd h.2 (by decide)))).trans ((frM_264 330 5 (fun h => h.elim (fun h => absurd h.2 (by decide)) (fun h => h.elim (fun h => absurd h.2 (by decide)) (fun h => h.elim (fun h => absurd h.1 (by decide)) (fun h => h.elim (fun h => absurd h (by decide)) (fun h => h.elim (fun h => absurd h (by decide)) (fun h => h.elim (fun h => absurd h (by decide)) (fun h => h.elim (fun h => absurd h (by decide)) (fun h => h.elim (fun h => absurd h.1 (by decide)) (fun h => absurd h.1 (by decide))))))))))).trans rfl)) ((frM_283 330 17 (fun h => h.elim (fun h => absurd h (by decide)) (fun h => absurd h.2 (by decide)))).trans ((frM_264 330 17 (fun h => h.elim (fun h => absurd h.2 (by decide)) (fun h => h.elim (fun h => absurd h.2 (by decide)) (fun h => h.elim (fun h => absurd h.1 (by decide)) (fun h => h.elim (fun h => absurd h (by decide)) (fun h => h.elim (fun h => absurd h (by decide)) (fun h => h.elim (fun h => absurd h (by decide)) (fun h => h.elim (fun h => absurd h (by decide)) (fun h => h.elim (fun h => absurd h.1 (by decide)) (fun h => absurd h.1 (by decide))))))))))).trans rfl)) ((frM_283 330 24 (fun h => h.elim (fun h => absurd h (by decide)) (fun h => absurd h.2 (by decide)))).trans ((frM_264 330 24 (fun h => h.elim (fun h => absurd h.2 (by decide)) (fun h => h.elim (fun h => absurd h.2 (by decide)) (fun h => h.elim (fun h => absurd h.1 (by decide)) (fun h => h.elim (fun h => absurd h (by decide)) (fun h => h.elim (fun h => absurd h (by decide)) (fun h => h.elim (fun h => absurd h (by decide)) (fun h => h.elim (fun h => absurd h (by decide)) (fun h => h.elim (fun h => absurd h.1 (by decide)) (fun h => absurd h.1 (by decide))))))))))).trans rfl)) ((frM_283 330 26 (fun h => h.elim (fun h => absurd h (by decide)) (fun h => absurd h.2 (by decide)))).trans ((frM_264 330 26 (fun h => h.elim (fun h => absurd h.2 (by decide)) (fun h => h.elim (fun h => absurd h.2 (by decide)) (fun h => h.elim (fun h => absurd h.1 (by decide)) (fun h => h.elim (fun h => absurd h (by decide)) (fun h => h.elim (fun h => absurd h (by decide)) (fun h => h.elim (fun h => absurd h (by decide)) (fun h => h.elim (fun h => absurd h (by decide)) (fun h => h.elim (fun h => absurd h.1 (by decide)) (fun h => absurd h.1 (by decide))))))))))).trans rfl)) ((frM_283 330 21 (fun h => h.elim (fun h => absurd h (by decide)) (fun h => absurd h.2 (by decide)))).trans ((frM_264 330 21 (fun h => h.elim (fun h => absurd h.2 (by decide)) (fun h => h.elim (fun h => absurd h.2 (by decide)) (fun h => h.elim (fun h => absurd h.1 (by decide)) (fun h => h.elim (fun h => absurd h (by decide)) (fun h => h.elim (fun h => absurd h (by decide)) (fun h => h.elim (fun h => absurd h (by decide)) (fun h => h.elim (fun h => absurd h (by decide)) (fun h => h.elim (fun h => absurd h.1 (by decide)) (fun h => absurd h.1 (by decide))))))))))).trans rfl)) hv)
          · exact f_jv_up (i := 2576) (v := a3) (Or.inr (by omega)) (by omega) hjv
          · exact f_a2_up (by omega)
          · exact f_hs_0
        · exfalso
          exact h286 rfl
      · refine ax_invG [.inl a1, .inl a2, .inl a3] [] dL_law_264 mlL_23 sh_0 rfl rfl rfl (Nat.le_of_ble_eq_true rfl) (s_X11_set_no E l _ (by omega) _ a1 a2 a3 Ls (M 331) hnb hjv hc0 hc1 hc2) (pc' := 267) rfl (fun vv M_264 hq co264 hcm264 => ?_)
        obtain ⟨rfl, rfl⟩ := hq
        refine ax_reS (st2 := [.inl 0]) rfl ?_
        refine ax_aload_n dL_law_267 rfl rfl (pc' := 268) rfl ?_
        refine ax_aload_n dL_law_268 rfl rfl (pc' := 269) rfl ?_
        refine ax_iload_n dL_law_269 rfl rfl (pc' := 270) rfl ?_
        refine ax_iconst dL_law_270 (by decide) (pc' := 271) rfl ?_
        refine ax_iadd dL_law_271 (by omega) (pc' := 272) rfl ?_
        refine ax_sald (v := a1) dL_law_272 (by omega) (by omega) qa1.symm (pc' := 273) rfl ?_
        refine ax_aload_n dL_law_273 rfl rfl (pc' := 274) rfl ?_
        refine ax_iload_n dL_law_274 rfl rfl (pc' := 275) rfl ?_
        refine ax_iconst dL_law_275 (by decide) (pc' := 276) rfl ?_
        refine ax_iadd dL_law_276 (by omega) (pc' := 277) rfl ?_
        refine ax_sald (v := a2) dL_law_277 (by omega) (by omega) qa2.symm (pc' := 278) rfl ?_
        refine ax_aload_n dL_law_278 rfl rfl (pc' := 279) rfl ?_
        refine ax_iload_n dL_law_279 rfl rfl (pc' := 280) rfl ?_
        refine ax_iconst dL_law_280 (by decide) (pc' := 281) rfl ?_
        refine ax_iadd dL_law_281 (by omega) (pc' := 282) rfl ?_
        refine ax_sald (v := a3) dL_law_282 (by omega) (by omega) qa3.symm (pc' := 283) rfl ?_
        refine ax_invG [.inl a1, .inl a2, .inl a3] [.inl 0] dL_law_283 mlL_27 sh_330 rfl rfl rfl (Nat.le_of_ble_eq_true rfl) (s_X12_set_no E l _ (by omega) _ a1 a2 a3 rfl hc0 hc1 hc2) (pc' := 286) rfl (fun vv M_283 hq co283 hcm283 => ?_)
        obtain ⟨rfl, rfl⟩ := hq
        refine ax_reS (st2 := [.inl 0, .inl 0]) rfl ?_
        refine ax_icmp_eq (tgt := 1416) dL_law_286 (by decide) (pc' := 289) rfl (fun h286 => ?_) (fun h286 => ?_)
        · exact kk _ ⟨hv, Ls, Lk, hI⟩
        · exfalso
          exact h286 rfl
set_option maxRecDepth 20000 in
theorem lc_33 (E : ax_Env) (l : Launch) (d : Nat) (hd : 60 ≤ d) (M : ax_Mem) (Q : ax_Post) (i : Int) (hx : ax_xl E ≤ 3072) (hi : 0 ≤ i ∧ i + 6 ≤ (ax_xl E : Int)) (hI : f_INV M) (kk : ∀ M2, f_INV M2 → ax_W E l (d + 1) 0 0 iL_law 1416 [some (.inr (-2)), some (.inr 0), some (.inr 330), some (.inl i)] [] SH M2 Q) : ax_W E l (d + 1) 0 0 iL_law 1341 [some (.inr (-2)), some (.inr 0), some (.inr 330), some (.inl i)] [] SH M Q := by
  obtain ⟨hv, Ls, Lk, hI⟩ := hI
  have hnb := hI.1.1
  have hjv := hI.1.2.1
  have hlq := hI.1.2.2
  have hpr := hI.2.1.1
  have hhs := hI.2.1.2
  have hlo := hI.2.2.1
  have qta := hI.2.2.2.1.1
  have qtn := hI.2.2.2.1.2.1
  have qt4 := hI.2.2.2.1.2.2.1
  have qtp := hI.2.2.2.1.2.2.2
  obtain ⟨a1, qa1⟩ : ∃ z, z = (ax_xs E (i + 1).toNat).toInt := ⟨_, rfl⟩
  have ca1 : -2147483648 ≤ a1 ∧ a1 < 2147483648 := by rw [qa1]; exact ax_can_toInt _
  obtain ⟨a2, qa2⟩ : ∃ z, z = (ax_xs E (i + 2).toNat).toInt := ⟨_, rfl⟩
  have ca2 : -2147483648 ≤ a2 ∧ a2 < 2147483648 := by rw [qa2]; exact ax_can_toInt _
  obtain ⟨a3, qa3⟩ : ∃ z, z = (ax_xs E (i + 3).toNat).toInt := ⟨_, rfl⟩
  have ca3 : -2147483648 ≤ a3 ∧ a3 < 2147483648 := by rw [qa3]; exact ax_can_toInt _
  obtain ⟨a4, qa4⟩ : ∃ z, z = (ax_xs E (i + 4).toNat).toInt := ⟨_, rfl⟩
  have ca4 : -2147483648 ≤ a4 ∧ a4 < 2147483648 := by rw [qa4]; exact ax_can_toInt _
  obtain ⟨a5, qa5⟩ : ∃ z, z = (ax_xs E (i + 5).toNat).toInt := ⟨_, rfl⟩
  have ca5 : -2147483648 ≤ a5 ∧ a5 < 2147483648 := by rw [qa5]; exact ax_can_toInt _
  refine ax_aload_n dL_law_1341 rfl rfl (pc' := 1342) rfl ?_
  by_cases hc : 0 < M 330 4
  · refine ax_invG [] [] dL_law_1342 mlL_154 sh_0 rfl rfl rfl (Nat.le_of_ble_eq_true rfl) (s_X11_undo_ok E l _ (by omega) _ Ls (M 331) (M 333) (M 330 4) hnb hjv hpr hc hhs.2.1 (hhs.2.2 (M 330 4 - 1) (by omega) (by omega)).1) (pc' := 1345) rfl (fun vv M_1342 hq co1342 hcm1342 => ?_)
    obtain ⟨rfl, frM_1342, fa1342_0, fa1342_1⟩ := hq
    refine ax_reS (st2 := [.inl 1]) rfl ?_
    refine ax_aload_n dL_law_1345 rfl rfl (pc' := 1346) rfl ?_
    refine ax_invG [] [.inl 1] dL_law_1346 mlL_158 sh_330 rfl rfl rfl (Nat.le_of_ble_eq_true rfl) (s_X12_undo_ok E l _ (by omega) _ ((funext fun i0 => frM_1342 331 i0 (fun h => h.elim (fun h => absurd h.2 (by decide)) (fun h => h.elim (fun h => absurd h.2 (by decide)) (fun h => h.elim (fun h => absurd h.1 (by decide)) (fun h => h.elim (fun h => absurd h (by decide)) (fun h => h.elim (fun h => absurd h (by decide)) (fun h => h.elim (fun h => absurd h (by decide)) (fun h => h.elim (fun h => absurd h (by decide)) (fun h => h.elim (fun h => absurd h.1 (by decide)) (fun h => absurd h.1 (by decide))))))))))).trans rfl) ((funext fun i0 => frM_1342 333 i0 (fun h => h.elim (fun h => absurd h.2 (by decide)) (fun h => h.elim (fun h => absurd h.2 (by decide)) (fun h => h.elim (fun h => absurd h.1 (by decide)) (fun h => h.elim (fun h => absurd h (by decide)) (fun h => h.elim (fun h => absurd h (by decide)) (fun h => h.elim (fun h => absurd h (by decide)) (fun h => h.elim (fun h => absurd h (by decide)) (fun h => h.elim (fun h => absurd h.1 (by decide)) (fun h => absurd h.1 (by decide))))))))))).trans rfl) ((frM_1342 330 4 (fun h => h.elim (fun h => absurd h.2 (by decide)) (fun h => h.elim (fun h => absurd h.2 (by decide)) (fun h => h.elim (fun h => absurd h.1 (by decide)) (fun h => h.elim (fun h => absurd h (by decide)) (fun h => h.elim (fun h => absurd h (by decide)) (fun h => h.elim (fun h => absurd h (by decide)) (fun h => h.elim (fun h => absurd h (by decide)) (fun h => h.elim (fun h => absurd h.1 (by decide)) (fun h => absurd h.1 (by decide))))))))))).trans rfl) ⟨hc, hhs.1.2⟩) (pc' := 1349) rfl (fun vv M_1346 hq co1346 hcm1346 => ?_)
    obtain ⟨rfl, frM_1346, mrM_1346_0, msM_1346_0⟩ := hq
    refine ax_reS (st2 := [.inl 1, .inl 1]) rfl ?_
    refine ax_icmp_eq (tgt := 1416) dL_law_1349 (by decide) (pc' := 1352) rfl (fun h1349 => ?_) (fun h1349 => ?_)
    · refine kk _ (f_INV_mk (f_IV_fr (f_IV_act hI (fun x0 i0 hai => frM_1342 x0 i0 (by unfold f_rd at hai; omega)) fa1342_0 fa1342_1 ?_ ?_ ?_) (fun x0 i0 hai => frM_1346 x0 i0 (by unfold f_rc at hai; omega))) (Eq.trans mrM_1346_0 f_bw_cp) ((funext fun i0 => frM_1346 332 i0 (fun h => h.elim (fun h => absurd h (by decide)) (fun h => absurd h.1 (by decide)))).trans ((funext fun i0 => frM_1342 332 i0 (fun h => h.elim (fun h => absurd h.2 (by decide)) (fun h => h.elim (fun h => absurd h.2 (by decide)) (fun h => h.elim (fun h => absurd h.1 (by decide)) (fun h => h.elim (fun h => absurd h (by decide)) (fun h => h.elim (fun h => absurd h (by decide)) (fun h => h.elim (fun h => absurd h (by decide)) (fun h => h.elim (fun h => absurd h (by decide)) (fun h => h.elim (fun h => absurd h.1 (by decide)) (fun h => absurd h.1 (by decide))))))))))).trans rfl)) ((funext fun i0 => frM_1346 333 i0 (fun h => h.elim (fun h => absurd h (by decide)) (fun h => absurd h.1 (by decide)))).trans ((funext fun i0 => frM_1342 333 i0 (fun h => h.elim (fun h => absurd h.2 (by decide)) (fun h => h.elim (fun h => absurd h.2 (by decide)) (fun h => h.elim (fun h => absurd h.1 (by decide)) (fun h => h.elim (fun h => absurd h (by decide)) (fun h => h.elim (fun h => absurd h (by decide)) (fun h => h.elim (fun h => absurd h (by decide)) (fun h => h.elim (fun h => absurd h (by decide)) (fun h => h.elim (fun h => absurd h.1 (by decide)) (fun h => absurd h.1 (by decide))))))))))).trans rfl)) ((funext fun i0 => frM_1346 339 i0 (fun h => h.elim (fun h => absurd h (by decide)) (fun h => absurd h.1 (by decide)))).trans ((funext fun i0 => frM_1342 339 i0 (fun h => h.elim (fun h => absurd h.2 (by decide)) (fun h => h.elim (fun h => absurd h.2 (by decide)) (fun h => h.elim (fun h => absurd h.1 (by decide)) (fun h => h.elim (fun h => absurd h (by decide)) (fun h => h.elim (fun h => absurd h (by decide)) (fun h => h.elim (fun h => absurd h (by decide)) (fun h => h.elim (fun h => absurd h (by decide)) (fun h => h.elim (fun h => absurd h.1 (by decide)) (fun h => absurd h.1 (by decide))))))))))).trans rfl)) msM_1346_0 ((frM_1346 330 5 (fun h => h.elim (fun h => absurd h (by decide)) (fun h => absurd h.2 (by decide)))).trans ((frM_1342 330 5 (fun h => h.elim (fun h => absurd h.2 (by decide)) (fun h => h.elim (fun h => absurd h.2 (by decide)) (fun h => h.elim (fun h => absurd h.1 (by decide)) (fun h => h.elim (fun h => absurd h (by decide)) (fun h => h.elim (fun h => absurd h (by decide)) (fun h => h.elim (fun h => absurd h (by decide)) (fun h => h.elim (fun h => absurd h (by decide)) (fun h => h.elim (fun h => absurd h.1 (by decide)) (fun h => absurd h.1 (by decide))))))))))).trans rfl)) ((frM_1346 330 17 (fun h => h.elim (fun h => absurd h (by decide)) (fun h => absurd h.2 (by decide)))).trans ((frM_1342 330 17 (fun h => h.elim (fun h => absurd h.2 (by decide)) (fun h => h.elim (fun h => absurd h.2 (by decide)) (fun h => h.elim (fun h => absurd h.1 (by decide)) (fun h => h.elim (fun h => absurd h (by decide)) (fun h => h.elim (fun h => absurd h (by decide)) (fun h => h.elim (fun h => absurd h (by decide)) (fun h => h.elim (fun h => absurd h (by decide)) (fun h => h.elim (fun h => absurd h.1 (by decide)) (fun h => absurd h.1 (by decide))))))))))).trans rfl)) ((frM_1346 330 24 (fun h => h.elim (fun h => absurd h (by decide)) (fun h => absurd h.2 (by decide)))).trans ((frM_1342 330 24 (fun h => h.elim (fun h => absurd h.2 (by decide)) (fun h => h.elim (fun h => absurd h.2 (by decide)) (fun h => h.elim (fun h => absurd h.1 (by decide)) (fun h => h.elim (fun h => absurd h (by decide)) (fun h => h.elim (fun h => absurd h (by decide)) (fun h => h.elim (fun h => absurd h (by decide)) (fun h => h.elim (fun h => absurd h (by decide)) (fun h => h.elim (fun h => absurd h.1 (by decide)) (fun h => absurd h.1 (by decide))))))))))).trans rfl)) ((frM_1346 330 26 (fun h => h.elim (fun h => absurd h (by decide)) (fun h => absurd h.2 (by decide)))).trans ((frM_1342 330 26 (fun h => h.elim (fun h => absurd h.2 (by decide)) (fun h => h.elim (fun h => absurd h.2 (by decide)) (fun h => h.elim (fun h => absurd h.1 (by decide)) (fun h => h.elim (fun h => absurd h (by decide)) (fun h => h.elim (fun h => absurd h (by decide)) (fun h => h.elim (fun h => absurd h (by decide)) (fun h => h.elim (fun h => absurd h (by decide)) (fun h => h.elim (fun h => absurd h.1 (by decide)) (fun h => absurd h.1 (by decide))))))))))).trans rfl)) ((frM_1346 330 21 (fun h => h.elim (fun h => absurd h (by decide)) (fun h => absurd h.2 (by decide)))).trans ((frM_1342 330 21 (fun h => h.elim (fun h => absurd h.2 (by decide)) (fun h => h.elim (fun h => absurd h.2 (by decide)) (fun h => h.elim (fun h => absurd h.1 (by decide)) (fun h => h.elim (fun h => absurd h (by decide)) (fun h => h.elim (fun h => absurd h (by decide)) (fun h => h.elim (fun h => absurd h (by decide)) (fun h => h.elim (fun h => absurd h (by decide)) (fun h => h.elim (fun h => absurd h.1 (by decide)) (fun h => absurd h.1 (by decide))))))))))).trans rfl)) hv)
      · exact f_jv_undo hhs hc hjv
      · exact fun j0 u _ => f_bw_a (by omega)
      · exact f_hs_undo hhs hc
    · exfalso
      exact h1349 rfl
  · refine ax_invG [] [] dL_law_1342 mlL_154 sh_0 rfl rfl rfl (Nat.le_of_ble_eq_true rfl) (s_X11_undo_no E l _ (by omega) _ Ls (M 331) (M 333) (M 330 4) hnb hjv hpr (by have q := hhs.1; omega)) (pc' := 1345) rfl (fun vv M_1342 hq co1342 hcm1342 => ?_)
    obtain ⟨rfl, rfl⟩ := hq
    refine ax_reS (st2 := [.inl 0]) rfl ?_
    refine ax_aload_n dL_law_1345 rfl rfl (pc' := 1346) rfl ?_
    refine ax_invG [] [.inl 0] dL_law_1346 mlL_158 sh_330 rfl rfl rfl (Nat.le_of_ble_eq_true rfl) (s_X12_undo_no E l _ (by omega) _ rfl (by have q := hhs.1; omega)) (pc' := 1349) rfl (fun vv M_1346 hq co1346 hcm1346 => ?_)
    obtain ⟨rfl, rfl⟩ := hq
    refine ax_reS (st2 := [.inl 0, .inl 0]) rfl ?_
    refine ax_icmp_eq (tgt := 1416) dL_law_1349 (by decide) (pc' := 1352) rfl (fun h1349 => ?_) (fun h1349 => ?_)
    · exact kk _ ⟨hv, Ls, Lk, hI⟩
    · exfalso
      exact h1349 rfl
