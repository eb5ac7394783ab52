/-! the class's stack of what is open, against the drill's parser -/
abbrev f_Frm : Type := List (Nat × List f_Sp)
def f_fin : Nat → f_Frm → f_Rd → f_Rd
  | _, [], r => r
  | nd, (m, pre) :: fr, r => f_fin (nd + 1) fr (f_preD pre (f_seqD (f_agE m r) (f_repD (f_agd (nd + 1)))))
theorem f_fin_inl : ∀ (fr : f_Frm) (nd : Nat) (e : Int × Int), f_fin nd fr (.inl e) = .inl e
  | [], _, _ => rfl
  | (m, pre) :: fr, nd, e => f_fin_inl fr (nd + 1) e
theorem f_fin_oth {fr : f_Frm} {nd : Nat} {L : List f_Tk} {cu : List f_Sp} (h : f_T L ≠ 141) (hf : fr ≠ []) : f_fin nd fr (.inr (L, cu)) = .inl (1, f_S L) := by
  match fr, hf with
  | (m, pre) :: fr, _ =>
    show f_fin (nd + 1) fr (f_preD pre (f_seqD (f_bd (f_ned 141 L) (fun L5 => .inr (L5, f_tms m cu))) (f_repD (f_agd (nd + 1))))) = _
    unfold f_ned
    rw [if_neg h]
    exact f_fin_inl fr (nd + 1) _
def f_alS : f_Frm → List f_Sp → List f_Sp
  | [], cur => cur
  | (_, pre) :: fr, cur => f_alS fr pre ++ cur
theorem f_alS_app (fr : f_Frm) (a b : List f_Sp) : f_alS fr (a ++ b) = f_alS fr a ++ b := by
  match fr with
  | [] => rfl
  | (m, pre) :: fr => exact (List.append_assoc _ _ _).symm
def f_sk (tm sr : Int → Int) (cn : Int) : f_Frm → Prop
  | [] => True
  | (m, pre) :: fr => (tm (fr.length : Int) = (m : Int) ∧ 1 ≤ m ∧ m ≤ 9) ∧ (0 ≤ sr (fr.length : Int) ∧ sr (fr.length : Int) ≤ cn ∧ ((f_alS fr pre).length ≤ 150 → sr (fr.length : Int) = ((f_alS fr pre).length : Int))) ∧ f_sk tm sr cn fr
theorem f_sk_mono {tm sr : Int → Int} {cn c2 : Int} (h : cn ≤ c2) : ∀ {fr : f_Frm}, f_sk tm sr cn fr → f_sk tm sr c2 fr
  | [], _ => trivial
  | (_, _) :: _, h1 => ⟨h1.1, ⟨h1.2.1.1, by have := h1.2.1.2.1; omega, h1.2.1.2.2⟩, f_sk_mono h h1.2.2⟩
theorem f_sk_up {tm sr : Int → Int} {cn k x y : Int} : ∀ {fr : f_Frm}, (fr.length : Int) ≤ k → f_sk tm sr cn fr → f_sk (f_up tm k x) (f_up sr k y) cn fr
  | [], _, _ => trivial
  | (m, pre) :: fr, hk, h1 => by
    rw [List.length_cons] at hk
    have e1 : f_up tm k x (fr.length : Int) = tm (fr.length : Int) := f_up_ne (by omega) rfl
    have e2 : f_up sr k y (fr.length : Int) = sr (fr.length : Int) := f_up_ne (by omega) rfl
    refine ⟨?_, ?_, f_sk_up (by omega) h1.2.2⟩
    · rw [e1]
      exact h1.1
    · rw [e2]
      exact h1.2.1
def f_dw (K F S : Int → Int) (ss : List f_Sp) : Prop := ∀ (i : Nat) (s : f_Sp), ss[i]? = some s → K (i : Int) = f_kd s.1 ∧ F (i : Int) = s.2.1 ∧ S (i : Int) = s.2.2
theorem f_dw_sn {K F S : Int → Int} {ss : List f_Sp} {s : f_Sp} {n : Int} (h : f_dw K F S ss) (hn : n = (ss.length : Int)) : f_dw (f_up K n (f_kd s.1)) (f_up F n s.2.1) (f_up S n s.2.2) (ss ++ [s]) := by
  intro i t ht
  by_cases hi : i < ss.length
  · rw [List.getElem?_append_left hi] at ht
    have h1 := h i t ht
    unfold f_up
    rw [if_neg (by omega), if_neg (by omega), if_neg (by omega)]
    exact h1
  · have h2 : i = ss.length := by
      have h3 : i < (ss ++ [s]).length := (List.getElem?_eq_some_iff.mp ht).1
      rw [List.length_append, List.length_cons, List.length_nil] at h3
      omega
    rw [h2, List.getElem?_append_right (Nat.le_refl _), Nat.sub_self] at ht
    cases ht
    unfold f_up
    rw [if_pos (by omega), if_pos (by omega), if_pos (by omega)]
    exact ⟨rfl, rfl, rfl⟩
def f_dn (kn ff sc : Int → Int) (cn : Int) (al : List f_Sp) : Prop := (al.length ≤ 150 ∧ cn = (al.length : Int) ∧ f_dw kn ff sc al) ∨ (150 < al.length ∧ 150 < cn)
theorem f_dn_add {kn ff sc : Int → Int} {cn : Int} {al : List f_Sp} {s : f_Sp} (h : f_dn kn ff sc cn al) : f_dn (f_ad kn cn (f_kd s.1)) (f_ad ff cn s.2.1) (f_ad sc cn s.2.2) (cn + 1) (al ++ [s]) := by
  unfold f_dn
  rw [List.length_append, List.length_cons, List.length_nil]
  rcases h with ⟨h1, h2, h3⟩ | h
  · by_cases h4 : cn < 150
    · refine Or.inl ⟨by omega, by omega, ?_⟩
      unfold f_ad
      rw [if_pos h4, if_pos h4, if_pos h4]
      exact f_dw_sn h3 h2
    · exact Or.inr ⟨by omega, by omega⟩
  · exact Or.inr ⟨by omega, by omega⟩
theorem f_m_stp {nd : Nat} {fr : f_Frm} {cu ss : List f_Sp} {L L1 L2 : List f_Tk} (h : f_sts 4 L = f_fin nd fr (f_preD cu (f_repD (f_agd nd) L1))) (h15 : f_T L1 ≠ 15) (e : f_stq L1 = .inr (L2, ss)) : f_sts 4 L = f_fin nd fr (f_preD (cu ++ ss) (f_repD (f_agd nd) L2)) ∧ L2.length < L1.length := by
  unfold f_stq at e
  split at e
  · rename_i ht
    obtain ⟨s, -, -, hl, -⟩ := f_stp_inr ht e
    refine ⟨?_, hl⟩
    rw [h, f_repD_some (f_cap_1 nd) (f_agd_gD nd) (by omega)]
    unfold f_itm
    rw [if_neg h15, e, ← f_preD_preD]
    rfl
  · cases e
theorem f_m_end {nd : Nat} {fr : f_Frm} {cu : List f_Sp} {L L1 : List f_Tk} (h : f_sts 4 L = f_fin nd fr (f_preD cu (f_repD (f_agd nd) L1))) (ht : ¬ (10 ≤ f_T L1 ∧ f_T L1 ≤ 15)) : f_sts 4 L = f_fin nd fr (.inr (L1, cu)) := by
  rw [h, f_repD_none ht, f_preD_nil]
theorem f_m_oth {nd : Nat} {fr : f_Frm} {cu : List f_Sp} {L L1 : List f_Tk} (h : f_sts 4 L = f_fin nd fr (.inr (L1, cu))) (h1 : fr = [] → f_T L1 ≠ 0) (h2 : fr ≠ [] → f_T L1 ≠ 141) : f_drl L = .inl (1, f_S L1) := by
  unfold f_drl
  by_cases hf : fr = []
  · subst hf
    rw [h]
    show (if f_T L1 ≠ 0 then (.inl (1, f_S L1) : f_Rq) else _) = _
    rw [if_pos (h1 rfl)]
  · rw [h, f_fin_oth (h2 hf) hf]
    rfl
theorem f_m_sno {nd : Nat} {fr : f_Frm} {cu : List f_Sp} {L L1 : List f_Tk} {x : Int × Int} (h : f_sts 4 L = f_fin nd fr (f_preD cu (f_repD (f_agd nd) L1))) (h15 : f_T L1 ≠ 15) (h0 : f_T L1 ≠ 0) (hc : fr ≠ [] → f_T L1 ≠ 141) (e : f_stq L1 = .inl x) : f_drl L = .inl x := by
  unfold f_stq at e
  split at e
  · rename_i ht
    unfold f_drl
    rw [h, f_repD_some (f_cap_1 nd) (f_agd_gD nd) (by omega)]
    unfold f_itm
    rw [if_neg h15, e]
    show f_drE (f_fin nd fr (.inl x)) = _
    rw [f_fin_inl]
    rfl
  · rename_i ht
    obtain rfl : (1, f_S L1) = x := Sum.inl.inj e
    exact f_m_oth (f_m_end h (by omega)) (fun _ => h0) hc
theorem f_m_ago {nd : Nat} {fr : f_Frm} {cu o : List f_Sp} {L L1 L3 : List f_Tk} (h : f_sts 4 L = f_fin nd fr (f_preD cu (f_repD (f_agd nd) L1))) (h15 : f_T L1 = 15) (hn : nd + fr.length = 4) (e : f_agq (fr.length : Int) L1 = .inr (L3, o)) : ∃ k, nd = k + 1 ∧ f_sts 4 L = f_fin k (((f_V L1.tail).toNat, cu) :: fr) (f_preD [] (f_repD (f_agd k) L3)) ∧ L3.length < L1.length := by
  unfold f_agq at e
  split at e
  · cases e
  · obtain ⟨k, rfl⟩ : ∃ k, nd = k + 1 := ⟨nd - 1, by omega⟩
    obtain ⟨L2, o2, e1, e2⟩ := f_bd_inr e
    obtain ⟨h2, rfl, -⟩ := f_nbr_inr e1
    obtain ⟨L4, o4, e3, e4⟩ := f_bd_inr e2
    obtain ⟨h3, rfl, -⟩ := f_ned_inr e3
    cases e4
    have l1 := f_tail_len (L := L1) (by omega)
    have l2 := f_tail_len (L := L1.tail) (by omega)
    have l3 := f_tail_len (L := L1.tail.tail) (by omega)
    refine ⟨k, rfl, ?_, by omega⟩
    rw [h, f_repD_some (f_cap_1 (k + 1)) (f_agd_gD (k + 1)) (by omega)]
    unfold f_itm
    rw [if_pos h15, f_agd_s, e1]
    show f_fin (k + 1) fr (f_preD cu (f_seqD (f_bd (f_ned 140 L1.tail.tail) _) _)) = _
    rw [e3]
    show f_fin (k + 1) fr (f_preD cu (f_seqD (f_agE (f_V L1.tail).toNat (f_sts k L1.tail.tail.tail)) (f_repD (f_agd (k + 1))))) = f_fin (k + 1) fr (f_preD cu (f_seqD (f_agE (f_V L1.tail).toNat (f_preD [] (f_repD (f_agd k) L1.tail.tail.tail))) (f_repD (f_agd (k + 1)))))
    have e5 : f_preD [] (f_repD (f_agd k) L1.tail.tail.tail) = f_sts k L1.tail.tail.tail := by
      show f_preD [] (f_sts k L1.tail.tail.tail) = _
      cases f_sts k L1.tail.tail.tail <;> rfl
    rw [e5]
theorem f_m_agn {nd : Nat} {fr : f_Frm} {cu : List f_Sp} {L L1 : List f_Tk} {x : Int × Int} (h : f_sts 4 L = f_fin nd fr (f_preD cu (f_repD (f_agd nd) L1))) (h15 : f_T L1 = 15) (hn : nd + fr.length = 4) (e : f_agq (fr.length : Int) L1 = .inl x) : f_drl L = .inl x := by
  have e0 : f_agd nd L1 = .inl x := by
    unfold f_agq at e
    split at e
    · obtain rfl : nd = 0 := by omega
      cases e
      rfl
    · obtain ⟨k, rfl⟩ : ∃ k, nd = k + 1 := ⟨nd - 1, by omega⟩
      rw [f_agd_s]
      match e1 : f_nbr 1 9 L1.tail with
      | .inl y =>
        rw [e1] at e
        exact e
      | .inr (L2, o2) =>
        rw [e1] at e
        have e2 : f_bd (f_ned 140 L2) (fun L3 => .inr (L3, [])) = .inl x := e
        show f_bd (f_ned 140 L2) _ = _
        match e3 : f_ned 140 L2 with
        | .inl y =>
          rw [e3] at e2
          exact e2
        | .inr (L3, o3) =>
          rw [e3] at e2
          cases e2
  unfold f_drl
  rw [h, f_repD_some (f_cap_1 nd) (f_agd_gD nd) (by omega)]
  unfold f_itm
  rw [if_pos h15, e0]
  show f_drE (f_fin nd fr (.inl x)) = _
  rw [f_fin_inl]
  rfl
theorem f_m_cls {nd m : Nat} {pre : List f_Sp} {fr : f_Frm} {cu : List f_Sp} {L L1 : List f_Tk} (h : f_sts 4 L = f_fin nd ((m, pre) :: fr) (f_preD cu (f_repD (f_agd nd) L1))) (ht : f_T L1 = 141) : f_sts 4 L = f_fin (nd + 1) fr (f_preD (pre ++ f_tms m cu) (f_repD (f_agd (nd + 1)) L1.tail)) := by
  rw [f_m_end h (by omega), ← f_preD_preD]
  show f_fin (nd + 1) fr (f_preD pre (f_seqD (f_bd (f_ned 141 L1) (fun L5 => .inr (L5, f_tms m cu))) (f_repD (f_agd (nd + 1))))) = _
  unfold f_ned
  rw [if_pos ht]
  rfl
/-- the copies, as they are made -/
theorem f_cp_nm {m k : Nat} {pre cu cc rem : List f_Sp} {fr : f_Frm} (hm : m = k + 1) (h : f_tms k cu = cc ++ rem) : f_alS fr (pre ++ f_tms m cu) = f_alS ((m, pre) :: fr) cu ++ cc ++ rem := by
  rw [f_alS_app, hm]
  show f_alS fr pre ++ (cu ++ f_tms k cu) = f_alS fr pre ++ cu ++ cc ++ rem
  rw [h]
  simp only [List.append_assoc]
theorem f_cp_le {m : Nat} {pre cu : List f_Sp} {fr : f_Frm} (hm : 1 ≤ m) : (f_alS ((m, pre) :: fr) cu).length ≤ (f_alS fr (pre ++ f_tms m cu)).length := by
  obtain ⟨k, rfl⟩ : ∃ k, m = k + 1 := ⟨m - 1, by omega⟩
  rw [f_cp_nm (cc := f_tms k cu) (rem := []) rfl (List.append_nil _).symm, List.length_append, List.length_append]
  omega
theorem f_cp_get {m k : Nat} {pre cu cc rem : List f_Sp} {fr : f_Frm} {s : f_Sp} (h : f_tms k cu = cc ++ s :: rem) : (f_alS ((m, pre) :: fr) cu ++ cc)[(f_alS fr pre).length + cc.length]? = some s := by
  show (f_alS fr pre ++ cu ++ cc)[(f_alS fr pre).length + cc.length]? = some s
  rw [List.append_assoc, List.getElem?_append_right (by omega), Nat.add_sub_cancel_left]
  exact f_prd h
def f_dqo (x2 x3 : Int) (r : f_Rq) (M2 : ax_Mem) : Prop := match r with
  | .inl (k, s) => M2 58 2 = k ∧ M2 58 3 = s
  | .inr ss => M2 65 0 = (ss.length : Int) ∧ f_dw (M2 66) (M2 67) (M2 68) ss ∧ M2 58 2 = x2 ∧ M2 58 3 = x3
theorem f_dqo_no {x2 x3 : Int} {r : f_Rq} {M2 : ax_Mem} {k s : Int} (e : r = .inl (k, s)) (h1 : M2 58 2 = k) (h2 : M2 58 3 = s) : f_dqo x2 x3 r M2 := by
  rw [e]
  exact ⟨h1, h2⟩
set_option maxRecDepth 20000 in
theorem s_X1_closeAgain (E : ax_Env) (l : Launch) (d : Nat) (hd : 1 ≤ d) (M : ax_Mem) (m : Nat) (pre cu : List f_Sp) (fr : f_Frm) {kn : Int → Int} (hkn : M 66 = kn) {ff : Int → Int} (hff : M 67 = ff) {sc : Int → Int} (hsc : M 68 = sc) {tm : Int → Int} (htm : M 69 = tm) {sr : Int → Int} (hsr : M 70 = sr) {cn : Int} (hcn : M 65 0 = cn) {op : Int} (hop : M 65 4 = op) (hg0 : op = (fr.length : Int) + 1 ∧ op ≤ 4) (hg1 : f_sk tm sr cn ((m, pre) :: fr)) (hg2 : f_dn kn ff sc cn (f_alS ((m, pre) :: fr) cu)) (hg3 : 0 ≤ cn ∧ cn ≤ 1000) : ax_G E l d iX1_closeAgain [.inr 65] M (fun z0 M2 => z0 = none ∧ (∀ x0 i0 : Int, ¬ ((x0 = 65 ∧ i0 = 4) ∨ x0 = 66 ∨ x0 = 67 ∨ x0 = 68 ∨ (x0 = 65 ∧ i0 = 0)) → M2 x0 i0 = M x0 i0) ∧ M2 65 4 = op - 1 ∧ (f_dn (M2 66) (M2 67) (M2 68) (M2 65 0) (f_alS fr (pre ++ f_tms m cu))) ∧ (cn ≤ M2 65 0 ∧ (M2 65 0 ≤ cn ∨ M2 65 0 ≤ 151))) := by
  obtain ⟨d, rfl⟩ : ∃ d0, d = d0 + 1 := ⟨d - 1, by omega⟩
  refine ax_start rfl (Nat.le_of_ble_eq_true rfl) (ls := [some (.inr 65), none, none, none, none]) rfl (fun hav hcm => ?_)
  clear hav
  obtain ⟨⟨qt1, qm1, qm9⟩, ⟨qs1, qs2, qs3⟩, qsk⟩ := hg1
  have qi : op - 1 = (fr.length : Int) := by omega
  obtain ⟨kf, qkf⟩ : ∃ k, m = k + 1 := ⟨m - 1, by omega⟩
  obtain ⟨bo, qbo⟩ : ∃ z, z = cn - sr (fr.length : Int) := ⟨_, rfl⟩
  obtain ⟨cp, qcp⟩ : ∃ z, z = bo * ((m : Int) - 1) := ⟨_, rfl⟩
  have qm8 := f_mul8 (a := bo) (b := (m : Int) - 1) (by omega) (by omega) (by omega)
  rw [← qcp] at qm8
  have qlen : (f_alS ((m, pre) :: fr) cu).length = (f_alS fr pre).length + cu.length := List.length_append
  have qnm : (f_alS ((m, pre) :: fr) cu).length ≤ 150 → bo = (cu.length : Int) ∧ cp = ((f_tms kf cu).length : Int) := by
    intro h
    have h1 := qs3 (by omega)
    have h2 : bo = (cu.length : Int) := by
      rcases hg2 with h3 | h3 <;> omega
    refine ⟨h2, ?_⟩
    rw [f_tms_len, qcp, h2, qkf, Int.natCast_mul, Int.mul_comm, show ((kf + 1 : Nat) : Int) - 1 = (kf : Int) by omega]
  have qple := f_cp_le (m := m) (pre := pre) (cu := cu) (fr := fr) qm1
  refine ax_aload_n dX1_closeAgain_0 rfl rfl (pc' := 1) rfl ?_
  refine ax_dup dX1_closeAgain_1 (pc' := 2) rfl ?_
  refine ax_geti (v := op) dX1_closeAgain_2 flX1_37 rfl sh_65 hop rfl (pc' := 5) rfl ?_
  refine ax_iconst dX1_closeAgain_5 (by decide) (pc' := 6) rfl ?_
  refine ax_isub dX1_closeAgain_6 (by omega) (pc' := 7) rfl ?_
  refine ax_puti dX1_closeAgain_7 flX1_37 (Or.inl rfl) sh_65 rfl (pc' := 10) rfl ?_
  refine ax_aload_n dX1_closeAgain_10 rfl rfl (pc' := 11) rfl ?_
  refine ax_geti (v := cn) dX1_closeAgain_11 flX1_27 rfl sh_65 (show (ax_up M 65 4 (op - 1)) 65 0 = cn from (ax_up_miss (by decide) hcn)) rfl (pc' := 14) rfl ?_
  refine ax_aload_n dX1_closeAgain_14 rfl rfl (pc' := 15) rfl ?_
  refine ax_getr (v := 70) dX1_closeAgain_15 flX1_24 rfl sh_65 rfl (pc' := 18) rfl ?_
  refine ax_aload_n dX1_closeAgain_18 rfl rfl (pc' := 19) rfl ?_
  refine ax_geti (v := op - 1) dX1_closeAgain_19 flX1_37 rfl sh_65 (show (ax_up M 65 4 (op - 1)) 65 4 = op - 1 from (ax_up_hit _ _ _ _)) rfl (pc' := 22) rfl ?_
  refine ax_iald (v := sr (op - 1)) dX1_closeAgain_22 sh_70 rfl (by omega) (by omega) ((congrFun (ax_up_rowmiss (by decide) hsr) (op - 1)).trans rfl) (pc' := 23) rfl ?_
  refine ax_reS (st2 := [.inl (sr (fr.length : Int)), .inl cn]) (congrArg (fun z => Sum.inl z :: _) (by rw [qi])) ?_
  refine ax_isub dX1_closeAgain_23 (by omega) (pc' := 24) rfl ?_
  refine ax_reS (st2 := [.inl bo]) (congrArg (fun z => Sum.inl z :: _) (by exact qbo.symm)) ?_
  refine ax_istore_n dX1_closeAgain_24 rfl (by decide) (ls' := [some (.inr 65), some (.inl bo), none, none, none]) rfl (pc' := 25) rfl ?_
  refine ax_iload_n dX1_closeAgain_25 rfl rfl (pc' := 26) rfl ?_
  refine ax_aload_n dX1_closeAgain_26 rfl rfl (pc' := 27) rfl ?_
  refine ax_getr (v := 69) dX1_closeAgain_27 flX1_21 rfl sh_65 rfl (pc' := 30) rfl ?_
  refine ax_aload_n dX1_closeAgain_30 rfl rfl (pc' := 31) rfl ?_
  refine ax_geti (v := op - 1) dX1_closeAgain_31 flX1_37 rfl sh_65 (show (ax_up M 65 4 (op - 1)) 65 4 = op - 1 from (ax_up_hit _ _ _ _)) rfl (pc' := 34) rfl ?_
  refine ax_iald (v := tm (op - 1)) dX1_closeAgain_34 sh_69 rfl (by omega) (by omega) ((congrFun (ax_up_rowmiss (by decide) htm) (op - 1)).trans rfl) (pc' := 35) rfl ?_
  refine ax_reS (st2 := [.inl (m : Int), .inl bo]) (congrArg (fun z => Sum.inl z :: _) (by rw [qi]; exact qt1)) ?_
  refine ax_iconst dX1_closeAgain_35 (by decide) (pc' := 36) rfl ?_
  refine ax_isub dX1_closeAgain_36 (by omega) (pc' := 37) rfl ?_
  refine ax_imul dX1_closeAgain_37 (by rw [← qcp]; omega) (pc' := 38) rfl ?_
  refine ax_reS (st2 := [.inl cp]) (congrArg (fun z => Sum.inl z :: _) (by exact qcp.symm)) ?_
  refine ax_istore_n dX1_closeAgain_38 rfl (by decide) (ls' := [some (.inr 65), some (.inl bo), some (.inl cp), none, none]) rfl (pc' := 39) rfl ?_
  refine ax_iconst dX1_closeAgain_39 (by decide) (pc' := 40) rfl ?_
  refine ax_istore_n dX1_closeAgain_40 rfl (by decide) (ls' := [some (.inr 65), some (.inl bo), some (.inl cp), some (.inl 0), none]) rfl (pc' := 41) rfl ?_
  have LP1 : ∀ (kq2 : Nat) (i : Int) (k1 f1 s1 : Int → Int) (c1 : Int) (cc : List f_Sp) (rem : List f_Sp) (M1 : ax_Mem) (hm1 : cp - i < (kq2 : Nat)) (fr1 : ∀ x0 i0 : Int, ¬ (x0 = 66 ∨ x0 = 67 ∨ x0 = 68 ∨ (x0 = 65 ∧ i0 = 0)) → M1 x0 i0 = (ax_up M 65 4 (op - 1)) x0 i0) (mr1_66 : M1 66 = k1) (mr1_67 : M1 67 = f1) (mr1_68 : M1 68 = s1) (ms1_65_0 : M1 65 0 = c1) (iv1_0 : (0 ≤ i ∧ i ≤ cp) ∧ cn ≤ c1 ∧ (c1 ≤ cn ∨ c1 ≤ 151)) (iv1_1 : f_dn k1 f1 s1 c1 ((f_alS ((m, pre) :: fr) cu) ++ cc)) (iv1_2 : (f_alS ((m, pre) :: fr) cu).length ≤ 150 → i = (cc.length : Int) ∧ f_tms kf cu = cc ++ rem) (iv1_3 : 150 < (f_alS ((m, pre) :: fr) cu).length → 150 < cn ∧ cc = []), ax_W E l (d + 1) 0 0 iX1_closeAgain 41 [some (.inr 65), some (.inl bo), some (.inl cp), some (.inl i), none] [] SH M1 (ax_P (fun z0 M2 => z0 = none ∧ (∀ x0 i0 : Int, ¬ ((x0 = 65 ∧ i0 = 4) ∨ x0 = 66 ∨ x0 = 67 ∨ x0 = 68 ∨ (x0 = 65 ∧ i0 = 0)) → M2 x0 i0 = M x0 i0) ∧ M2 65 4 = op - 1 ∧ (f_dn (M2 66) (M2 67) (M2 68) (M2 65 0) (f_alS fr (pre ++ f_tms m cu))) ∧ (cn ≤ M2 65 0 ∧ (M2 65 0 ≤ cn ∨ M2 65 0 ≤ 151)))) := by
    intro kq2
    induction kq2 with
    | zero =>
      intro i k1 f1 s1 c1 cc rem M1 hm1 fr1 mr1_66 mr1_67 mr1_68 ms1_65_0 iv1_0 iv1_1 iv1_2 iv1_3
      exfalso
      omega
    | succ kq2 ih3 =>
      intro i k1 f1 s1 c1 cc rem M1 hm1 fr1 mr1_66 mr1_67 mr1_68 ms1_65_0 iv1_0 iv1_1 iv1_2 iv1_3
      refine ax_iload_n dX1_closeAgain_41 rfl rfl (pc' := 42) rfl ?_
      refine ax_iload_n dX1_closeAgain_42 rfl rfl (pc' := 43) rfl ?_
      refine ax_icmp_ge (tgt := 95) dX1_closeAgain_43 (by decide) (pc' := 46) rfl (fun h43 => ?_) (fun h43 => ?_)
      · have qzf : f_dn k1 f1 s1 c1 (f_alS fr (pre ++ f_tms m cu)) := by
          by_cases hA : (f_alS ((m, pre) :: fr) cu).length ≤ 150
          · obtain ⟨q1, q2⟩ := iv1_2 hA
            have q3 := qnm hA
            have q4 : (f_tms kf cu).length = cc.length + rem.length := by rw [q2, List.length_append]
            obtain rfl : rem = [] := List.eq_nil_of_length_eq_zero (by omega)
            rw [f_cp_nm qkf q2, List.append_nil]
            exact iv1_1
          · have q1 := iv1_3 (by omega)
            exact Or.inr ⟨by omega, by omega⟩
        refine ax_vret dX1_closeAgain_95 rfl ?_
        refine ⟨rfl, rfl, ?_, ?_, ?_, ?_⟩
        · intro x0 i0 hai
          exact ((fr1 x0 i0 (fun h => h.elim (fun h => hai (Or.inr (Or.inl h))) (fun h => h.elim (fun h => hai (Or.inr (Or.inr (Or.inl h)))) (fun h => h.elim (fun h => hai (Or.inr (Or.inr (Or.inr (Or.inl h))))) (fun h => hai (Or.inr (Or.inr (Or.inr (Or.inr h))))))))).trans (ax_up_miss (fun h => hai (Or.inl h)) rfl))
        · exact ((fr1 65 4 (fun h => h.elim (fun h => absurd h (by decide)) (fun h => h.elim (fun h => absurd h (by decide)) (fun h => h.elim (fun h => absurd h (by decide)) (fun h => absurd h.2 (by decide)))))).trans (ax_up_hit _ _ _ _))
        · rw [show M1 66 = _ from mr1_66, show M1 67 = _ from mr1_67, show M1 68 = _ from mr1_68, show M1 65 0 = _ from ms1_65_0]
          exact qzf
        · rw [show M1 65 0 = _ from ms1_65_0]
          omega
      · refine ax_aload_n dX1_closeAgain_46 rfl rfl (pc' := 47) rfl ?_
        refine ax_geti (v := c1) dX1_closeAgain_47 flX1_27 rfl sh_65 ms1_65_0 rfl (pc' := 50) rfl ?_
        refine ax_sipush dX1_closeAgain_50 (by decide) (pc' := 53) rfl ?_
        refine ax_icmp_gt (tgt := 95) dX1_closeAgain_53 (by decide) (pc' := 56) rfl (fun h53 => ?_) (fun h53 => ?_)
        · have qzf : f_dn k1 f1 s1 c1 (f_alS fr (pre ++ f_tms m cu)) := by
            refine Or.inr ⟨?_, by omega⟩
            by_cases hA : (f_alS ((m, pre) :: fr) cu).length ≤ 150
            · obtain ⟨q1, q2⟩ := iv1_2 hA
              rw [f_cp_nm qkf q2, List.length_append]
              rcases iv1_1 with q | q <;> omega
            · omega
          refine ax_vret dX1_closeAgain_95 rfl ?_
          refine ⟨rfl, rfl, ?_, ?_, ?_, ?_⟩
          · intro x0 i0 hai
            exact ((fr1 x0 i0 (fun h => h.elim (fun h => hai (Or.inr (Or.inl h))) (fun h => h.elim (fun h => hai (Or.inr (Or.inr (Or.inl h)))) (fun h => h.elim (fun h => hai (Or.inr (Or.inr (Or.inr (Or.inl h))))) (fun h => hai (Or.inr (Or.inr (Or.inr (Or.inr h))))))))).trans (ax_up_miss (fun h => hai (Or.inl h)) rfl))
          · exact ((fr1 65 4 (fun h => h.elim (fun h => absurd h (by decide)) (fun h => h.elim (fun h => absurd h (by decide)) (fun h => h.elim (fun h => absurd h (by decide)) (fun h => absurd h.2 (by decide)))))).trans (ax_up_hit _ _ _ _))
          · rw [show M1 66 = _ from mr1_66, show M1 67 = _ from mr1_67, show M1 68 = _ from mr1_68, show M1 65 0 = _ from ms1_65_0]
            exact qzf
          · rw [show M1 65 0 = _ from ms1_65_0]
            omega
        · have hA : (f_alS ((m, pre) :: fr) cu).length ≤ 150 ∧ c1 = (((f_alS ((m, pre) :: fr) cu) ++ cc).length : Int) ∧ f_dw k1 f1 s1 ((f_alS ((m, pre) :: fr) cu) ++ cc) := by
            rcases iv1_1 with q | q
            · refine ⟨?_, q.2⟩
              have q5 := q.1
              rw [List.length_append] at q5
              omega
            · omega
          obtain ⟨hA, hc1, hdw⟩ := hA
          rw [List.length_append] at hc1
          obtain ⟨qi1, qi2⟩ := iv1_2 hA
          have qi3 := qnm hA
          have qi4 : (f_tms kf cu).length = cc.length + rem.length := by rw [qi2, List.length_append]
          obtain ⟨s2, rem2, qd⟩ : ∃ x y, rem = x :: y := by
            cases rem with
            | nil => simp only [List.length_nil] at *; omega
            | cons x y => exact ⟨x, y, rfl⟩
          have qx := hdw _ s2 (f_cp_get (m := m) (qi2.trans (by rw [qd])))
          rw [show (((f_alS fr pre).length + cc.length : Nat) : Int) = c1 - bo by omega] at qx
          have qbp : 1 ≤ bo := by
            rcases Int.lt_or_le 0 bo with h | h
            · omega
            · have h0 : bo = 0 := by omega
              rw [h0, Int.zero_mul] at qcp
              omega
          have qb2 : i + 1 = ((cc ++ [s2]).length : Int) ∧ f_tms kf cu = cc ++ [s2] ++ rem2 := by
            refine ⟨?_, ?_⟩
            · rw [List.length_append, List.length_cons, List.length_nil]
              omega
            · rw [qi2, qd, List.append_assoc]
              rfl
          refine ax_aload_n dX1_closeAgain_56 rfl rfl (pc' := 57) rfl ?_
          refine ax_geti (v := c1) dX1_closeAgain_57 flX1_27 rfl sh_65 ms1_65_0 rfl (pc' := 60) rfl ?_
          refine ax_iload_n dX1_closeAgain_60 rfl rfl (pc' := 61) rfl ?_
          refine ax_isub dX1_closeAgain_61 (by omega) (pc' := 62) rfl ?_
          refine ax_istore dX1_closeAgain_62 (by decide) (ls' := [some (.inr 65), some (.inl bo), some (.inl cp), some (.inl i), some (.inl (c1 - bo))]) rfl (pc' := 64) rfl ?_
          refine ax_aload_n dX1_closeAgain_64 rfl rfl (pc' := 65) rfl ?_
          refine ax_aload_n dX1_closeAgain_65 rfl rfl (pc' := 66) rfl ?_
          refine ax_getr (v := 66) dX1_closeAgain_66 flX1_11 rfl sh_65 rfl (pc' := 69) rfl ?_
          refine ax_iload dX1_closeAgain_69 rfl (pc' := 71) rfl ?_
          refine ax_iald (v := k1 (c1 - bo)) dX1_closeAgain_71 sh_66 rfl (by omega) (by omega) ((congrFun mr1_66 (c1 - bo)).trans rfl) (pc' := 72) rfl ?_
          refine ax_reS (st2 := [.inl (f_kd s2.1), .inr 65]) (congrArg (fun z => Sum.inl z :: _) (by exact qx.1)) ?_
          refine ax_aload_n dX1_closeAgain_72 rfl rfl (pc' := 73) rfl ?_
          refine ax_getr (v := 67) dX1_closeAgain_73 flX1_15 rfl sh_65 rfl (pc' := 76) rfl ?_
          refine ax_iload dX1_closeAgain_76 rfl (pc' := 78) rfl ?_
          refine ax_iald (v := f1 (c1 - bo)) dX1_closeAgain_78 sh_67 rfl (by omega) (by omega) ((congrFun mr1_67 (c1 - bo)).trans rfl) (pc' := 79) rfl ?_
          refine ax_reS (st2 := [.inl s2.2.1, .inl (f_kd s2.1), .inr 65]) (congrArg (fun z => Sum.inl z :: _) (by exact qx.2.1)) ?_
          refine ax_aload_n dX1_closeAgain_79 rfl rfl (pc' := 80) rfl ?_
          refine ax_getr (v := 68) dX1_closeAgain_80 flX1_18 rfl sh_65 rfl (pc' := 83) rfl ?_
          refine ax_iload dX1_closeAgain_83 rfl (pc' := 85) rfl ?_
          refine ax_iald (v := s1 (c1 - bo)) dX1_closeAgain_85 sh_68 rfl (by omega) (by omega) ((congrFun mr1_68 (c1 - bo)).trans rfl) (pc' := 86) rfl ?_
          refine ax_reS (st2 := [.inl s2.2.2, .inl s2.2.1, .inl (f_kd s2.1), .inr 65]) (congrArg (fun z => Sum.inl z :: _) (by exact qx.2.2)) ?_
          refine ax_invG [.inl (f_kd s2.1), .inl s2.2.1, .inl s2.2.2] [] dX1_closeAgain_86 mlX1_80 sh_65 rfl rfl rfl (Nat.le_of_ble_eq_true rfl) (s_X1_addStep E l _ (by omega) _ (f_kd s2.1) s2.2.1 s2.2.2 mr1_66 mr1_67 mr1_68 ms1_65_0 (by first | omega | assumption)) (pc' := 89) rfl (fun vv M_86 hq co86 hcm86 => ?_)
          obtain ⟨rfl, frM_86, mrM_86_0, mrM_86_1, mrM_86_2, msM_86_0⟩ := hq
          refine ax_reS (st2 := []) rfl ?_
          refine ax_iinc dX1_closeAgain_89 rfl (by decide) (by omega) (ls' := [some (.inr 65), some (.inl bo), some (.inl cp), some (.inl (i + 1)), some (.inl (c1 - bo))]) rfl (pc' := 92) rfl ?_
          refine ax_goto dX1_closeAgain_92 (pc' := 41) (by decide) ?_
          refine ax_less (ls2 := [some (.inr 65), some (.inl bo), some (.inl cp), some (.inl (i + 1)), none]) [true, true, true, true, false] rfl ?_
          refine ih3 (i + 1) (f_ad k1 c1 (f_kd s2.1)) (f_ad f1 c1 s2.2.1) (f_ad s1 c1 s2.2.2) (c1 + 1) (cc ++ [s2]) rem2 M_86 ?_ ?_ ?_ ?_ ?_ ?_ ?_ ?_ ?_ ?_
          · omega
          · intro x0 i0 hai
            exact ((frM_86 x0 i0 (fun h => h.elim (fun h => hai (Or.inl h)) (fun h => h.elim (fun h => hai (Or.inr (Or.inl h))) (fun h => h.elim (fun h => hai (Or.inr (Or.inr (Or.inl h)))) (fun h => hai (Or.inr (Or.inr (Or.inr h)))))))).trans ((fr1 x0 i0 (fun h => h.elim (fun h => hai (Or.inl h)) (fun h => h.elim (fun h => hai (Or.inr (Or.inl h))) (fun h => h.elim (fun h => hai (Or.inr (Or.inr (Or.inl h)))) (fun h => hai (Or.inr (Or.inr (Or.inr h)))))))).trans rfl))
          · exact mrM_86_0
          · exact mrM_86_1
          · exact mrM_86_2
          · exact msM_86_0
          · omega
          · rw [← List.append_assoc]
            exact f_dn_add iv1_1
          · exact fun _ => qb2
          · intro h
            omega
  refine LP1 (cp - 0 : Int).toNat.succ 0 kn ff sc cn ([]) (f_tms kf cu) (ax_up M 65 4 (op - 1)) ?_ ?_ ?_ ?_ ?_ ?_ ?_ ?_ ?_ ?_
  · omega
  · exact fun a i _ => rfl
  · exact (ax_up_rowmiss (by decide) hkn)
  · exact (ax_up_rowmiss (by decide) hff)
  · exact (ax_up_rowmiss (by decide) hsc)
  · exact (ax_up_miss (by decide) hcn)
  · omega
  · rw [List.append_nil]
    exact hg2
  · exact fun _ => ⟨rfl, rfl⟩
  · intro h
    rcases hg2 with h3 | h3
    · omega
    · exact ⟨h3.2, rfl⟩
