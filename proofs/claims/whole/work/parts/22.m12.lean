/-! what fits what was told -/
abbrev f_fwC (w : Int → Int) (k n x : Int) : Prop := w (2580 + 2 * x + 1) ≠ (if n ≤ w (2580 + 2 * x) then k else -1)
abbrev f_fw (w : Int → Int) (k n : Int) : Prop := f_first (f_fwC w k n) 0 (w 2577) = -1
def f_cnt (f : Int) : List Int → Int
  | [] => 0
  | q :: tl => f_b (q ≤ f) + f_cnt f tl
theorem f_cnt_rg {f : Int} : ∀ {L : List Int}, 0 ≤ f_cnt f L ∧ f_cnt f L ≤ (L.length : Int)
  | [] => ⟨Int.le_refl 0, Int.le_refl 0⟩
  | q :: tl => by
    have h := f_cnt_rg (f := f) (L := tl)
    have e : f_cnt f (q :: tl) = f_b (q ≤ f) + f_cnt f tl := rfl
    have e2 := f_b_01 (q ≤ f)
    rw [e, List.length_cons]
    omega
def f_nxS (Q : List Int) (f : Int) (s : Int × Int) : Int × Int := if s.2 ≤ max (f_cnt f Q) ((Q.length : Int) - f_cnt f Q) then s else (f, max (f_cnt f Q) ((Q.length : Int) - f_cnt f Q))
def F_next (Q : List Int) : Int := if (Q.length : Int) ≤ 1 then -1 else (f_loop (f_nxS Q) 0 100 (-1, (Q.length : Int) + 1)).1
def f_ftS (Ls : Int → List f_Ln) (w : Int → Int) (r p k v : Int) (s : Int × Int × List Int) : Int × Int × List Int := if f_fw w k (f_needW Ls w r p k v 0) then (if (s.2.2.length : Int) = 0 then (k, v, f_needW Ls w r p k v 0 :: s.2.2) else (s.1, s.2.1, f_needW Ls w r p k v 0 :: s.2.2)) else s
def f_ft (Ls : Int → List f_Ln) (w : Int → Int) (r p : Int) : Int × Int × List Int := f_loop (fun k s => f_loop (f_ftS Ls w r p k) 1 100 s) 0 6 (-1, -1, [])
def F_fits (Ls : Int → List f_Ln) (w : Int → Int) (r p what : Int) : Int := if ¬ (f_isP w r p ∧ f_P w r p 0 = -1 ∧ 0 ≤ what ∧ what ≤ 3) then -1 else if what = 0 then ((f_ft Ls w r p).2.2.length : Int) else if what = 1 then (f_ft Ls w r p).1 else if what = 2 then (f_ft Ls w r p).2.1 else F_next (f_ft Ls w r p).2.2.reverse
set_option maxRecDepth 20000 in
theorem s_X12_fitsWith (E : ax_Env) (l : Launch) (d : Nat) (hd : 0 ≤ d) (M : ax_Mem) (k n : Int) {w : Int → Int} (hw : M 331 = w) (hg0 : 0 ≤ w 2577 ∧ w 2577 ≤ 6) : ax_G E l d iX12_fitsWith [.inr 330, .inl k, .inl n] M (fun z0 M2 => z0 = some (.inl (f_b (f_fw w k n))) ∧ M = M2) := by
  refine ax_start rfl (Nat.le_of_ble_eq_true rfl) (ls := [some (.inr 330), some (.inl k), some (.inl n), none]) rfl (fun hav hcm => ?_)
  have hc1 : -2147483648 ≤ k ∧ k < 2147483648 := hav (.inl k) (by simp)
  have hc2 : -2147483648 ≤ n ∧ n < 2147483648 := hav (.inl n) (by simp)
  clear hav
  refine ax_iconst dX12_fitsWith_0 (by decide) (pc' := 1) rfl ?_
  refine ax_istore_n dX12_fitsWith_1 rfl (by decide) (ls' := [some (.inr 330), some (.inl k), some (.inl n), some (.inl 0)]) rfl (pc' := 2) rfl ?_
  have LP1 : ∀ (kq2 : Nat) (x : Int) (hm1 : w 2577 - x < (kq2 : Nat)) (iv1_0 : 0 ≤ x ∧ x ≤ w 2577) (iv1_1 : f_first (f_fwC w k n) x (w 2577) = f_first (f_fwC w k n) 0 (w 2577)), ax_W E l d 0 0 iX12_fitsWith 2 [some (.inr 330), some (.inl k), some (.inl n), some (.inl x)] [] SH M (ax_P (fun z0 M2 => z0 = some (.inl (f_b (f_fw w k n))) ∧ M = M2)) := by
    intro kq2
    induction kq2 with
    | zero =>
      intro x hm1 iv1_0 iv1_1
      exfalso
      omega
    | succ kq2 ih3 =>
      intro x hm1 iv1_0 iv1_1
      refine ax_iload_n dX12_fitsWith_2 rfl rfl (pc' := 3) rfl ?_
      refine ax_aload_n dX12_fitsWith_3 rfl rfl (pc' := 4) rfl ?_
      refine ax_getr (v := 331) dX12_fitsWith_4 flX12_7 rfl sh_330 rfl (pc' := 7) rfl ?_
      refine ax_sipush dX12_fitsWith_7 (by decide) (pc' := 10) rfl ?_
      refine ax_iald (v := w 2577) dX12_fitsWith_10 sh_331 rfl (by omega) (by omega) ((congrFun hw 2577).trans rfl) (pc' := 11) rfl ?_
      refine ax_icmp_ge (tgt := 60) dX12_fitsWith_11 (by decide) (pc' := 14) rfl (fun h11 => ?_) (fun h11 => ?_)
      · refine ax_iconst dX12_fitsWith_60 (by decide) (pc' := 61) rfl ?_
        refine ax_zret dX12_fitsWith_61 rfl (by decide) ?_
        refine ⟨rfl, ?_, ?_⟩
        · refine congrArg (fun z => some (Sum.inl z)) ?_
          rw [f_b_t]
          exact iv1_1.symm.trans (f_first_done (by omega))
        · rfl
      · refine ax_aload_n dX12_fitsWith_14 rfl rfl (pc' := 15) rfl ?_
        refine ax_getr (v := 331) dX12_fitsWith_15 flX12_7 rfl sh_330 rfl (pc' := 18) rfl ?_
        refine ax_sipush dX12_fitsWith_18 (by decide) (pc' := 21) rfl ?_
        refine ax_iconst dX12_fitsWith_21 (by decide) (pc' := 22) rfl ?_
        refine ax_iload_n dX12_fitsWith_22 rfl rfl (pc' := 23) rfl ?_
        refine ax_imul dX12_fitsWith_23 (by omega) (pc' := 24) rfl ?_
        refine ax_iadd dX12_fitsWith_24 (by omega) (pc' := 25) rfl ?_
        refine ax_iconst dX12_fitsWith_25 (by decide) (pc' := 26) rfl ?_
        refine ax_iadd dX12_fitsWith_26 (by omega) (pc' := 27) rfl ?_
        refine ax_iald (v := w (2580 + (2 * x) + 1)) dX12_fitsWith_27 sh_331 rfl (by omega) (by omega) ((congrFun hw (2580 + (2 * x) + 1)).trans rfl) (pc' := 28) rfl ?_
        refine ax_iload_n dX12_fitsWith_28 rfl rfl (pc' := 29) rfl ?_
        refine ax_aload_n dX12_fitsWith_29 rfl rfl (pc' := 30) rfl ?_
        refine ax_getr (v := 331) dX12_fitsWith_30 flX12_7 rfl sh_330 rfl (pc' := 33) rfl ?_
        refine ax_sipush dX12_fitsWith_33 (by decide) (pc' := 36) rfl ?_
        refine ax_iconst dX12_fitsWith_36 (by decide) (pc' := 37) rfl ?_
        refine ax_iload_n dX12_fitsWith_37 rfl rfl (pc' := 38) rfl ?_
        refine ax_imul dX12_fitsWith_38 (by omega) (pc' := 39) rfl ?_
        refine ax_iadd dX12_fitsWith_39 (by omega) (pc' := 40) rfl ?_
        refine ax_iald (v := w (2580 + (2 * x))) dX12_fitsWith_40 sh_331 rfl (by omega) (by omega) ((congrFun hw (2580 + (2 * x))).trans rfl) (pc' := 41) rfl ?_
        refine ax_icmp_gt (tgt := 48) dX12_fitsWith_41 (by decide) (pc' := 44) rfl (fun h41 => ?_) (fun h41 => ?_)
        · refine ax_iconst dX12_fitsWith_48 (by decide) (pc' := 49) rfl ?_
          refine ax_icmp_eq (tgt := 54) dX12_fitsWith_49 (by decide) (pc' := 52) rfl (fun h49 => ?_) (fun h49 => ?_)
          · refine ax_iinc dX12_fitsWith_54 rfl (by decide) (by omega) (ls' := [some (.inr 330), some (.inl k), some (.inl n), some (.inl (x + 1))]) rfl (pc' := 57) rfl ?_
            refine ax_goto dX12_fitsWith_57 (pc' := 2) (by decide) ?_
            refine ih3 (x + 1) ?_ ?_ ?_
            · omega
            · omega
            · refine (f_first_miss (by omega) (fun hc => hc ?_)).symm.trans iv1_1
              first | rw [if_pos h41]; omega | rw [if_neg (by omega)]; omega
          · refine ax_iconst dX12_fitsWith_52 (by decide) (pc' := 53) rfl ?_
            refine ax_zret dX12_fitsWith_53 rfl (by decide) ?_
            refine ⟨rfl, ?_, ?_⟩
            · refine congrArg (fun z => some (Sum.inl z)) ?_
              rw [f_b_f]
              unfold f_fw
              rw [← iv1_1, f_first_hit (by omega) (by unfold f_fwC; first | rw [if_pos h41]; omega | rw [if_neg (by omega)]; omega)]
              omega
            · rfl
        · refine ax_iload_n dX12_fitsWith_44 rfl rfl (pc' := 45) rfl ?_
          refine ax_goto dX12_fitsWith_45 (pc' := 49) (by decide) ?_
          refine ax_icmp_eq (tgt := 54) dX12_fitsWith_49 (by decide) (pc' := 52) rfl (fun h49 => ?_) (fun h49 => ?_)
          · refine ax_iinc dX12_fitsWith_54 rfl (by decide) (by omega) (ls' := [some (.inr 330), some (.inl k), some (.inl n), some (.inl (x + 1))]) rfl (pc' := 57) rfl ?_
            refine ax_goto dX12_fitsWith_57 (pc' := 2) (by decide) ?_
            refine ih3 (x + 1) ?_ ?_ ?_
            · omega
            · omega
            · refine (f_first_miss (by omega) (fun hc => hc ?_)).symm.trans iv1_1
              first | rw [if_pos h41]; omega | rw [if_neg (by omega)]; omega
          · refine ax_iconst dX12_fitsWith_52 (by decide) (pc' := 53) rfl ?_
            refine ax_zret dX12_fitsWith_53 rfl (by decide) ?_
            refine ⟨rfl, ?_, ?_⟩
            · refine congrArg (fun z => some (Sum.inl z)) ?_
              rw [f_b_f]
              unfold f_fw
              rw [← iv1_1, f_first_hit (by omega) (by unfold f_fwC; first | rw [if_pos h41]; omega | rw [if_neg (by omega)]; omega)]
              omega
            · rfl
  refine LP1 (w 2577 - 0 : Int).toNat.succ 0 ?_ ?_ ?_
  · omega
  · omega
  · rfl
set_option maxRecDepth 20000 in
theorem s_X12_nextForce (E : ax_Env) (l : Launch) (d : Nat) (hd : 1 ≤ d) (M : ax_Mem) (Q : List Int) {nd : Int → Int} (hnd : M 344 = nd) {fm : Int} (hfm : M 330 35 = fm) (hg0 : (Q.length : Int) = fm ∧ fm ≤ 594) (hg1 : f_fwd nd 0 Q) : ax_G E l d iX12_nextForce [.inr 330] M (fun z0 M2 => z0 = some (.inl (F_next Q)) ∧ M = M2) := by
  obtain ⟨d, rfl⟩ : ∃ d0, d = d0 + 1 := ⟨d - 1, by omega⟩
  refine ax_start rfl (Nat.le_of_ble_eq_true rfl) (ls := [some (.inr 330), none, none, none, none, none]) rfl (fun hav hcm => ?_)
  clear hav
  refine ax_iconst dX12_nextForce_0 (by decide) (pc' := 1) rfl ?_
  refine ax_istore_n dX12_nextForce_1 rfl (by decide) (ls' := [some (.inr 330), some (.inl (-1)), none, none, none, none]) rfl (pc' := 2) rfl ?_
  refine ax_aload_n dX12_nextForce_2 rfl rfl (pc' := 3) rfl ?_
  refine ax_geti (v := fm) dX12_nextForce_3 flX12_467 rfl sh_330 hfm rfl (pc' := 6) rfl ?_
  refine ax_iconst dX12_nextForce_6 (by decide) (pc' := 7) rfl ?_
  refine ax_iadd dX12_nextForce_7 (by omega) (pc' := 8) rfl ?_
  refine ax_istore_n dX12_nextForce_8 rfl (by decide) (ls' := [some (.inr 330), some (.inl (-1)), some (.inl (fm + 1)), none, none, none]) rfl (pc' := 9) rfl ?_
  refine ax_iconst dX12_nextForce_9 (by decide) (pc' := 10) rfl ?_
  refine ax_istore_n dX12_nextForce_10 rfl (by decide) (ls' := [some (.inr 330), some (.inl (-1)), some (.inl (fm + 1)), some (.inl 0), none, none]) rfl (pc' := 11) rfl ?_
  have LP1 : ∀ (kq2 : Nat) (f b le0 : Int) (hm1 : 100 - f < (kq2 : Nat)) (iv1_0 : 0 ≤ f ∧ f ≤ 100) (iv1_1 : 1 < fm → f_loop (f_nxS Q) f 100 (b, le0) = f_loop (f_nxS Q) 0 100 (-1, (Q.length : Int) + 1)) (iv1_2 : fm ≤ 1 → b = -1), ax_W E l (d + 1) 0 0 iX12_nextForce 11 [some (.inr 330), some (.inl b), some (.inl le0), some (.inl f), none, none] [] SH M (ax_P (fun z0 M2 => z0 = some (.inl (F_next Q)) ∧ M = M2)) := by
    intro kq2
    induction kq2 with
    | zero =>
      intro f b le0 hm1 iv1_0 iv1_1 iv1_2
      exfalso
      omega
    | succ kq2 ih3 =>
      intro f b le0 hm1 iv1_0 iv1_1 iv1_2
      refine ax_iload_n dX12_nextForce_11 rfl rfl (pc' := 12) rfl ?_
      refine ax_bipush dX12_nextForce_12 (by decide) (pc' := 14) rfl ?_
      refine ax_icmp_gt (tgt := 101) dX12_nextForce_14 (by decide) (pc' := 17) rfl (fun h14 => ?_) (fun h14 => ?_)
      · refine ax_iload_n dX12_nextForce_101 rfl rfl (pc' := 102) rfl ?_
        refine ax_iret dX12_nextForce_102 rfl ?_
        refine ⟨rfl, ?_, ?_⟩
        · refine congrArg (fun z => some (Sum.inl z)) ?_
          unfold F_next
          by_cases hq : fm ≤ 1
          · rw [if_pos (by omega)]
            exact iv1_2 hq
          · rw [if_neg (by omega), ← iv1_1 (by omega), f_loop_done (by omega)]
        · rfl
      · refine ax_aload_n dX12_nextForce_17 rfl rfl (pc' := 18) rfl ?_
        refine ax_geti (v := fm) dX12_nextForce_18 flX12_467 rfl sh_330 hfm rfl (pc' := 21) rfl ?_
        refine ax_iconst dX12_nextForce_21 (by decide) (pc' := 22) rfl ?_
        refine ax_icmp_le (tgt := 101) dX12_nextForce_22 (by decide) (pc' := 25) rfl (fun h22 => ?_) (fun h22 => ?_)
        · refine ax_iload_n dX12_nextForce_101 rfl rfl (pc' := 102) rfl ?_
          refine ax_iret dX12_nextForce_102 rfl ?_
          refine ⟨rfl, ?_, ?_⟩
          · refine congrArg (fun z => some (Sum.inl z)) ?_
            unfold F_next
            by_cases hq : fm ≤ 1
            · rw [if_pos (by omega)]
              exact iv1_2 hq
            · rw [if_neg (by omega), ← iv1_1 (by omega), f_loop_done (by omega)]
          · rfl
        · refine ax_iconst dX12_nextForce_25 (by decide) (pc' := 26) rfl ?_
          refine ax_istore dX12_nextForce_26 (by decide) (ls' := [some (.inr 330), some (.inl b), some (.inl le0), some (.inl f), some (.inl 0), none]) rfl (pc' := 28) rfl ?_
          refine ax_iconst dX12_nextForce_28 (by decide) (pc' := 29) rfl ?_
          refine ax_istore dX12_nextForce_29 (by decide) (ls' := [some (.inr 330), some (.inl b), some (.inl le0), some (.inl f), some (.inl 0), some (.inl 0)]) rfl (pc' := 31) rfl ?_
          have LP4 : ∀ (kq5 : Nat) (i n : Int) (rem : List Int) (hm4 : (rem.length : Int) < (kq5 : Nat)) (iv4_0 : 0 ≤ i ∧ i + (rem.length : Int) = fm) (iv4_1 : f_fwd nd i rem) (iv4_2 : n + f_cnt f rem = f_cnt f Q) (iv4_3 : 0 ≤ n ∧ n ≤ i), ax_W E l (d + 1) 0 0 iX12_nextForce 31 [some (.inr 330), some (.inl b), some (.inl le0), some (.inl f), some (.inl n), some (.inl i)] [] SH M (ax_P (fun z0 M2 => z0 = some (.inl (F_next Q)) ∧ M = M2)) := by
            intro kq5
            induction kq5 with
            | zero =>
              intro i n rem hm4 iv4_0 iv4_1 iv4_2 iv4_3
              exfalso
              omega
            | succ kq5 ih6 =>
              intro i n rem hm4 iv4_0 iv4_1 iv4_2 iv4_3
              refine ax_iload dX12_nextForce_31 rfl (pc' := 33) rfl ?_
              refine ax_aload_n dX12_nextForce_33 rfl rfl (pc' := 34) rfl ?_
              refine ax_geti (v := fm) dX12_nextForce_34 flX12_467 rfl sh_330 hfm rfl (pc' := 37) rfl ?_
              refine ax_icmp_ge (tgt := 67) dX12_nextForce_37 (by decide) (pc' := 40) rfl (fun h37 => ?_) (fun h37 => ?_)
              · have qd : rem = [] := List.eq_nil_of_length_eq_zero (by omega)
                have qn : f_cnt f Q = n := by
                  rw [← iv4_2, qd]
                  show n + 0 = n
                  omega
                have qr := f_cnt_rg (f := f) (L := Q)
                refine ax_iload dX12_nextForce_67 rfl (pc' := 69) rfl ?_
                refine ax_aload_n dX12_nextForce_69 rfl rfl (pc' := 70) rfl ?_
                refine ax_geti (v := fm) dX12_nextForce_70 flX12_467 rfl sh_330 hfm rfl (pc' := 73) rfl ?_
                refine ax_iload dX12_nextForce_73 rfl (pc' := 75) rfl ?_
                refine ax_isub dX12_nextForce_75 (by omega) (pc' := 76) rfl ?_
                refine ax_insG [.inl n, .inl (fm - n)] [] dX12_nextForce_76 mlX12_337 rfl rfl (Nat.le_of_ble_eq_true rfl) (s_X12_greater E l _ (by omega) _ n (fm - n)) (pc' := 79) rfl (fun vv M_76 hq co76 hcm76 => ?_)
                obtain ⟨rfl, rfl⟩ := hq
                refine ax_reS (st2 := [.inl (max n (fm - n))]) rfl ?_
                have cc76 : -2147483648 ≤ max n (fm - n) ∧ max n (fm - n) < 2147483648 := co76 _ rfl
                refine ax_istore dX12_nextForce_79 (by decide) (ls' := [some (.inr 330), some (.inl b), some (.inl le0), some (.inl f), some (.inl n), some (.inl (max n (fm - n)))]) rfl (pc' := 81) rfl ?_
                refine ax_iload dX12_nextForce_81 rfl (pc' := 83) rfl ?_
                refine ax_iload_n dX12_nextForce_83 rfl rfl (pc' := 84) rfl ?_
                refine ax_icmp_lt (tgt := 90) dX12_nextForce_84 (by decide) (pc' := 87) rfl (fun h84 => ?_) (fun h84 => ?_)
                · refine ax_iload dX12_nextForce_90 rfl (pc' := 92) rfl ?_
                  refine ax_istore_n dX12_nextForce_92 rfl (by decide) (ls' := [some (.inr 330), some (.inl b), some (.inl (max n (fm - n))), some (.inl f), some (.inl n), some (.inl (max n (fm - n)))]) rfl (pc' := 93) rfl ?_
                  refine ax_iload_n dX12_nextForce_93 rfl rfl (pc' := 94) rfl ?_
                  refine ax_istore_n dX12_nextForce_94 rfl (by decide) (ls' := [some (.inr 330), some (.inl f), some (.inl (max n (fm - n))), some (.inl f), some (.inl n), some (.inl (max n (fm - n)))]) rfl (pc' := 95) rfl ?_
                  refine ax_iinc dX12_nextForce_95 rfl (by decide) (by omega) (ls' := [some (.inr 330), some (.inl f), some (.inl (max n (fm - n))), some (.inl (f + 1)), some (.inl n), some (.inl (max n (fm - n)))]) rfl (pc' := 98) rfl ?_
                  refine ax_goto dX12_nextForce_98 (pc' := 11) (by decide) ?_
                  refine ax_less (ls2 := [some (.inr 330), some (.inl f), some (.inl (max n (fm - n))), some (.inl (f + 1)), none, none]) [true, true, true, true, false, false] rfl ?_
                  refine ih3 (f + 1) f (max n (fm - n)) ?_ ?_ ?_ ?_
                  · omega
                  · omega
                  · intro hq
                    refine f_loop_back (by omega) (iv1_1 hq) ?_
                    unfold f_nxS
                    simp only []
                    first
                      | rw [if_pos (by omega)]
                      | (rw [if_neg (by omega), hg0.1, qn])
                  · intro hq
                    omega
                · refine ax_goto dX12_nextForce_87 (pc' := 95) (by decide) ?_
                  refine ax_iinc dX12_nextForce_95 rfl (by decide) (by omega) (ls' := [some (.inr 330), some (.inl b), some (.inl le0), some (.inl (f + 1)), some (.inl n), some (.inl (max n (fm - n)))]) rfl (pc' := 98) rfl ?_
                  refine ax_goto dX12_nextForce_98 (pc' := 11) (by decide) ?_
                  refine ax_less (ls2 := [some (.inr 330), some (.inl b), some (.inl le0), some (.inl (f + 1)), none, none]) [true, true, true, true, false, false] rfl ?_
                  refine ih3 (f + 1) b le0 ?_ ?_ ?_ ?_
                  · omega
                  · omega
                  · intro hq
                    refine f_loop_back (by omega) (iv1_1 hq) ?_
                    unfold f_nxS
                    simp only []
                    first
                      | rw [if_pos (by omega)]
                      | (rw [if_neg (by omega), hg0.1, qn])
                  · intro hq
                    omega
              · obtain ⟨q7, rem2, qd⟩ : ∃ x0 y0, rem = x0 :: y0 := by
                  cases rem with
                  | nil =>
                    simp only [List.length_nil] at iv4_0
                    omega
                  | cons x0 y0 => exact ⟨x0, y0, rfl⟩
                have qf : f_fwd nd i (q7 :: rem2) := qd ▸ iv4_1
                refine ax_iload dX12_nextForce_40 rfl (pc' := 42) rfl ?_
                refine ax_aload_n dX12_nextForce_42 rfl rfl (pc' := 43) rfl ?_
                refine ax_getr (v := 344) dX12_nextForce_43 flX12_53 rfl sh_330 rfl (pc' := 46) rfl ?_
                refine ax_iload dX12_nextForce_46 rfl (pc' := 48) rfl ?_
                refine ax_iald (v := nd i) dX12_nextForce_48 sh_344 rfl (by omega) (by omega) ((congrFun hnd i).trans rfl) (pc' := 49) rfl ?_
                refine ax_reS (st2 := [.inl q7, .inl n]) (congrArg (fun z => Sum.inl z :: _) (by exact qf.1)) ?_
                refine ax_iload_n dX12_nextForce_49 rfl rfl (pc' := 50) rfl ?_
                refine ax_icmp_gt (tgt := 57) dX12_nextForce_50 (by decide) (pc' := 53) rfl (fun h50 => ?_) (fun h50 => ?_)
                · refine ax_iconst dX12_nextForce_57 (by decide) (pc' := 58) rfl ?_
                  refine ax_iadd dX12_nextForce_58 (by omega) (pc' := 59) rfl ?_
                  refine ax_istore dX12_nextForce_59 (by decide) (ls' := [some (.inr 330), some (.inl b), some (.inl le0), some (.inl f), some (.inl (n + 0)), some (.inl i)]) rfl (pc' := 61) rfl ?_
                  refine ax_iinc dX12_nextForce_61 rfl (by decide) (by omega) (ls' := [some (.inr 330), some (.inl b), some (.inl le0), some (.inl f), some (.inl (n + 0)), some (.inl (i + 1))]) rfl (pc' := 64) rfl ?_
                  refine ax_goto dX12_nextForce_64 (pc' := 31) (by decide) ?_
                  refine ih6 (i + 1) (n + 0) rem2 ?_ ?_ ?_ ?_ ?_
                  · rw [qd, List.length_cons] at hm4
                    omega
                  · rw [qd, List.length_cons] at iv4_0
                    omega
                  · exact qf.2
                  · have e : f_cnt f (q7 :: rem2) = f_b (q7 ≤ f) + f_cnt f rem2 := rfl
                    rw [← qd] at e
                    first
                      | (rw [f_b_t h50] at e; omega)
                      | (rw [f_b_f (by omega)] at e; omega)
                  · omega
                · refine ax_iconst dX12_nextForce_53 (by decide) (pc' := 54) rfl ?_
                  refine ax_goto dX12_nextForce_54 (pc' := 58) (by decide) ?_
                  refine ax_iadd dX12_nextForce_58 (by omega) (pc' := 59) rfl ?_
                  refine ax_istore dX12_nextForce_59 (by decide) (ls' := [some (.inr 330), some (.inl b), some (.inl le0), some (.inl f), some (.inl (n + 1)), some (.inl i)]) rfl (pc' := 61) rfl ?_
                  refine ax_iinc dX12_nextForce_61 rfl (by decide) (by omega) (ls' := [some (.inr 330), some (.inl b), some (.inl le0), some (.inl f), some (.inl (n + 1)), some (.inl (i + 1))]) rfl (pc' := 64) rfl ?_
                  refine ax_goto dX12_nextForce_64 (pc' := 31) (by decide) ?_
                  refine ih6 (i + 1) (n + 1) rem2 ?_ ?_ ?_ ?_ ?_
                  · rw [qd, List.length_cons] at hm4
                    omega
                  · rw [qd, List.length_cons] at iv4_0
                    omega
                  · exact qf.2
                  · have e : f_cnt f (q7 :: rem2) = f_b (q7 ≤ f) + f_cnt f rem2 := rfl
                    rw [← qd] at e
                    first
                      | (rw [f_b_t h50] at e; omega)
                      | (rw [f_b_f (by omega)] at e; omega)
                  · omega
          refine LP4 ((Q.length : Int) : Int).toNat.succ 0 0 Q ?_ ?_ ?_ ?_ ?_
          · omega
          · omega
          · exact hg1
          · omega
          · omega
  refine LP1 (100 - 0 : Int).toNat.succ 0 (-1) (fm + 1) ?_ ?_ ?_ ?_
  · omega
  · omega
  · intro _
    rw [hg0.1]
  · intro _
    rfl
set_option maxRecDepth 20000 in
theorem s_X12_fits (E : ax_Env) (l : Launch) (d : Nat) (hd : 4 ≤ d) (M : ax_Mem) (r p what : Int) (Ls : Int → List f_Ln) {w : Int → Int} (hw : M 331 = w) {pl : Int → Int} (hpl : M 340 = pl) {F : Int → Int} (hF : M 341 = F) {nd : Int → Int} (hnd : M 344 = nd) {fm0 : Int} (hfm0 : M 330 35 = fm0) (hg0 : f_iv w) (hg1 : f_lw Ls w) (hg2 : 0 ≤ w 2577 ∧ w 2577 ≤ 6) : ax_G E l d iX12_fits [.inr 330, .inl r, .inl p, .inl what] M (fun z0 M2 => z0 = some (.inl (F_fits Ls w r p what)) ∧ (∀ x0 i0 : Int, ¬ (x0 = 340 ∨ x0 = 341 ∨ x0 = 344 ∨ (x0 = 330 ∧ i0 = 35)) → M2 x0 i0 = M x0 i0)) := by
  obtain ⟨d, rfl⟩ : ∃ d0, d = d0 + 1 := ⟨d - 1, by omega⟩
  refine ax_start rfl (Nat.le_of_ble_eq_true rfl) (ls := [some (.inr 330), some (.inl r), some (.inl p), some (.inl what), none, none, none, none, none]) rfl (fun hav hcm => ?_)
  have hc1 : -2147483648 ≤ r ∧ r < 2147483648 := hav (.inl r) (by simp)
  have hc2 : -2147483648 ≤ p ∧ p < 2147483648 := hav (.inl p) (by simp)
  have hc3 : -2147483648 ≤ what ∧ what < 2147483648 := hav (.inl what) (by simp)
  clear hav
  have qa1 := hg0.1
  refine ax_aload_n dX12_fits_0 rfl rfl (pc' := 1) rfl ?_
  refine ax_iload_n dX12_fits_1 rfl rfl (pc' := 2) rfl ?_
  refine ax_iload_n dX12_fits_2 rfl rfl (pc' := 3) rfl ?_
  refine ax_invG [.inl r, .inl p] [] dX12_fits_3 mlX12_367 sh_330 rfl rfl rfl (Nat.le_of_ble_eq_true rfl) (s_X12_isPlace E l _ (by omega) _ r p hw (by first | omega | assumption)) (pc' := 6) rfl (fun vv M_3 hq co3 hcm3 => ?_)
  obtain ⟨rfl, rfl⟩ := hq
  refine ax_reS (st2 := [.inl (f_b (f_isP w r p))]) rfl ?_
  refine ax_if_eq (tgt := 27) dX12_fits_6 (by decide) (pc' := 9) rfl (fun h6 => ?_) (fun h6 => ?_)
  · replace h6 := f_b_0 h6
    refine ax_iconst dX12_fits_27 (by decide) (pc' := 28) rfl ?_
    refine ax_iret dX12_fits_28 rfl ?_
    refine ⟨rfl, ?_, ?_⟩
    · refine congrArg (fun z => some (Sum.inl z)) ?_
      exact (if_pos (by omega)).symm
    · intro x0 i0 hai
      exact rfl
  · replace h6 := f_b_1 h6
    have qa2 := hg0.1 r (by omega) (by omega)
    refine ax_aload_n dX12_fits_9 rfl rfl (pc' := 10) rfl ?_
    refine ax_iload_n dX12_fits_10 rfl rfl (pc' := 11) rfl ?_
    refine ax_iload_n dX12_fits_11 rfl rfl (pc' := 12) rfl ?_
    refine ax_invG [.inl r, .inl p] [] dX12_fits_12 mlX12_340 sh_330 rfl rfl rfl (Nat.le_of_ble_eq_true rfl) (s_X12_isTied E l _ (by omega) _ r p hw (by first | omega | assumption) (by first | omega | assumption)) (pc' := 15) rfl (fun vv M_12 hq co12 hcm12 => ?_)
    obtain ⟨rfl, rfl⟩ := hq
    refine ax_reS (st2 := [.inl (f_b (f_P w r p 0 ≠ -1))]) rfl ?_
    refine ax_if_ne (tgt := 27) dX12_fits_15 (by decide) (pc' := 18) rfl (fun h15 => ?_) (fun h15 => ?_)
    · replace h15 := f_b_1 h15
      refine ax_iconst dX12_fits_27 (by decide) (pc' := 28) rfl ?_
      refine ax_iret dX12_fits_28 rfl ?_
      refine ⟨rfl, ?_, ?_⟩
      · refine congrArg (fun z => some (Sum.inl z)) ?_
        exact (if_pos (by omega)).symm
      · intro x0 i0 hai
        exact rfl
    · replace h15 := f_b_0 h15
      refine ax_iload_n dX12_fits_18 rfl rfl (pc' := 19) rfl ?_
      refine ax_iconst dX12_fits_19 (by decide) (pc' := 20) rfl ?_
      refine ax_iconst dX12_fits_20 (by decide) (pc' := 21) rfl ?_
      refine ax_insG [.inl what, .inl 0, .inl 3] [] dX12_fits_21 mlX12_74 rfl rfl (Nat.le_of_ble_eq_true rfl) (s_X12_isIn E l _ (by omega) _ what 0 3) (pc' := 24) rfl (fun vv M_21 hq co21 hcm21 => ?_)
      obtain ⟨rfl, rfl⟩ := hq
      refine ax_reS (st2 := [.inl (f_b (0 ≤ what ∧ what ≤ 3))]) rfl ?_
      refine ax_if_ne (tgt := 29) dX12_fits_24 (by decide) (pc' := 27) rfl (fun h24 => ?_) (fun h24 => ?_)
      · replace h24 := f_b_1 h24
        refine ax_aload_n dX12_fits_29 rfl rfl (pc' := 30) rfl ?_
        refine ax_iconst dX12_fits_30 (by decide) (pc' := 31) rfl ?_
        refine ax_puti dX12_fits_31 flX12_467 (Or.inl rfl) sh_330 rfl (pc' := 34) rfl ?_
        refine ax_iconst dX12_fits_34 (by decide) (pc' := 35) rfl ?_
        refine ax_istore dX12_fits_35 (by decide) (ls' := [some (.inr 330), some (.inl r), some (.inl p), some (.inl what), some (.inl (-1)), none, none, none, none]) rfl (pc' := 37) rfl ?_
        refine ax_iconst dX12_fits_37 (by decide) (pc' := 38) rfl ?_
        refine ax_istore dX12_fits_38 (by decide) (ls' := [some (.inr 330), some (.inl r), some (.inl p), some (.inl what), some (.inl (-1)), some (.inl (-1)), none, none, none]) rfl (pc' := 40) rfl ?_
        refine ax_iconst dX12_fits_40 (by decide) (pc' := 41) rfl ?_
        refine ax_istore dX12_fits_41 (by decide) (ls' := [some (.inr 330), some (.inl r), some (.inl p), some (.inl what), some (.inl (-1)), some (.inl (-1)), some (.inl 0), none, none]) rfl (pc' := 43) rfl ?_
        have LP1 : ∀ (kq2 : Nat) (k kn fi : Int) (nv : Int → Int) (fm : Int) (L : List Int) (M1 : ax_Mem) (hm1 : 6 - k < (kq2 : Nat)) (fr1 : ∀ x0 i0 : Int, ¬ (x0 = 344 ∨ (x0 = 330 ∧ i0 = 35) ∨ x0 = 340 ∨ x0 = 341) → M1 x0 i0 = (ax_up M 330 35 0) x0 i0) (mr1_344 : M1 344 = nv) (ms1_330_35 : M1 330 35 = fm) (iv1_0 : 0 ≤ k ∧ k ≤ 6) (iv1_1 : f_loop (fun k s => f_loop (f_ftS Ls w r p k) 1 100 s) k 6 (kn, fi, L) = f_ft Ls w r p) (iv1_2 : fm = (L.length : Int) ∧ fm ≤ 99 * k) (iv1_3 : f_pil nv L), ax_W E l (d + 1) 0 0 iX12_fits 43 [some (.inr 330), some (.inl r), some (.inl p), some (.inl what), some (.inl kn), some (.inl fi), some (.inl k), none, none] [] SH M1 (ax_P (fun z0 M2 => z0 = some (.inl (F_fits Ls w r p what)) ∧ (∀ x0 i0 : Int, ¬ (x0 = 340 ∨ x0 = 341 ∨ x0 = 344 ∨ (x0 = 330 ∧ i0 = 35)) → M2 x0 i0 = M x0 i0))) := by
          intro kq2
          induction kq2 with
          | zero =>
            intro k kn fi nv fm L M1 hm1 fr1 mr1_344 ms1_330_35 iv1_0 iv1_1 iv1_2 iv1_3
            exfalso
            omega
          | succ kq2 ih3 =>
            intro k kn fi nv fm L M1 hm1 fr1 mr1_344 ms1_330_35 iv1_0 iv1_1 iv1_2 iv1_3
            refine ax_iload dX12_fits_43 rfl (pc' := 45) rfl ?_
            refine ax_bipush dX12_fits_45 (by decide) (pc' := 47) rfl ?_
            refine ax_icmp_ge (tgt := 135) dX12_fits_47 (by decide) (pc' := 50) rfl (fun h47 => ?_) (fun h47 => ?_)
            · have qe : f_ft Ls w r p = (kn, fi, L) := iv1_1.symm.trans (f_loop_done (by omega))
              refine ax_iload_n dX12_fits_135 rfl rfl (pc' := 136) rfl ?_
              refine ax_if_ne (tgt := 146) dX12_fits_136 (by decide) (pc' := 139) rfl (fun h136 => ?_) (fun h136 => ?_)
              · refine ax_iload_n dX12_fits_146 rfl rfl (pc' := 147) rfl ?_
                refine ax_iconst dX12_fits_147 (by decide) (pc' := 148) rfl ?_
                refine ax_icmp_ne (tgt := 156) dX12_fits_148 (by decide) (pc' := 151) rfl (fun h148 => ?_) (fun h148 => ?_)
                · refine ax_iload_n dX12_fits_156 rfl rfl (pc' := 157) rfl ?_
                  refine ax_iconst dX12_fits_157 (by decide) (pc' := 158) rfl ?_
                  refine ax_icmp_ne (tgt := 166) dX12_fits_158 (by decide) (pc' := 161) rfl (fun h158 => ?_) (fun h158 => ?_)
                  · refine ax_aload_n dX12_fits_166 rfl rfl (pc' := 167) rfl ?_
                    refine ax_invG [] [] dX12_fits_167 mlX12_473 sh_330 rfl rfl rfl (Nat.le_of_ble_eq_true rfl) (s_X12_nextForce E l _ (by omega) _ L.reverse mr1_344 ms1_330_35 ⟨by rw [List.length_reverse]; omega, by omega⟩ (f_fwd_rev iv1_3)) (pc' := 170) rfl (fun vv M_167 hq co167 hcm167 => ?_)
                    obtain ⟨rfl, rfl⟩ := hq
                    refine ax_reS (st2 := [.inl (F_next L.reverse)]) rfl ?_
                    have cc167 : -2147483648 ≤ F_next L.reverse ∧ F_next L.reverse < 2147483648 := co167 _ rfl
                    refine ax_iret dX12_fits_170 rfl ?_
                    refine ⟨rfl, ?_, ?_⟩
                    · refine congrArg (fun z => some (Sum.inl z)) ?_
                      unfold F_fits
                      rw [qe]
                      dsimp only
                      repeat' split
                      all_goals first | rfl | omega | (exfalso; omega)
                    · intro x0 i0 hai
                      exact ((fr1 x0 i0 (by omega)).trans (ax_up_miss (by omega) rfl))
                  · refine ax_iload dX12_fits_161 rfl (pc' := 163) rfl ?_
                    refine ax_goto dX12_fits_163 (pc' := 170) (by decide) ?_
                    refine ax_iret dX12_fits_170 rfl ?_
                    refine ⟨rfl, ?_, ?_⟩
                    · refine congrArg (fun z => some (Sum.inl z)) ?_
                      unfold F_fits
                      rw [qe]
                      dsimp only
                      repeat' split
                      all_goals first | rfl | omega | (exfalso; omega)
                    · intro x0 i0 hai
                      exact ((fr1 x0 i0 (by omega)).trans (ax_up_miss (by omega) rfl))
                · refine ax_iload dX12_fits_151 rfl (pc' := 153) rfl ?_
                  refine ax_goto dX12_fits_153 (pc' := 170) (by decide) ?_
                  refine ax_iret dX12_fits_170 rfl ?_
                  refine ⟨rfl, ?_, ?_⟩
                  · refine congrArg (fun z => some (Sum.inl z)) ?_
                    unfold F_fits
                    rw [qe]
                    dsimp only
                    repeat' split
                    all_goals first | rfl | omega | (exfalso; omega)
                  · intro x0 i0 hai
                    exact ((fr1 x0 i0 (by omega)).trans (ax_up_miss (by omega) rfl))
              · refine ax_aload_n dX12_fits_139 rfl rfl (pc' := 140) rfl ?_
                refine ax_geti (v := fm) dX12_fits_140 flX12_467 rfl sh_330 ms1_330_35 rfl (pc' := 143) rfl ?_
                refine ax_goto dX12_fits_143 (pc' := 170) (by decide) ?_
                refine ax_iret dX12_fits_170 rfl ?_
                refine ⟨rfl, ?_, ?_⟩
                · refine congrArg (fun z => some (Sum.inl z)) ?_
                  unfold F_fits
                  rw [qe]
                  dsimp only
                  repeat' split
                  all_goals first | rfl | omega | (exfalso; omega)
                · intro x0 i0 hai
                  exact ((fr1 x0 i0 (by omega)).trans (ax_up_miss (by omega) rfl))
            · refine ax_iconst dX12_fits_50 (by decide) (pc' := 51) rfl ?_
              refine ax_istore dX12_fits_51 (by decide) (ls' := [some (.inr 330), some (.inl r), some (.inl p), some (.inl what), some (.inl kn), some (.inl fi), some (.inl k), some (.inl 1), none]) rfl (pc' := 53) rfl ?_
              have LP4 : ∀ (kq5 : Nat) (v kn2 fi2 : Int) (nv2 : Int → Int) (fm2 : Int) (L2 : List Int) (M4 : ax_Mem) (hm4 : 100 - v < (kq5 : Nat)) (fr4 : ∀ x0 i0 : Int, ¬ (x0 = 344 ∨ (x0 = 330 ∧ i0 = 35) ∨ x0 = 340 ∨ x0 = 341) → M4 x0 i0 = M1 x0 i0) (mr4_344 : M4 344 = nv2) (ms4_330_35 : M4 330 35 = fm2) (iv4_0 : 1 ≤ v ∧ v ≤ 100) (iv4_1 : f_loop (f_ftS Ls w r p k) v 100 (kn2, fi2, L2) = f_loop (f_ftS Ls w r p k) 1 100 (kn, fi, L)) (iv4_2 : fm2 = (L2.length : Int) ∧ fm2 ≤ 99 * k + v - 1) (iv4_3 : f_pil nv2 L2), ax_W E l (d + 1) 0 0 iX12_fits 53 [some (.inr 330), some (.inl r), some (.inl p), some (.inl what), some (.inl kn2), some (.inl fi2), some (.inl k), some (.inl v), none] [] SH M4 (ax_P (fun z0 M2 => z0 = some (.inl (F_fits Ls w r p what)) ∧ (∀ x0 i0 : Int, ¬ (x0 = 340 ∨ x0 = 341 ∨ x0 = 344 ∨ (x0 = 330 ∧ i0 = 35)) → M2 x0 i0 = M x0 i0))) := by
                intro kq5
                induction kq5 with
                | zero =>
                  intro v kn2 fi2 nv2 fm2 L2 M4 hm4 fr4 mr4_344 ms4_330_35 iv4_0 iv4_1 iv4_2 iv4_3
                  exfalso
                  omega
                | succ kq5 ih6 =>
                  intro v kn2 fi2 nv2 fm2 L2 M4 hm4 fr4 mr4_344 ms4_330_35 iv4_0 iv4_1 iv4_2 iv4_3
                  refine ax_iload dX12_fits_53 rfl (pc' := 55) rfl ?_
                  refine ax_bipush dX12_fits_55 (by decide) (pc' := 57) rfl ?_
                  refine ax_icmp_gt (tgt := 129) dX12_fits_57 (by decide) (pc' := 60) rfl (fun h57 => ?_) (fun h57 => ?_)
                  · refine ax_iinc dX12_fits_129 rfl (by decide) (by omega) (ls' := [some (.inr 330), some (.inl r), some (.inl p), some (.inl what), some (.inl kn2), some (.inl fi2), some (.inl (k + 1)), some (.inl v), none]) rfl (pc' := 132) rfl ?_
                    refine ax_goto dX12_fits_132 (pc' := 43) (by decide) ?_
                    refine ax_less (ls2 := [some (.inr 330), some (.inl r), some (.inl p), some (.inl what), some (.inl kn2), some (.inl fi2), some (.inl (k + 1)), none, none]) [true, true, true, true, true, true, true, false, false] rfl ?_
                    refine ih3 (k + 1) kn2 fi2 nv2 fm2 L2 M4 ?_ ?_ ?_ ?_ ?_ ?_ ?_ ?_
                    · omega
                    · intro x0 i0 hai
                      exact ((fr4 x0 i0 (by omega)).trans ((fr1 x0 i0 (by omega)).trans rfl))
                    · exact mr4_344
                    · exact ms4_330_35
                    · omega
                    · rw [f_loop_done (by omega)] at iv4_1
                      rw [iv4_1]
                      exact f_loop_back (by omega) iv1_1 rfl
                    · omega
                    · exact iv4_3
                  · refine ax_aload_n dX12_fits_60 rfl rfl (pc' := 61) rfl ?_
                    refine ax_iload_n dX12_fits_61 rfl rfl (pc' := 62) rfl ?_
                    refine ax_iload_n dX12_fits_62 rfl rfl (pc' := 63) rfl ?_
                    refine ax_iload dX12_fits_63 rfl (pc' := 65) rfl ?_
                    refine ax_iload dX12_fits_65 rfl (pc' := 67) rfl ?_
                    refine ax_iconst dX12_fits_67 (by decide) (pc' := 68) rfl ?_
                    refine ax_invG [.inl r, .inl p, .inl k, .inl v, .inl 0] [] dX12_fits_68 mlX12_357 sh_330 rfl rfl rfl (Nat.le_of_ble_eq_true rfl) (s_X12_needWith E l _ (by omega) _ r p k v 0 Ls ((funext fun i0 => fr4 331 i0 (by omega)).trans ((funext fun i0 => fr1 331 i0 (by omega)).trans (ax_up_rowmiss (by decide) hw))) rfl rfl (by first | omega | assumption) (by first | omega | assumption) (by first | omega | assumption) (by first | omega | assumption) (by first | omega | assumption) (by first | omega | assumption)) (pc' := 71) rfl (fun vv M_68 hq co68 hcm68 => ?_)
                    obtain ⟨rfl, frM_68⟩ := hq
                    refine ax_reS (st2 := [.inl (f_needW Ls w r p k v 0)]) rfl ?_
                    have cc68 : -2147483648 ≤ f_needW Ls w r p k v 0 ∧ f_needW Ls w r p k v 0 < 2147483648 := co68 _ rfl
                    refine ax_istore dX12_fits_71 (by decide) (ls' := [some (.inr 330), some (.inl r), some (.inl p), some (.inl what), some (.inl kn2), some (.inl fi2), some (.inl k), some (.inl v), some (.inl (f_needW Ls w r p k v 0))]) rfl (pc' := 73) rfl ?_
                    refine ax_aload_n dX12_fits_73 rfl rfl (pc' := 74) rfl ?_
                    refine ax_iload dX12_fits_74 rfl (pc' := 76) rfl ?_
                    refine ax_iload dX12_fits_76 rfl (pc' := 78) rfl ?_
                    refine ax_invG [.inl k, .inl (f_needW Ls w r p k v 0)] [] dX12_fits_78 mlX12_470 sh_330 rfl rfl rfl (Nat.le_of_ble_eq_true rfl) (s_X12_fitsWith E l _ (by omega) _ k (f_needW Ls w r p k v 0) ((funext fun i0 => frM_68 331 i0 (by omega)).trans ((funext fun i0 => fr4 331 i0 (by omega)).trans ((funext fun i0 => fr1 331 i0 (by omega)).trans (ax_up_rowmiss (by decide) hw)))) (by first | omega | assumption)) (pc' := 81) rfl (fun vv M_78 hq co78 hcm78 => ?_)
                    obtain ⟨rfl, rfl⟩ := hq
                    refine ax_reS (st2 := [.inl (f_b (f_fw w k (f_needW Ls w r p k v 0)))]) rfl ?_
                    refine ax_if_ne (tgt := 87) dX12_fits_81 (by decide) (pc' := 84) rfl (fun h81 => ?_) (fun h81 => ?_)
                    · replace h81 := f_b_1 h81
                      refine ax_aload_n dX12_fits_87 rfl rfl (pc' := 88) rfl ?_
                      refine ax_geti (v := fm2) dX12_fits_88 flX12_467 rfl sh_330 ((frM_68 330 35 (by omega)).trans ms4_330_35) rfl (pc' := 91) rfl ?_
                      refine ax_if_ne (tgt := 102) dX12_fits_91 (by decide) (pc' := 94) rfl (fun h91 => ?_) (fun h91 => ?_)
                      · have qst : f_ftS Ls w r p k v (kn2, fi2, L2) = (kn2, fi2, f_needW Ls w r p k v 0 :: L2) := by
                          unfold f_ftS
                          simp only []
                          rw [if_pos h81, if_neg (by omega)]
                        refine ax_aload_n dX12_fits_102 rfl rfl (pc' := 103) rfl ?_
                        refine ax_getr (v := 344) dX12_fits_103 flX12_53 rfl sh_330 rfl (pc' := 106) rfl ?_
                        refine ax_aload_n dX12_fits_106 rfl rfl (pc' := 107) rfl ?_
                        refine ax_geti (v := fm2) dX12_fits_107 flX12_467 rfl sh_330 ((frM_68 330 35 (by omega)).trans ms4_330_35) rfl (pc' := 110) rfl ?_
                        refine ax_iload dX12_fits_110 rfl (pc' := 112) rfl ?_
                        refine ax_iast dX12_fits_112 sh_344 rfl (by omega) (by omega) (pc' := 113) rfl ?_
                        refine ax_aload_n dX12_fits_113 rfl rfl (pc' := 114) rfl ?_
                        refine ax_dup dX12_fits_114 (pc' := 115) rfl ?_
                        refine ax_geti (v := fm2) dX12_fits_115 flX12_467 rfl sh_330 (show (ax_up M_68 344 fm2 (f_needW Ls w r p k v 0)) 330 35 = fm2 from (ax_up_miss (by omega) ((frM_68 330 35 (by omega)).trans ms4_330_35))) rfl (pc' := 118) rfl ?_
                        refine ax_iconst dX12_fits_118 (by decide) (pc' := 119) rfl ?_
                        refine ax_iadd dX12_fits_119 (by omega) (pc' := 120) rfl ?_
                        refine ax_puti dX12_fits_120 flX12_467 (Or.inl rfl) sh_330 rfl (pc' := 123) rfl ?_
                        refine ax_iinc dX12_fits_123 rfl (by decide) (by omega) (ls' := [some (.inr 330), some (.inl r), some (.inl p), some (.inl what), some (.inl kn2), some (.inl fi2), some (.inl k), some (.inl (v + 1)), some (.inl (f_needW Ls w r p k v 0))]) rfl (pc' := 126) rfl ?_
                        refine ax_goto dX12_fits_126 (pc' := 53) (by decide) ?_
                        refine ax_less (ls2 := [some (.inr 330), some (.inl r), some (.inl p), some (.inl what), some (.inl kn2), some (.inl fi2), some (.inl k), some (.inl (v + 1)), none]) [true, true, true, true, true, true, true, true, false] rfl ?_
                        refine ih6 (v + 1) kn2 fi2 (f_up nv2 fm2 (f_needW Ls w r p k v 0)) (fm2 + 1) ((f_ftS Ls w r p k v (kn2, fi2, L2)).2.2) (ax_up (ax_up M_68 344 fm2 (f_needW Ls w r p k v 0)) 330 35 (fm2 + 1)) ?_ ?_ ?_ ?_ ?_ ?_ ?_ ?_
                        · omega
                        · intro x0 i0 hai
                          exact (ax_up_miss (by omega) (ax_up_miss (by omega) ((frM_68 x0 i0 (by omega)).trans ((fr4 x0 i0 (by omega)).trans rfl))))
                        · exact (ax_up_rowmiss (by decide) (ax_up_rowhit ((funext fun i0 => frM_68 344 i0 (by omega)).trans mr4_344)))
                        · exact (ax_up_hit _ _ _ _)
                        · omega
                        · refine f_loop_back (by omega) iv4_1 ?_
                          rw [qst]
                        · rw [qst]
                          first
                            | omega
                            | (simp only [List.length_cons]; omega)
                        · rw [qst]
                          first
                            | exact iv4_3
                            | exact f_pil_push (by omega) iv4_3
                      · have qst : f_ftS Ls w r p k v (kn2, fi2, L2) = (k, v, f_needW Ls w r p k v 0 :: L2) := by
                          unfold f_ftS
                          simp only []
                          rw [if_pos h81, if_pos (by omega)]
                        refine ax_iload dX12_fits_94 rfl (pc' := 96) rfl ?_
                        refine ax_istore dX12_fits_96 (by decide) (ls' := [some (.inr 330), some (.inl r), some (.inl p), some (.inl what), some (.inl k), some (.inl fi2), some (.inl k), some (.inl v), some (.inl (f_needW Ls w r p k v 0))]) rfl (pc' := 98) rfl ?_
                        refine ax_iload dX12_fits_98 rfl (pc' := 100) rfl ?_
                        refine ax_istore dX12_fits_100 (by decide) (ls' := [some (.inr 330), some (.inl r), some (.inl p), some (.inl what), some (.inl k), some (.inl v), some (.inl k), some (.inl v), some (.inl (f_needW Ls w r p k v 0))]) rfl (pc' := 102) rfl ?_
                        refine ax_aload_n dX12_fits_102 rfl rfl (pc' := 103) rfl ?_
                        refine ax_getr (v := 344) dX12_fits_103 flX12_53 rfl sh_330 rfl (pc' := 106) rfl ?_
                        refine ax_aload_n dX12_fits_106 rfl rfl (pc' := 107) rfl ?_
                        refine ax_geti (v := fm2) dX12_fits_107 flX12_467 rfl sh_330 ((frM_68 330 35 (by omega)).trans ms4_330_35) rfl (pc' := 110) rfl ?_
                        refine ax_iload dX12_fits_110 rfl (pc' := 112) rfl ?_
                        refine ax_iast dX12_fits_112 sh_344 rfl (by omega) (by omega) (pc' := 113) rfl ?_
                        refine ax_aload_n dX12_fits_113 rfl rfl (pc' := 114) rfl ?_
                        refine ax_dup dX12_fits_114 (pc' := 115) rfl ?_
                        refine ax_geti (v := fm2) dX12_fits_115 flX12_467 rfl sh_330 (show (ax_up M_68 344 fm2 (f_needW Ls w r p k v 0)) 330 35 = fm2 from (ax_up_miss (by omega) ((frM_68 330 35 (by omega)).trans ms4_330_35))) rfl (pc' := 118) rfl ?_
                        refine ax_iconst dX12_fits_118 (by decide) (pc' := 119) rfl ?_
                        refine ax_iadd dX12_fits_119 (by omega) (pc' := 120) rfl ?_
                        refine ax_puti dX12_fits_120 flX12_467 (Or.inl rfl) sh_330 rfl (pc' := 123) rfl ?_
                        refine ax_iinc dX12_fits_123 rfl (by decide) (by omega) (ls' := [some (.inr 330), some (.inl r), some (.inl p), some (.inl what), some (.inl k), some (.inl v), some (.inl k), some (.inl (v + 1)), some (.inl (f_needW Ls w r p k v 0))]) rfl (pc' := 126) rfl ?_
                        refine ax_goto dX12_fits_126 (pc' := 53) (by decide) ?_
                        refine ax_less (ls2 := [some (.inr 330), some (.inl r), some (.inl p), some (.inl what), some (.inl k), some (.inl v), some (.inl k), some (.inl (v + 1)), none]) [true, true, true, true, true, true, true, true, false] rfl ?_
                        refine ih6 (v + 1) k v (f_up nv2 fm2 (f_needW Ls w r p k v 0)) (fm2 + 1) ((f_ftS Ls w r p k v (kn2, fi2, L2)).2.2) (ax_up (ax_up M_68 344 fm2 (f_needW Ls w r p k v 0)) 330 35 (fm2 + 1)) ?_ ?_ ?_ ?_ ?_ ?_ ?_ ?_
                        · omega
                        · intro x0 i0 hai
                          exact (ax_up_miss (by omega) (ax_up_miss (by omega) ((frM_68 x0 i0 (by omega)).trans ((fr4 x0 i0 (by omega)).trans rfl))))
                        · exact (ax_up_rowmiss (by decide) (ax_up_rowhit ((funext fun i0 => frM_68 344 i0 (by omega)).trans mr4_344)))
                        · exact (ax_up_hit _ _ _ _)
                        · omega
                        · refine f_loop_back (by omega) iv4_1 ?_
                          rw [qst]
                        · rw [qst]
                          first
                            | omega
                            | (simp only [List.length_cons]; omega)
                        · rw [qst]
                          first
                            | exact iv4_3
                            | exact f_pil_push (by omega) iv4_3
                    · replace h81 := f_b_0 h81
                      have qst : f_ftS Ls w r p k v (kn2, fi2, L2) = (kn2, fi2, L2) := if_neg h81
                      refine ax_goto dX12_fits_84 (pc' := 123) (by decide) ?_
                      refine ax_iinc dX12_fits_123 rfl (by decide) (by omega) (ls' := [some (.inr 330), some (.inl r), some (.inl p), some (.inl what), some (.inl kn2), some (.inl fi2), some (.inl k), some (.inl (v + 1)), some (.inl (f_needW Ls w r p k v 0))]) rfl (pc' := 126) rfl ?_
                      refine ax_goto dX12_fits_126 (pc' := 53) (by decide) ?_
                      refine ax_less (ls2 := [some (.inr 330), some (.inl r), some (.inl p), some (.inl what), some (.inl kn2), some (.inl fi2), some (.inl k), some (.inl (v + 1)), none]) [true, true, true, true, true, true, true, true, false] rfl ?_
                      refine ih6 (v + 1) kn2 fi2 nv2 fm2 ((f_ftS Ls w r p k v (kn2, fi2, L2)).2.2) M_68 ?_ ?_ ?_ ?_ ?_ ?_ ?_ ?_
                      · omega
                      · intro x0 i0 hai
                        exact ((frM_68 x0 i0 (by omega)).trans ((fr4 x0 i0 (by omega)).trans rfl))
                      · exact ((funext fun i0 => frM_68 344 i0 (by omega)).trans mr4_344)
                      · exact ((frM_68 330 35 (by omega)).trans ms4_330_35)
                      · omega
                      · refine f_loop_back (by omega) iv4_1 ?_
                        rw [qst]
                      · rw [qst]
                        first
                          | omega
                          | (simp only [List.length_cons]; omega)
                      · rw [qst]
                        first
                          | exact iv4_3
                          | exact f_pil_push (by omega) iv4_3
              refine LP4 (100 - 1 : Int).toNat.succ 1 kn fi nv fm L M1 ?_ ?_ ?_ ?_ ?_ ?_ ?_ ?_
              · omega
              · exact fun a i _ => rfl
              · exact mr1_344
              · exact ms1_330_35
              · omega
              · rfl
              · omega
              · exact iv1_3
        refine LP1 (6 - 0 : Int).toNat.succ 0 (-1) (-1) nd 0 ([]) (ax_up M 330 35 0) ?_ ?_ ?_ ?_ ?_ ?_ ?_ ?_
        · omega
        · exact fun a i _ => rfl
        · exact (ax_up_rowmiss (by decide) hnd)
        · exact (ax_up_hit _ _ _ _)
        · omega
        · rfl
        · exact ⟨rfl, by omega⟩
        · trivial
      · replace h24 := f_b_0 h24
        refine ax_iconst dX12_fits_27 (by decide) (pc' := 28) rfl ?_
        refine ax_iret dX12_fits_28 rfl ?_
        refine ⟨rfl, ?_, ?_⟩
        · refine congrArg (fun z => some (Sum.inl z)) ?_
          exact (if_pos (by omega)).symm
        · intro x0 i0 hai
          exact rfl
