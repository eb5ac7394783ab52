/-! pasts that fit -/
def f_cte (n : Int) : List Int → Int
  | [] => 0
  | q :: tl => (if q = n then 1 else 0) + f_cte n tl
theorem f_cte_pos (n : Int) : ∀ Q : List Int, 0 ≤ f_cte n Q ∧ f_cte n Q ≤ (Q.length : Int)
  | [] => by
    show (0 : Int) ≤ 0 ∧ (0 : Int) ≤ ((0 : Nat) : Int)
    omega
  | q :: tl => by
    have h := f_cte_pos n tl
    show 0 ≤ (if q = n then 1 else 0) + f_cte n tl ∧ (if q = n then 1 else 0) + f_cte n tl ≤ ((tl.length + 1 : Nat) : Int)
    split <;> omega
theorem f_tied_eq {w x : Int → Int} {r : Int} (ht : ∀ q, 0 ≤ q → q < 24 → f_P x r q 0 = f_P w r q 0) (h1 : f_R x r 1 = f_R w r 1) (hl : f_R w r 1 ≤ 24) : f_tied x r = f_tied w r := by
  unfold f_tied
  rw [h1]
  exact f_lp_cg (fun i y i1 i2 => by rw [ht i i1 (by omega)])
theorem f_besd_eq {w x : Int → Int} {r p : Int} (ht : ∀ q, 0 ≤ q → q < 24 → f_P x r q 0 = f_P w r q 0) (h1 : f_R x r 1 = f_R w r 1) (hp : 0 ≤ p ∧ p < f_R w r 1) (hl : f_R w r 1 ≤ 24) : f_besd x r p = f_besd w r p := by
  unfold f_besd
  rw [h1]
  have e1 : f_b (0 < p ∧ f_P x r (p - 1) 0 ≠ -1) = f_b (0 < p ∧ f_P w r (p - 1) 0 ≠ -1) := by
    by_cases h0 : 0 < p
    · rw [ht (p - 1) (by omega) (by omega)]
    · unfold f_b
      rw [if_neg (fun z => h0 z.1), if_neg (fun z => h0 z.1)]
  have e2 : f_b (p + 1 < f_R w r 1 ∧ f_P x r (p + 1) 0 ≠ -1) = f_b (p + 1 < f_R w r 1 ∧ f_P w r (p + 1) 0 ≠ -1) := by
    by_cases h0 : p + 1 < f_R w r 1
    · rw [ht (p + 1) (by omega) (by omega)]
    · unfold f_b
      rw [if_neg (fun z => h0 z.1), if_neg (fun z => h0 z.1)]
  rw [e1, e2]
theorem f_needW_eq {Ls : Int → List f_Ln} {w x : Int → Int} {r p k h a : Int} (hr : 0 ≤ r ∧ r < 8) (hs : f_sm w x) (ht : ∀ q, 0 ≤ q → q < 24 → f_P x r q 0 = f_P w r q 0) (hp : 0 ≤ p ∧ p < f_R w r 1) (hl : f_R w r 1 ≤ 24) (hk : 0 ≤ k ∧ k < 6) : f_needW Ls x r p k h a = f_needW Ls w r p k h a := by
  have e : f_Fh x r p k h a = f_Fh w r p k h a := by
    funext i
    have h1 := hs.2.2.2.2 r 1 ⟨hr.1, hr.2, by decide, by decide⟩
    unfold f_Fh
    rw [hs.1 (2564 + k) (by omega) (by omega), hs.2.2.2.2 r 4 ⟨hr.1, hr.2, by decide, by decide⟩, f_besd_eq ht h1 hp hl, f_tied_eq ht h1 hl]
  unfold f_needW
  rw [e]
theorem f_hab_0 {x : Int → Int} {r p k v s q : Int} (hr : 0 ≤ r ∧ r < 8) (hp : 0 ≤ p ∧ p < 24) (hk : 0 ≤ k ∧ k < 6) (hq : 0 ≤ q ∧ q < 24) : f_P (f_hab x r p k v s) r q 0 = f_P x r q 0 := by
  rw [f_P_hab ⟨hr.1, hr.2, hp.1, hp.2, hk.1, hk.2⟩ ⟨hr.1, hr.2, hq.1, hq.2, by decide, by decide⟩, if_neg (by omega), if_neg (by omega)]
theorem f_needW_rg {Ls : Int → List f_Ln} {w : Int → Int} {r p k h a : Int} : 0 ≤ f_needW Ls w r p k h a ∧ f_needW Ls w r p k h a ≤ 999 := by
  unfold f_needW
  omega
theorem f_cnt_stp {f : Int} : ∀ Q : List Int, f_cnt f Q = f_cnt (f - 1) Q + f_cte f Q
  | [] => rfl
  | q :: tl => by
    have h := f_cnt_stp (f := f) tl
    show f_b (q ≤ f) + f_cnt f tl = f_b (q ≤ f - 1) + f_cnt (f - 1) tl + ((if q = f then 1 else 0) + f_cte f tl)
    have e : f_b (q ≤ f) = f_b (q ≤ f - 1) + (if q = f then 1 else 0) := by
      unfold f_b
      repeat' split
      all_goals omega
    omega
theorem f_cnt_neg : ∀ Q : List Int, (∀ q ∈ Q, 0 ≤ q) → f_cnt (0 - 1) Q = 0
  | [], _ => rfl
  | q :: tl, h => by
    have h1 := h q (List.mem_cons_self)
    show f_b (q ≤ 0 - 1) + f_cnt (0 - 1) tl = 0
    rw [f_cnt_neg tl (fun z hz => h z (List.mem_cons_of_mem _ hz))]
    unfold f_b
    rw [if_neg (by omega)]
    rfl
theorem f_cnt_app {f : Int} : ∀ A B : List Int, f_cnt f (A ++ B) = f_cnt f A + f_cnt f B
  | [], B => (Int.zero_add _).symm
  | q :: tl, B => by
    show f_b (q ≤ f) + f_cnt f (tl ++ B) = f_b (q ≤ f) + f_cnt f tl + f_cnt f B
    rw [f_cnt_app tl B]
    omega
theorem f_cnt_rev {f : Int} : ∀ A : List Int, f_cnt f A.reverse = f_cnt f A
  | [] => rfl
  | q :: tl => by
    rw [List.reverse_cons, f_cnt_app, f_cnt_rev tl]
    show f_cnt f tl + (f_b (q ≤ f) + 0) = f_b (q ≤ f) + f_cnt f tl
    omega
theorem F_next_rev (Q : List Int) : F_next Q.reverse = F_next Q := by
  unfold F_next
  rw [List.length_reverse]
  have e : f_nxS Q.reverse = f_nxS Q := by
    funext f s
    unfold f_nxS
    rw [f_cnt_rev, List.length_reverse]
  rw [e]
set_option maxRecDepth 20000 in
theorem s_X2_agreesWithTold (E : ax_Env) (l : Launch) (d : Nat) (hd : 0 ≤ d) (M : ax_Mem) (k n : Int) (w : Int → Int) (hg0 : f_tl M 39 w) (hg1 : 0 ≤ w 2577 ∧ w 2577 ≤ 6) : ax_G E l d iX2_agreesWithTold [.inr 71, .inl k, .inl n] M (fun z0 M2 => z0 = some (.inl (f_b (f_fw w k n))) ∧ M = M2) := by
  refine ax_start rfl (Nat.le_of_ble_eq_true rfl) (ls := [some (.inr 71), some (.inl k), some (.inl n), none, none]) rfl (fun hav hcm => ?_)
  have hc1 : -2147483648 ≤ k ∧ k < 2147483648 := hav (.inl k) (by simp)
  have hc2 : -2147483648 ≤ n ∧ n < 2147483648 := hav (.inl n) (by simp)
  clear hav
  have qc : M 39 6 = w 2577 := hg0.1
  refine ax_iconst dX2_agreesWithTold_0 (by decide) (pc' := 1) rfl ?_
  refine ax_istore_n dX2_agreesWithTold_1 rfl (by decide) (ls' := [some (.inr 71), some (.inl k), some (.inl n), some (.inl 0), none]) rfl (pc' := 2) rfl ?_
  have LP1 : ∀ (kq2 : Nat) (i : Int) (hm1 : w 2577 - i < (kq2 : Nat)) (iv1_0 : 0 ≤ i ∧ i ≤ w 2577) (iv1_1 : f_first (f_fwC w k n) i (w 2577) = f_first (f_fwC w k n) 0 (w 2577)), ax_W E l d 0 0 iX2_agreesWithTold 2 [some (.inr 71), some (.inl k), some (.inl n), some (.inl i), none] [] SH M (ax_P (fun z0 M2 => z0 = some (.inl (f_b (f_fw w k n))) ∧ M = M2)) := by
    intro kq2
    induction kq2 with
    | zero =>
      intro i hm1 iv1_0 iv1_1
      exfalso
      omega
    | succ kq2 ih3 =>
      intro i hm1 iv1_0 iv1_1
      refine ax_iload_n dX2_agreesWithTold_2 rfl rfl (pc' := 3) rfl ?_
      refine ax_aload_n dX2_agreesWithTold_3 rfl rfl (pc' := 4) rfl ?_
      refine ax_getr (v := 39) dX2_agreesWithTold_4 flX2_23 rfl sh_71 rfl (pc' := 7) rfl ?_
      refine ax_geti (v := M 39 6) dX2_agreesWithTold_7 flX2_126 rfl sh_39 rfl rfl (pc' := 10) rfl ?_
      refine ax_icmp_ge (tgt := 55) dX2_agreesWithTold_10 (by decide) (pc' := 13) rfl (fun h10 => ?_) (fun h10 => ?_)
      · refine ax_iconst dX2_agreesWithTold_55 (by decide) (pc' := 56) rfl ?_
        refine ax_zret dX2_agreesWithTold_56 rfl (by decide) ?_
        refine ⟨rfl, ?_, ?_⟩
        · refine congrArg (fun z => some (Sum.inl z)) ?_
          unfold f_b f_fw
          rw [if_pos (by rw [← iv1_1, f_first_done (by omega)])]
        · rfl
      · have qt := hg0.2 i (by omega) (by omega)
        have qt1 : M 49 i = w (2580 + 2 * i) := qt.1
        have qt2 : M 50 i = w (2580 + 2 * i + 1) := qt.2
        refine ax_iload_n dX2_agreesWithTold_13 rfl rfl (pc' := 14) rfl ?_
        refine ax_aload_n dX2_agreesWithTold_14 rfl rfl (pc' := 15) rfl ?_
        refine ax_getr (v := 39) dX2_agreesWithTold_15 flX2_23 rfl sh_71 rfl (pc' := 18) rfl ?_
        refine ax_getr (v := 49) dX2_agreesWithTold_18 flX2_129 rfl sh_39 rfl (pc' := 21) rfl ?_
        refine ax_iload_n dX2_agreesWithTold_21 rfl rfl (pc' := 22) rfl ?_
        refine ax_iald (v := (M 49) i) dX2_agreesWithTold_22 sh_49 rfl (by omega) (by omega) ((congrFun rfl i).trans rfl) (pc' := 23) rfl ?_
        refine ax_icmp_gt (tgt := 30) dX2_agreesWithTold_23 (by decide) (pc' := 26) rfl (fun h23 => ?_) (fun h23 => ?_)
        · refine ax_iconst dX2_agreesWithTold_30 (by decide) (pc' := 31) rfl ?_
          refine ax_istore dX2_agreesWithTold_31 (by decide) (ls' := [some (.inr 71), some (.inl k), some (.inl n), some (.inl i), some (.inl (-1))]) rfl (pc' := 33) rfl ?_
          refine ax_iload dX2_agreesWithTold_33 rfl (pc' := 35) rfl ?_
          refine ax_aload_n dX2_agreesWithTold_35 rfl rfl (pc' := 36) rfl ?_
          refine ax_getr (v := 39) dX2_agreesWithTold_36 flX2_23 rfl sh_71 rfl (pc' := 39) rfl ?_
          refine ax_getr (v := 50) dX2_agreesWithTold_39 flX2_132 rfl sh_39 rfl (pc' := 42) rfl ?_
          refine ax_iload_n dX2_agreesWithTold_42 rfl rfl (pc' := 43) rfl ?_
          refine ax_iald (v := (M 50) i) dX2_agreesWithTold_43 sh_50 rfl (by omega) (by omega) ((congrFun rfl i).trans rfl) (pc' := 44) rfl ?_
          refine ax_icmp_eq (tgt := 49) dX2_agreesWithTold_44 (by decide) (pc' := 47) rfl (fun h44 => ?_) (fun h44 => ?_)
          · have qnc : ¬ f_fwC w k n i := fun z => by
              unfold f_fwC at z
              split at z <;> omega
            refine ax_iinc dX2_agreesWithTold_49 rfl (by decide) (by omega) (ls' := [some (.inr 71), some (.inl k), some (.inl n), some (.inl (i + 1)), some (.inl (-1))]) rfl (pc' := 52) rfl ?_
            refine ax_goto dX2_agreesWithTold_52 (pc' := 2) (by decide) ?_
            refine ax_less (ls2 := [some (.inr 71), some (.inl k), some (.inl n), some (.inl (i + 1)), none]) [true, true, true, true, false] rfl ?_
            refine ih3 (i + 1) ?_ ?_ ?_
            · omega
            · omega
            · rw [← iv1_1]
              exact (f_first_miss (by omega) qnc).symm
          · have qyc : f_fwC w k n i := by
              unfold f_fwC
              split <;> omega
            refine ax_iconst dX2_agreesWithTold_47 (by decide) (pc' := 48) rfl ?_
            refine ax_zret dX2_agreesWithTold_48 rfl (by decide) ?_
            refine ⟨rfl, ?_, ?_⟩
            · refine congrArg (fun z => some (Sum.inl z)) ?_
              unfold f_b f_fw
              rw [if_neg (by rw [← iv1_1, f_first_hit (by omega) qyc]; omega)]
            · rfl
        · refine ax_iload_n dX2_agreesWithTold_26 rfl rfl (pc' := 27) rfl ?_
          refine ax_goto dX2_agreesWithTold_27 (pc' := 31) (by decide) ?_
          refine ax_istore dX2_agreesWithTold_31 (by decide) (ls' := [some (.inr 71), some (.inl k), some (.inl n), some (.inl i), some (.inl k)]) rfl (pc' := 33) rfl ?_
          refine ax_iload dX2_agreesWithTold_33 rfl (pc' := 35) rfl ?_
          refine ax_aload_n dX2_agreesWithTold_35 rfl rfl (pc' := 36) rfl ?_
          refine ax_getr (v := 39) dX2_agreesWithTold_36 flX2_23 rfl sh_71 rfl (pc' := 39) rfl ?_
          refine ax_getr (v := 50) dX2_agreesWithTold_39 flX2_132 rfl sh_39 rfl (pc' := 42) rfl ?_
          refine ax_iload_n dX2_agreesWithTold_42 rfl rfl (pc' := 43) rfl ?_
          refine ax_iald (v := (M 50) i) dX2_agreesWithTold_43 sh_50 rfl (by omega) (by omega) ((congrFun rfl i).trans rfl) (pc' := 44) rfl ?_
          refine ax_icmp_eq (tgt := 49) dX2_agreesWithTold_44 (by decide) (pc' := 47) rfl (fun h44 => ?_) (fun h44 => ?_)
          · have qnc : ¬ f_fwC w k n i := fun z => by
              unfold f_fwC at z
              split at z <;> omega
            refine ax_iinc dX2_agreesWithTold_49 rfl (by decide) (by omega) (ls' := [some (.inr 71), some (.inl k), some (.inl n), some (.inl (i + 1)), some (.inl k)]) rfl (pc' := 52) rfl ?_
            refine ax_goto dX2_agreesWithTold_52 (pc' := 2) (by decide) ?_
            refine ax_less (ls2 := [some (.inr 71), some (.inl k), some (.inl n), some (.inl (i + 1)), none]) [true, true, true, true, false] rfl ?_
            refine ih3 (i + 1) ?_ ?_ ?_
            · omega
            · omega
            · rw [← iv1_1]
              exact (f_first_miss (by omega) qnc).symm
          · have qyc : f_fwC w k n i := by
              unfold f_fwC
              split <;> omega
            refine ax_iconst dX2_agreesWithTold_47 (by decide) (pc' := 48) rfl ?_
            refine ax_zret dX2_agreesWithTold_48 rfl (by decide) ?_
            refine ⟨rfl, ?_, ?_⟩
            · refine congrArg (fun z => some (Sum.inl z)) ?_
              unfold f_b f_fw
              rw [if_neg (by rw [← iv1_1, f_first_hit (by omega) qyc]; omega)]
            · rfl
  refine LP1 (w 2577 - 0 : Int).toNat.succ 0 ?_ ?_ ?_
  · omega
  · omega
  · rfl
set_option maxRecDepth 20000 in
theorem s_X2_tellingForce (E : ax_Env) (l : Launch) (d : Nat) (hd : 1 ≤ d) (M : ax_Mem) (Q : List Int) (hg0 : M 71 1 = (Q.length : Int) ∧ (Q.length : Int) ≤ 600) (hg1 : ∀ n, 0 ≤ n → n < 1000 → M 74 n = f_cte n Q) (hg2 : ∀ q ∈ Q, 0 ≤ q) : ax_G E l d iX2_tellingForce [.inr 71] M (fun z0 M2 => z0 = some (.inl (F_next Q)) ∧ M = M2) := by
  obtain ⟨d, rfl⟩ : ∃ d0, d = d0 + 1 := ⟨d - 1, by omega⟩
  refine ax_start rfl (Nat.le_of_ble_eq_true rfl) (ls := [some (.inr 71), none, none, none, none, none]) rfl (fun hav hcm => ?_)
  clear hav
  have qlq := hg0.1
  refine ax_aload_n dX2_tellingForce_0 rfl rfl (pc' := 1) rfl ?_
  refine ax_geti (v := M 71 1) dX2_tellingForce_1 flX2_105 rfl sh_71 rfl rfl (pc' := 4) rfl ?_
  refine ax_iconst dX2_tellingForce_4 (by decide) (pc' := 5) rfl ?_
  refine ax_icmp_ge (tgt := 10) dX2_tellingForce_5 (by decide) (pc' := 8) rfl (fun h5 => ?_) (fun h5 => ?_)
  · have qz : F_next Q = (f_loop (f_nxS Q) 0 100 (-1, (Q.length : Int) + 1)).1 := if_neg (by omega)
    refine ax_iconst dX2_tellingForce_10 (by decide) (pc' := 11) rfl ?_
    refine ax_istore_n dX2_tellingForce_11 rfl (by decide) (ls' := [some (.inr 71), some (.inl (-1)), none, none, none, none]) rfl (pc' := 12) rfl ?_
    refine ax_aload_n dX2_tellingForce_12 rfl rfl (pc' := 13) rfl ?_
    refine ax_geti (v := M 71 1) dX2_tellingForce_13 flX2_105 rfl sh_71 rfl rfl (pc' := 16) rfl ?_
    refine ax_iconst dX2_tellingForce_16 (by decide) (pc' := 17) rfl ?_
    refine ax_iadd dX2_tellingForce_17 (by omega) (pc' := 18) rfl ?_
    refine ax_istore_n dX2_tellingForce_18 rfl (by decide) (ls' := [some (.inr 71), some (.inl (-1)), some (.inl (M 71 1 + 1)), none, none, none]) rfl (pc' := 19) rfl ?_
    refine ax_iconst dX2_tellingForce_19 (by decide) (pc' := 20) rfl ?_
    refine ax_istore_n dX2_tellingForce_20 rfl (by decide) (ls' := [some (.inr 71), some (.inl (-1)), some (.inl (M 71 1 + 1)), some (.inl 0), none, none]) rfl (pc' := 21) rfl ?_
    refine ax_iconst dX2_tellingForce_21 (by decide) (pc' := 22) rfl ?_
    refine ax_istore dX2_tellingForce_22 (by decide) (ls' := [some (.inr 71), some (.inl (-1)), some (.inl (M 71 1 + 1)), some (.inl 0), some (.inl 0), none]) rfl (pc' := 24) rfl ?_
    have LP1 : ∀ (kq2 : Nat) (f ty bt bp : Int) (hm1 : 100 - f < (kq2 : Nat)) (iv1_0 : 0 ≤ f ∧ f ≤ 100) (iv1_1 : ty = f_cnt (f - 1) Q) (iv1_2 : f_loop (f_nxS Q) f 100 (bt, bp) = f_loop (f_nxS Q) 0 100 (-1, (Q.length : Int) + 1)), ax_W E l (d + 1) 0 0 iX2_tellingForce 24 [some (.inr 71), some (.inl bt), some (.inl bp), some (.inl ty), some (.inl f), none] [] SH M (ax_P (fun z0 M2 => z0 = some (.inl (F_next Q)) ∧ M = M2)) := by
      intro kq2
      induction kq2 with
      | zero =>
        intro f ty bt bp hm1 iv1_0 iv1_1 iv1_2
        exfalso
        omega
      | succ kq2 ih3 =>
        intro f ty bt bp hm1 iv1_0 iv1_1 iv1_2
        refine ax_iload dX2_tellingForce_24 rfl (pc' := 26) rfl ?_
        refine ax_bipush dX2_tellingForce_26 (by decide) (pc' := 28) rfl ?_
        refine ax_icmp_ge (tgt := 71) dX2_tellingForce_28 (by decide) (pc' := 31) rfl (fun h28 => ?_) (fun h28 => ?_)
        · refine ax_iload_n dX2_tellingForce_71 rfl rfl (pc' := 72) rfl ?_
          refine ax_iret dX2_tellingForce_72 rfl ?_
          refine ⟨rfl, ?_, ?_⟩
          · refine congrArg (fun z => some (Sum.inl z)) ?_
            rw [qz, ← iv1_2, f_loop_done (by omega)]
          · rfl
        · have qct := hg1 f (by omega) (by omega)
          have qcr := f_cte_pos f Q
          have qcn := f_cnt_rg (f := f - 1) (L := Q)
          have qcm := f_cnt_rg (f := f) (L := Q)
          have qst := f_cnt_stp (f := f) Q
          have qty : ty + (M 74 f) = f_cnt f Q := by omega
          refine ax_iload_n dX2_tellingForce_31 rfl rfl (pc' := 32) rfl ?_
          refine ax_aload_n dX2_tellingForce_32 rfl rfl (pc' := 33) rfl ?_
          refine ax_getr (v := 74) dX2_tellingForce_33 flX2_20 rfl sh_71 rfl (pc' := 36) rfl ?_
          refine ax_iload dX2_tellingForce_36 rfl (pc' := 38) rfl ?_
          refine ax_iald (v := (M 74) f) dX2_tellingForce_38 sh_74 rfl (by omega) (by omega) ((congrFun rfl f).trans rfl) (pc' := 39) rfl ?_
          refine ax_iadd dX2_tellingForce_39 (by omega) (pc' := 40) rfl ?_
          refine ax_istore_n dX2_tellingForce_40 rfl (by decide) (ls' := [some (.inr 71), some (.inl bt), some (.inl bp), some (.inl (ty + ((M 74) f))), some (.inl f), none]) rfl (pc' := 41) rfl ?_
          refine ax_iload_n dX2_tellingForce_41 rfl rfl (pc' := 42) rfl ?_
          refine ax_aload_n dX2_tellingForce_42 rfl rfl (pc' := 43) rfl ?_
          refine ax_geti (v := M 71 1) dX2_tellingForce_43 flX2_105 rfl sh_71 rfl rfl (pc' := 46) rfl ?_
          refine ax_iload_n dX2_tellingForce_46 rfl rfl (pc' := 47) rfl ?_
          refine ax_isub dX2_tellingForce_47 (by omega) (pc' := 48) rfl ?_
          refine ax_mmax dX2_tellingForce_48 mlX2_100 (Nat.le_of_ble_eq_true rfl) (pc' := 51) rfl ?_
          refine ax_istore dX2_tellingForce_51 (by decide) (ls' := [some (.inr 71), some (.inl bt), some (.inl bp), some (.inl (ty + ((M 74) f))), some (.inl f), some (.inl (max (ty + ((M 74) f)) (M 71 1 - (ty + ((M 74) f)))))]) rfl (pc' := 53) rfl ?_
          refine ax_iload dX2_tellingForce_53 rfl (pc' := 55) rfl ?_
          refine ax_iload_n dX2_tellingForce_55 rfl rfl (pc' := 56) rfl ?_
          refine ax_icmp_ge (tgt := 65) dX2_tellingForce_56 (by decide) (pc' := 59) rfl (fun h56 => ?_) (fun h56 => ?_)
          · have qnx : f_nxS Q f (bt, bp) = (bt, bp) := if_pos (by rw [qlq, qty] at h56; exact h56)
            refine ax_iinc dX2_tellingForce_65 rfl (by decide) (by omega) (ls' := [some (.inr 71), some (.inl bt), some (.inl bp), some (.inl (ty + ((M 74) f))), some (.inl (f + 1)), some (.inl (max (ty + ((M 74) f)) (M 71 1 - (ty + ((M 74) f)))))]) rfl (pc' := 68) rfl ?_
            refine ax_goto dX2_tellingForce_68 (pc' := 24) (by decide) ?_
            refine ax_less (ls2 := [some (.inr 71), some (.inl bt), some (.inl bp), some (.inl (ty + ((M 74) f))), some (.inl (f + 1)), none]) [true, true, true, true, true, false] rfl ?_
            refine ih3 (f + 1) (ty + ((M 74) f)) bt bp ?_ ?_ ?_ ?_
            · omega
            · omega
            · rw [show f + 1 - 1 = f by omega]
              exact qty
            · rw [← iv1_2, f_loop_step (lo := f) (by omega), qnx]
          · have qnx : f_nxS Q f (bt, bp) = (f, max (ty + (M 74 f)) (M 71 1 - (ty + (M 74 f)))) := by
              rw [qty, qlq] at h56 ⊢
              exact if_neg (by show ¬ bp ≤ _; omega)
            refine ax_iload dX2_tellingForce_59 rfl (pc' := 61) rfl ?_
            refine ax_istore_n dX2_tellingForce_61 rfl (by decide) (ls' := [some (.inr 71), some (.inl f), some (.inl bp), some (.inl (ty + ((M 74) f))), some (.inl f), some (.inl (max (ty + ((M 74) f)) (M 71 1 - (ty + ((M 74) f)))))]) rfl (pc' := 62) rfl ?_
            refine ax_iload dX2_tellingForce_62 rfl (pc' := 64) rfl ?_
            refine ax_istore_n dX2_tellingForce_64 rfl (by decide) (ls' := [some (.inr 71), some (.inl f), some (.inl (max (ty + ((M 74) f)) (M 71 1 - (ty + ((M 74) f))))), some (.inl (ty + ((M 74) f))), some (.inl f), some (.inl (max (ty + ((M 74) f)) (M 71 1 - (ty + ((M 74) f)))))]) rfl (pc' := 65) rfl ?_
            refine ax_iinc dX2_tellingForce_65 rfl (by decide) (by omega) (ls' := [some (.inr 71), some (.inl f), some (.inl (max (ty + ((M 74) f)) (M 71 1 - (ty + ((M 74) f))))), some (.inl (ty + ((M 74) f))), some (.inl (f + 1)), some (.inl (max (ty + ((M 74) f)) (M 71 1 - (ty + ((M 74) f)))))]) rfl (pc' := 68) rfl ?_
            refine ax_goto dX2_tellingForce_68 (pc' := 24) (by decide) ?_
            refine ax_less (ls2 := [some (.inr 71), some (.inl f), some (.inl (max (ty + ((M 74) f)) (M 71 1 - (ty + ((M 74) f))))), some (.inl (ty + ((M 74) f))), some (.inl (f + 1)), none]) [true, true, true, true, true, false] rfl ?_
            refine ih3 (f + 1) (ty + ((M 74) f)) f (max (ty + ((M 74) f)) (M 71 1 - (ty + ((M 74) f)))) ?_ ?_ ?_ ?_
            · omega
            · omega
            · rw [show f + 1 - 1 = f by omega]
              exact qty
            · rw [← iv1_2, f_loop_step (lo := f) (by omega), qnx]
    refine LP1 (100 - 0 : Int).toNat.succ 0 0 (-1) (M 71 1 + 1) ?_ ?_ ?_ ?_
    · omega
    · omega
    · exact (f_cnt_neg Q hg2).symm
    · rw [qlq]
  · have qz : F_next Q = -1 := if_pos (by omega)
    refine ax_iconst dX2_tellingForce_8 (by decide) (pc' := 9) rfl ?_
    refine ax_iret dX2_tellingForce_9 rfl ?_
    refine ⟨rfl, ?_, ?_⟩
    · refine congrArg (fun z => some (Sum.inl z)) ?_
      exact qz.symm
    · rfl
