/-! the class's laws: one row of numbers for a small stack -/
def f_cbin (c x y : Int) : Int := if c = -11 then ax_wr (x + y) else if c = -12 then ax_wr (x - y) else if c = -13 then ax_wr (x * y) else if c = -14 then (if y ≠ 0 then ax_div x y else 0) else if c = -15 then f_b (x < y) else if c = -16 then f_b (x = y) else if c = -17 then f_b (y < x) else if c = -19 then ax_and x y else ax_or x y
def f_cst (A : Int → Int) (c : Int) (st : List Int) : List Int := if -8 ≤ c then (if 0 ≤ c then c else A (-1 - c)) :: st else match st with
  | [] => []
  | y :: s => if c = -18 then ax_wr (1 - y) :: s else match s with
    | [] => []
    | x :: s0 => if c = -22 then s0 else f_cbin c x y :: s0
def f_crun (A : Int → Int) : List Int → List Int → Int → Int
  | [], _, wo => wo
  | c :: tl, st, wo => if c = -21 then st.headD 0 else if c = -22 ∧ st.headD 0 ≠ 0 then st.tail.headD 0 else f_crun A tl (f_cst A c st) wo
def f_cht : List Int → Nat → Prop
  | [], _ => True
  | c :: tl, n => n < 46 ∧ (if -8 ≤ c then f_cht tl (n + 1) else if c = -18 then 1 ≤ n ∧ f_cht tl n else if c = -21 then 1 ≤ n else if c = -22 then 2 ≤ n ∧ f_cht tl (n - 2) else (-20 ≤ c ∧ c ≤ -11) ∧ 2 ≤ n ∧ f_cht tl (n - 1))
def f_lp (a : Int) : Prop := ax_sh SH a = some (3, 3, [none, none, some (a + 1)]) ∧ ax_sh SH (a + 1) = some (13, 400, [])
theorem f_p2_get {pl : Int → Int} {b v : Int} {st : List Int} (h : f_pil2 pl b (v :: st)) : pl (b + (st.length : Int)) = v := h.1
theorem f_p2_up {pl : Int → Int} {b v x : Int} : ∀ {st : List Int}, b + (st.length : Int) ≤ x → f_pil2 pl b st → f_pil2 (f_up pl x v) b st
  | [], _, _ => trivial
  | u :: st, hx, h => by
    simp only [List.length_cons] at hx
    exact ⟨(f_up_o (by omega)).trans h.1, f_p2_up (by omega) h.2⟩
theorem f_p2_push {pl : Int → Int} {b v x : Int} {st : List Int} (hx : x = b + (st.length : Int)) (h : f_pil2 pl b st) : f_pil2 (f_up pl x v) b (v :: st) := by
  refine ⟨?_, f_p2_up (by omega) h⟩
  rw [hx]
  exact f_up_same _ _ _
set_option maxRecDepth 20000 in
theorem s_X3_answer (E : ax_Env) (l : Launch) (d : Nat) (hd : 0 ≤ d) (M : ax_Mem) (a wo : Int) (cs : List Int) {A : Int → Int} (hA : M 72 = A) (hg0 : f_lp a) (hg1 : M a 1 = (cs.length : Int) ∧ cs.length ≤ 400) (hg2 : f_fwd (M (a + 1)) 0 cs) (hg3 : f_cht cs 0) (hg4 : a < 60) : ax_G E l d iX3_answer [.inr a, .inr 72, .inr 73, .inl wo] M (fun z0 M2 => z0 = some (.inl (f_crun A cs [] wo)) ∧ (∀ x0 i0 : Int, ¬ (x0 = 73) → M2 x0 i0 = M x0 i0)) := by
  refine ax_start rfl (Nat.le_of_ble_eq_true rfl) (ls := [some (.inr a), some (.inr 72), some (.inr 73), some (.inl wo), none, none, none, none, none]) rfl (fun hav hcm => ?_)
  have hc3 : -2147483648 ≤ wo ∧ wo < 2147483648 := hav (.inl wo) (by simp)
  clear hav
  refine ax_iconst dX3_answer_0 (by decide) (pc' := 1) rfl ?_
  refine ax_istore dX3_answer_1 (by decide) (ls' := [some (.inr a), some (.inr 72), some (.inr 73), some (.inl wo), some (.inl 2), none, none, none, none]) rfl (pc' := 3) rfl ?_
  refine ax_iconst dX3_answer_3 (by decide) (pc' := 4) rfl ?_
  refine ax_istore dX3_answer_4 (by decide) (ls' := [some (.inr a), some (.inr 72), some (.inr 73), some (.inl wo), some (.inl 2), some (.inl 0), none, none, none]) rfl (pc' := 6) rfl ?_
  have LP1 : ∀ (kq2 : Nat) (i top : Int) (sk : Int → Int) (rem : List Int) (st : List Int) (M1 : ax_Mem) (hm1 : M a 1 - i < (kq2 : Nat)) (fr1 : ∀ x0 i0 : Int, ¬ (x0 = 73) → M1 x0 i0 = M x0 i0) (mr1_73 : M1 73 = sk) (iv1_0 : 0 ≤ i ∧ i + (rem.length : Int) = M a 1 ∧ top = 2 + (st.length : Int)) (iv1_1 : f_fwd (M (a + 1)) i rem) (iv1_2 : f_cht rem st.length) (iv1_3 : f_pil2 sk 2 st) (iv1_4 : f_crun A rem st wo = f_crun A cs [] wo), ax_W E l d 0 0 iX3_answer 6 [some (.inr a), some (.inr 72), some (.inr 73), some (.inl wo), some (.inl top), some (.inl i), none, none, none] [] SH M1 (ax_P (fun z0 M2 => z0 = some (.inl (f_crun A cs [] wo)) ∧ (∀ x0 i0 : Int, ¬ (x0 = 73) → M2 x0 i0 = M x0 i0))) := by
    intro kq2
    induction kq2 with
    | zero =>
      intro i top sk rem st M1 hm1 fr1 mr1_73 iv1_0 iv1_1 iv1_2 iv1_3 iv1_4
      exfalso
      omega
    | succ kq2 ih3 =>
      intro i top sk rem st M1 hm1 fr1 mr1_73 iv1_0 iv1_1 iv1_2 iv1_3 iv1_4
      refine ax_iload dX3_answer_6 rfl (pc' := 8) rfl ?_
      refine ax_aload_n dX3_answer_8 rfl rfl (pc' := 9) rfl ?_
      refine ax_geti (v := M a 1) dX3_answer_9 flX3_19 rfl hg0.1 ((fr1 a 1 (by omega)).trans rfl) rfl (pc' := 12) rfl ?_
      refine ax_icmp_ge (tgt := 347) dX3_answer_12 (by decide) (pc' := 15) rfl (fun h12 => ?_) (fun h12 => ?_)
      · have qe : rem = [] := by
          cases rem with
          | nil => rfl
          | cons x y => simp only [List.length_cons] at *; omega
        refine ax_iload_n dX3_answer_347 rfl rfl (pc' := 348) rfl ?_
        refine ax_iret dX3_answer_348 rfl ?_
        refine ⟨rfl, ?_, ?_⟩
        · refine congrArg (fun z => some (Sum.inl z)) ?_
          rw [← iv1_4, qe]
          rfl
        · intro x0 i0 hai
          exact ((fr1 x0 i0 (fun h => hai h)).trans rfl)
      · obtain ⟨c2, rem2, qd⟩ : ∃ x y, rem = x :: y := by
          cases rem with
          | nil => simp only [List.length_nil] at *; omega
          | cons x y => exact ⟨x, y, rfl⟩
        have qdl : rem.length = rem2.length + 1 := by rw [qd]; rfl
        have qf : f_fwd (M (a + 1)) i (c2 :: rem2) := qd ▸ iv1_1
        have qc : M (a + 1) i = c2 := qf.1
        have qf2 := qf.2
        have qh : f_cht (c2 :: rem2) st.length := qd ▸ iv1_2
        have qh1 := qh.1
        have qh2 := qh.2
        refine ax_iload dX3_answer_15 rfl (pc' := 17) rfl ?_
        refine ax_iconst dX3_answer_17 (by decide) (pc' := 18) rfl ?_
        refine ax_icmp_lt (tgt := 28) dX3_answer_18 (by decide) (pc' := 21) rfl (fun h18 => ?_) (fun h18 => ?_)
        · exfalso
          omega
        · refine ax_iload dX3_answer_21 rfl (pc' := 23) rfl ?_
          refine ax_aload_n dX3_answer_23 rfl rfl (pc' := 24) rfl ?_
          refine ax_alen dX3_answer_24 sh_73 (by decide) (pc' := 25) rfl ?_
          refine ax_icmp_lt (tgt := 30) dX3_answer_25 (by decide) (pc' := 28) rfl (fun h25 => ?_) (fun h25 => ?_)
          · refine ax_aload_n dX3_answer_30 rfl rfl (pc' := 31) rfl ?_
            refine ax_getr (v := a + 1) dX3_answer_31 flX3_11 rfl hg0.1 rfl (pc' := 34) rfl ?_
            refine ax_iload dX3_answer_34 rfl (pc' := 36) rfl ?_
            refine ax_iald (v := (M (a + 1)) i) dX3_answer_36 hg0.2 rfl (by omega) (by omega) ((congrFun ((funext fun i0 => fr1 (a + 1) i0 (by omega)).trans rfl) i).trans rfl) (pc' := 37) rfl ?_
            refine ax_reS (st2 := [.inl c2]) (congrArg (fun z => Sum.inl z :: _) (by exact qc)) ?_
            refine ax_istore dX3_answer_37 (by decide) (ls' := [some (.inr a), some (.inr 72), some (.inr 73), some (.inl wo), some (.inl top), some (.inl i), some (.inl c2), none, none]) rfl (pc' := 39) rfl ?_
            refine ax_iload dX3_answer_39 rfl (pc' := 41) rfl ?_
            refine ax_if_lt (tgt := 56) dX3_answer_41 (by decide) (pc' := 44) rfl (fun h41 => ?_) (fun h41 => ?_)
            · refine ax_iload dX3_answer_56 rfl (pc' := 58) rfl ?_
              refine ax_bipush dX3_answer_58 (by decide) (pc' := 60) rfl ?_
              refine ax_icmp_lt (tgt := 79) dX3_answer_60 (by decide) (pc' := 63) rfl (fun h60 => ?_) (fun h60 => ?_)
              · refine ax_iload dX3_answer_79 rfl (pc' := 81) rfl ?_
                refine ax_bipush dX3_answer_81 (by decide) (pc' := 83) rfl ?_
                refine ax_icmp_ne (tgt := 103) dX3_answer_83 (by decide) (pc' := 86) rfl (fun h83 => ?_) (fun h83 => ?_)
                · refine ax_iload dX3_answer_103 rfl (pc' := 105) rfl ?_
                  refine ax_bipush dX3_answer_105 (by decide) (pc' := 107) rfl ?_
                  refine ax_icmp_ne (tgt := 117) dX3_answer_107 (by decide) (pc' := 110) rfl (fun h107 => ?_) (fun h107 => ?_)
                  · refine ax_iload dX3_answer_117 rfl (pc' := 119) rfl ?_
                    refine ax_bipush dX3_answer_119 (by decide) (pc' := 121) rfl ?_
                    refine ax_icmp_ne (tgt := 146) dX3_answer_121 (by decide) (pc' := 124) rfl (fun h121 => ?_) (fun h121 => ?_)
                    · have qh4 : (-20 ≤ c2 ∧ c2 ≤ -11) ∧ 2 ≤ st.length := by
                        rw [if_neg (by omega), if_neg (by omega), if_neg (by omega), if_neg (by omega)] at qh2
                        exact ⟨qh2.1, qh2.2.1⟩
                      obtain ⟨y8, x8, s8, qst⟩ : ∃ x y z, st = x :: y :: z := by
                        cases st with
                        | nil => simp only [List.length_nil] at qh4; omega
                        | cons x y =>
                          cases y with
                          | nil => simp only [List.length_cons, List.length_nil] at qh4; omega
                          | cons y z => exact ⟨x, y, z, rfl⟩
                      have qsl : st.length = s8.length + 1 + 1 := by rw [qst]; rfl
                      have qpl : f_pil2 sk 2 (y8 :: x8 :: s8) := qst ▸ iv1_3
                      have qy : sk (top + (-1)) = y8 := by rw [show top + (-1) = 2 + ((s8.length + 1 : Nat) : Int) by omega]; exact qpl.1
                      have qx : sk (top + (-1) - 1) = x8 := by rw [show top + (-1) - 1 = 2 + (s8.length : Int) by omega]; exact qpl.2.1
                      refine ax_iinc dX3_answer_146 rfl (by decide) (by omega) (ls' := [some (.inr a), some (.inr 72), some (.inr 73), some (.inl wo), some (.inl (top + (-1))), some (.inl i), some (.inl c2), none, none]) rfl (pc' := 149) rfl ?_
                      refine ax_aload_n dX3_answer_149 rfl rfl (pc' := 150) rfl ?_
                      refine ax_iload dX3_answer_150 rfl (pc' := 152) rfl ?_
                      refine ax_iconst dX3_answer_152 (by decide) (pc' := 153) rfl ?_
                      refine ax_isub dX3_answer_153 (by omega) (pc' := 154) rfl ?_
                      refine ax_iald (v := sk (top + (-1) - 1)) dX3_answer_154 sh_73 rfl (by omega) (by omega) ((congrFun mr1_73 (top + (-1) - 1)).trans rfl) (pc' := 155) rfl ?_
                      refine ax_reS (st2 := [.inl x8]) (congrArg (fun z => Sum.inl z :: _) (by exact qx)) ?_
                      refine ax_istore dX3_answer_155 (by decide) (ls' := [some (.inr a), some (.inr 72), some (.inr 73), some (.inl wo), some (.inl (top + (-1))), some (.inl i), some (.inl c2), some (.inl x8), none]) rfl (pc' := 157) rfl ?_
                      refine ax_aload_n dX3_answer_157 rfl rfl (pc' := 158) rfl ?_
                      refine ax_iload dX3_answer_158 rfl (pc' := 160) rfl ?_
                      refine ax_iald (v := sk (top + (-1))) dX3_answer_160 sh_73 rfl (by omega) (by omega) ((congrFun mr1_73 (top + (-1))).trans rfl) (pc' := 161) rfl ?_
                      refine ax_reS (st2 := [.inl y8]) (congrArg (fun z => Sum.inl z :: _) (by exact qy)) ?_
                      refine ax_istore dX3_answer_161 (by decide) (ls' := [some (.inr a), some (.inr 72), some (.inr 73), some (.inl wo), some (.inl (top + (-1))), some (.inl i), some (.inl c2), some (.inl x8), some (.inl y8)]) rfl (pc' := 163) rfl ?_
                      refine ax_iload dX3_answer_163 rfl (pc' := 165) rfl ?_
                      by_cases h165_m19 : c2 = (-19)
                      · refine ax_reS (st2 := [.inl (-19)]) (by rw [h165_m19]) ?_
                        refine ax_tabIn (tgt := 316) dX3_answer_165 (by decide) (by decide) rfl (by decide) ?_
                        refine ax_iload dX3_answer_316 rfl (pc' := 318) rfl ?_
                        refine ax_iload dX3_answer_318 rfl (pc' := 320) rfl ?_
                        refine ax_iand dX3_answer_320 (pc' := 321) rfl ?_
                        refine ax_istore dX3_answer_321 (by decide) (ls' := [some (.inr a), some (.inr 72), some (.inr 73), some (.inl wo), some (.inl (top + (-1))), some (.inl i), some (.inl c2), some (.inl (ax_and x8 y8)), some (.inl y8)]) rfl (pc' := 323) rfl ?_
                        refine ax_goto dX3_answer_323 (pc' := 333) (by decide) ?_
                        refine ax_aload_n dX3_answer_333 rfl rfl (pc' := 334) rfl ?_
                        refine ax_iload dX3_answer_334 rfl (pc' := 336) rfl ?_
                        refine ax_iconst dX3_answer_336 (by decide) (pc' := 337) rfl ?_
                        refine ax_isub dX3_answer_337 (by omega) (pc' := 338) rfl ?_
                        refine ax_iload dX3_answer_338 rfl (pc' := 340) rfl ?_
                        refine ax_iast dX3_answer_340 sh_73 rfl (by omega) (by omega) (pc' := 341) rfl ?_
                        have qs : f_cst A c2 st = (ax_and x8 y8) :: s8 := by
                          rw [qst]
                          unfold f_cst
                          rw [if_neg (by omega)]
                          show (if c2 = -18 then _ else if c2 = -22 then s8 else f_cbin c2 x8 y8 :: s8) = _
                          rw [if_neg (by omega), if_neg (by omega)]
                          congr 1
                          unfold f_cbin f_b
                          repeat' split
                          all_goals first | rfl | (exfalso; omega)
                        have qp : f_pil2 (f_up sk (top + (-1) - 1) (ax_and x8 y8)) 2 (f_cst A c2 st) := by
                          rw [qs]
                          exact f_p2_push (by omega) qpl.2.2
                        have qh3 : f_cht rem2 (f_cst A c2 st).length ∧ (f_cst A c2 st).length + 1 = st.length := by
                          rw [qs]
                          exact ⟨by rw [if_neg (by omega), if_neg (by omega), if_neg (by omega), if_neg (by omega)] at qh2; have q9 := qh2.2.2; rw [qsl] at q9; exact q9, by simp only [List.length_cons]; omega⟩
                        refine ax_iinc dX3_answer_341 rfl (by decide) (by omega) (ls' := [some (.inr a), some (.inr 72), some (.inr 73), some (.inl wo), some (.inl (top + (-1))), some (.inl (i + 1)), some (.inl c2), some (.inl (ax_and x8 y8)), some (.inl y8)]) rfl (pc' := 344) rfl ?_
                        refine ax_goto dX3_answer_344 (pc' := 6) (by decide) ?_
                        refine ax_less (ls2 := [some (.inr a), some (.inr 72), some (.inr 73), some (.inl wo), some (.inl (top + (-1))), some (.inl (i + 1)), none, none, none]) [true, true, true, true, true, true, false, false, false] rfl ?_
                        refine ih3 (i + 1) (top + (-1)) (f_up sk (top + (-1) - 1) (ax_and x8 y8)) rem2 (f_cst A c2 st) (ax_up M1 73 (top + (-1) - 1) (ax_and x8 y8)) ?_ ?_ ?_ ?_ ?_ ?_ ?_ ?_
                        · omega
                        · intro x0 i0 hai
                          exact (ax_up_miss (fun h => hai h.1) ((fr1 x0 i0 (fun h => hai h)).trans rfl))
                        · exact (ax_up_rowhit mr1_73)
                        · omega
                        · exact qf2
                        · exact qh3.1
                        · exact qp
                        · rw [← iv1_4, qd]
                          show _ = (if c2 = -21 then _ else if c2 = -22 ∧ _ then _ else f_crun A rem2 (f_cst A c2 st) wo)
                          rw [if_neg (by omega), if_neg (by first | omega | exact fun hh => hh.2 (by rw [qst]; exact h130))]
                      by_cases h165_m18 : c2 = (-18)
                      · refine ax_reS (st2 := [.inl (-18)]) (by rw [h165_m18]) ?_
                        refine ax_tabIn (tgt := 326) dX3_answer_165 (by decide) (by decide) rfl (by decide) ?_
                        refine ax_iload dX3_answer_326 rfl (pc' := 328) rfl ?_
                        refine ax_iload dX3_answer_328 rfl (pc' := 330) rfl ?_
                        refine ax_ior dX3_answer_330 (pc' := 331) rfl ?_
                        refine ax_istore dX3_answer_331 (by decide) (ls' := [some (.inr a), some (.inr 72), some (.inr 73), some (.inl wo), some (.inl (top + (-1))), some (.inl i), some (.inl c2), some (.inl (ax_or x8 y8)), some (.inl y8)]) rfl (pc' := 333) rfl ?_
                        refine ax_aload_n dX3_answer_333 rfl rfl (pc' := 334) rfl ?_
                        refine ax_iload dX3_answer_334 rfl (pc' := 336) rfl ?_
                        refine ax_iconst dX3_answer_336 (by decide) (pc' := 337) rfl ?_
                        refine ax_isub dX3_answer_337 (by omega) (pc' := 338) rfl ?_
                        refine ax_iload dX3_answer_338 rfl (pc' := 340) rfl ?_
                        refine ax_iast dX3_answer_340 sh_73 rfl (by omega) (by omega) (pc' := 341) rfl ?_
                        have qs : f_cst A c2 st = (ax_or x8 y8) :: s8 := by
                          rw [qst]
                          unfold f_cst
                          rw [if_neg (by omega)]
                          show (if c2 = -18 then _ else if c2 = -22 then s8 else f_cbin c2 x8 y8 :: s8) = _
                          rw [if_neg (by omega), if_neg (by omega)]
                          congr 1
                          unfold f_cbin f_b
                          repeat' split
                          all_goals first | rfl | (exfalso; omega)
                        have qp : f_pil2 (f_up sk (top + (-1) - 1) (ax_or x8 y8)) 2 (f_cst A c2 st) := by
                          rw [qs]
                          exact f_p2_push (by omega) qpl.2.2
                        have qh3 : f_cht rem2 (f_cst A c2 st).length ∧ (f_cst A c2 st).length + 1 = st.length := by
                          rw [qs]
                          exact ⟨by rw [if_neg (by omega), if_neg (by omega), if_neg (by omega), if_neg (by omega)] at qh2; have q9 := qh2.2.2; rw [qsl] at q9; exact q9, by simp only [List.length_cons]; omega⟩
                        refine ax_iinc dX3_answer_341 rfl (by decide) (by omega) (ls' := [some (.inr a), some (.inr 72), some (.inr 73), some (.inl wo), some (.inl (top + (-1))), some (.inl (i + 1)), some (.inl c2), some (.inl (ax_or x8 y8)), some (.inl y8)]) rfl (pc' := 344) rfl ?_
                        refine ax_goto dX3_answer_344 (pc' := 6) (by decide) ?_
                        refine ax_less (ls2 := [some (.inr a), some (.inr 72), some (.inr 73), some (.inl wo), some (.inl (top + (-1))), some (.inl (i + 1)), none, none, none]) [true, true, true, true, true, true, false, false, false] rfl ?_
                        refine ih3 (i + 1) (top + (-1)) (f_up sk (top + (-1) - 1) (ax_or x8 y8)) rem2 (f_cst A c2 st) (ax_up M1 73 (top + (-1) - 1) (ax_or x8 y8)) ?_ ?_ ?_ ?_ ?_ ?_ ?_ ?_
                        · omega
                        · intro x0 i0 hai
                          exact (ax_up_miss (fun h => hai h.1) ((fr1 x0 i0 (fun h => hai h)).trans rfl))
                        · exact (ax_up_rowhit mr1_73)
                        · omega
                        · exact qf2
                        · exact qh3.1
                        · exact qp
                        · rw [← iv1_4, qd]
                          show _ = (if c2 = -21 then _ else if c2 = -22 ∧ _ then _ else f_crun A rem2 (f_cst A c2 st) wo)
                          rw [if_neg (by omega), if_neg (by first | omega | exact fun hh => hh.2 (by rw [qst]; exact h130))]
                      by_cases h165_m17 : c2 = (-17)
                      · refine ax_reS (st2 := [.inl (-17)]) (by rw [h165_m17]) ?_
                        refine ax_tabIn (tgt := 299) dX3_answer_165 (by decide) (by decide) rfl (by decide) ?_
                        refine ax_iload dX3_answer_299 rfl (pc' := 301) rfl ?_
                        refine ax_iload dX3_answer_301 rfl (pc' := 303) rfl ?_
                        refine ax_icmp_le (tgt := 310) dX3_answer_303 (by decide) (pc' := 306) rfl (fun h303 => ?_) (fun h303 => ?_)
                        · refine ax_iconst dX3_answer_310 (by decide) (pc' := 311) rfl ?_
                          refine ax_istore dX3_answer_311 (by decide) (ls' := [some (.inr a), some (.inr 72), some (.inr 73), some (.inl wo), some (.inl (top + (-1))), some (.inl i), some (.inl c2), some (.inl 0), some (.inl y8)]) rfl (pc' := 313) rfl ?_
                          refine ax_goto dX3_answer_313 (pc' := 333) (by decide) ?_
                          refine ax_aload_n dX3_answer_333 rfl rfl (pc' := 334) rfl ?_
                          refine ax_iload dX3_answer_334 rfl (pc' := 336) rfl ?_
                          refine ax_iconst dX3_answer_336 (by decide) (pc' := 337) rfl ?_
                          refine ax_isub dX3_answer_337 (by omega) (pc' := 338) rfl ?_
                          refine ax_iload dX3_answer_338 rfl (pc' := 340) rfl ?_
                          refine ax_iast dX3_answer_340 sh_73 rfl (by omega) (by omega) (pc' := 341) rfl ?_
                          have qs : f_cst A c2 st = 0 :: s8 := by
                            rw [qst]
                            unfold f_cst
                            rw [if_neg (by omega)]
                            show (if c2 = -18 then _ else if c2 = -22 then s8 else f_cbin c2 x8 y8 :: s8) = _
                            rw [if_neg (by omega), if_neg (by omega)]
                            congr 1
                            unfold f_cbin f_b
                            repeat' split
                            all_goals first | rfl | (exfalso; omega)
                          have qp : f_pil2 (f_up sk (top + (-1) - 1) 0) 2 (f_cst A c2 st) := by
                            rw [qs]
                            exact f_p2_push (by omega) qpl.2.2
                          have qh3 : f_cht rem2 (f_cst A c2 st).length ∧ (f_cst A c2 st).length + 1 = st.length := by
                            rw [qs]
                            exact ⟨by rw [if_neg (by omega), if_neg (by omega), if_neg (by omega), if_neg (by omega)] at qh2; have q9 := qh2.2.2; rw [qsl] at q9; exact q9, by simp only [List.length_cons]; omega⟩
                          refine ax_iinc dX3_answer_341 rfl (by decide) (by omega) (ls' := [some (.inr a), some (.inr 72), some (.inr 73), some (.inl wo), some (.inl (top + (-1))), some (.inl (i + 1)), some (.inl c2), some (.inl 0), some (.inl y8)]) rfl (pc' := 344) rfl ?_
                          refine ax_goto dX3_answer_344 (pc' := 6) (by decide) ?_
                          refine ax_less (ls2 := [some (.inr a), some (.inr 72), some (.inr 73), some (.inl wo), some (.inl (top + (-1))), some (.inl (i + 1)), none, none, none]) [true, true, true, true, true, true, false, false, false] rfl ?_
                          refine ih3 (i + 1) (top + (-1)) (f_up sk (top + (-1) - 1) 0) rem2 (f_cst A c2 st) (ax_up M1 73 (top + (-1) - 1) 0) ?_ ?_ ?_ ?_ ?_ ?_ ?_ ?_
                          · omega
                          · intro x0 i0 hai
                            exact (ax_up_miss (fun h => hai h.1) ((fr1 x0 i0 (fun h => hai h)).trans rfl))
                          · exact (ax_up_rowhit mr1_73)
                          · omega
                          · exact qf2
                          · exact qh3.1
                          · exact qp
                          · rw [← iv1_4, qd]
                            show _ = (if c2 = -21 then _ else if c2 = -22 ∧ _ then _ else f_crun A rem2 (f_cst A c2 st) wo)
                            rw [if_neg (by omega), if_neg (by first | omega | exact fun hh => hh.2 (by rw [qst]; exact h130))]
                        · refine ax_iconst dX3_answer_306 (by decide) (pc' := 307) rfl ?_
                          refine ax_goto dX3_answer_307 (pc' := 311) (by decide) ?_
                          refine ax_istore dX3_answer_311 (by decide) (ls' := [some (.inr a), some (.inr 72), some (.inr 73), some (.inl wo), some (.inl (top + (-1))), some (.inl i), some (.inl c2), some (.inl 1), some (.inl y8)]) rfl (pc' := 313) rfl ?_
                          refine ax_goto dX3_answer_313 (pc' := 333) (by decide) ?_
                          refine ax_aload_n dX3_answer_333 rfl rfl (pc' := 334) rfl ?_
                          refine ax_iload dX3_answer_334 rfl (pc' := 336) rfl ?_
                          refine ax_iconst dX3_answer_336 (by decide) (pc' := 337) rfl ?_
                          refine ax_isub dX3_answer_337 (by omega) (pc' := 338) rfl ?_
                          refine ax_iload dX3_answer_338 rfl (pc' := 340) rfl ?_
                          refine ax_iast dX3_answer_340 sh_73 rfl (by omega) (by omega) (pc' := 341) rfl ?_
                          have qs : f_cst A c2 st = 1 :: s8 := by
                            rw [qst]
                            unfold f_cst
                            rw [if_neg (by omega)]
                            show (if c2 = -18 then _ else if c2 = -22 then s8 else f_cbin c2 x8 y8 :: s8) = _
                            rw [if_neg (by omega), if_neg (by omega)]
                            congr 1
                            unfold f_cbin f_b
                            repeat' split
                            all_goals first | rfl | (exfalso; omega)
                          have qp : f_pil2 (f_up sk (top + (-1) - 1) 1) 2 (f_cst A c2 st) := by
                            rw [qs]
                            exact f_p2_push (by omega) qpl.2.2
                          have qh3 : f_cht rem2 (f_cst A c2 st).length ∧ (f_cst A c2 st).length + 1 = st.length := by
                            rw [qs]
                            exact ⟨by rw [if_neg (by omega), if_neg (by omega), if_neg (by omega), if_neg (by omega)] at qh2; have q9 := qh2.2.2; rw [qsl] at q9; exact q9, by simp only [List.length_cons]; omega⟩
                          refine ax_iinc dX3_answer_341 rfl (by decide) (by omega) (ls' := [some (.inr a), some (.inr 72), some (.inr 73), some (.inl wo), some (.inl (top + (-1))), some (.inl (i + 1)), some (.inl c2), some (.inl 1), some (.inl y8)]) rfl (pc' := 344) rfl ?_
                          refine ax_goto dX3_answer_344 (pc' := 6) (by decide) ?_
                          refine ax_less (ls2 := [some (.inr a), some (.inr 72), some (.inr 73), some (.inl wo), some (.inl (top + (-1))), some (.inl (i + 1)), none, none, none]) [true, true, true, true, true, true, false, false, false] rfl ?_
                          refine ih3 (i + 1) (top + (-1)) (f_up sk (top + (-1) - 1) 1) rem2 (f_cst A c2 st) (ax_up M1 73 (top + (-1) - 1) 1) ?_ ?_ ?_ ?_ ?_ ?_ ?_ ?_
                          · omega
                          · intro x0 i0 hai
                            exact (ax_up_miss (fun h => hai h.1) ((fr1 x0 i0 (fun h => hai h)).trans rfl))
                          · exact (ax_up_rowhit mr1_73)
                          · omega
                          · exact qf2
                          · exact qh3.1
                          · exact qp
                          · rw [← iv1_4, qd]
                            show _ = (if c2 = -21 then _ else if c2 = -22 ∧ _ then _ else f_crun A rem2 (f_cst A c2 st) wo)
                            rw [if_neg (by omega), if_neg (by first | omega | exact fun hh => hh.2 (by rw [qst]; exact h130))]
                      by_cases h165_m16 : c2 = (-16)
                      · refine ax_reS (st2 := [.inl (-16)]) (by rw [h165_m16]) ?_
                        refine ax_tabIn (tgt := 282) dX3_answer_165 (by decide) (by decide) rfl (by decide) ?_
                        refine ax_iload dX3_answer_282 rfl (pc' := 284) rfl ?_
                        refine ax_iload dX3_answer_284 rfl (pc' := 286) rfl ?_
                        refine ax_icmp_ne (tgt := 293) dX3_answer_286 (by decide) (pc' := 289) rfl (fun h286 => ?_) (fun h286 => ?_)
                        · refine ax_iconst dX3_answer_293 (by decide) (pc' := 294) rfl ?_
                          refine ax_istore dX3_answer_294 (by decide) (ls' := [some (.inr a), some (.inr 72), some (.inr 73), some (.inl wo), some (.inl (top + (-1))), some (.inl i), some (.inl c2), some (.inl 0), some (.inl y8)]) rfl (pc' := 296) rfl ?_
                          refine ax_goto dX3_answer_296 (pc' := 333) (by decide) ?_
                          refine ax_aload_n dX3_answer_333 rfl rfl (pc' := 334) rfl ?_
                          refine ax_iload dX3_answer_334 rfl (pc' := 336) rfl ?_
                          refine ax_iconst dX3_answer_336 (by decide) (pc' := 337) rfl ?_
                          refine ax_isub dX3_answer_337 (by omega) (pc' := 338) rfl ?_
                          refine ax_iload dX3_answer_338 rfl (pc' := 340) rfl ?_
                          refine ax_iast dX3_answer_340 sh_73 rfl (by omega) (by omega) (pc' := 341) rfl ?_
                          have qs : f_cst A c2 st = 0 :: s8 := by
                            rw [qst]
                            unfold f_cst
                            rw [if_neg (by omega)]
                            show (if c2 = -18 then _ else if c2 = -22 then s8 else f_cbin c2 x8 y8 :: s8) = _
                            rw [if_neg (by omega), if_neg (by omega)]
                            congr 1
                            unfold f_cbin f_b
                            repeat' split
                            all_goals first | rfl | (exfalso; omega)
                          have qp : f_pil2 (f_up sk (top + (-1) - 1) 0) 2 (f_cst A c2 st) := by
                            rw [qs]
                            exact f_p2_push (by omega) qpl.2.2
                          have qh3 : f_cht rem2 (f_cst A c2 st).length ∧ (f_cst A c2 st).length + 1 = st.length := by
                            rw [qs]
                            exact ⟨by rw [if_neg (by omega), if_neg (by omega), if_neg (by omega), if_neg (by omega)] at qh2; have q9 := qh2.2.2; rw [qsl] at q9; exact q9, by simp only [List.length_cons]; omega⟩
                          refine ax_iinc dX3_answer_341 rfl (by decide) (by omega) (ls' := [some (.inr a), some (.inr 72), some (.inr 73), some (.inl wo), some (.inl (top + (-1))), some (.inl (i + 1)), some (.inl c2), some (.inl 0), some (.inl y8)]) rfl (pc' := 344) rfl ?_
                          refine ax_goto dX3_answer_344 (pc' := 6) (by decide) ?_
                          refine ax_less (ls2 := [some (.inr a), some (.inr 72), some (.inr 73), some (.inl wo), some (.inl (top + (-1))), some (.inl (i + 1)), none, none, none]) [true, true, true, true, true, true, false, false, false] rfl ?_
                          refine ih3 (i + 1) (top + (-1)) (f_up sk (top + (-1) - 1) 0) rem2 (f_cst A c2 st) (ax_up M1 73 (top + (-1) - 1) 0) ?_ ?_ ?_ ?_ ?_ ?_ ?_ ?_
                          · omega
                          · intro x0 i0 hai
                            exact (ax_up_miss (fun h => hai h.1) ((fr1 x0 i0 (fun h => hai h)).trans rfl))
                          · exact (ax_up_rowhit mr1_73)
                          · omega
                          · exact qf2
                          · exact qh3.1
                          · exact qp
                          · rw [← iv1_4, qd]
                            show _ = (if c2 = -21 then _ else if c2 = -22 ∧ _ then _ else f_crun A rem2 (f_cst A c2 st) wo)
                            rw [if_neg (by omega), if_neg (by first | omega | exact fun hh => hh.2 (by rw [qst]; exact h130))]
                        · refine ax_iconst dX3_answer_289 (by decide) (pc' := 290) rfl ?_
                          refine ax_goto dX3_answer_290 (pc' := 294) (by decide) ?_
                          refine ax_istore dX3_answer_294 (by decide) (ls' := [some (.inr a), some (.inr 72), some (.inr 73), some (.inl wo), some (.inl (top + (-1))), some (.inl i), some (.inl c2), some (.inl 1), some (.inl y8)]) rfl (pc' := 296) rfl ?_
                          refine ax_goto dX3_answer_296 (pc' := 333) (by decide) ?_
                          refine ax_aload_n dX3_answer_333 rfl rfl (pc' := 334) rfl ?_
                          refine ax_iload dX3_answer_334 rfl (pc' := 336) rfl ?_
                          refine ax_iconst dX3_answer_336 (by decide) (pc' := 337) rfl ?_
                          refine ax_isub dX3_answer_337 (by omega) (pc' := 338) rfl ?_
                          refine ax_iload dX3_answer_338 rfl (pc' := 340) rfl ?_
                          refine ax_iast dX3_answer_340 sh_73 rfl (by omega) (by omega) (pc' := 341) rfl ?_
                          have qs : f_cst A c2 st = 1 :: s8 := by
                            rw [qst]
                            unfold f_cst
                            rw [if_neg (by omega)]
                            show (if c2 = -18 then _ else if c2 = -22 then s8 else f_cbin c2 x8 y8 :: s8) = _
                            rw [if_neg (by omega), if_neg (by omega)]
                            congr 1
                            unfold f_cbin f_b
                            repeat' split
                            all_goals first | rfl | (exfalso; omega)
                          have qp : f_pil2 (f_up sk (top + (-1) - 1) 1) 2 (f_cst A c2 st) := by
                            rw [qs]
                            exact f_p2_push (by omega) qpl.2.2
                          have qh3 : f_cht rem2 (f_cst A c2 st).length ∧ (f_cst A c2 st).length + 1 = st.length := by
                            rw [qs]
                            exact ⟨by rw [if_neg (by omega), if_neg (by omega), if_neg (by omega), if_neg (by omega)] at qh2; have q9 := qh2.2.2; rw [qsl] at q9; exact q9, by simp only [List.length_cons]; omega⟩
                          refine ax_iinc dX3_answer_341 rfl (by decide) (by omega) (ls' := [some (.inr a), some (.inr 72), some (.inr 73), some (.inl wo), some (.inl (top + (-1))), some (.inl (i + 1)), some (.inl c2), some (.inl 1), some (.inl y8)]) rfl (pc' := 344) rfl ?_
                          refine ax_goto dX3_answer_344 (pc' := 6) (by decide) ?_
                          refine ax_less (ls2 := [some (.inr a), some (.inr 72), some (.inr 73), some (.inl wo), some (.inl (top + (-1))), some (.inl (i + 1)), none, none, none]) [true, true, true, true, true, true, false, false, false] rfl ?_
                          refine ih3 (i + 1) (top + (-1)) (f_up sk (top + (-1) - 1) 1) rem2 (f_cst A c2 st) (ax_up M1 73 (top + (-1) - 1) 1) ?_ ?_ ?_ ?_ ?_ ?_ ?_ ?_
                          · omega
                          · intro x0 i0 hai
                            exact (ax_up_miss (fun h => hai h.1) ((fr1 x0 i0 (fun h => hai h)).trans rfl))
                          · exact (ax_up_rowhit mr1_73)
                          · omega
                          · exact qf2
                          · exact qh3.1
                          · exact qp
                          · rw [← iv1_4, qd]
                            show _ = (if c2 = -21 then _ else if c2 = -22 ∧ _ then _ else f_crun A rem2 (f_cst A c2 st) wo)
                            rw [if_neg (by omega), if_neg (by first | omega | exact fun hh => hh.2 (by rw [qst]; exact h130))]
                      by_cases h165_m15 : c2 = (-15)
                      · refine ax_reS (st2 := [.inl (-15)]) (by rw [h165_m15]) ?_
                        refine ax_tabIn (tgt := 265) dX3_answer_165 (by decide) (by decide) rfl (by decide) ?_
                        refine ax_iload dX3_answer_265 rfl (pc' := 267) rfl ?_
                        refine ax_iload dX3_answer_267 rfl (pc' := 269) rfl ?_
                        refine ax_icmp_ge (tgt := 276) dX3_answer_269 (by decide) (pc' := 272) rfl (fun h269 => ?_) (fun h269 => ?_)
                        · refine ax_iconst dX3_answer_276 (by decide) (pc' := 277) rfl ?_
                          refine ax_istore dX3_answer_277 (by decide) (ls' := [some (.inr a), some (.inr 72), some (.inr 73), some (.inl wo), some (.inl (top + (-1))), some (.inl i), some (.inl c2), some (.inl 0), some (.inl y8)]) rfl (pc' := 279) rfl ?_
                          refine ax_goto dX3_answer_279 (pc' := 333) (by decide) ?_
                          refine ax_aload_n dX3_answer_333 rfl rfl (pc' := 334) rfl ?_
                          refine ax_iload dX3_answer_334 rfl (pc' := 336) rfl ?_
                          refine ax_iconst dX3_answer_336 (by decide) (pc' := 337) rfl ?_
                          refine ax_isub dX3_answer_337 (by omega) (pc' := 338) rfl ?_
                          refine ax_iload dX3_answer_338 rfl (pc' := 340) rfl ?_
                          refine ax_iast dX3_answer_340 sh_73 rfl (by omega) (by omega) (pc' := 341) rfl ?_
                          have qs : f_cst A c2 st = 0 :: s8 := by
                            rw [qst]
                            unfold f_cst
                            rw [if_neg (by omega)]
                            show (if c2 = -18 then _ else if c2 = -22 then s8 else f_cbin c2 x8 y8 :: s8) = _
                            rw [if_neg (by omega), if_neg (by omega)]
                            congr 1
                            unfold f_cbin f_b
                            repeat' split
                            all_goals first | rfl | (exfalso; omega)
                          have qp : f_pil2 (f_up sk (top + (-1) - 1) 0) 2 (f_cst A c2 st) := by
                            rw [qs]
                            exact f_p2_push (by omega) qpl.2.2
                          have qh3 : f_cht rem2 (f_cst A c2 st).length ∧ (f_cst A c2 st).length + 1 = st.length := by
                            rw [qs]
                            exact ⟨by rw [if_neg (by omega), if_neg (by omega), if_neg (by omega), if_neg (by omega)] at qh2; have q9 := qh2.2.2; rw [qsl] at q9; exact q9, by simp only [List.length_cons]; omega⟩
                          refine ax_iinc dX3_answer_341 rfl (by decide) (by omega) (ls' := [some (.inr a), some (.inr 72), some (.inr 73), some (.inl wo), some (.inl (top + (-1))), some (.inl (i + 1)), some (.inl c2), some (.inl 0), some (.inl y8)]) rfl (pc' := 344) rfl ?_
                          refine ax_goto dX3_answer_344 (pc' := 6) (by decide) ?_
                          refine ax_less (ls2 := [some (.inr a), some (.inr 72), some (.inr 73), some (.inl wo), some (.inl (top + (-1))), some (.inl (i + 1)), none, none, none]) [true, true, true, true, true, true, false, false, false] rfl ?_
                          refine ih3 (i + 1) (top + (-1)) (f_up sk (top + (-1) - 1) 0) rem2 (f_cst A c2 st) (ax_up M1 73 (top + (-1) - 1) 0) ?_ ?_ ?_ ?_ ?_ ?_ ?_ ?_
                          · omega
                          · intro x0 i0 hai
                            exact (ax_up_miss (fun h => hai h.1) ((fr1 x0 i0 (fun h => hai h)).trans rfl))
                          · exact (ax_up_rowhit mr1_73)
                          · omega
                          · exact qf2
                          · exact qh3.1
                          · exact qp
                          · rw [← iv1_4, qd]
                            show _ = (if c2 = -21 then _ else if c2 = -22 ∧ _ then _ else f_crun A rem2 (f_cst A c2 st) wo)
                            rw [if_neg (by omega), if_neg (by first | omega | exact fun hh => hh.2 (by rw [qst]; exact h130))]
                        · refine ax_iconst dX3_answer_272 (by decide) (pc' := 273) rfl ?_
                          refine ax_goto dX3_answer_273 (pc' := 277) (by decide) ?_
                          refine ax_istore dX3_answer_277 (by decide) (ls' := [some (.inr a), some (.inr 72), some (.inr 73), some (.inl wo), some (.inl (top + (-1))), some (.inl i), some (.inl c2), some (.inl 1), some (.inl y8)]) rfl (pc' := 279) rfl ?_
                          refine ax_goto dX3_answer_279 (pc' := 333) (by decide) ?_
                          refine ax_aload_n dX3_answer_333 rfl rfl (pc' := 334) rfl ?_
                          refine ax_iload dX3_answer_334 rfl (pc' := 336) rfl ?_
                          refine ax_iconst dX3_answer_336 (by decide) (pc' := 337) rfl ?_
                          refine ax_isub dX3_answer_337 (by omega) (pc' := 338) rfl ?_
                          refine ax_iload dX3_answer_338 rfl (pc' := 340) rfl ?_
                          refine ax_iast dX3_answer_340 sh_73 rfl (by omega) (by omega) (pc' := 341) rfl ?_
                          have qs : f_cst A c2 st = 1 :: s8 := by
                            rw [qst]
                            unfold f_cst
                            rw [if_neg (by omega)]
                            show (if c2 = -18 then _ else if c2 = -22 then s8 else f_cbin c2 x8 y8 :: s8) = _
                            rw [if_neg (by omega), if_neg (by omega)]
                            congr 1
                            unfold f_cbin f_b
                            repeat' split
                            all_goals first | rfl | (exfalso; omega)
                          have qp : f_pil2 (f_up sk (top + (-1) - 1) 1) 2 (f_cst A c2 st) := by
                            rw [qs]
                            exact f_p2_push (by omega) qpl.2.2
                          have qh3 : f_cht rem2 (f_cst A c2 st).length ∧ (f_cst A c2 st).length + 1 = st.length := by
                            rw [qs]
                            exact ⟨by rw [if_neg (by omega), if_neg (by omega), if_neg (by omega), if_neg (by omega)] at qh2; have q9 := qh2.2.2; rw [qsl] at q9; exact q9, by simp only [List.length_cons]; omega⟩
                          refine ax_iinc dX3_answer_341 rfl (by decide) (by omega) (ls' := [some (.inr a), some (.inr 72), some (.inr 73), some (.inl wo), some (.inl (top + (-1))), some (.inl (i + 1)), some (.inl c2), some (.inl 1), some (.inl y8)]) rfl (pc' := 344) rfl ?_
                          refine ax_goto dX3_answer_344 (pc' := 6) (by decide) ?_
                          refine ax_less (ls2 := [some (.inr a), some (.inr 72), some (.inr 73), some (.inl wo), some (.inl (top + (-1))), some (.inl (i + 1)), none, none, none]) [true, true, true, true, true, true, false, false, false] rfl ?_
                          refine ih3 (i + 1) (top + (-1)) (f_up sk (top + (-1) - 1) 1) rem2 (f_cst A c2 st) (ax_up M1 73 (top + (-1) - 1) 1) ?_ ?_ ?_ ?_ ?_ ?_ ?_ ?_
                          · omega
                          · intro x0 i0 hai
                            exact (ax_up_miss (fun h => hai h.1) ((fr1 x0 i0 (fun h => hai h)).trans rfl))
                          · exact (ax_up_rowhit mr1_73)
                          · omega
                          · exact qf2
                          · exact qh3.1
                          · exact qp
                          · rw [← iv1_4, qd]
                            show _ = (if c2 = -21 then _ else if c2 = -22 ∧ _ then _ else f_crun A rem2 (f_cst A c2 st) wo)
                            rw [if_neg (by omega), if_neg (by first | omega | exact fun hh => hh.2 (by rw [qst]; exact h130))]
                      by_cases h165_m14 : c2 = (-14)
                      · refine ax_reS (st2 := [.inl (-14)]) (by rw [h165_m14]) ?_
                        refine ax_tabIn (tgt := 246) dX3_answer_165 (by decide) (by decide) rfl (by decide) ?_
                        refine ax_iload dX3_answer_246 rfl (pc' := 248) rfl ?_
                        refine ax_if_eq (tgt := 259) dX3_answer_248 (by decide) (pc' := 251) rfl (fun h248 => ?_) (fun h248 => ?_)
                        · refine ax_iconst dX3_answer_259 (by decide) (pc' := 260) rfl ?_
                          refine ax_istore dX3_answer_260 (by decide) (ls' := [some (.inr a), some (.inr 72), some (.inr 73), some (.inl wo), some (.inl (top + (-1))), some (.inl i), some (.inl c2), some (.inl 0), some (.inl y8)]) rfl (pc' := 262) rfl ?_
                          refine ax_goto dX3_answer_262 (pc' := 333) (by decide) ?_
                          refine ax_aload_n dX3_answer_333 rfl rfl (pc' := 334) rfl ?_
                          refine ax_iload dX3_answer_334 rfl (pc' := 336) rfl ?_
                          refine ax_iconst dX3_answer_336 (by decide) (pc' := 337) rfl ?_
                          refine ax_isub dX3_answer_337 (by omega) (pc' := 338) rfl ?_
                          refine ax_iload dX3_answer_338 rfl (pc' := 340) rfl ?_
                          refine ax_iast dX3_answer_340 sh_73 rfl (by omega) (by omega) (pc' := 341) rfl ?_
                          have qs : f_cst A c2 st = 0 :: s8 := by
                            rw [qst]
                            unfold f_cst
                            rw [if_neg (by omega)]
                            show (if c2 = -18 then _ else if c2 = -22 then s8 else f_cbin c2 x8 y8 :: s8) = _
                            rw [if_neg (by omega), if_neg (by omega)]
                            congr 1
                            unfold f_cbin f_b
                            repeat' split
                            all_goals first | rfl | (exfalso; omega)
                          have qp : f_pil2 (f_up sk (top + (-1) - 1) 0) 2 (f_cst A c2 st) := by
                            rw [qs]
                            exact f_p2_push (by omega) qpl.2.2
                          have qh3 : f_cht rem2 (f_cst A c2 st).length ∧ (f_cst A c2 st).length + 1 = st.length := by
                            rw [qs]
                            exact ⟨by rw [if_neg (by omega), if_neg (by omega), if_neg (by omega), if_neg (by omega)] at qh2; have q9 := qh2.2.2; rw [qsl] at q9; exact q9, by simp only [List.length_cons]; omega⟩
                          refine ax_iinc dX3_answer_341 rfl (by decide) (by omega) (ls' := [some (.inr a), some (.inr 72), some (.inr 73), some (.inl wo), some (.inl (top + (-1))), some (.inl (i + 1)), some (.inl c2), some (.inl 0), some (.inl y8)]) rfl (pc' := 344) rfl ?_
                          refine ax_goto dX3_answer_344 (pc' := 6) (by decide) ?_
                          refine ax_less (ls2 := [some (.inr a), some (.inr 72), some (.inr 73), some (.inl wo), some (.inl (top + (-1))), some (.inl (i + 1)), none, none, none]) [true, true, true, true, true, true, false, false, false] rfl ?_
                          refine ih3 (i + 1) (top + (-1)) (f_up sk (top + (-1) - 1) 0) rem2 (f_cst A c2 st) (ax_up M1 73 (top + (-1) - 1) 0) ?_ ?_ ?_ ?_ ?_ ?_ ?_ ?_
                          · omega
                          · intro x0 i0 hai
                            exact (ax_up_miss (fun h => hai h.1) ((fr1 x0 i0 (fun h => hai h)).trans rfl))
                          · exact (ax_up_rowhit mr1_73)
                          · omega
                          · exact qf2
                          · exact qh3.1
                          · exact qp
                          · rw [← iv1_4, qd]
                            show _ = (if c2 = -21 then _ else if c2 = -22 ∧ _ then _ else f_crun A rem2 (f_cst A c2 st) wo)
                            rw [if_neg (by omega), if_neg (by first | omega | exact fun hh => hh.2 (by rw [qst]; exact h130))]
                        · refine ax_iload dX3_answer_251 rfl (pc' := 253) rfl ?_
                          refine ax_iload dX3_answer_253 rfl (pc' := 255) rfl ?_
                          refine ax_idivw dX3_answer_255 (by omega) (pc' := 256) rfl ?_
                          refine ax_goto dX3_answer_256 (pc' := 260) (by decide) ?_
                          refine ax_istore dX3_answer_260 (by decide) (ls' := [some (.inr a), some (.inr 72), some (.inr 73), some (.inl wo), some (.inl (top + (-1))), some (.inl i), some (.inl c2), some (.inl (ax_div x8 y8)), some (.inl y8)]) rfl (pc' := 262) rfl ?_
                          refine ax_goto dX3_answer_262 (pc' := 333) (by decide) ?_
                          refine ax_aload_n dX3_answer_333 rfl rfl (pc' := 334) rfl ?_
                          refine ax_iload dX3_answer_334 rfl (pc' := 336) rfl ?_
                          refine ax_iconst dX3_answer_336 (by decide) (pc' := 337) rfl ?_
                          refine ax_isub dX3_answer_337 (by omega) (pc' := 338) rfl ?_
                          refine ax_iload dX3_answer_338 rfl (pc' := 340) rfl ?_
                          refine ax_iast dX3_answer_340 sh_73 rfl (by omega) (by omega) (pc' := 341) rfl ?_
                          have qs : f_cst A c2 st = (ax_div x8 y8) :: s8 := by
                            rw [qst]
                            unfold f_cst
                            rw [if_neg (by omega)]
                            show (if c2 = -18 then _ else if c2 = -22 then s8 else f_cbin c2 x8 y8 :: s8) = _
                            rw [if_neg (by omega), if_neg (by omega)]
                            congr 1
                            unfold f_cbin f_b
                            repeat' split
                            all_goals first | rfl | (exfalso; omega)
                          have qp : f_pil2 (f_up sk (top + (-1) - 1) (ax_div x8 y8)) 2 (f_cst A c2 st) := by
                            rw [qs]
                            exact f_p2_push (by omega) qpl.2.2
                          have qh3 : f_cht rem2 (f_cst A c2 st).length ∧ (f_cst A c2 st).length + 1 = st.length := by
                            rw [qs]
                            exact ⟨by rw [if_neg (by omega), if_neg (by omega), if_neg (by omega), if_neg (by omega)] at qh2; have q9 := qh2.2.2; rw [qsl] at q9; exact q9, by simp only [List.length_cons]; omega⟩
                          refine ax_iinc dX3_answer_341 rfl (by decide) (by omega) (ls' := [some (.inr a), some (.inr 72), some (.inr 73), some (.inl wo), some (.inl (top + (-1))), some (.inl (i + 1)), some (.inl c2), some (.inl (ax_div x8 y8)), some (.inl y8)]) rfl (pc' := 344) rfl ?_
                          refine ax_goto dX3_answer_344 (pc' := 6) (by decide) ?_
                          refine ax_less (ls2 := [some (.inr a), some (.inr 72), some (.inr 73), some (.inl wo), some (.inl (top + (-1))), some (.inl (i + 1)), none, none, none]) [true, true, true, true, true, true, false, false, false] rfl ?_
                          refine ih3 (i + 1) (top + (-1)) (f_up sk (top + (-1) - 1) (ax_div x8 y8)) rem2 (f_cst A c2 st) (ax_up M1 73 (top + (-1) - 1) (ax_div x8 y8)) ?_ ?_ ?_ ?_ ?_ ?_ ?_ ?_
                          · omega
                          · intro x0 i0 hai
                            exact (ax_up_miss (fun h => hai h.1) ((fr1 x0 i0 (fun h => hai h)).trans rfl))
                          · exact (ax_up_rowhit mr1_73)
                          · omega
                          · exact qf2
                          · exact qh3.1
                          · exact qp
                          · rw [← iv1_4, qd]
                            show _ = (if c2 = -21 then _ else if c2 = -22 ∧ _ then _ else f_crun A rem2 (f_cst A c2 st) wo)
                            rw [if_neg (by omega), if_neg (by first | omega | exact fun hh => hh.2 (by rw [qst]; exact h130))]
                      by_cases h165_m13 : c2 = (-13)
                      · refine ax_reS (st2 := [.inl (-13)]) (by rw [h165_m13]) ?_
                        refine ax_tabIn (tgt := 236) dX3_answer_165 (by decide) (by decide) rfl (by decide) ?_
                        refine ax_iload dX3_answer_236 rfl (pc' := 238) rfl ?_
                        refine ax_iload dX3_answer_238 rfl (pc' := 240) rfl ?_
                        refine ax_imulw dX3_answer_240 (pc' := 241) rfl ?_
                        refine ax_istore dX3_answer_241 (by decide) (ls' := [some (.inr a), some (.inr 72), some (.inr 73), some (.inl wo), some (.inl (top + (-1))), some (.inl i), some (.inl c2), some (.inl (ax_wr (x8 * y8))), some (.inl y8)]) rfl (pc' := 243) rfl ?_
                        refine ax_goto dX3_answer_243 (pc' := 333) (by decide) ?_
                        refine ax_aload_n dX3_answer_333 rfl rfl (pc' := 334) rfl ?_
                        refine ax_iload dX3_answer_334 rfl (pc' := 336) rfl ?_
                        refine ax_iconst dX3_answer_336 (by decide) (pc' := 337) rfl ?_
                        refine ax_isub dX3_answer_337 (by omega) (pc' := 338) rfl ?_
                        refine ax_iload dX3_answer_338 rfl (pc' := 340) rfl ?_
                        refine ax_iast dX3_answer_340 sh_73 rfl (by omega) (by omega) (pc' := 341) rfl ?_
                        have qs : f_cst A c2 st = (ax_wr (x8 * y8)) :: s8 := by
                          rw [qst]
                          unfold f_cst
                          rw [if_neg (by omega)]
                          show (if c2 = -18 then _ else if c2 = -22 then s8 else f_cbin c2 x8 y8 :: s8) = _
                          rw [if_neg (by omega), if_neg (by omega)]
                          congr 1
                          unfold f_cbin f_b
                          repeat' split
                          all_goals first | rfl | (exfalso; omega)
                        have qp : f_pil2 (f_up sk (top + (-1) - 1) (ax_wr (x8 * y8))) 2 (f_cst A c2 st) := by
                          rw [qs]
                          exact f_p2_push (by omega) qpl.2.2
                        have qh3 : f_cht rem2 (f_cst A c2 st).length ∧ (f_cst A c2 st).length + 1 = st.length := by
                          rw [qs]
                          exact ⟨by rw [if_neg (by omega), if_neg (by omega), if_neg (by omega), if_neg (by omega)] at qh2; have q9 := qh2.2.2; rw [qsl] at q9; exact q9, by simp only [List.length_cons]; omega⟩
                        refine ax_iinc dX3_answer_341 rfl (by decide) (by omega) (ls' := [some (.inr a), some (.inr 72), some (.inr 73), some (.inl wo), some (.inl (top + (-1))), some (.inl (i + 1)), some (.inl c2), some (.inl (ax_wr (x8 * y8))), some (.inl y8)]) rfl (pc' := 344) rfl ?_
                        refine ax_goto dX3_answer_344 (pc' := 6) (by decide) ?_
                        refine ax_less (ls2 := [some (.inr a), some (.inr 72), some (.inr 73), some (.inl wo), some (.inl (top + (-1))), some (.inl (i + 1)), none, none, none]) [true, true, true, true, true, true, false, false, false] rfl ?_
                        refine ih3 (i + 1) (top + (-1)) (f_up sk (top + (-1) - 1) (ax_wr (x8 * y8))) rem2 (f_cst A c2 st) (ax_up M1 73 (top + (-1) - 1) (ax_wr (x8 * y8))) ?_ ?_ ?_ ?_ ?_ ?_ ?_ ?_
                        · omega
                        · intro x0 i0 hai
                          exact (ax_up_miss (fun h => hai h.1) ((fr1 x0 i0 (fun h => hai h)).trans rfl))
                        · exact (ax_up_rowhit mr1_73)
                        · omega
                        · exact qf2
                        · exact qh3.1
                        · exact qp
                        · rw [← iv1_4, qd]
                          show _ = (if c2 = -21 then _ else if c2 = -22 ∧ _ then _ else f_crun A rem2 (f_cst A c2 st) wo)
                          rw [if_neg (by omega), if_neg (by first | omega | exact fun hh => hh.2 (by rw [qst]; exact h130))]
                      by_cases h165_m12 : c2 = (-12)
                      · refine ax_reS (st2 := [.inl (-12)]) (by rw [h165_m12]) ?_
                        refine ax_tabIn (tgt := 226) dX3_answer_165 (by decide) (by decide) rfl (by decide) ?_
                        refine ax_iload dX3_answer_226 rfl (pc' := 228) rfl ?_
                        refine ax_iload dX3_answer_228 rfl (pc' := 230) rfl ?_
                        refine ax_isubw dX3_answer_230 (pc' := 231) rfl ?_
                        refine ax_istore dX3_answer_231 (by decide) (ls' := [some (.inr a), some (.inr 72), some (.inr 73), some (.inl wo), some (.inl (top + (-1))), some (.inl i), some (.inl c2), some (.inl (ax_wr (x8 - y8))), some (.inl y8)]) rfl (pc' := 233) rfl ?_
                        refine ax_goto dX3_answer_233 (pc' := 333) (by decide) ?_
                        refine ax_aload_n dX3_answer_333 rfl rfl (pc' := 334) rfl ?_
                        refine ax_iload dX3_answer_334 rfl (pc' := 336) rfl ?_
                        refine ax_iconst dX3_answer_336 (by decide) (pc' := 337) rfl ?_
                        refine ax_isub dX3_answer_337 (by omega) (pc' := 338) rfl ?_
                        refine ax_iload dX3_answer_338 rfl (pc' := 340) rfl ?_
                        refine ax_iast dX3_answer_340 sh_73 rfl (by omega) (by omega) (pc' := 341) rfl ?_
                        have qs : f_cst A c2 st = (ax_wr (x8 - y8)) :: s8 := by
                          rw [qst]
                          unfold f_cst
                          rw [if_neg (by omega)]
                          show (if c2 = -18 then _ else if c2 = -22 then s8 else f_cbin c2 x8 y8 :: s8) = _
                          rw [if_neg (by omega), if_neg (by omega)]
                          congr 1
                          unfold f_cbin f_b
                          repeat' split
                          all_goals first | rfl | (exfalso; omega)
                        have qp : f_pil2 (f_up sk (top + (-1) - 1) (ax_wr (x8 - y8))) 2 (f_cst A c2 st) := by
                          rw [qs]
                          exact f_p2_push (by omega) qpl.2.2
                        have qh3 : f_cht rem2 (f_cst A c2 st).length ∧ (f_cst A c2 st).length + 1 = st.length := by
                          rw [qs]
                          exact ⟨by rw [if_neg (by omega), if_neg (by omega), if_neg (by omega), if_neg (by omega)] at qh2; have q9 := qh2.2.2; rw [qsl] at q9; exact q9, by simp only [List.length_cons]; omega⟩
                        refine ax_iinc dX3_answer_341 rfl (by decide) (by omega) (ls' := [some (.inr a), some (.inr 72), some (.inr 73), some (.inl wo), some (.inl (top + (-1))), some (.inl (i + 1)), some (.inl c2), some (.inl (ax_wr (x8 - y8))), some (.inl y8)]) rfl (pc' := 344) rfl ?_
                        refine ax_goto dX3_answer_344 (pc' := 6) (by decide) ?_
                        refine ax_less (ls2 := [some (.inr a), some (.inr 72), some (.inr 73), some (.inl wo), some (.inl (top + (-1))), some (.inl (i + 1)), none, none, none]) [true, true, true, true, true, true, false, false, false] rfl ?_
                        refine ih3 (i + 1) (top + (-1)) (f_up sk (top + (-1) - 1) (ax_wr (x8 - y8))) rem2 (f_cst A c2 st) (ax_up M1 73 (top + (-1) - 1) (ax_wr (x8 - y8))) ?_ ?_ ?_ ?_ ?_ ?_ ?_ ?_
                        · omega
                        · intro x0 i0 hai
                          exact (ax_up_miss (fun h => hai h.1) ((fr1 x0 i0 (fun h => hai h)).trans rfl))
                        · exact (ax_up_rowhit mr1_73)
                        · omega
                        · exact qf2
                        · exact qh3.1
                        · exact qp
                        · rw [← iv1_4, qd]
                          show _ = (if c2 = -21 then _ else if c2 = -22 ∧ _ then _ else f_crun A rem2 (f_cst A c2 st) wo)
                          rw [if_neg (by omega), if_neg (by first | omega | exact fun hh => hh.2 (by rw [qst]; exact h130))]
                      by_cases h165_m11 : c2 = (-11)
                      · refine ax_reS (st2 := [.inl (-11)]) (by rw [h165_m11]) ?_
                        refine ax_tabIn (tgt := 216) dX3_answer_165 (by decide) (by decide) rfl (by decide) ?_
                        refine ax_iload dX3_answer_216 rfl (pc' := 218) rfl ?_
                        refine ax_iload dX3_answer_218 rfl (pc' := 220) rfl ?_
                        refine ax_iaddw dX3_answer_220 (pc' := 221) rfl ?_
                        refine ax_istore dX3_answer_221 (by decide) (ls' := [some (.inr a), some (.inr 72), some (.inr 73), some (.inl wo), some (.inl (top + (-1))), some (.inl i), some (.inl c2), some (.inl (ax_wr (x8 + y8))), some (.inl y8)]) rfl (pc' := 223) rfl ?_
                        refine ax_goto dX3_answer_223 (pc' := 333) (by decide) ?_
                        refine ax_aload_n dX3_answer_333 rfl rfl (pc' := 334) rfl ?_
                        refine ax_iload dX3_answer_334 rfl (pc' := 336) rfl ?_
                        refine ax_iconst dX3_answer_336 (by decide) (pc' := 337) rfl ?_
                        refine ax_isub dX3_answer_337 (by omega) (pc' := 338) rfl ?_
                        refine ax_iload dX3_answer_338 rfl (pc' := 340) rfl ?_
                        refine ax_iast dX3_answer_340 sh_73 rfl (by omega) (by omega) (pc' := 341) rfl ?_
                        have qs : f_cst A c2 st = (ax_wr (x8 + y8)) :: s8 := by
                          rw [qst]
                          unfold f_cst
                          rw [if_neg (by omega)]
                          show (if c2 = -18 then _ else if c2 = -22 then s8 else f_cbin c2 x8 y8 :: s8) = _
                          rw [if_neg (by omega), if_neg (by omega)]
                          congr 1
                          unfold f_cbin f_b
                          repeat' split
                          all_goals first | rfl | (exfalso; omega)
                        have qp : f_pil2 (f_up sk (top + (-1) - 1) (ax_wr (x8 + y8))) 2 (f_cst A c2 st) := by
                          rw [qs]
                          exact f_p2_push (by omega) qpl.2.2
                        have qh3 : f_cht rem2 (f_cst A c2 st).length ∧ (f_cst A c2 st).length + 1 = st.length := by
                          rw [qs]
                          exact ⟨by rw [if_neg (by omega), if_neg (by omega), if_neg (by omega), if_neg (by omega)] at qh2; have q9 := qh2.2.2; rw [qsl] at q9; exact q9, by simp only [List.length_cons]; omega⟩
                        refine ax_iinc dX3_answer_341 rfl (by decide) (by omega) (ls' := [some (.inr a), some (.inr 72), some (.inr 73), some (.inl wo), some (.inl (top + (-1))), some (.inl (i + 1)), some (.inl c2), some (.inl (ax_wr (x8 + y8))), some (.inl y8)]) rfl (pc' := 344) rfl ?_
                        refine ax_goto dX3_answer_344 (pc' := 6) (by decide) ?_
                        refine ax_less (ls2 := [some (.inr a), some (.inr 72), some (.inr 73), some (.inl wo), some (.inl (top + (-1))), some (.inl (i + 1)), none, none, none]) [true, true, true, true, true, true, false, false, false] rfl ?_
                        refine ih3 (i + 1) (top + (-1)) (f_up sk (top + (-1) - 1) (ax_wr (x8 + y8))) rem2 (f_cst A c2 st) (ax_up M1 73 (top + (-1) - 1) (ax_wr (x8 + y8))) ?_ ?_ ?_ ?_ ?_ ?_ ?_ ?_
                        · omega
                        · intro x0 i0 hai
                          exact (ax_up_miss (fun h => hai h.1) ((fr1 x0 i0 (fun h => hai h)).trans rfl))
                        · exact (ax_up_rowhit mr1_73)
                        · omega
                        · exact qf2
                        · exact qh3.1
                        · exact qp
                        · rw [← iv1_4, qd]
                          show _ = (if c2 = -21 then _ else if c2 = -22 ∧ _ then _ else f_crun A rem2 (f_cst A c2 st) wo)
                          rw [if_neg (by omega), if_neg (by first | omega | exact fun hh => hh.2 (by rw [qst]; exact h130))]
                      refine ax_tabOut (tgt := 326) dX3_answer_165 (by omega) (by decide) ?_
                      refine ax_iload dX3_answer_326 rfl (pc' := 328) rfl ?_
                      refine ax_iload dX3_answer_328 rfl (pc' := 330) rfl ?_
                      refine ax_ior dX3_answer_330 (pc' := 331) rfl ?_
                      refine ax_istore dX3_answer_331 (by decide) (ls' := [some (.inr a), some (.inr 72), some (.inr 73), some (.inl wo), some (.inl (top + (-1))), some (.inl i), some (.inl c2), some (.inl (ax_or x8 y8)), some (.inl y8)]) rfl (pc' := 333) rfl ?_
                      refine ax_aload_n dX3_answer_333 rfl rfl (pc' := 334) rfl ?_
                      refine ax_iload dX3_answer_334 rfl (pc' := 336) rfl ?_
                      refine ax_iconst dX3_answer_336 (by decide) (pc' := 337) rfl ?_
                      refine ax_isub dX3_answer_337 (by omega) (pc' := 338) rfl ?_
                      refine ax_iload dX3_answer_338 rfl (pc' := 340) rfl ?_
                      refine ax_iast dX3_answer_340 sh_73 rfl (by omega) (by omega) (pc' := 341) rfl ?_
                      have qs : f_cst A c2 st = (ax_or x8 y8) :: s8 := by
                        rw [qst]
                        unfold f_cst
                        rw [if_neg (by omega)]
                        show (if c2 = -18 then _ else if c2 = -22 then s8 else f_cbin c2 x8 y8 :: s8) = _
                        rw [if_neg (by omega), if_neg (by omega)]
                        congr 1
                        unfold f_cbin f_b
                        repeat' split
                        all_goals first | rfl | (exfalso; omega)
                      have qp : f_pil2 (f_up sk (top + (-1) - 1) (ax_or x8 y8)) 2 (f_cst A c2 st) := by
                        rw [qs]
                        exact f_p2_push (by omega) qpl.2.2
                      have qh3 : f_cht rem2 (f_cst A c2 st).length ∧ (f_cst A c2 st).length + 1 = st.length := by
                        rw [qs]
                        exact ⟨by rw [if_neg (by omega), if_neg (by omega), if_neg (by omega), if_neg (by omega)] at qh2; have q9 := qh2.2.2; rw [qsl] at q9; exact q9, by simp only [List.length_cons]; omega⟩
                      refine ax_iinc dX3_answer_341 rfl (by decide) (by omega) (ls' := [some (.inr a), some (.inr 72), some (.inr 73), some (.inl wo), some (.inl (top + (-1))), some (.inl (i + 1)), some (.inl c2), some (.inl (ax_or x8 y8)), some (.inl y8)]) rfl (pc' := 344) rfl ?_
                      refine ax_goto dX3_answer_344 (pc' := 6) (by decide) ?_
                      refine ax_less (ls2 := [some (.inr a), some (.inr 72), some (.inr 73), some (.inl wo), some (.inl (top + (-1))), some (.inl (i + 1)), none, none, none]) [true, true, true, true, true, true, false, false, false] rfl ?_
                      refine ih3 (i + 1) (top + (-1)) (f_up sk (top + (-1) - 1) (ax_or x8 y8)) rem2 (f_cst A c2 st) (ax_up M1 73 (top + (-1) - 1) (ax_or x8 y8)) ?_ ?_ ?_ ?_ ?_ ?_ ?_ ?_
                      · omega
                      · intro x0 i0 hai
                        exact (ax_up_miss (fun h => hai h.1) ((fr1 x0 i0 (fun h => hai h)).trans rfl))
                      · exact (ax_up_rowhit mr1_73)
                      · omega
                      · exact qf2
                      · exact qh3.1
                      · exact qp
                      · rw [← iv1_4, qd]
                        show _ = (if c2 = -21 then _ else if c2 = -22 ∧ _ then _ else f_crun A rem2 (f_cst A c2 st) wo)
                        rw [if_neg (by omega), if_neg (by first | omega | exact fun hh => hh.2 (by rw [qst]; exact h130))]
                    · have qh4 : 2 ≤ st.length := by
                        rw [if_neg (by omega), if_neg (by omega), if_neg (by omega), if_pos (by omega)] at qh2
                        exact qh2.1
                      obtain ⟨y8, x8, s8, qst⟩ : ∃ x y z, st = x :: y :: z := by
                        cases st with
                        | nil => simp only [List.length_nil] at qh4; omega
                        | cons x y =>
                          cases y with
                          | nil => simp only [List.length_cons, List.length_nil] at qh4; omega
                          | cons y z => exact ⟨x, y, z, rfl⟩
                      have qsl : st.length = s8.length + 1 + 1 := by rw [qst]; rfl
                      have qpl : f_pil2 sk 2 (y8 :: x8 :: s8) := qst ▸ iv1_3
                      have qy : sk (top - 1) = y8 := by rw [show top - 1 = 2 + ((s8.length + 1 : Nat) : Int) by omega]; exact qpl.1
                      have qx : sk (top - 2) = x8 := by rw [show top - 2 = 2 + (s8.length : Int) by omega]; exact qpl.2.1
                      refine ax_aload_n dX3_answer_124 rfl rfl (pc' := 125) rfl ?_
                      refine ax_iload dX3_answer_125 rfl (pc' := 127) rfl ?_
                      refine ax_iconst dX3_answer_127 (by decide) (pc' := 128) rfl ?_
                      refine ax_isub dX3_answer_128 (by omega) (pc' := 129) rfl ?_
                      refine ax_iald (v := sk (top - 1)) dX3_answer_129 sh_73 rfl (by omega) (by omega) ((congrFun mr1_73 (top - 1)).trans rfl) (pc' := 130) rfl ?_
                      refine ax_reS (st2 := [.inl y8]) (congrArg (fun z => Sum.inl z :: _) (by exact qy)) ?_
                      refine ax_if_eq (tgt := 140) dX3_answer_130 (by decide) (pc' := 133) rfl (fun h130 => ?_) (fun h130 => ?_)
                      · refine ax_iinc dX3_answer_140 rfl (by decide) (by omega) (ls' := [some (.inr a), some (.inr 72), some (.inr 73), some (.inl wo), some (.inl (top + (-2))), some (.inl i), some (.inl c2), none, none]) rfl (pc' := 143) rfl ?_
                        refine ax_goto dX3_answer_143 (pc' := 341) (by decide) ?_
                        have qs : f_cst A c2 st = s8 := by
                          rw [qst]
                          unfold f_cst
                          rw [if_neg (by omega)]
                          show (if c2 = -18 then _ else if c2 = -22 then s8 else _) = _
                          rw [if_neg (by omega), if_pos (by omega)]
                        have qp : f_pil2 sk 2 (f_cst A c2 st) := by
                          rw [qs]
                          exact qpl.2.2
                        have qh3 : f_cht rem2 (f_cst A c2 st).length ∧ (f_cst A c2 st).length + 2 = st.length := by
                          rw [qs]
                          exact ⟨by rw [if_neg (by omega), if_neg (by omega), if_neg (by omega), if_pos (by omega)] at qh2; have q9 := qh2.2; rw [qsl] at q9; exact q9, by omega⟩
                        refine ax_iinc dX3_answer_341 rfl (by decide) (by omega) (ls' := [some (.inr a), some (.inr 72), some (.inr 73), some (.inl wo), some (.inl (top + (-2))), some (.inl (i + 1)), some (.inl c2), none, none]) rfl (pc' := 344) rfl ?_
                        refine ax_goto dX3_answer_344 (pc' := 6) (by decide) ?_
                        refine ax_less (ls2 := [some (.inr a), some (.inr 72), some (.inr 73), some (.inl wo), some (.inl (top + (-2))), some (.inl (i + 1)), none, none, none]) [true, true, true, true, true, true, false, false, false] rfl ?_
                        refine ih3 (i + 1) (top + (-2)) sk rem2 (f_cst A c2 st) M1 ?_ ?_ ?_ ?_ ?_ ?_ ?_ ?_
                        · omega
                        · intro x0 i0 hai
                          exact ((fr1 x0 i0 (fun h => hai h)).trans rfl)
                        · exact mr1_73
                        · omega
                        · exact qf2
                        · exact qh3.1
                        · exact qp
                        · rw [← iv1_4, qd]
                          show _ = (if c2 = -21 then _ else if c2 = -22 ∧ _ then _ else f_crun A rem2 (f_cst A c2 st) wo)
                          rw [if_neg (by omega), if_neg (by first | omega | exact fun hh => hh.2 (by rw [qst]; exact h130))]
                      · refine ax_aload_n dX3_answer_133 rfl rfl (pc' := 134) rfl ?_
                        refine ax_iload dX3_answer_134 rfl (pc' := 136) rfl ?_
                        refine ax_iconst dX3_answer_136 (by decide) (pc' := 137) rfl ?_
                        refine ax_isub dX3_answer_137 (by omega) (pc' := 138) rfl ?_
                        refine ax_iald (v := sk (top - 2)) dX3_answer_138 sh_73 rfl (by omega) (by omega) ((congrFun mr1_73 (top - 2)).trans rfl) (pc' := 139) rfl ?_
                        refine ax_reS (st2 := [.inl x8]) (congrArg (fun z => Sum.inl z :: _) (by exact qx)) ?_
                        refine ax_iret dX3_answer_139 rfl ?_
                        refine ⟨rfl, ?_, ?_⟩
                        · refine congrArg (fun z => some (Sum.inl z)) ?_
                          rw [← iv1_4, qd, qst]
                          show _ = (if c2 = -21 then _ else if c2 = -22 ∧ y8 ≠ 0 then x8 else _)
                          rw [if_neg (by omega), if_pos ⟨by omega, h130⟩]
                        · intro x0 i0 hai
                          exact ((fr1 x0 i0 (fun h => hai h)).trans rfl)
                  · have qh4 : 1 ≤ st.length := by
                      rw [if_neg (by omega), if_neg (by omega), if_pos (by omega)] at qh2
                      exact qh2
                    obtain ⟨x8, s8, qst⟩ : ∃ x y, st = x :: y := by
                      cases st with
                      | nil => simp only [List.length_nil] at qh4; omega
                      | cons x y => exact ⟨x, y, rfl⟩
                    have qsl : st.length = s8.length + 1 := by rw [qst]; rfl
                    have qpl : f_pil2 sk 2 (x8 :: s8) := qst ▸ iv1_3
                    have qx : sk (top - 1) = x8 := by rw [show top - 1 = 2 + (s8.length : Int) by omega]; exact qpl.1
                    refine ax_aload_n dX3_answer_110 rfl rfl (pc' := 111) rfl ?_
                    refine ax_iload dX3_answer_111 rfl (pc' := 113) rfl ?_
                    refine ax_iconst dX3_answer_113 (by decide) (pc' := 114) rfl ?_
                    refine ax_isub dX3_answer_114 (by omega) (pc' := 115) rfl ?_
                    refine ax_iald (v := sk (top - 1)) dX3_answer_115 sh_73 rfl (by omega) (by omega) ((congrFun mr1_73 (top - 1)).trans rfl) (pc' := 116) rfl ?_
                    refine ax_reS (st2 := [.inl x8]) (congrArg (fun z => Sum.inl z :: _) (by exact qx)) ?_
                    refine ax_iret dX3_answer_116 rfl ?_
                    refine ⟨rfl, ?_, ?_⟩
                    · refine congrArg (fun z => some (Sum.inl z)) ?_
                      rw [← iv1_4, qd, qst]
                      show _ = (if c2 = -21 then x8 else _)
                      rw [if_pos (by omega)]
                    · intro x0 i0 hai
                      exact ((fr1 x0 i0 (fun h => hai h)).trans rfl)
                · have qh4 : 1 ≤ st.length := by
                    rw [if_neg (by omega), if_pos (by omega)] at qh2
                    exact qh2.1
                  obtain ⟨x8, s8, qst⟩ : ∃ x y, st = x :: y := by
                    cases st with
                    | nil => simp only [List.length_nil] at qh4; omega
                    | cons x y => exact ⟨x, y, rfl⟩
                  have qsl : st.length = s8.length + 1 := by rw [qst]; rfl
                  have qpl : f_pil2 sk 2 (x8 :: s8) := qst ▸ iv1_3
                  have qx : sk (top - 1) = x8 := by rw [show top - 1 = 2 + (s8.length : Int) by omega]; exact qpl.1
                  refine ax_aload_n dX3_answer_86 rfl rfl (pc' := 87) rfl ?_
                  refine ax_iload dX3_answer_87 rfl (pc' := 89) rfl ?_
                  refine ax_iconst dX3_answer_89 (by decide) (pc' := 90) rfl ?_
                  refine ax_isub dX3_answer_90 (by omega) (pc' := 91) rfl ?_
                  refine ax_iconst dX3_answer_91 (by decide) (pc' := 92) rfl ?_
                  refine ax_aload_n dX3_answer_92 rfl rfl (pc' := 93) rfl ?_
                  refine ax_iload dX3_answer_93 rfl (pc' := 95) rfl ?_
                  refine ax_iconst dX3_answer_95 (by decide) (pc' := 96) rfl ?_
                  refine ax_isub dX3_answer_96 (by omega) (pc' := 97) rfl ?_
                  refine ax_iald (v := sk (top - 1)) dX3_answer_97 sh_73 rfl (by omega) (by omega) ((congrFun mr1_73 (top - 1)).trans rfl) (pc' := 98) rfl ?_
                  refine ax_reS (st2 := [.inl x8, .inl 1, .inl (top - 1), .inr 73]) (congrArg (fun z => Sum.inl z :: _) (by exact qx)) ?_
                  refine ax_isubw dX3_answer_98 (pc' := 99) rfl ?_
                  refine ax_iast dX3_answer_99 sh_73 rfl (by omega) (by omega) (pc' := 100) rfl ?_
                  refine ax_goto dX3_answer_100 (pc' := 341) (by decide) ?_
                  have qs : f_cst A c2 st = ax_wr (1 - x8) :: s8 := by
                    rw [qst]
                    unfold f_cst
                    rw [if_neg (by omega)]
                    show (if c2 = -18 then _ else _) = _
                    rw [if_pos (by omega)]
                  have qp : f_pil2 (f_up sk (top - 1) (ax_wr (1 - x8))) 2 (f_cst A c2 st) := by
                    rw [qs]
                    exact f_p2_push (by omega) qpl.2
                  have qh3 : f_cht rem2 (f_cst A c2 st).length ∧ (f_cst A c2 st).length = st.length := by
                    rw [qs]
                    exact ⟨by rw [if_neg (by omega), if_pos (by omega)] at qh2; have q9 := qh2.2; rw [qsl] at q9; exact q9, qsl.symm⟩
                  refine ax_iinc dX3_answer_341 rfl (by decide) (by omega) (ls' := [some (.inr a), some (.inr 72), some (.inr 73), some (.inl wo), some (.inl top), some (.inl (i + 1)), some (.inl c2), none, none]) rfl (pc' := 344) rfl ?_
                  refine ax_goto dX3_answer_344 (pc' := 6) (by decide) ?_
                  refine ax_less (ls2 := [some (.inr a), some (.inr 72), some (.inr 73), some (.inl wo), some (.inl top), some (.inl (i + 1)), none, none, none]) [true, true, true, true, true, true, false, false, false] rfl ?_
                  refine ih3 (i + 1) top (f_up sk (top - 1) (ax_wr (1 - x8))) rem2 (f_cst A c2 st) (ax_up M1 73 (top - 1) (ax_wr (1 - x8))) ?_ ?_ ?_ ?_ ?_ ?_ ?_ ?_
                  · omega
                  · intro x0 i0 hai
                    exact (ax_up_miss (fun h => hai h.1) ((fr1 x0 i0 (fun h => hai h)).trans rfl))
                  · exact (ax_up_rowhit mr1_73)
                  · omega
                  · exact qf2
                  · exact qh3.1
                  · exact qp
                  · rw [← iv1_4, qd]
                    show _ = (if c2 = -21 then _ else if c2 = -22 ∧ _ then _ else f_crun A rem2 (f_cst A c2 st) wo)
                    rw [if_neg (by omega), if_neg (by first | omega | exact fun hh => hh.2 (by rw [qst]; exact h130))]
              · refine ax_aload_n dX3_answer_63 rfl rfl (pc' := 64) rfl ?_
                refine ax_iload dX3_answer_64 rfl (pc' := 66) rfl ?_
                refine ax_iinc dX3_answer_66 rfl (by decide) (by omega) (ls' := [some (.inr a), some (.inr 72), some (.inr 73), some (.inl wo), some (.inl (top + 1)), some (.inl i), some (.inl c2), none, none]) rfl (pc' := 69) rfl ?_
                refine ax_aload_n dX3_answer_69 rfl rfl (pc' := 70) rfl ?_
                refine ax_iconst dX3_answer_70 (by decide) (pc' := 71) rfl ?_
                refine ax_iload dX3_answer_71 rfl (pc' := 73) rfl ?_
                refine ax_isub dX3_answer_73 (by omega) (pc' := 74) rfl ?_
                refine ax_iald (v := A ((-1) - c2)) dX3_answer_74 sh_72 rfl (by omega) (by omega) ((congrFun ((funext fun i0 => fr1 72 i0 (fun h => absurd h (by decide))).trans hA) ((-1) - c2)).trans rfl) (pc' := 75) rfl ?_
                refine ax_iast dX3_answer_75 sh_73 rfl (by omega) (by omega) (pc' := 76) rfl ?_
                refine ax_goto dX3_answer_76 (pc' := 341) (by decide) ?_
                have qs : f_cst A c2 st = (A (-1 - c2)) :: st := by
                  unfold f_cst
                  rw [if_pos (by omega), if_neg (by omega)]
                have qp : f_pil2 (f_up sk top (A ((-1) - c2))) 2 (f_cst A c2 st) := by
                  rw [qs]
                  exact f_p2_push (by omega) iv1_3
                have qh3 : f_cht rem2 (f_cst A c2 st).length ∧ (f_cst A c2 st).length = st.length + 1 := by
                  rw [qs]
                  exact ⟨by rw [if_pos (by omega)] at qh2; exact qh2, rfl⟩
                refine ax_iinc dX3_answer_341 rfl (by decide) (by omega) (ls' := [some (.inr a), some (.inr 72), some (.inr 73), some (.inl wo), some (.inl (top + 1)), some (.inl (i + 1)), some (.inl c2), none, none]) rfl (pc' := 344) rfl ?_
                refine ax_goto dX3_answer_344 (pc' := 6) (by decide) ?_
                refine ax_less (ls2 := [some (.inr a), some (.inr 72), some (.inr 73), some (.inl wo), some (.inl (top + 1)), some (.inl (i + 1)), none, none, none]) [true, true, true, true, true, true, false, false, false] rfl ?_
                refine ih3 (i + 1) (top + 1) (f_up sk top (A ((-1) - c2))) rem2 (f_cst A c2 st) (ax_up M1 73 top (A ((-1) - c2))) ?_ ?_ ?_ ?_ ?_ ?_ ?_ ?_
                · omega
                · intro x0 i0 hai
                  exact (ax_up_miss (fun h => hai h.1) ((fr1 x0 i0 (fun h => hai h)).trans rfl))
                · exact (ax_up_rowhit mr1_73)
                · omega
                · exact qf2
                · exact qh3.1
                · exact qp
                · rw [← iv1_4, qd]
                  show _ = (if c2 = -21 then _ else if c2 = -22 ∧ _ then _ else f_crun A rem2 (f_cst A c2 st) wo)
                  rw [if_neg (by omega), if_neg (by first | omega | exact fun hh => hh.2 (by rw [qst]; exact h130))]
            · refine ax_aload_n dX3_answer_44 rfl rfl (pc' := 45) rfl ?_
              refine ax_iload dX3_answer_45 rfl (pc' := 47) rfl ?_
              refine ax_iinc dX3_answer_47 rfl (by decide) (by omega) (ls' := [some (.inr a), some (.inr 72), some (.inr 73), some (.inl wo), some (.inl (top + 1)), some (.inl i), some (.inl c2), none, none]) rfl (pc' := 50) rfl ?_
              refine ax_iload dX3_answer_50 rfl (pc' := 52) rfl ?_
              refine ax_iast dX3_answer_52 sh_73 rfl (by omega) (by omega) (pc' := 53) rfl ?_
              refine ax_goto dX3_answer_53 (pc' := 341) (by decide) ?_
              have qs : f_cst A c2 st = c2 :: st := by
                unfold f_cst
                rw [if_pos (by omega), if_pos (by omega)]
              have qp : f_pil2 (f_up sk top c2) 2 (f_cst A c2 st) := by
                rw [qs]
                exact f_p2_push (by omega) iv1_3
              have qh3 : f_cht rem2 (f_cst A c2 st).length ∧ (f_cst A c2 st).length = st.length + 1 := by
                rw [qs]
                exact ⟨by rw [if_pos (by omega)] at qh2; exact qh2, rfl⟩
              refine ax_iinc dX3_answer_341 rfl (by decide) (by omega) (ls' := [some (.inr a), some (.inr 72), some (.inr 73), some (.inl wo), some (.inl (top + 1)), some (.inl (i + 1)), some (.inl c2), none, none]) rfl (pc' := 344) rfl ?_
              refine ax_goto dX3_answer_344 (pc' := 6) (by decide) ?_
              refine ax_less (ls2 := [some (.inr a), some (.inr 72), some (.inr 73), some (.inl wo), some (.inl (top + 1)), some (.inl (i + 1)), none, none, none]) [true, true, true, true, true, true, false, false, false] rfl ?_
              refine ih3 (i + 1) (top + 1) (f_up sk top c2) rem2 (f_cst A c2 st) (ax_up M1 73 top c2) ?_ ?_ ?_ ?_ ?_ ?_ ?_ ?_
              · omega
              · intro x0 i0 hai
                exact (ax_up_miss (fun h => hai h.1) ((fr1 x0 i0 (fun h => hai h)).trans rfl))
              · exact (ax_up_rowhit mr1_73)
              · omega
              · exact qf2
              · exact qh3.1
              · exact qp
              · rw [← iv1_4, qd]
                show _ = (if c2 = -21 then _ else if c2 = -22 ∧ _ then _ else f_crun A rem2 (f_cst A c2 st) wo)
                rw [if_neg (by omega), if_neg (by first | omega | exact fun hh => hh.2 (by rw [qst]; exact h130))]
          · exfalso
            omega
  refine LP1 (M a 1 - 0 : Int).toNat.succ 0 2 (M 73) cs ([]) M ?_ ?_ ?_ ?_ ?_ ?_ ?_ ?_
  · omega
  · exact fun a i _ => rfl
  · exact rfl
  · refine ⟨by decide, ?_, rfl⟩
    omega
  · exact hg2
  · exact hg3
  · trivial
  · rfl
set_option maxRecDepth 20000 in
theorem s_X2_held (E : ax_Env) (l : Launch) (d : Nat) (hd : 0 ≤ d) (M : ax_Mem) (v m : Int) (hg0 : 0 ≤ m) : ax_G E l d iX2_held [.inl v, .inl m] M (fun z0 M2 => z0 = some (.inl (max 0 (min m v))) ∧ M = M2) := by
  refine ax_start rfl (Nat.le_of_ble_eq_true rfl) (ls := [some (.inl v), some (.inl m)]) rfl (fun hav hcm => ?_)
  have hc0 : -2147483648 ≤ v ∧ v < 2147483648 := hav (.inl v) (by simp)
  have hc1 : -2147483648 ≤ m ∧ m < 2147483648 := hav (.inl m) (by simp)
  clear hav
  refine ax_iload_n dX2_held_0 rfl rfl (pc' := 1) rfl ?_
  refine ax_if_ge (tgt := 8) dX2_held_1 (by decide) (pc' := 4) rfl (fun h1 => ?_) (fun h1 => ?_)
  · refine ax_iload_n dX2_held_8 rfl rfl (pc' := 9) rfl ?_
    refine ax_iload_n dX2_held_9 rfl rfl (pc' := 10) rfl ?_
    refine ax_icmp_le (tgt := 17) dX2_held_10 (by decide) (pc' := 13) rfl (fun h10 => ?_) (fun h10 => ?_)
    · refine ax_iload_n dX2_held_17 rfl rfl (pc' := 18) rfl ?_
      refine ax_iret dX2_held_18 rfl ?_
      refine ⟨rfl, ?_, ?_⟩
      · refine congrArg (fun z => some (Sum.inl z)) ?_
        omega
      · rfl
    · refine ax_iload_n dX2_held_13 rfl rfl (pc' := 14) rfl ?_
      refine ax_goto dX2_held_14 (pc' := 18) (by decide) ?_
      refine ax_iret dX2_held_18 rfl ?_
      refine ⟨rfl, ?_, ?_⟩
      · refine congrArg (fun z => some (Sum.inl z)) ?_
        omega
      · rfl
  · refine ax_iconst dX2_held_4 (by decide) (pc' := 5) rfl ?_
    refine ax_goto dX2_held_5 (pc' := 18) (by decide) ?_
    refine ax_iret dX2_held_18 rfl ?_
    refine ⟨rfl, ?_, ?_⟩
    · refine congrArg (fun z => some (Sum.inl z)) ?_
      omega
    · rfl
