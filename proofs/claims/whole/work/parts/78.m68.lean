/-! scan -/
def f_kv (rd T V kd va : Int) : Prop := (T = 0 ∧ kd = 0) ∨ (T = 1 ∧ kd = 4) ∨ (T = 2 ∧ kd = 3 ∧ va = V) ∨ (kd = 1 ∧ T = 100 + va ∧ f_sgn va) ∨ (kd = 2 ∧ (0 ≤ va ∧ va < f_wn rd) ∧ T = f_wcode rd va)
def f_tkl (rd : Int) (K V S : Int → Int) : Int → List f_Tk → Prop
  | _, [] => True
  | j, t :: tl => f_kv rd t.1 t.2.1 (K j) (V j) ∧ S j = t.2.2.1 ∧ f_tkl rd K V S (j + 1) tl
theorem f_tkl_sn {rd : Int} {K V S : Int → Int} {t : f_Tk} {n kd va st : Int} : ∀ (A : List f_Tk) (j : Int), f_tkl rd K V S j A → f_kv rd t.1 t.2.1 kd va → st = t.2.2.1 → n = j + (A.length : Int) → f_tkl rd (f_up K n kd) (f_up V n va) (f_up S n st) j (A ++ [t])
  | [], j, _, h1, h2, h3 => by
    have e : n = j := by rw [h3]; exact Int.add_zero j
    rw [e]
    refine ⟨?_, ?_, trivial⟩
    · rw [f_up_same, f_up_same]
      exact h1
    · rw [f_up_same]
      exact h2
  | a :: tl, j, h, h1, h2, h3 => by
    rw [List.length_cons] at h3
    refine ⟨?_, ?_, f_tkl_sn tl (j + 1) h.2.2 h1 h2 (by omega)⟩
    · rw [f_up_o (by omega), f_up_o (by omega)]
      exact h.1
    · rw [f_up_o (by omega)]
      exact h.2.1
theorem f_lx_end {ta : Int → Int} {tn rd v : Int} {B : List f_Tk} (h0 : 0 ≤ tn) (ht : f_tp ta tn) (h : f_lx ta tn rd tn v B) : ∃ t, B = [t] ∧ t.1 = 0 ∧ t.2.2.1 = tn := by
  match B, h with
  | t :: tl, h =>
    obtain ⟨rfl, h1, -⟩ := h
    have hs : f_nS ta tn tn = tn := f_to_done (Int.le_refl _)
    have hc : f_nC ta tn tn = -1 := by
      unfold f_nC f_see
      rw [hs, if_neg (by omega)]
    have h2 : (f_tk1 ta tn rd tn v).1 = 0 := (f_nT_0 h0 (Int.le_refl _) ht).mpr hc
    rw [h1 h2]
    exact ⟨_, rfl, h2, hs⟩
theorem f_lx_bl {ta : Int → Int} {tn rd v i : Int} {B : List f_Tk} (hi : i < tn) (hb : f_blk (ta i)) (h : f_lx ta tn rd i v B) : f_lx ta tn rd (i + 1) v B := by
  have hs : f_nS ta tn i = f_nS ta tn (i + 1) := by
    refine f_to_miss hi (fun hc => hc ?_)
    unfold f_see
    rw [if_pos hi]
    exact hb
  have e : f_tk1 ta tn rd i v = f_tk1 ta tn rd (i + 1) v := by
    unfold f_tk1 f_nT f_nV f_nE f_nC
    rw [hs]
  match B, h with
  | t :: tl, h => exact ⟨h.1.trans e, h.2⟩
theorem f_lx_st {ta : Int → Int} {tn rd v i : Int} {B : List f_Tk} (h0 : 0 ≤ i) (hi : i < tn) (ht : f_tp ta tn) (hb : ¬ f_blk (ta i)) (h : f_lx ta tn rd i v B) : ∃ tl, B = f_tk1 ta tn rd i v :: tl ∧ f_nS ta tn i = i ∧ f_nC ta tn i = ta i ∧ f_lx ta tn rd (f_nE ta tn i) (f_nV ta tn i v) tl := by
  have hse : f_see ta tn i = ta i := by
    unfold f_see
    rw [if_pos hi]
  have hs : f_nS ta tn i = i := by
    refine f_to_hit ?_
    unfold f_cB
    rw [hse]
    exact hb
  have hc : f_nC ta tn i = ta i := by
    unfold f_nC
    rw [hs, hse]
  have h1 := ht i h0 hi
  match B, h with
  | t :: tl, h =>
    obtain ⟨rfl, -, h2⟩ := h
    refine ⟨tl, rfl, hs, hc, h2 (fun q => ?_)⟩
    have := (f_nT_0 (rd := rd) h0 (Int.le_of_lt hi) ht).mp q
    omega
def f_rq (rd : Int) (q : Nat) : Prop := (rd = 0 ∧ q = 0) ∨ (rd = 1 ∧ q = 1) ∨ (rd = 2 ∧ q = 2) ∨ (rd = 3 ∧ q = 4)
theorem f_wfq {rd : Int} {q : Nat} {ta : Int → Int} {fm en : Int} (h : f_rq rd q) : (f_wfr q ta fm en = -1 ∧ f_wrd ta fm en rd = 1) ∨ (0 ≤ f_wfr q ta fm en ∧ f_wfr q ta fm en < f_wn rd ∧ f_wrd ta fm en rd = f_wcode rd (f_wfr q ta fm en)) := by
  rcases h with ⟨rfl, rfl⟩ | ⟨rfl, rfl⟩ | ⟨rfl, rfl⟩ | ⟨rfl, rfl⟩
  · exact f_wfq_0
  · exact f_wfq_1
  · exact f_wfq_2
  · exact f_wfq_3
set_option maxRecDepth 20000 in
theorem s_X8_scan (E : ax_Env) (l : Launch) (d : Nat) (hd : 7 ≤ d) (M : ax_Mem) (q : Nat) (rd v0 : Int) (L : List f_Tk) {kk : Int → Int} (hkk : M 60 = kk) {vv : Int → Int} (hvv : M 61 = vv) {ss : Int → Int} (hss : M 62 = ss) {ta : Int → Int} (hta : M 59 = ta) {tn : Int} (htn : M 58 1 = tn) (hg0 : f_rq rd q) (hg1 : 0 ≤ tn ∧ tn ≤ 400) (hg2 : f_tp ta tn) (hg3 : f_lx ta tn rd 0 v0 L) (hg4 : 0 ≤ v0 ∧ v0 ≤ 9999) : ax_G E l d iX8_scan [.inr 58, .inr (-(3 + (q : Int)))] M (fun z0 M2 => z0 = none ∧ (∀ x0 i0 : Int, ¬ ((x0 = 58 ∧ i0 = 8) ∨ x0 = 60 ∨ x0 = 61 ∨ x0 = 62 ∨ (x0 = 58 ∧ i0 = 7)) → M2 x0 i0 = M x0 i0) ∧ M2 58 8 = 0 ∧ (f_tkl rd (M2 60) (M2 61) (M2 62) 0 L) ∧ ((L.length : Int) ≤ 401)) := by
  obtain ⟨d, rfl⟩ : ∃ d0, d = d0 + 1 := ⟨d - 1, by omega⟩
  refine ax_start rfl (Nat.le_of_ble_eq_true rfl) (ls := [some (.inr 58), some (.inr (-(3 + (q : Int)))), none, none, none, none, none]) rfl (fun hav hcm => ?_)
  clear hav
  have hq30 : q < 30 := by unfold f_rq at hg0; omega
  refine ax_aload_n dX8_scan_0 rfl rfl (pc' := 1) rfl ?_
  refine ax_iconst dX8_scan_1 (by decide) (pc' := 2) rfl ?_
  refine ax_puti dX8_scan_2 flX8_31 (Or.inl rfl) sh_58 rfl (pc' := 5) rfl ?_
  refine ax_aload_n dX8_scan_5 rfl rfl (pc' := 6) rfl ?_
  refine ax_iconst dX8_scan_6 (by decide) (pc' := 7) rfl ?_
  refine ax_puti dX8_scan_7 flX8_34 (Or.inl rfl) sh_58 rfl (pc' := 10) rfl ?_
  refine ax_iconst dX8_scan_10 (by decide) (pc' := 11) rfl ?_
  refine ax_istore_n dX8_scan_11 rfl (by decide) (ls' := [some (.inr 58), some (.inr (-(3 + (q : Int)))), some (.inl 0), none, none, none, none]) rfl (pc' := 12) rfl ?_
  refine ax_iconst dX8_scan_12 (by decide) (pc' := 13) rfl ?_
  refine ax_istore_n dX8_scan_13 rfl (by decide) (ls' := [some (.inr 58), some (.inr (-(3 + (q : Int)))), some (.inl 0), some (.inl 0), none, none, none]) rfl (pc' := 14) rfl ?_
  have LP1 : ∀ (kq2 : Nat) (i tu : Int) (k1 v1 s1 : Int → Int) (c1 : Int) (A : List f_Tk) (Bl : List f_Tk) (v : Int) (M1 : ax_Mem) (hm1 : tn - i < (kq2 : Nat)) (fr1 : ∀ x0 i0 : Int, ¬ (x0 = 60 ∨ x0 = 61 ∨ x0 = 62 ∨ (x0 = 58 ∧ i0 = 7)) → M1 x0 i0 = (ax_up (ax_up M 58 7 0) 58 8 0) x0 i0) (mr1_60 : M1 60 = k1) (mr1_61 : M1 61 = v1) (mr1_62 : M1 62 = s1) (ms1_58_7 : M1 58 7 = c1) (iv1_0 : 0 ≤ i ∧ i ≤ tn ∧ 0 ≤ tu ∧ tu ≤ i) (iv1_1 : L = A ++ Bl) (iv1_2 : f_lx ta tn rd i v Bl) (iv1_3 : f_tkl rd k1 v1 s1 0 A) (iv1_4 : c1 = (A.length : Int) ∧ (A.length : Int) ≤ i) (iv1_5 : 0 ≤ v ∧ v ≤ 9999), ax_W E l (d + 1) 0 0 iX8_scan 14 [some (.inr 58), some (.inr (-(3 + (q : Int)))), some (.inl i), some (.inl tu), none, none, none] [] SH M1 (ax_P (fun z0 M2 => z0 = none ∧ (∀ x0 i0 : Int, ¬ ((x0 = 58 ∧ i0 = 8) ∨ x0 = 60 ∨ x0 = 61 ∨ x0 = 62 ∨ (x0 = 58 ∧ i0 = 7)) → M2 x0 i0 = M x0 i0) ∧ M2 58 8 = 0 ∧ (f_tkl rd (M2 60) (M2 61) (M2 62) 0 L) ∧ ((L.length : Int) ≤ 401))) := by
    intro kq2
    induction kq2 with
    | zero =>
      intro i tu k1 v1 s1 c1 A Bl v M1 hm1 fr1 mr1_60 mr1_61 mr1_62 ms1_58_7 iv1_0 iv1_1 iv1_2 iv1_3 iv1_4 iv1_5
      exfalso
      omega
    | succ kq2 ih3 =>
      intro i tu k1 v1 s1 c1 A Bl v M1 hm1 fr1 mr1_60 mr1_61 mr1_62 ms1_58_7 iv1_0 iv1_1 iv1_2 iv1_3 iv1_4 iv1_5
      refine ax_iload_n dX8_scan_14 rfl rfl (pc' := 15) rfl ?_
      refine ax_sipush dX8_scan_15 (by decide) (pc' := 18) rfl ?_
      refine ax_icmp_ge (tgt := 217) dX8_scan_18 (by decide) (pc' := 21) rfl (fun h18 => ?_) (fun h18 => ?_)
      · refine ax_aload_n dX8_scan_217 rfl rfl (pc' := 218) rfl ?_
        refine ax_iconst dX8_scan_218 (by decide) (pc' := 219) rfl ?_
        refine ax_iconst dX8_scan_219 (by decide) (pc' := 220) rfl ?_
        refine ax_aload_n dX8_scan_220 rfl rfl (pc' := 221) rfl ?_
        refine ax_geti (v := tn) dX8_scan_221 flX8_28 rfl sh_58 (show M1 58 1 = tn from ((fr1 58 1 (fun h => h.elim (fun h => absurd h (by decide)) (fun h => h.elim (fun h => absurd h (by decide)) (fun h => h.elim (fun h => absurd h (by decide)) (fun h => absurd h.2 (by decide)))))).trans (ax_up_miss (by decide) (ax_up_miss (by decide) htn)))) rfl (pc' := 224) rfl ?_
        refine ax_invG [.inl 0, .inl 0, .inl tn] [] dX8_scan_224 mlX8_45 sh_58 rfl rfl rfl (Nat.le_of_ble_eq_true rfl) (s_X8_add E l _ (by omega) _ 0 0 tn mr1_60 mr1_61 mr1_62 ms1_58_7 (by first | omega | assumption)) (pc' := 227) rfl (fun vv M_224 hq co224 hcm224 => ?_)
        obtain ⟨rfl, frM_224, mrM_224_0, mrM_224_1, mrM_224_2, msM_224_0⟩ := hq
        refine ax_reS (st2 := []) rfl ?_
        refine ax_vret dX8_scan_227 rfl ?_
        refine ⟨rfl, rfl, ?_, ?_, ?_, ?_⟩
        · intro x0 i0 hai
          exact ((frM_224 x0 i0 (fun h => h.elim (fun h => hai (Or.inr (Or.inl h))) (fun h => h.elim (fun h => hai (Or.inr (Or.inr (Or.inl h)))) (fun h => h.elim (fun h => hai (Or.inr (Or.inr (Or.inr (Or.inl h))))) (fun h => hai (Or.inr (Or.inr (Or.inr (Or.inr h))))))))).trans ((fr1 x0 i0 (fun h => h.elim (fun h => hai (Or.inr (Or.inl h))) (fun h => h.elim (fun h => hai (Or.inr (Or.inr (Or.inl h)))) (fun h => h.elim (fun h => hai (Or.inr (Or.inr (Or.inr (Or.inl h))))) (fun h => hai (Or.inr (Or.inr (Or.inr (Or.inr h))))))))).trans (ax_up_miss (fun h => hai (Or.inl h)) (ax_up_miss (fun h => hai (Or.inr (Or.inr (Or.inr (Or.inr h))))) rfl))))
        · exact ((frM_224 58 8 (fun h => h.elim (fun h => absurd h (by decide)) (fun h => h.elim (fun h => absurd h (by decide)) (fun h => h.elim (fun h => absurd h (by decide)) (fun h => absurd h.2 (by decide)))))).trans ((fr1 58 8 (fun h => h.elim (fun h => absurd h (by decide)) (fun h => h.elim (fun h => absurd h (by decide)) (fun h => h.elim (fun h => absurd h (by decide)) (fun h => absurd h.2 (by decide)))))).trans (ax_up_hit _ _ _ _)))
        · obtain ⟨te, qte, qt0, qts⟩ := f_lx_end (by omega) hg2 (show f_lx ta tn rd tn v Bl by rw [show tn = i by omega]; rw [show tn = i by omega] at iv1_2; exact iv1_2)
          have qkv : f_kv rd te.1 te.2.1 0 0 := Or.inl ⟨qt0, rfl⟩
          have qz := f_tkl_sn A 0 iv1_3 qkv qts.symm (n := c1) (by omega)
          rw [iv1_1, qte]
          rw [show M_224 60 = _ from mrM_224_0, show M_224 61 = _ from mrM_224_1, show M_224 62 = _ from mrM_224_2]
          exact qz
        · rw [iv1_1]
          obtain ⟨te, qte, qt0, qts⟩ := f_lx_end (by omega) hg2 (show f_lx ta tn rd tn v Bl by rw [show tn = i by omega]; rw [show tn = i by omega] at iv1_2; exact iv1_2)
          rw [qte, List.length_append, List.length_cons, List.length_nil]
          omega
      · refine ax_iload_n dX8_scan_21 rfl rfl (pc' := 22) rfl ?_
        refine ax_aload_n dX8_scan_22 rfl rfl (pc' := 23) rfl ?_
        refine ax_geti (v := tn) dX8_scan_23 flX8_28 rfl sh_58 (show M1 58 1 = tn from ((fr1 58 1 (fun h => h.elim (fun h => absurd h (by decide)) (fun h => h.elim (fun h => absurd h (by decide)) (fun h => h.elim (fun h => absurd h (by decide)) (fun h => absurd h.2 (by decide)))))).trans (ax_up_miss (by decide) (ax_up_miss (by decide) htn)))) rfl (pc' := 26) rfl ?_
        refine ax_icmp_ge (tgt := 217) dX8_scan_26 (by decide) (pc' := 29) rfl (fun h26 => ?_) (fun h26 => ?_)
        · refine ax_aload_n dX8_scan_217 rfl rfl (pc' := 218) rfl ?_
          refine ax_iconst dX8_scan_218 (by decide) (pc' := 219) rfl ?_
          refine ax_iconst dX8_scan_219 (by decide) (pc' := 220) rfl ?_
          refine ax_aload_n dX8_scan_220 rfl rfl (pc' := 221) rfl ?_
          refine ax_geti (v := tn) dX8_scan_221 flX8_28 rfl sh_58 (show M1 58 1 = tn from ((fr1 58 1 (fun h => h.elim (fun h => absurd h (by decide)) (fun h => h.elim (fun h => absurd h (by decide)) (fun h => h.elim (fun h => absurd h (by decide)) (fun h => absurd h.2 (by decide)))))).trans (ax_up_miss (by decide) (ax_up_miss (by decide) htn)))) rfl (pc' := 224) rfl ?_
          refine ax_invG [.inl 0, .inl 0, .inl tn] [] dX8_scan_224 mlX8_45 sh_58 rfl rfl rfl (Nat.le_of_ble_eq_true rfl) (s_X8_add E l _ (by omega) _ 0 0 tn mr1_60 mr1_61 mr1_62 ms1_58_7 (by first | omega | assumption)) (pc' := 227) rfl (fun vv M_224 hq co224 hcm224 => ?_)
          obtain ⟨rfl, frM_224, mrM_224_0, mrM_224_1, mrM_224_2, msM_224_0⟩ := hq
          refine ax_reS (st2 := []) rfl ?_
          refine ax_vret dX8_scan_227 rfl ?_
          refine ⟨rfl, rfl, ?_, ?_, ?_, ?_⟩
          · intro x0 i0 hai
            exact ((frM_224 x0 i0 (fun h => h.elim (fun h => hai (Or.inr (Or.inl h))) (fun h => h.elim (fun h => hai (Or.inr (Or.inr (Or.inl h)))) (fun h => h.elim (fun h => hai (Or.inr (Or.inr (Or.inr (Or.inl h))))) (fun h => hai (Or.inr (Or.inr (Or.inr (Or.inr h))))))))).trans ((fr1 x0 i0 (fun h => h.elim (fun h => hai (Or.inr (Or.inl h))) (fun h => h.elim (fun h => hai (Or.inr (Or.inr (Or.inl h)))) (fun h => h.elim (fun h => hai (Or.inr (Or.inr (Or.inr (Or.inl h))))) (fun h => hai (Or.inr (Or.inr (Or.inr (Or.inr h))))))))).trans (ax_up_miss (fun h => hai (Or.inl h)) (ax_up_miss (fun h => hai (Or.inr (Or.inr (Or.inr (Or.inr h))))) rfl))))
          · exact ((frM_224 58 8 (fun h => h.elim (fun h => absurd h (by decide)) (fun h => h.elim (fun h => absurd h (by decide)) (fun h => h.elim (fun h => absurd h (by decide)) (fun h => absurd h.2 (by decide)))))).trans ((fr1 58 8 (fun h => h.elim (fun h => absurd h (by decide)) (fun h => h.elim (fun h => absurd h (by decide)) (fun h => h.elim (fun h => absurd h (by decide)) (fun h => absurd h.2 (by decide)))))).trans (ax_up_hit _ _ _ _)))
          · obtain ⟨te, qte, qt0, qts⟩ := f_lx_end (by omega) hg2 (show f_lx ta tn rd tn v Bl by rw [show tn = i by omega]; rw [show tn = i by omega] at iv1_2; exact iv1_2)
            have qkv : f_kv rd te.1 te.2.1 0 0 := Or.inl ⟨qt0, rfl⟩
            have qz := f_tkl_sn A 0 iv1_3 qkv qts.symm (n := c1) (by omega)
            rw [iv1_1, qte]
            rw [show M_224 60 = _ from mrM_224_0, show M_224 61 = _ from mrM_224_1, show M_224 62 = _ from mrM_224_2]
            exact qz
          · rw [iv1_1]
            obtain ⟨te, qte, qt0, qts⟩ := f_lx_end (by omega) hg2 (show f_lx ta tn rd tn v Bl by rw [show tn = i by omega]; rw [show tn = i by omega] at iv1_2; exact iv1_2)
            rw [qte, List.length_append, List.length_cons, List.length_nil]
            omega
        · have qtp := hg2 i (by omega) (by omega)
          have qse : f_see ta tn i = ta i := by
            unfold f_see
            rw [if_pos (by omega)]
          refine ax_iload_n dX8_scan_29 rfl rfl (pc' := 30) rfl ?_
          refine ax_istore dX8_scan_30 (by decide) (ls' := [some (.inr 58), some (.inr (-(3 + (q : Int)))), some (.inl i), some (.inl tu), some (.inl i), none, none]) rfl (pc' := 32) rfl ?_
          refine ax_aload_n dX8_scan_32 rfl rfl (pc' := 33) rfl ?_
          refine ax_getr (v := 59) dX8_scan_33 flX8_9 rfl sh_58 rfl (pc' := 36) rfl ?_
          refine ax_iload_n dX8_scan_36 rfl rfl (pc' := 37) rfl ?_
          refine ax_iald (v := ta i) dX8_scan_37 sh_59 rfl (by omega) (by omega) ((congrFun ((funext fun i0 => fr1 59 i0 (fun h => h.elim (fun h => absurd h (by decide)) (fun h => h.elim (fun h => absurd h (by decide)) (fun h => h.elim (fun h => absurd h (by decide)) (fun h => absurd h.1 (by decide)))))).trans (ax_up_rowmiss (by decide) (ax_up_rowmiss (by decide) hta))) i).trans rfl) (pc' := 38) rfl ?_
          refine ax_istore dX8_scan_38 (by decide) (ls' := [some (.inr 58), some (.inr (-(3 + (q : Int)))), some (.inl i), some (.inl tu), some (.inl i), some (.inl (ta i)), none]) rfl (pc' := 40) rfl ?_
          refine ax_iinc dX8_scan_40 rfl (by decide) (by omega) (ls' := [some (.inr 58), some (.inr (-(3 + (q : Int)))), some (.inl (i + 1)), some (.inl tu), some (.inl i), some (.inl (ta i)), none]) rfl (pc' := 43) rfl ?_
          refine ax_iload dX8_scan_43 rfl (pc' := 45) rfl ?_
          refine ax_insG [.inl (ta i)] [] dX8_scan_45 mlX8_37 rfl rfl (Nat.le_of_ble_eq_true rfl) (s_X8_isLetter E l _ (by omega) _ (ta i)) (pc' := 48) rfl (fun vv M_45 hq co45 hcm45 => ?_)
          obtain ⟨rfl, rfl⟩ := hq
          refine ax_reS (st2 := [.inl (f_b (f_let (ta i)))]) rfl ?_
          refine ax_if_eq (tgt := 109) dX8_scan_48 (by decide) (pc' := 51) rfl (fun h48 => ?_) (fun h48 => ?_)
          · replace h48 := f_b_0 h48
            refine ax_iload dX8_scan_109 rfl (pc' := 111) rfl ?_
            refine ax_insG [.inl (ta i)] [] dX8_scan_111 mlX8_49 rfl rfl (Nat.le_of_ble_eq_true rfl) (s_X8_isDigit E l _ (by omega) _ (ta i)) (pc' := 114) rfl (fun vv M_111 hq co111 hcm111 => ?_)
            obtain ⟨rfl, rfl⟩ := hq
            refine ax_reS (st2 := [.inl (f_b (f_dig (ta i)))]) rfl ?_
            refine ax_if_eq (tgt := 179) dX8_scan_114 (by decide) (pc' := 117) rfl (fun h114 => ?_) (fun h114 => ?_)
            · replace h114 := f_b_0 h114
              refine ax_iload dX8_scan_179 rfl (pc' := 181) rfl ?_
              refine ax_insG [.inl (ta i)] [] dX8_scan_181 mlX8_61 rfl rfl (Nat.le_of_ble_eq_true rfl) (s_X8_isBlank E l _ (by omega) _ (ta i)) (pc' := 184) rfl (fun vv M_181 hq co181 hcm181 => ?_)
              obtain ⟨rfl, rfl⟩ := hq
              refine ax_reS (st2 := [.inl (f_b (f_blk (ta i)))]) rfl ?_
              refine ax_if_ne (tgt := 211) dX8_scan_184 (by decide) (pc' := 187) rfl (fun h184 => ?_) (fun h184 => ?_)
              · replace h184 := f_b_1 h184
                have qb1 : L = A ++ Bl := iv1_1
                have qb2 := f_lx_bl (by omega) h184 iv1_2
                have qb3 := iv1_3
                have qb4 : c1 = (A.length : Int) ∧ (A.length : Int) ≤ i + 1 := by omega
                have qb5 := iv1_5
                refine ax_iinc dX8_scan_211 rfl (by decide) (by omega) (ls' := [some (.inr 58), some (.inr (-(3 + (q : Int)))), some (.inl (i + 1)), some (.inl (tu + 1)), some (.inl i), some (.inl (ta i)), none]) rfl (pc' := 214) rfl ?_
                refine ax_goto dX8_scan_214 (pc' := 14) (by decide) ?_
                refine ax_less (ls2 := [some (.inr 58), some (.inr (-(3 + (q : Int)))), some (.inl (i + 1)), some (.inl (tu + 1)), none, none, none]) [true, true, true, true, false, false, false] rfl ?_
                refine ih3 (i + 1) (tu + 1) k1 v1 s1 c1 A Bl v M1 ?_ ?_ ?_ ?_ ?_ ?_ ?_ ?_ ?_ ?_ ?_ ?_
                · omega
                · intro x0 i0 hai
                  exact ((fr1 x0 i0 (fun h => h.elim (fun h => hai (Or.inl h)) (fun h => h.elim (fun h => hai (Or.inr (Or.inl h))) (fun h => h.elim (fun h => hai (Or.inr (Or.inr (Or.inl h)))) (fun h => hai (Or.inr (Or.inr (Or.inr h)))))))).trans rfl)
                · exact mr1_60
                · exact mr1_61
                · exact mr1_62
                · exact ms1_58_7
                · omega
                · exact qb1
                · exact qb2
                · exact qb3
                · exact qb4
                · exact qb5
              · replace h184 := f_b_0 h184
                have qnb : ¬ f_blk (ta i) := h184
                obtain ⟨tl9, qB, qS, qC, qlx⟩ := f_lx_st (by omega) (by omega) hg2 qnb iv1_2
                have qnv := f_nV_rg (ta := ta) (tn := tn) (p := i) (v := v) (by omega) iv1_5
                have qnR := f_nE_rg (ta := ta) (tn := tn) (p := i) (by omega)
                have qnR3 := qnR.2.2 (by omega)
                have qE : f_nE ta tn i = i + 1 := by
                  unfold f_nE
                  rw [qC, if_neg (by omega), if_neg h48, if_neg h114, qS]
                have qT : f_nT ta tn i rd = if f_sgn (ta i) then 100 + ta i else 1 := by
                  unfold f_nT
                  rw [qC, if_neg (by omega), if_neg h48, if_neg h114]
                refine ax_aload_n dX8_scan_187 rfl rfl (pc' := 188) rfl ?_
                refine ax_ldcS (i := 3) (r := (-6)) dX8_scan_188 rfl (by decide) (pc' := 190) rfl ?_
                refine ax_iload dX8_scan_190 rfl (pc' := 192) rfl ?_
                refine ax_i2c dX8_scan_192 (by omega) (pc' := 193) rfl ?_
                refine ax_invSG (i := 3) [.inl (ta i)] [.inr 58] dX8_scan_193 mlX8_66 (by decide) rfl rfl rfl (Nat.le_of_ble_eq_true rfl) (s_J0_indexOf_0f7a4 E l _ (by omega) _ (ta i) 3 (by decide) qtp (by decide)) (pc' := 196) rfl (fun vv M_193 hq co193 hcm193 => ?_)
                obtain ⟨rfl, rfl⟩ := hq
                refine ax_reS (st2 := [.inl (f_first (f_icC 3 (ta i)) 0 (ax_sl 3)), .inr 58]) rfl ?_
                have cc193 : -2147483648 ≤ f_first (f_icC 3 (ta i)) 0 (ax_sl 3) ∧ f_first (f_icC 3 (ta i)) 0 (ax_sl 3) < 2147483648 := co193 _ rfl
                refine ax_if_lt (tgt := 203) dX8_scan_196 (by decide) (pc' := 199) rfl (fun h196 => ?_) (fun h196 => ?_)
                · refine ax_iconst dX8_scan_203 (by decide) (pc' := 204) rfl ?_
                  refine ax_iload dX8_scan_204 rfl (pc' := 206) rfl ?_
                  refine ax_iload dX8_scan_206 rfl (pc' := 208) rfl ?_
                  refine ax_invG [.inl 4, .inl (ta i), .inl i] [] dX8_scan_208 mlX8_45 sh_58 rfl rfl rfl (Nat.le_of_ble_eq_true rfl) (s_X8_add E l _ (by omega) _ 4 (ta i) i mr1_60 mr1_61 mr1_62 ms1_58_7 (by first | omega | assumption)) (pc' := 211) rfl (fun vv M_208 hq co208 hcm208 => ?_)
                  obtain ⟨rfl, frM_208, mrM_208_0, mrM_208_1, mrM_208_2, msM_208_0⟩ := hq
                  refine ax_reS (st2 := []) rfl ?_
                  have qb1 : L = (A ++ [f_tk1 ta tn rd i v]) ++ tl9 := by
                    rw [iv1_1, qB, List.append_assoc]
                    rfl
                  have qb2 : f_lx ta tn rd (i + 1) (f_nV ta tn i v) tl9 := by
                    have q := qlx
                    rw [qE] at q
                    exact q
                  have qkv : f_kv rd (f_tk1 ta tn rd i v).1 (f_tk1 ta tn rd i v).2.1 4 (ta i) := by
                    show f_kv rd (f_nT ta tn i rd) (f_nV ta tn i v) 4 (ta i)
                    exact Or.inr (Or.inl ⟨qT.trans (if_neg (fun hs => absurd ((f_sgn_i qtp).mpr hs) (by omega))), rfl⟩)
                  have qb3 : f_tkl rd (f_up k1 c1 4) (f_up v1 c1 (ta i)) (f_up s1 c1 i) 0 (A ++ [f_tk1 ta tn rd i v]) := f_tkl_sn A 0 iv1_3 qkv qS.symm (by omega)
                  have qb4 : c1 + 1 = ((A ++ [f_tk1 ta tn rd i v]).length : Int) ∧ ((A ++ [f_tk1 ta tn rd i v]).length : Int) ≤ (i + 1) := by
                    rw [List.length_append, List.length_cons, List.length_nil]
                    omega
                  have qb5 := qnv
                  refine ax_iinc dX8_scan_211 rfl (by decide) (by omega) (ls' := [some (.inr 58), some (.inr (-(3 + (q : Int)))), some (.inl (i + 1)), some (.inl (tu + 1)), some (.inl i), some (.inl (ta i)), none]) rfl (pc' := 214) rfl ?_
                  refine ax_goto dX8_scan_214 (pc' := 14) (by decide) ?_
                  refine ax_less (ls2 := [some (.inr 58), some (.inr (-(3 + (q : Int)))), some (.inl (i + 1)), some (.inl (tu + 1)), none, none, none]) [true, true, true, true, false, false, false] rfl ?_
                  refine ih3 (i + 1) (tu + 1) (f_up k1 c1 4) (f_up v1 c1 (ta i)) (f_up s1 c1 i) (c1 + 1) (A ++ [f_tk1 ta tn rd i v]) tl9 (f_nV ta tn i v) M_208 ?_ ?_ ?_ ?_ ?_ ?_ ?_ ?_ ?_ ?_ ?_ ?_
                  · omega
                  · intro x0 i0 hai
                    exact ((frM_208 x0 i0 (fun h => h.elim (fun h => hai (Or.inl h)) (fun h => h.elim (fun h => hai (Or.inr (Or.inl h))) (fun h => h.elim (fun h => hai (Or.inr (Or.inr (Or.inl h)))) (fun h => hai (Or.inr (Or.inr (Or.inr h)))))))).trans ((fr1 x0 i0 (fun h => h.elim (fun h => hai (Or.inl h)) (fun h => h.elim (fun h => hai (Or.inr (Or.inl h))) (fun h => h.elim (fun h => hai (Or.inr (Or.inr (Or.inl h)))) (fun h => hai (Or.inr (Or.inr (Or.inr h)))))))).trans rfl))
                  · exact mrM_208_0
                  · exact mrM_208_1
                  · exact mrM_208_2
                  · exact msM_208_0
                  · omega
                  · exact qb1
                  · exact qb2
                  · exact qb3
                  · exact qb4
                  · exact qb5
                · have qsg := (f_sgn_i qtp).mp (by omega)
                  refine ax_iconst dX8_scan_199 (by decide) (pc' := 200) rfl ?_
                  refine ax_goto dX8_scan_200 (pc' := 204) (by decide) ?_
                  refine ax_iload dX8_scan_204 rfl (pc' := 206) rfl ?_
                  refine ax_iload dX8_scan_206 rfl (pc' := 208) rfl ?_
                  refine ax_invG [.inl 1, .inl (ta i), .inl i] [] dX8_scan_208 mlX8_45 sh_58 rfl rfl rfl (Nat.le_of_ble_eq_true rfl) (s_X8_add E l _ (by omega) _ 1 (ta i) i mr1_60 mr1_61 mr1_62 ms1_58_7 (by first | omega | assumption)) (pc' := 211) rfl (fun vv M_208 hq co208 hcm208 => ?_)
                  obtain ⟨rfl, frM_208, mrM_208_0, mrM_208_1, mrM_208_2, msM_208_0⟩ := hq
                  refine ax_reS (st2 := []) rfl ?_
                  have qb1 : L = (A ++ [f_tk1 ta tn rd i v]) ++ tl9 := by
                    rw [iv1_1, qB, List.append_assoc]
                    rfl
                  have qb2 : f_lx ta tn rd (i + 1) (f_nV ta tn i v) tl9 := by
                    have q := qlx
                    rw [qE] at q
                    exact q
                  have qkv : f_kv rd (f_tk1 ta tn rd i v).1 (f_tk1 ta tn rd i v).2.1 1 (ta i) := by
                    show f_kv rd (f_nT ta tn i rd) (f_nV ta tn i v) 1 (ta i)
                    exact Or.inr (Or.inr (Or.inr (Or.inl ⟨rfl, qT.trans (if_pos qsg), qsg⟩)))
                  
                  have qb3 : f_tkl rd (f_up k1 c1 1) (f_up v1 c1 (ta i)) (f_up s1 c1 i) 0 (A ++ [f_tk1 ta tn rd i v]) := f_tkl_sn A 0 iv1_3 qkv qS.symm (by omega)
                  have qb4 : c1 + 1 = ((A ++ [f_tk1 ta tn rd i v]).length : Int) ∧ ((A ++ [f_tk1 ta tn rd i v]).length : Int) ≤ (i + 1) := by
                    rw [List.length_append, List.length_cons, List.length_nil]
                    omega
                  have qb5 := qnv
                  refine ax_iinc dX8_scan_211 rfl (by decide) (by omega) (ls' := [some (.inr 58), some (.inr (-(3 + (q : Int)))), some (.inl (i + 1)), some (.inl (tu + 1)), some (.inl i), some (.inl (ta i)), none]) rfl (pc' := 214) rfl ?_
                  refine ax_goto dX8_scan_214 (pc' := 14) (by decide) ?_
                  refine ax_less (ls2 := [some (.inr 58), some (.inr (-(3 + (q : Int)))), some (.inl (i + 1)), some (.inl (tu + 1)), none, none, none]) [true, true, true, true, false, false, false] rfl ?_
                  refine ih3 (i + 1) (tu + 1) (f_up k1 c1 1) (f_up v1 c1 (ta i)) (f_up s1 c1 i) (c1 + 1) (A ++ [f_tk1 ta tn rd i v]) tl9 (f_nV ta tn i v) M_208 ?_ ?_ ?_ ?_ ?_ ?_ ?_ ?_ ?_ ?_ ?_ ?_
                  · omega
                  · intro x0 i0 hai
                    exact ((frM_208 x0 i0 (fun h => h.elim (fun h => hai (Or.inl h)) (fun h => h.elim (fun h => hai (Or.inr (Or.inl h))) (fun h => h.elim (fun h => hai (Or.inr (Or.inr (Or.inl h)))) (fun h => hai (Or.inr (Or.inr (Or.inr h)))))))).trans ((fr1 x0 i0 (fun h => h.elim (fun h => hai (Or.inl h)) (fun h => h.elim (fun h => hai (Or.inr (Or.inl h))) (fun h => h.elim (fun h => hai (Or.inr (Or.inr (Or.inl h)))) (fun h => hai (Or.inr (Or.inr (Or.inr h)))))))).trans rfl))
                  · exact mrM_208_0
                  · exact mrM_208_1
                  · exact mrM_208_2
                  · exact msM_208_0
                  · omega
                  · exact qb1
                  · exact qb2
                  · exact qb3
                  · exact qb4
                  · exact qb5
            · replace h114 := f_b_1 h114
              have qnb : ¬ f_blk (ta i) := by
                unfold f_blk
                unfold f_dig at h114
                omega
              obtain ⟨tl9, qB, qS, qC, qlx⟩ := f_lx_st (by omega) (by omega) hg2 qnb iv1_2
              have qnv := f_nV_rg (ta := ta) (tn := tn) (p := i) (v := v) (by omega) iv1_5
              have qnR := f_nE_rg (ta := ta) (tn := tn) (p := i) (by omega)
              have qnR3 := qnR.2.2 (by omega)
              have qE0 : f_nE ta tn i = f_to (f_cD ta tn) i tn := by
                unfold f_nE
                rw [qC, if_neg (by omega), if_neg h48, if_pos h114, qS]
              have qT : f_nT ta tn i rd = if f_nE ta tn i - i < 5 then 2 else 1 := by
                unfold f_nT
                rw [qC, if_neg (by omega), if_neg h48, if_pos h114, qS]
              have qV : f_nV ta tn i v = f_num ta tn i (f_nE ta tn i) := by
                unfold f_nV
                rw [qC, if_pos ⟨by omega, h48, h114⟩, qS]
              have qall := f_to_all (c := f_cD ta tn) (lo := i) (hi := tn) (by omega)
              rw [← qE0] at qall
              have LP4 : ∀ (kq5 : Nat) (e2 : Int) (hm4 : tn - e2 < (kq5 : Nat)) (iv4_0 : i + 1 ≤ e2 ∧ e2 ≤ tn) (iv4_1 : f_to (f_cD ta tn) e2 tn = f_nE ta tn i), ax_W E l (d + 1) 0 0 iX8_scan 117 [some (.inr 58), some (.inr (-(3 + (q : Int)))), some (.inl e2), some (.inl tu), some (.inl i), some (.inl (ta i)), none] [] SH M1 (ax_P (fun z0 M2 => z0 = none ∧ (∀ x0 i0 : Int, ¬ ((x0 = 58 ∧ i0 = 8) ∨ x0 = 60 ∨ x0 = 61 ∨ x0 = 62 ∨ (x0 = 58 ∧ i0 = 7)) → M2 x0 i0 = M x0 i0) ∧ M2 58 8 = 0 ∧ (f_tkl rd (M2 60) (M2 61) (M2 62) 0 L) ∧ ((L.length : Int) ≤ 401))) := by
                intro kq5
                induction kq5 with
                | zero =>
                  intro e2 hm4 iv4_0 iv4_1
                  exfalso
                  omega
                | succ kq5 ih6 =>
                  intro e2 hm4 iv4_0 iv4_1
                  refine ax_iload_n dX8_scan_117 rfl rfl (pc' := 118) rfl ?_
                  refine ax_aload_n dX8_scan_118 rfl rfl (pc' := 119) rfl ?_
                  refine ax_geti (v := tn) dX8_scan_119 flX8_28 rfl sh_58 (show M1 58 1 = tn from ((fr1 58 1 (fun h => h.elim (fun h => absurd h (by decide)) (fun h => h.elim (fun h => absurd h (by decide)) (fun h => h.elim (fun h => absurd h (by decide)) (fun h => absurd h.2 (by decide)))))).trans (ax_up_miss (by decide) (ax_up_miss (by decide) htn)))) rfl (pc' := 122) rfl ?_
                  refine ax_icmp_ge (tgt := 143) dX8_scan_122 (by decide) (pc' := 125) rfl (fun h122 => ?_) (fun h122 => ?_)
                  · have qE : f_nE ta tn i = e2 := iv4_1.symm.trans (f_to_done (by omega))
                    rw [qE] at qT qV qall
                    refine ax_aload_n dX8_scan_143 rfl rfl (pc' := 144) rfl ?_
                    refine ax_iload_n dX8_scan_144 rfl rfl (pc' := 145) rfl ?_
                    refine ax_iload dX8_scan_145 rfl (pc' := 147) rfl ?_
                    refine ax_isub dX8_scan_147 (by omega) (pc' := 148) rfl ?_
                    refine ax_iconst dX8_scan_148 (by decide) (pc' := 149) rfl ?_
                    refine ax_icmp_le (tgt := 156) dX8_scan_149 (by decide) (pc' := 152) rfl (fun h149 => ?_) (fun h149 => ?_)
                    · refine ax_iconst dX8_scan_156 (by decide) (pc' := 157) rfl ?_
                      refine ax_aload_n dX8_scan_157 rfl rfl (pc' := 158) rfl ?_
                      refine ax_iload dX8_scan_158 rfl (pc' := 160) rfl ?_
                      refine ax_iload_n dX8_scan_160 rfl rfl (pc' := 161) rfl ?_
                      refine ax_iload dX8_scan_161 rfl (pc' := 163) rfl ?_
                      refine ax_iconst dX8_scan_163 (by decide) (pc' := 164) rfl ?_
                      refine ax_iadd dX8_scan_164 (by omega) (pc' := 165) rfl ?_
                      refine ax_mmin dX8_scan_165 mlX8_52 (Nat.le_of_ble_eq_true rfl) (pc' := 168) rfl ?_
                      refine ax_invG [.inl i, .inl (min e2 (i + 4))] [.inl 3, .inr 58] dX8_scan_168 mlX8_58 sh_58 rfl rfl rfl (Nat.le_of_ble_eq_true rfl) (s_X8_numberFor E l _ (by omega) _ i (min e2 (i + 4)) tn e2 ((funext fun i0 => fr1 59 i0 (fun h => h.elim (fun h => absurd h (by decide)) (fun h => h.elim (fun h => absurd h (by decide)) (fun h => h.elim (fun h => absurd h (by decide)) (fun h => absurd h.1 (by decide)))))).trans (ax_up_rowmiss (by decide) (ax_up_rowmiss (by decide) hta))) (by omega) rfl (fun k hk1 hk2 => Decidable.not_not.mp (qall k hk1 (by omega)))) (pc' := 171) rfl (fun vv M_168 hq co168 hcm168 => ?_)
                      obtain ⟨rfl, rfl⟩ := hq
                      refine ax_reS (st2 := [.inl (f_num ta tn i e2), .inl 3, .inr 58]) rfl ?_
                      have cc168 : -2147483648 ≤ f_num ta tn i e2 ∧ f_num ta tn i e2 < 2147483648 := co168 _ rfl
                      refine ax_iload dX8_scan_171 rfl (pc' := 173) rfl ?_
                      refine ax_invG [.inl 3, .inl (f_num ta tn i e2), .inl i] [] dX8_scan_173 mlX8_45 sh_58 rfl rfl rfl (Nat.le_of_ble_eq_true rfl) (s_X8_add E l _ (by omega) _ 3 (f_num ta tn i e2) i mr1_60 mr1_61 mr1_62 ms1_58_7 (by first | omega | assumption)) (pc' := 176) rfl (fun vv M_173 hq co173 hcm173 => ?_)
                      obtain ⟨rfl, frM_173, mrM_173_0, mrM_173_1, mrM_173_2, msM_173_0⟩ := hq
                      refine ax_reS (st2 := []) rfl ?_
                      refine ax_goto dX8_scan_176 (pc' := 211) (by decide) ?_
                      have qb1 : L = (A ++ [f_tk1 ta tn rd i v]) ++ tl9 := by
                        rw [iv1_1, qB, List.append_assoc]
                        rfl
                      have qb2 : f_lx ta tn rd e2 (f_nV ta tn i v) tl9 := by
                        have q := qlx
                        rw [qE] at q
                        exact q
                      have qkv : f_kv rd (f_tk1 ta tn rd i v).1 (f_tk1 ta tn rd i v).2.1 3 (f_num ta tn i e2) := by
                        show f_kv rd (f_nT ta tn i rd) (f_nV ta tn i v) 3 (f_num ta tn i e2)
                        exact Or.inr (Or.inr (Or.inl ⟨qT.trans (if_pos (by omega)), rfl, qV.symm⟩))
                      have qb3 : f_tkl rd (f_up k1 c1 3) (f_up v1 c1 (f_num ta tn i e2)) (f_up s1 c1 i) 0 (A ++ [f_tk1 ta tn rd i v]) := f_tkl_sn A 0 iv1_3 qkv qS.symm (by omega)
                      have qb4 : c1 + 1 = ((A ++ [f_tk1 ta tn rd i v]).length : Int) ∧ ((A ++ [f_tk1 ta tn rd i v]).length : Int) ≤ e2 := by
                        rw [List.length_append, List.length_cons, List.length_nil]
                        omega
                      have qb5 := qnv
                      refine ax_iinc dX8_scan_211 rfl (by decide) (by omega) (ls' := [some (.inr 58), some (.inr (-(3 + (q : Int)))), some (.inl e2), some (.inl (tu + 1)), some (.inl i), some (.inl (ta i)), none]) rfl (pc' := 214) rfl ?_
                      refine ax_goto dX8_scan_214 (pc' := 14) (by decide) ?_
                      refine ax_less (ls2 := [some (.inr 58), some (.inr (-(3 + (q : Int)))), some (.inl e2), some (.inl (tu + 1)), none, none, none]) [true, true, true, true, false, false, false] rfl ?_
                      refine ih3 e2 (tu + 1) (f_up k1 c1 3) (f_up v1 c1 (f_num ta tn i e2)) (f_up s1 c1 i) (c1 + 1) (A ++ [f_tk1 ta tn rd i v]) tl9 (f_nV ta tn i v) M_173 ?_ ?_ ?_ ?_ ?_ ?_ ?_ ?_ ?_ ?_ ?_ ?_
                      · omega
                      · intro x0 i0 hai
                        exact ((frM_173 x0 i0 (fun h => h.elim (fun h => hai (Or.inl h)) (fun h => h.elim (fun h => hai (Or.inr (Or.inl h))) (fun h => h.elim (fun h => hai (Or.inr (Or.inr (Or.inl h)))) (fun h => hai (Or.inr (Or.inr (Or.inr h)))))))).trans ((fr1 x0 i0 (fun h => h.elim (fun h => hai (Or.inl h)) (fun h => h.elim (fun h => hai (Or.inr (Or.inl h))) (fun h => h.elim (fun h => hai (Or.inr (Or.inr (Or.inl h)))) (fun h => hai (Or.inr (Or.inr (Or.inr h)))))))).trans rfl))
                      · exact mrM_173_0
                      · exact mrM_173_1
                      · exact mrM_173_2
                      · exact msM_173_0
                      · omega
                      · exact qb1
                      · exact qb2
                      · exact qb3
                      · exact qb4
                      · exact qb5
                    · refine ax_iconst dX8_scan_152 (by decide) (pc' := 153) rfl ?_
                      refine ax_goto dX8_scan_153 (pc' := 157) (by decide) ?_
                      refine ax_aload_n dX8_scan_157 rfl rfl (pc' := 158) rfl ?_
                      refine ax_iload dX8_scan_158 rfl (pc' := 160) rfl ?_
                      refine ax_iload_n dX8_scan_160 rfl rfl (pc' := 161) rfl ?_
                      refine ax_iload dX8_scan_161 rfl (pc' := 163) rfl ?_
                      refine ax_iconst dX8_scan_163 (by decide) (pc' := 164) rfl ?_
                      refine ax_iadd dX8_scan_164 (by omega) (pc' := 165) rfl ?_
                      refine ax_mmin dX8_scan_165 mlX8_52 (Nat.le_of_ble_eq_true rfl) (pc' := 168) rfl ?_
                      refine ax_invG [.inl i, .inl (min e2 (i + 4))] [.inl 4, .inr 58] dX8_scan_168 mlX8_58 sh_58 rfl rfl rfl (Nat.le_of_ble_eq_true rfl) (s_X8_numberFor E l _ (by omega) _ i (min e2 (i + 4)) tn e2 ((funext fun i0 => fr1 59 i0 (fun h => h.elim (fun h => absurd h (by decide)) (fun h => h.elim (fun h => absurd h (by decide)) (fun h => h.elim (fun h => absurd h (by decide)) (fun h => absurd h.1 (by decide)))))).trans (ax_up_rowmiss (by decide) (ax_up_rowmiss (by decide) hta))) (by omega) rfl (fun k hk1 hk2 => Decidable.not_not.mp (qall k hk1 (by omega)))) (pc' := 171) rfl (fun vv M_168 hq co168 hcm168 => ?_)
                      obtain ⟨rfl, rfl⟩ := hq
                      refine ax_reS (st2 := [.inl (f_num ta tn i e2), .inl 4, .inr 58]) rfl ?_
                      have cc168 : -2147483648 ≤ f_num ta tn i e2 ∧ f_num ta tn i e2 < 2147483648 := co168 _ rfl
                      refine ax_iload dX8_scan_171 rfl (pc' := 173) rfl ?_
                      refine ax_invG [.inl 4, .inl (f_num ta tn i e2), .inl i] [] dX8_scan_173 mlX8_45 sh_58 rfl rfl rfl (Nat.le_of_ble_eq_true rfl) (s_X8_add E l _ (by omega) _ 4 (f_num ta tn i e2) i mr1_60 mr1_61 mr1_62 ms1_58_7 (by first | omega | assumption)) (pc' := 176) rfl (fun vv M_173 hq co173 hcm173 => ?_)
                      obtain ⟨rfl, frM_173, mrM_173_0, mrM_173_1, mrM_173_2, msM_173_0⟩ := hq
                      refine ax_reS (st2 := []) rfl ?_
                      refine ax_goto dX8_scan_176 (pc' := 211) (by decide) ?_
                      have qb1 : L = (A ++ [f_tk1 ta tn rd i v]) ++ tl9 := by
                        rw [iv1_1, qB, List.append_assoc]
                        rfl
                      have qb2 : f_lx ta tn rd e2 (f_nV ta tn i v) tl9 := by
                        have q := qlx
                        rw [qE] at q
                        exact q
                      have qkv : f_kv rd (f_tk1 ta tn rd i v).1 (f_tk1 ta tn rd i v).2.1 4 (f_num ta tn i e2) := by
                        show f_kv rd (f_nT ta tn i rd) (f_nV ta tn i v) 4 (f_num ta tn i e2)
                        exact Or.inr (Or.inl ⟨qT.trans (if_neg (by omega)), rfl⟩)
                      have qb3 : f_tkl rd (f_up k1 c1 4) (f_up v1 c1 (f_num ta tn i e2)) (f_up s1 c1 i) 0 (A ++ [f_tk1 ta tn rd i v]) := f_tkl_sn A 0 iv1_3 qkv qS.symm (by omega)
                      have qb4 : c1 + 1 = ((A ++ [f_tk1 ta tn rd i v]).length : Int) ∧ ((A ++ [f_tk1 ta tn rd i v]).length : Int) ≤ e2 := by
                        rw [List.length_append, List.length_cons, List.length_nil]
                        omega
                      have qb5 := qnv
                      refine ax_iinc dX8_scan_211 rfl (by decide) (by omega) (ls' := [some (.inr 58), some (.inr (-(3 + (q : Int)))), some (.inl e2), some (.inl (tu + 1)), some (.inl i), some (.inl (ta i)), none]) rfl (pc' := 214) rfl ?_
                      refine ax_goto dX8_scan_214 (pc' := 14) (by decide) ?_
                      refine ax_less (ls2 := [some (.inr 58), some (.inr (-(3 + (q : Int)))), some (.inl e2), some (.inl (tu + 1)), none, none, none]) [true, true, true, true, false, false, false] rfl ?_
                      refine ih3 e2 (tu + 1) (f_up k1 c1 4) (f_up v1 c1 (f_num ta tn i e2)) (f_up s1 c1 i) (c1 + 1) (A ++ [f_tk1 ta tn rd i v]) tl9 (f_nV ta tn i v) M_173 ?_ ?_ ?_ ?_ ?_ ?_ ?_ ?_ ?_ ?_ ?_ ?_
                      · omega
                      · intro x0 i0 hai
                        exact ((frM_173 x0 i0 (fun h => h.elim (fun h => hai (Or.inl h)) (fun h => h.elim (fun h => hai (Or.inr (Or.inl h))) (fun h => h.elim (fun h => hai (Or.inr (Or.inr (Or.inl h)))) (fun h => hai (Or.inr (Or.inr (Or.inr h)))))))).trans ((fr1 x0 i0 (fun h => h.elim (fun h => hai (Or.inl h)) (fun h => h.elim (fun h => hai (Or.inr (Or.inl h))) (fun h => h.elim (fun h => hai (Or.inr (Or.inr (Or.inl h)))) (fun h => hai (Or.inr (Or.inr (Or.inr h)))))))).trans rfl))
                      · exact mrM_173_0
                      · exact mrM_173_1
                      · exact mrM_173_2
                      · exact msM_173_0
                      · omega
                      · exact qb1
                      · exact qb2
                      · exact qb3
                      · exact qb4
                      · exact qb5
                  · have qse2 : f_see ta tn e2 = ta e2 := by
                      unfold f_see
                      rw [if_pos (by omega)]
                    refine ax_aload_n dX8_scan_125 rfl rfl (pc' := 126) rfl ?_
                    refine ax_getr (v := 59) dX8_scan_126 flX8_9 rfl sh_58 rfl (pc' := 129) rfl ?_
                    refine ax_iload_n dX8_scan_129 rfl rfl (pc' := 130) rfl ?_
                    refine ax_iald (v := ta e2) dX8_scan_130 sh_59 rfl (by omega) (by omega) ((congrFun ((funext fun i0 => fr1 59 i0 (fun h => h.elim (fun h => absurd h (by decide)) (fun h => h.elim (fun h => absurd h (by decide)) (fun h => h.elim (fun h => absurd h (by decide)) (fun h => absurd h.1 (by decide)))))).trans (ax_up_rowmiss (by decide) (ax_up_rowmiss (by decide) hta))) e2).trans rfl) (pc' := 131) rfl ?_
                    refine ax_insG [.inl (ta e2)] [] dX8_scan_131 mlX8_49 rfl rfl (Nat.le_of_ble_eq_true rfl) (s_X8_isDigit E l _ (by omega) _ (ta e2)) (pc' := 134) rfl (fun vv M_131 hq co131 hcm131 => ?_)
                    obtain ⟨rfl, rfl⟩ := hq
                    refine ax_reS (st2 := [.inl (f_b (f_dig (ta e2)))]) rfl ?_
                    refine ax_if_eq (tgt := 143) dX8_scan_134 (by decide) (pc' := 137) rfl (fun h134 => ?_) (fun h134 => ?_)
                    · replace h134 := f_b_0 h134
                      have qE : f_nE ta tn i = e2 := iv4_1.symm.trans (f_to_hit (by unfold f_cD; rw [qse2]; exact h134))
                      rw [qE] at qT qV qall
                      refine ax_aload_n dX8_scan_143 rfl rfl (pc' := 144) rfl ?_
                      refine ax_iload_n dX8_scan_144 rfl rfl (pc' := 145) rfl ?_
                      refine ax_iload dX8_scan_145 rfl (pc' := 147) rfl ?_
                      refine ax_isub dX8_scan_147 (by omega) (pc' := 148) rfl ?_
                      refine ax_iconst dX8_scan_148 (by decide) (pc' := 149) rfl ?_
                      refine ax_icmp_le (tgt := 156) dX8_scan_149 (by decide) (pc' := 152) rfl (fun h149 => ?_) (fun h149 => ?_)
                      · refine ax_iconst dX8_scan_156 (by decide) (pc' := 157) rfl ?_
                        refine ax_aload_n dX8_scan_157 rfl rfl (pc' := 158) rfl ?_
                        refine ax_iload dX8_scan_158 rfl (pc' := 160) rfl ?_
                        refine ax_iload_n dX8_scan_160 rfl rfl (pc' := 161) rfl ?_
                        refine ax_iload dX8_scan_161 rfl (pc' := 163) rfl ?_
                        refine ax_iconst dX8_scan_163 (by decide) (pc' := 164) rfl ?_
                        refine ax_iadd dX8_scan_164 (by omega) (pc' := 165) rfl ?_
                        refine ax_mmin dX8_scan_165 mlX8_52 (Nat.le_of_ble_eq_true rfl) (pc' := 168) rfl ?_
                        refine ax_invG [.inl i, .inl (min e2 (i + 4))] [.inl 3, .inr 58] dX8_scan_168 mlX8_58 sh_58 rfl rfl rfl (Nat.le_of_ble_eq_true rfl) (s_X8_numberFor E l _ (by omega) _ i (min e2 (i + 4)) tn e2 ((funext fun i0 => fr1 59 i0 (fun h => h.elim (fun h => absurd h (by decide)) (fun h => h.elim (fun h => absurd h (by decide)) (fun h => h.elim (fun h => absurd h (by decide)) (fun h => absurd h.1 (by decide)))))).trans (ax_up_rowmiss (by decide) (ax_up_rowmiss (by decide) hta))) (by omega) rfl (fun k hk1 hk2 => Decidable.not_not.mp (qall k hk1 (by omega)))) (pc' := 171) rfl (fun vv M_168 hq co168 hcm168 => ?_)
                        obtain ⟨rfl, rfl⟩ := hq
                        refine ax_reS (st2 := [.inl (f_num ta tn i e2), .inl 3, .inr 58]) rfl ?_
                        have cc168 : -2147483648 ≤ f_num ta tn i e2 ∧ f_num ta tn i e2 < 2147483648 := co168 _ rfl
                        refine ax_iload dX8_scan_171 rfl (pc' := 173) rfl ?_
                        refine ax_invG [.inl 3, .inl (f_num ta tn i e2), .inl i] [] dX8_scan_173 mlX8_45 sh_58 rfl rfl rfl (Nat.le_of_ble_eq_true rfl) (s_X8_add E l _ (by omega) _ 3 (f_num ta tn i e2) i mr1_60 mr1_61 mr1_62 ms1_58_7 (by first | omega | assumption)) (pc' := 176) rfl (fun vv M_173 hq co173 hcm173 => ?_)
                        obtain ⟨rfl, frM_173, mrM_173_0, mrM_173_1, mrM_173_2, msM_173_0⟩ := hq
                        refine ax_reS (st2 := []) rfl ?_
                        refine ax_goto dX8_scan_176 (pc' := 211) (by decide) ?_
                        have qb1 : L = (A ++ [f_tk1 ta tn rd i v]) ++ tl9 := by
                          rw [iv1_1, qB, List.append_assoc]
                          rfl
                        have qb2 : f_lx ta tn rd e2 (f_nV ta tn i v) tl9 := by
                          have q := qlx
                          rw [qE] at q
                          exact q
                        have qkv : f_kv rd (f_tk1 ta tn rd i v).1 (f_tk1 ta tn rd i v).2.1 3 (f_num ta tn i e2) := by
                          show f_kv rd (f_nT ta tn i rd) (f_nV ta tn i v) 3 (f_num ta tn i e2)
                          exact Or.inr (Or.inr (Or.inl ⟨qT.trans (if_pos (by omega)), rfl, qV.symm⟩))
                        have qb3 : f_tkl rd (f_up k1 c1 3) (f_up v1 c1 (f_num ta tn i e2)) (f_up s1 c1 i) 0 (A ++ [f_tk1 ta tn rd i v]) := f_tkl_sn A 0 iv1_3 qkv qS.symm (by omega)
                        have qb4 : c1 + 1 = ((A ++ [f_tk1 ta tn rd i v]).length : Int) ∧ ((A ++ [f_tk1 ta tn rd i v]).length : Int) ≤ e2 := by
                          rw [List.length_append, List.length_cons, List.length_nil]
                          omega
                        have qb5 := qnv
                        refine ax_iinc dX8_scan_211 rfl (by decide) (by omega) (ls' := [some (.inr 58), some (.inr (-(3 + (q : Int)))), some (.inl e2), some (.inl (tu + 1)), some (.inl i), some (.inl (ta i)), none]) rfl (pc' := 214) rfl ?_
                        refine ax_goto dX8_scan_214 (pc' := 14) (by decide) ?_
                        refine ax_less (ls2 := [some (.inr 58), some (.inr (-(3 + (q : Int)))), some (.inl e2), some (.inl (tu + 1)), none, none, none]) [true, true, true, true, false, false, false] rfl ?_
                        refine ih3 e2 (tu + 1) (f_up k1 c1 3) (f_up v1 c1 (f_num ta tn i e2)) (f_up s1 c1 i) (c1 + 1) (A ++ [f_tk1 ta tn rd i v]) tl9 (f_nV ta tn i v) M_173 ?_ ?_ ?_ ?_ ?_ ?_ ?_ ?_ ?_ ?_ ?_ ?_
                        · omega
                        · intro x0 i0 hai
                          exact ((frM_173 x0 i0 (fun h => h.elim (fun h => hai (Or.inl h)) (fun h => h.elim (fun h => hai (Or.inr (Or.inl h))) (fun h => h.elim (fun h => hai (Or.inr (Or.inr (Or.inl h)))) (fun h => hai (Or.inr (Or.inr (Or.inr h)))))))).trans ((fr1 x0 i0 (fun h => h.elim (fun h => hai (Or.inl h)) (fun h => h.elim (fun h => hai (Or.inr (Or.inl h))) (fun h => h.elim (fun h => hai (Or.inr (Or.inr (Or.inl h)))) (fun h => hai (Or.inr (Or.inr (Or.inr h)))))))).trans rfl))
                        · exact mrM_173_0
                        · exact mrM_173_1
                        · exact mrM_173_2
                        · exact msM_173_0
                        · omega
                        · exact qb1
                        · exact qb2
                        · exact qb3
                        · exact qb4
                        · exact qb5
                      · refine ax_iconst dX8_scan_152 (by decide) (pc' := 153) rfl ?_
                        refine ax_goto dX8_scan_153 (pc' := 157) (by decide) ?_
                        refine ax_aload_n dX8_scan_157 rfl rfl (pc' := 158) rfl ?_
                        refine ax_iload dX8_scan_158 rfl (pc' := 160) rfl ?_
                        refine ax_iload_n dX8_scan_160 rfl rfl (pc' := 161) rfl ?_
                        refine ax_iload dX8_scan_161 rfl (pc' := 163) rfl ?_
                        refine ax_iconst dX8_scan_163 (by decide) (pc' := 164) rfl ?_
                        refine ax_iadd dX8_scan_164 (by omega) (pc' := 165) rfl ?_
                        refine ax_mmin dX8_scan_165 mlX8_52 (Nat.le_of_ble_eq_true rfl) (pc' := 168) rfl ?_
                        refine ax_invG [.inl i, .inl (min e2 (i + 4))] [.inl 4, .inr 58] dX8_scan_168 mlX8_58 sh_58 rfl rfl rfl (Nat.le_of_ble_eq_true rfl) (s_X8_numberFor E l _ (by omega) _ i (min e2 (i + 4)) tn e2 ((funext fun i0 => fr1 59 i0 (fun h => h.elim (fun h => absurd h (by decide)) (fun h => h.elim (fun h => absurd h (by decide)) (fun h => h.elim (fun h => absurd h (by decide)) (fun h => absurd h.1 (by decide)))))).trans (ax_up_rowmiss (by decide) (ax_up_rowmiss (by decide) hta))) (by omega) rfl (fun k hk1 hk2 => Decidable.not_not.mp (qall k hk1 (by omega)))) (pc' := 171) rfl (fun vv M_168 hq co168 hcm168 => ?_)
                        obtain ⟨rfl, rfl⟩ := hq
                        refine ax_reS (st2 := [.inl (f_num ta tn i e2), .inl 4, .inr 58]) rfl ?_
                        have cc168 : -2147483648 ≤ f_num ta tn i e2 ∧ f_num ta tn i e2 < 2147483648 := co168 _ rfl
                        refine ax_iload dX8_scan_171 rfl (pc' := 173) rfl ?_
                        refine ax_invG [.inl 4, .inl (f_num ta tn i e2), .inl i] [] dX8_scan_173 mlX8_45 sh_58 rfl rfl rfl (Nat.le_of_ble_eq_true rfl) (s_X8_add E l _ (by omega) _ 4 (f_num ta tn i e2) i mr1_60 mr1_61 mr1_62 ms1_58_7 (by first | omega | assumption)) (pc' := 176) rfl (fun vv M_173 hq co173 hcm173 => ?_)
                        obtain ⟨rfl, frM_173, mrM_173_0, mrM_173_1, mrM_173_2, msM_173_0⟩ := hq
                        refine ax_reS (st2 := []) rfl ?_
                        refine ax_goto dX8_scan_176 (pc' := 211) (by decide) ?_
                        have qb1 : L = (A ++ [f_tk1 ta tn rd i v]) ++ tl9 := by
                          rw [iv1_1, qB, List.append_assoc]
                          rfl
                        have qb2 : f_lx ta tn rd e2 (f_nV ta tn i v) tl9 := by
                          have q := qlx
                          rw [qE] at q
                          exact q
                        have qkv : f_kv rd (f_tk1 ta tn rd i v).1 (f_tk1 ta tn rd i v).2.1 4 (f_num ta tn i e2) := by
                          show f_kv rd (f_nT ta tn i rd) (f_nV ta tn i v) 4 (f_num ta tn i e2)
                          exact Or.inr (Or.inl ⟨qT.trans (if_neg (by omega)), rfl⟩)
                        have qb3 : f_tkl rd (f_up k1 c1 4) (f_up v1 c1 (f_num ta tn i e2)) (f_up s1 c1 i) 0 (A ++ [f_tk1 ta tn rd i v]) := f_tkl_sn A 0 iv1_3 qkv qS.symm (by omega)
                        have qb4 : c1 + 1 = ((A ++ [f_tk1 ta tn rd i v]).length : Int) ∧ ((A ++ [f_tk1 ta tn rd i v]).length : Int) ≤ e2 := by
                          rw [List.length_append, List.length_cons, List.length_nil]
                          omega
                        have qb5 := qnv
                        refine ax_iinc dX8_scan_211 rfl (by decide) (by omega) (ls' := [some (.inr 58), some (.inr (-(3 + (q : Int)))), some (.inl e2), some (.inl (tu + 1)), some (.inl i), some (.inl (ta i)), none]) rfl (pc' := 214) rfl ?_
                        refine ax_goto dX8_scan_214 (pc' := 14) (by decide) ?_
                        refine ax_less (ls2 := [some (.inr 58), some (.inr (-(3 + (q : Int)))), some (.inl e2), some (.inl (tu + 1)), none, none, none]) [true, true, true, true, false, false, false] rfl ?_
                        refine ih3 e2 (tu + 1) (f_up k1 c1 4) (f_up v1 c1 (f_num ta tn i e2)) (f_up s1 c1 i) (c1 + 1) (A ++ [f_tk1 ta tn rd i v]) tl9 (f_nV ta tn i v) M_173 ?_ ?_ ?_ ?_ ?_ ?_ ?_ ?_ ?_ ?_ ?_ ?_
                        · omega
                        · intro x0 i0 hai
                          exact ((frM_173 x0 i0 (fun h => h.elim (fun h => hai (Or.inl h)) (fun h => h.elim (fun h => hai (Or.inr (Or.inl h))) (fun h => h.elim (fun h => hai (Or.inr (Or.inr (Or.inl h)))) (fun h => hai (Or.inr (Or.inr (Or.inr h)))))))).trans ((fr1 x0 i0 (fun h => h.elim (fun h => hai (Or.inl h)) (fun h => h.elim (fun h => hai (Or.inr (Or.inl h))) (fun h => h.elim (fun h => hai (Or.inr (Or.inr (Or.inl h)))) (fun h => hai (Or.inr (Or.inr (Or.inr h)))))))).trans rfl))
                        · exact mrM_173_0
                        · exact mrM_173_1
                        · exact mrM_173_2
                        · exact msM_173_0
                        · omega
                        · exact qb1
                        · exact qb2
                        · exact qb3
                        · exact qb4
                        · exact qb5
                    · replace h134 := f_b_1 h134
                      refine ax_iinc dX8_scan_137 rfl (by decide) (by omega) (ls' := [some (.inr 58), some (.inr (-(3 + (q : Int)))), some (.inl (e2 + 1)), some (.inl tu), some (.inl i), some (.inl (ta i)), none]) rfl (pc' := 140) rfl ?_
                      refine ax_goto dX8_scan_140 (pc' := 117) (by decide) ?_
                      refine ih6 (e2 + 1) ?_ ?_ ?_
                      · omega
                      · omega
                      · exact (f_to_miss (by omega) (fun hc => hc (by rw [qse2]; exact h134))).symm.trans iv4_1
              refine LP4 (tn - (i + 1) : Int).toNat.succ (i + 1) ?_ ?_ ?_
              · omega
              · omega
              · rw [qE0]
                exact (f_to_miss (by omega) (fun hc => hc (by rw [qse]; exact h114))).symm
          · replace h48 := f_b_1 h48
            have qnb : ¬ f_blk (ta i) := by
              unfold f_blk
              unfold f_let at h48
              omega
            obtain ⟨tl9, qB, qS, qC, qlx⟩ := f_lx_st (by omega) (by omega) hg2 qnb iv1_2
            have qnv := f_nV_rg (ta := ta) (tn := tn) (p := i) (v := v) (by omega) iv1_5
            have qnR := f_nE_rg (ta := ta) (tn := tn) (p := i) (by omega)
            have qnR3 := qnR.2.2 (by omega)
            have qE0 : f_nE ta tn i = f_to (f_cL ta tn) i tn := by
              unfold f_nE
              rw [qC, if_neg (by omega), if_pos h48, qS]
            have qT : f_nT ta tn i rd = f_wrd ta i (f_nE ta tn i) rd := by
              unfold f_nT
              rw [qC, if_neg (by omega), if_pos h48, qS]
            have LP7 : ∀ (kq8 : Nat) (e1 : Int) (hm7 : tn - e1 < (kq8 : Nat)) (iv7_0 : i + 1 ≤ e1 ∧ e1 ≤ tn) (iv7_1 : f_to (f_cL ta tn) e1 tn = f_nE ta tn i), ax_W E l (d + 1) 0 0 iX8_scan 51 [some (.inr 58), some (.inr (-(3 + (q : Int)))), some (.inl e1), some (.inl tu), some (.inl i), some (.inl (ta i)), none] [] SH M1 (ax_P (fun z0 M2 => z0 = none ∧ (∀ x0 i0 : Int, ¬ ((x0 = 58 ∧ i0 = 8) ∨ x0 = 60 ∨ x0 = 61 ∨ x0 = 62 ∨ (x0 = 58 ∧ i0 = 7)) → M2 x0 i0 = M x0 i0) ∧ M2 58 8 = 0 ∧ (f_tkl rd (M2 60) (M2 61) (M2 62) 0 L) ∧ ((L.length : Int) ≤ 401))) := by
              intro kq8
              induction kq8 with
              | zero =>
                intro e1 hm7 iv7_0 iv7_1
                exfalso
                omega
              | succ kq8 ih9 =>
                intro e1 hm7 iv7_0 iv7_1
                refine ax_iload_n dX8_scan_51 rfl rfl (pc' := 52) rfl ?_
                refine ax_aload_n dX8_scan_52 rfl rfl (pc' := 53) rfl ?_
                refine ax_geti (v := tn) dX8_scan_53 flX8_28 rfl sh_58 (show M1 58 1 = tn from ((fr1 58 1 (fun h => h.elim (fun h => absurd h (by decide)) (fun h => h.elim (fun h => absurd h (by decide)) (fun h => h.elim (fun h => absurd h (by decide)) (fun h => absurd h.2 (by decide)))))).trans (ax_up_miss (by decide) (ax_up_miss (by decide) htn)))) rfl (pc' := 56) rfl ?_
                refine ax_icmp_ge (tgt := 77) dX8_scan_56 (by decide) (pc' := 59) rfl (fun h56 => ?_) (fun h56 => ?_)
                · have qE : f_nE ta tn i = e1 := iv7_1.symm.trans (f_to_done (by omega))
                  rw [qE] at qT
                  have qw := f_wfq (ta := ta) (fm := i) (en := e1) hg0
                  refine ax_aload_n dX8_scan_77 rfl rfl (pc' := 78) rfl ?_
                  refine ax_aload_n dX8_scan_78 rfl rfl (pc' := 79) rfl ?_
                  refine ax_iload dX8_scan_79 rfl (pc' := 81) rfl ?_
                  refine ax_iload_n dX8_scan_81 rfl rfl (pc' := 82) rfl ?_
                  refine ax_invG [.inr (-(3 + (q : Int))), .inl i, .inl e1] [] dX8_scan_82 mlX8_41 sh_58 rfl rfl rfl (Nat.le_of_ble_eq_true rfl) (s_X8_wordFor E l _ (by omega) _ i e1 q ((funext fun i0 => fr1 59 i0 (fun h => h.elim (fun h => absurd h (by decide)) (fun h => h.elim (fun h => absurd h (by decide)) (fun h => h.elim (fun h => absurd h (by decide)) (fun h => absurd h.1 (by decide)))))).trans (ax_up_rowmiss (by decide) (ax_up_rowmiss (by decide) hta))) hq30 (by omega)) (pc' := 85) rfl (fun vv M_82 hq co82 hcm82 => ?_)
                  obtain ⟨rfl, rfl⟩ := hq
                  refine ax_reS (st2 := [.inl (f_wfr q ta i e1)]) rfl ?_
                  have cc82 : -2147483648 ≤ f_wfr q ta i e1 ∧ f_wfr q ta i e1 < 2147483648 := co82 _ rfl
                  refine ax_istore dX8_scan_85 (by decide) (ls' := [some (.inr 58), some (.inr (-(3 + (q : Int)))), some (.inl e1), some (.inl tu), some (.inl i), some (.inl (ta i)), some (.inl (f_wfr q ta i e1))]) rfl (pc' := 87) rfl ?_
                  refine ax_aload_n dX8_scan_87 rfl rfl (pc' := 88) rfl ?_
                  refine ax_iload dX8_scan_88 rfl (pc' := 90) rfl ?_
                  refine ax_iconst dX8_scan_90 (by decide) (pc' := 91) rfl ?_
                  refine ax_icmp_ne (tgt := 98) dX8_scan_91 (by decide) (pc' := 94) rfl (fun h91 => ?_) (fun h91 => ?_)
                  · refine ax_iconst dX8_scan_98 (by decide) (pc' := 99) rfl ?_
                    refine ax_iload dX8_scan_99 rfl (pc' := 101) rfl ?_
                    refine ax_iload dX8_scan_101 rfl (pc' := 103) rfl ?_
                    refine ax_invG [.inl 2, .inl (f_wfr q ta i e1), .inl i] [] dX8_scan_103 mlX8_45 sh_58 rfl rfl rfl (Nat.le_of_ble_eq_true rfl) (s_X8_add E l _ (by omega) _ 2 (f_wfr q ta i e1) i mr1_60 mr1_61 mr1_62 ms1_58_7 (by first | omega | assumption)) (pc' := 106) rfl (fun vv M_103 hq co103 hcm103 => ?_)
                    obtain ⟨rfl, frM_103, mrM_103_0, mrM_103_1, mrM_103_2, msM_103_0⟩ := hq
                    refine ax_reS (st2 := []) rfl ?_
                    refine ax_goto dX8_scan_106 (pc' := 211) (by decide) ?_
                    have qb1 : L = (A ++ [f_tk1 ta tn rd i v]) ++ tl9 := by
                      rw [iv1_1, qB, List.append_assoc]
                      rfl
                    have qb2 : f_lx ta tn rd e1 (f_nV ta tn i v) tl9 := by
                      have q := qlx
                      rw [qE] at q
                      exact q
                    have qkv : f_kv rd (f_tk1 ta tn rd i v).1 (f_tk1 ta tn rd i v).2.1 2 (f_wfr q ta i e1) := by
                      show f_kv rd (f_nT ta tn i rd) (f_nV ta tn i v) 2 (f_wfr q ta i e1)
                      exact Or.inr (Or.inr (Or.inr (Or.inr ⟨rfl, ⟨by omega, by omega⟩, qT.trans (by omega)⟩)))
                    have qb3 : f_tkl rd (f_up k1 c1 2) (f_up v1 c1 (f_wfr q ta i e1)) (f_up s1 c1 i) 0 (A ++ [f_tk1 ta tn rd i v]) := f_tkl_sn A 0 iv1_3 qkv qS.symm (by omega)
                    have qb4 : c1 + 1 = ((A ++ [f_tk1 ta tn rd i v]).length : Int) ∧ ((A ++ [f_tk1 ta tn rd i v]).length : Int) ≤ e1 := by
                      rw [List.length_append, List.length_cons, List.length_nil]
                      omega
                    have qb5 := qnv
                    refine ax_iinc dX8_scan_211 rfl (by decide) (by omega) (ls' := [some (.inr 58), some (.inr (-(3 + (q : Int)))), some (.inl e1), some (.inl (tu + 1)), some (.inl i), some (.inl (ta i)), some (.inl (f_wfr q ta i e1))]) rfl (pc' := 214) rfl ?_
                    refine ax_goto dX8_scan_214 (pc' := 14) (by decide) ?_
                    refine ax_less (ls2 := [some (.inr 58), some (.inr (-(3 + (q : Int)))), some (.inl e1), some (.inl (tu + 1)), none, none, none]) [true, true, true, true, false, false, false] rfl ?_
                    refine ih3 e1 (tu + 1) (f_up k1 c1 2) (f_up v1 c1 (f_wfr q ta i e1)) (f_up s1 c1 i) (c1 + 1) (A ++ [f_tk1 ta tn rd i v]) tl9 (f_nV ta tn i v) M_103 ?_ ?_ ?_ ?_ ?_ ?_ ?_ ?_ ?_ ?_ ?_ ?_
                    · omega
                    · intro x0 i0 hai
                      exact ((frM_103 x0 i0 (fun h => h.elim (fun h => hai (Or.inl h)) (fun h => h.elim (fun h => hai (Or.inr (Or.inl h))) (fun h => h.elim (fun h => hai (Or.inr (Or.inr (Or.inl h)))) (fun h => hai (Or.inr (Or.inr (Or.inr h)))))))).trans ((fr1 x0 i0 (fun h => h.elim (fun h => hai (Or.inl h)) (fun h => h.elim (fun h => hai (Or.inr (Or.inl h))) (fun h => h.elim (fun h => hai (Or.inr (Or.inr (Or.inl h)))) (fun h => hai (Or.inr (Or.inr (Or.inr h)))))))).trans rfl))
                    · exact mrM_103_0
                    · exact mrM_103_1
                    · exact mrM_103_2
                    · exact msM_103_0
                    · omega
                    · exact qb1
                    · exact qb2
                    · exact qb3
                    · exact qb4
                    · exact qb5
                  · refine ax_iconst dX8_scan_94 (by decide) (pc' := 95) rfl ?_
                    refine ax_goto dX8_scan_95 (pc' := 99) (by decide) ?_
                    refine ax_iload dX8_scan_99 rfl (pc' := 101) rfl ?_
                    refine ax_iload dX8_scan_101 rfl (pc' := 103) rfl ?_
                    refine ax_invG [.inl 4, .inl (f_wfr q ta i e1), .inl i] [] dX8_scan_103 mlX8_45 sh_58 rfl rfl rfl (Nat.le_of_ble_eq_true rfl) (s_X8_add E l _ (by omega) _ 4 (f_wfr q ta i e1) i mr1_60 mr1_61 mr1_62 ms1_58_7 (by first | omega | assumption)) (pc' := 106) rfl (fun vv M_103 hq co103 hcm103 => ?_)
                    obtain ⟨rfl, frM_103, mrM_103_0, mrM_103_1, mrM_103_2, msM_103_0⟩ := hq
                    refine ax_reS (st2 := []) rfl ?_
                    refine ax_goto dX8_scan_106 (pc' := 211) (by decide) ?_
                    have qb1 : L = (A ++ [f_tk1 ta tn rd i v]) ++ tl9 := by
                      rw [iv1_1, qB, List.append_assoc]
                      rfl
                    have qb2 : f_lx ta tn rd e1 (f_nV ta tn i v) tl9 := by
                      have q := qlx
                      rw [qE] at q
                      exact q
                    have qkv : f_kv rd (f_tk1 ta tn rd i v).1 (f_tk1 ta tn rd i v).2.1 4 (f_wfr q ta i e1) := by
                      show f_kv rd (f_nT ta tn i rd) (f_nV ta tn i v) 4 (f_wfr q ta i e1)
                      exact Or.inr (Or.inl ⟨qT.trans (by omega), rfl⟩)
                    have qb3 : f_tkl rd (f_up k1 c1 4) (f_up v1 c1 (f_wfr q ta i e1)) (f_up s1 c1 i) 0 (A ++ [f_tk1 ta tn rd i v]) := f_tkl_sn A 0 iv1_3 qkv qS.symm (by omega)
                    have qb4 : c1 + 1 = ((A ++ [f_tk1 ta tn rd i v]).length : Int) ∧ ((A ++ [f_tk1 ta tn rd i v]).length : Int) ≤ e1 := by
                      rw [List.length_append, List.length_cons, List.length_nil]
                      omega
                    have qb5 := qnv
                    refine ax_iinc dX8_scan_211 rfl (by decide) (by omega) (ls' := [some (.inr 58), some (.inr (-(3 + (q : Int)))), some (.inl e1), some (.inl (tu + 1)), some (.inl i), some (.inl (ta i)), some (.inl (f_wfr q ta i e1))]) rfl (pc' := 214) rfl ?_
                    refine ax_goto dX8_scan_214 (pc' := 14) (by decide) ?_
                    refine ax_less (ls2 := [some (.inr 58), some (.inr (-(3 + (q : Int)))), some (.inl e1), some (.inl (tu + 1)), none, none, none]) [true, true, true, true, false, false, false] rfl ?_
                    refine ih3 e1 (tu + 1) (f_up k1 c1 4) (f_up v1 c1 (f_wfr q ta i e1)) (f_up s1 c1 i) (c1 + 1) (A ++ [f_tk1 ta tn rd i v]) tl9 (f_nV ta tn i v) M_103 ?_ ?_ ?_ ?_ ?_ ?_ ?_ ?_ ?_ ?_ ?_ ?_
                    · omega
                    · intro x0 i0 hai
                      exact ((frM_103 x0 i0 (fun h => h.elim (fun h => hai (Or.inl h)) (fun h => h.elim (fun h => hai (Or.inr (Or.inl h))) (fun h => h.elim (fun h => hai (Or.inr (Or.inr (Or.inl h)))) (fun h => hai (Or.inr (Or.inr (Or.inr h)))))))).trans ((fr1 x0 i0 (fun h => h.elim (fun h => hai (Or.inl h)) (fun h => h.elim (fun h => hai (Or.inr (Or.inl h))) (fun h => h.elim (fun h => hai (Or.inr (Or.inr (Or.inl h)))) (fun h => hai (Or.inr (Or.inr (Or.inr h)))))))).trans rfl))
                    · exact mrM_103_0
                    · exact mrM_103_1
                    · exact mrM_103_2
                    · exact msM_103_0
                    · omega
                    · exact qb1
                    · exact qb2
                    · exact qb3
                    · exact qb4
                    · exact qb5
                · have qse1 : f_see ta tn e1 = ta e1 := by
                    unfold f_see
                    rw [if_pos (by omega)]
                  refine ax_aload_n dX8_scan_59 rfl rfl (pc' := 60) rfl ?_
                  refine ax_getr (v := 59) dX8_scan_60 flX8_9 rfl sh_58 rfl (pc' := 63) rfl ?_
                  refine ax_iload_n dX8_scan_63 rfl rfl (pc' := 64) rfl ?_
                  refine ax_iald (v := ta e1) dX8_scan_64 sh_59 rfl (by omega) (by omega) ((congrFun ((funext fun i0 => fr1 59 i0 (fun h => h.elim (fun h => absurd h (by decide)) (fun h => h.elim (fun h => absurd h (by decide)) (fun h => h.elim (fun h => absurd h (by decide)) (fun h => absurd h.1 (by decide)))))).trans (ax_up_rowmiss (by decide) (ax_up_rowmiss (by decide) hta))) e1).trans rfl) (pc' := 65) rfl ?_
                  refine ax_insG [.inl (ta e1)] [] dX8_scan_65 mlX8_37 rfl rfl (Nat.le_of_ble_eq_true rfl) (s_X8_isLetter E l _ (by omega) _ (ta e1)) (pc' := 68) rfl (fun vv M_65 hq co65 hcm65 => ?_)
                  obtain ⟨rfl, rfl⟩ := hq
                  refine ax_reS (st2 := [.inl (f_b (f_let (ta e1)))]) rfl ?_
                  refine ax_if_eq (tgt := 77) dX8_scan_68 (by decide) (pc' := 71) rfl (fun h68 => ?_) (fun h68 => ?_)
                  · replace h68 := f_b_0 h68
                    have qE : f_nE ta tn i = e1 := iv7_1.symm.trans (f_to_hit (by unfold f_cL; rw [qse1]; exact h68))
                    rw [qE] at qT
                    have qw := f_wfq (ta := ta) (fm := i) (en := e1) hg0
                    refine ax_aload_n dX8_scan_77 rfl rfl (pc' := 78) rfl ?_
                    refine ax_aload_n dX8_scan_78 rfl rfl (pc' := 79) rfl ?_
                    refine ax_iload dX8_scan_79 rfl (pc' := 81) rfl ?_
                    refine ax_iload_n dX8_scan_81 rfl rfl (pc' := 82) rfl ?_
                    refine ax_invG [.inr (-(3 + (q : Int))), .inl i, .inl e1] [] dX8_scan_82 mlX8_41 sh_58 rfl rfl rfl (Nat.le_of_ble_eq_true rfl) (s_X8_wordFor E l _ (by omega) _ i e1 q ((funext fun i0 => fr1 59 i0 (fun h => h.elim (fun h => absurd h (by decide)) (fun h => h.elim (fun h => absurd h (by decide)) (fun h => h.elim (fun h => absurd h (by decide)) (fun h => absurd h.1 (by decide)))))).trans (ax_up_rowmiss (by decide) (ax_up_rowmiss (by decide) hta))) hq30 (by omega)) (pc' := 85) rfl (fun vv M_82 hq co82 hcm82 => ?_)
                    obtain ⟨rfl, rfl⟩ := hq
                    refine ax_reS (st2 := [.inl (f_wfr q ta i e1)]) rfl ?_
                    have cc82 : -2147483648 ≤ f_wfr q ta i e1 ∧ f_wfr q ta i e1 < 2147483648 := co82 _ rfl
                    refine ax_istore dX8_scan_85 (by decide) (ls' := [some (.inr 58), some (.inr (-(3 + (q : Int)))), some (.inl e1), some (.inl tu), some (.inl i), some (.inl (ta i)), some (.inl (f_wfr q ta i e1))]) rfl (pc' := 87) rfl ?_
                    refine ax_aload_n dX8_scan_87 rfl rfl (pc' := 88) rfl ?_
                    refine ax_iload dX8_scan_88 rfl (pc' := 90) rfl ?_
                    refine ax_iconst dX8_scan_90 (by decide) (pc' := 91) rfl ?_
                    refine ax_icmp_ne (tgt := 98) dX8_scan_91 (by decide) (pc' := 94) rfl (fun h91 => ?_) (fun h91 => ?_)
                    · refine ax_iconst dX8_scan_98 (by decide) (pc' := 99) rfl ?_
                      refine ax_iload dX8_scan_99 rfl (pc' := 101) rfl ?_
                      refine ax_iload dX8_scan_101 rfl (pc' := 103) rfl ?_
                      refine ax_invG [.inl 2, .inl (f_wfr q ta i e1), .inl i] [] dX8_scan_103 mlX8_45 sh_58 rfl rfl rfl (Nat.le_of_ble_eq_true rfl) (s_X8_add E l _ (by omega) _ 2 (f_wfr q ta i e1) i mr1_60 mr1_61 mr1_62 ms1_58_7 (by first | omega | assumption)) (pc' := 106) rfl (fun vv M_103 hq co103 hcm103 => ?_)
                      obtain ⟨rfl, frM_103, mrM_103_0, mrM_103_1, mrM_103_2, msM_103_0⟩ := hq
                      refine ax_reS (st2 := []) rfl ?_
                      refine ax_goto dX8_scan_106 (pc' := 211) (by decide) ?_
                      have qb1 : L = (A ++ [f_tk1 ta tn rd i v]) ++ tl9 := by
                        rw [iv1_1, qB, List.append_assoc]
                        rfl
                      have qb2 : f_lx ta tn rd e1 (f_nV ta tn i v) tl9 := by
                        have q := qlx
                        rw [qE] at q
                        exact q
                      have qkv : f_kv rd (f_tk1 ta tn rd i v).1 (f_tk1 ta tn rd i v).2.1 2 (f_wfr q ta i e1) := by
                        show f_kv rd (f_nT ta tn i rd) (f_nV ta tn i v) 2 (f_wfr q ta i e1)
                        exact Or.inr (Or.inr (Or.inr (Or.inr ⟨rfl, ⟨by omega, by omega⟩, qT.trans (by omega)⟩)))
                      have qb3 : f_tkl rd (f_up k1 c1 2) (f_up v1 c1 (f_wfr q ta i e1)) (f_up s1 c1 i) 0 (A ++ [f_tk1 ta tn rd i v]) := f_tkl_sn A 0 iv1_3 qkv qS.symm (by omega)
                      have qb4 : c1 + 1 = ((A ++ [f_tk1 ta tn rd i v]).length : Int) ∧ ((A ++ [f_tk1 ta tn rd i v]).length : Int) ≤ e1 := by
                        rw [List.length_append, List.length_cons, List.length_nil]
                        omega
                      have qb5 := qnv
                      refine ax_iinc dX8_scan_211 rfl (by decide) (by omega) (ls' := [some (.inr 58), some (.inr (-(3 + (q : Int)))), some (.inl e1), some (.inl (tu + 1)), some (.inl i), some (.inl (ta i)), some (.inl (f_wfr q ta i e1))]) rfl (pc' := 214) rfl ?_
                      refine ax_goto dX8_scan_214 (pc' := 14) (by decide) ?_
                      refine ax_less (ls2 := [some (.inr 58), some (.inr (-(3 + (q : Int)))), some (.inl e1), some (.inl (tu + 1)), none, none, none]) [true, true, true, true, false, false, false] rfl ?_
                      refine ih3 e1 (tu + 1) (f_up k1 c1 2) (f_up v1 c1 (f_wfr q ta i e1)) (f_up s1 c1 i) (c1 + 1) (A ++ [f_tk1 ta tn rd i v]) tl9 (f_nV ta tn i v) M_103 ?_ ?_ ?_ ?_ ?_ ?_ ?_ ?_ ?_ ?_ ?_ ?_
                      · omega
                      · intro x0 i0 hai
                        exact ((frM_103 x0 i0 (fun h => h.elim (fun h => hai (Or.inl h)) (fun h => h.elim (fun h => hai (Or.inr (Or.inl h))) (fun h => h.elim (fun h => hai (Or.inr (Or.inr (Or.inl h)))) (fun h => hai (Or.inr (Or.inr (Or.inr h)))))))).trans ((fr1 x0 i0 (fun h => h.elim (fun h => hai (Or.inl h)) (fun h => h.elim (fun h => hai (Or.inr (Or.inl h))) (fun h => h.elim (fun h => hai (Or.inr (Or.inr (Or.inl h)))) (fun h => hai (Or.inr (Or.inr (Or.inr h)))))))).trans rfl))
                      · exact mrM_103_0
                      · exact mrM_103_1
                      · exact mrM_103_2
                      · exact msM_103_0
                      · omega
                      · exact qb1
                      · exact qb2
                      · exact qb3
                      · exact qb4
                      · exact qb5
                    · refine ax_iconst dX8_scan_94 (by decide) (pc' := 95) rfl ?_
                      refine ax_goto dX8_scan_95 (pc' := 99) (by decide) ?_
                      refine ax_iload dX8_scan_99 rfl (pc' := 101) rfl ?_
                      refine ax_iload dX8_scan_101 rfl (pc' := 103) rfl ?_
                      refine ax_invG [.inl 4, .inl (f_wfr q ta i e1), .inl i] [] dX8_scan_103 mlX8_45 sh_58 rfl rfl rfl (Nat.le_of_ble_eq_true rfl) (s_X8_add E l _ (by omega) _ 4 (f_wfr q ta i e1) i mr1_60 mr1_61 mr1_62 ms1_58_7 (by first | omega | assumption)) (pc' := 106) rfl (fun vv M_103 hq co103 hcm103 => ?_)
                      obtain ⟨rfl, frM_103, mrM_103_0, mrM_103_1, mrM_103_2, msM_103_0⟩ := hq
                      refine ax_reS (st2 := []) rfl ?_
                      refine ax_goto dX8_scan_106 (pc' := 211) (by decide) ?_
                      have qb1 : L = (A ++ [f_tk1 ta tn rd i v]) ++ tl9 := by
                        rw [iv1_1, qB, List.append_assoc]
                        rfl
                      have qb2 : f_lx ta tn rd e1 (f_nV ta tn i v) tl9 := by
                        have q := qlx
                        rw [qE] at q
                        exact q
                      have qkv : f_kv rd (f_tk1 ta tn rd i v).1 (f_tk1 ta tn rd i v).2.1 4 (f_wfr q ta i e1) := by
                        show f_kv rd (f_nT ta tn i rd) (f_nV ta tn i v) 4 (f_wfr q ta i e1)
                        exact Or.inr (Or.inl ⟨qT.trans (by omega), rfl⟩)
                      have qb3 : f_tkl rd (f_up k1 c1 4) (f_up v1 c1 (f_wfr q ta i e1)) (f_up s1 c1 i) 0 (A ++ [f_tk1 ta tn rd i v]) := f_tkl_sn A 0 iv1_3 qkv qS.symm (by omega)
                      have qb4 : c1 + 1 = ((A ++ [f_tk1 ta tn rd i v]).length : Int) ∧ ((A ++ [f_tk1 ta tn rd i v]).length : Int) ≤ e1 := by
                        rw [List.length_append, List.length_cons, List.length_nil]
                        omega
                      have qb5 := qnv
                      refine ax_iinc dX8_scan_211 rfl (by decide) (by omega) (ls' := [some (.inr 58), some (.inr (-(3 + (q : Int)))), some (.inl e1), some (.inl (tu + 1)), some (.inl i), some (.inl (ta i)), some (.inl (f_wfr q ta i e1))]) rfl (pc' := 214) rfl ?_
                      refine ax_goto dX8_scan_214 (pc' := 14) (by decide) ?_
                      refine ax_less (ls2 := [some (.inr 58), some (.inr (-(3 + (q : Int)))), some (.inl e1), some (.inl (tu + 1)), none, none, none]) [true, true, true, true, false, false, false] rfl ?_
                      refine ih3 e1 (tu + 1) (f_up k1 c1 4) (f_up v1 c1 (f_wfr q ta i e1)) (f_up s1 c1 i) (c1 + 1) (A ++ [f_tk1 ta tn rd i v]) tl9 (f_nV ta tn i v) M_103 ?_ ?_ ?_ ?_ ?_ ?_ ?_ ?_ ?_ ?_ ?_ ?_
                      · omega
                      · intro x0 i0 hai
                        exact ((frM_103 x0 i0 (fun h => h.elim (fun h => hai (Or.inl h)) (fun h => h.elim (fun h => hai (Or.inr (Or.inl h))) (fun h => h.elim (fun h => hai (Or.inr (Or.inr (Or.inl h)))) (fun h => hai (Or.inr (Or.inr (Or.inr h)))))))).trans ((fr1 x0 i0 (fun h => h.elim (fun h => hai (Or.inl h)) (fun h => h.elim (fun h => hai (Or.inr (Or.inl h))) (fun h => h.elim (fun h => hai (Or.inr (Or.inr (Or.inl h)))) (fun h => hai (Or.inr (Or.inr (Or.inr h)))))))).trans rfl))
                      · exact mrM_103_0
                      · exact mrM_103_1
                      · exact mrM_103_2
                      · exact msM_103_0
                      · omega
                      · exact qb1
                      · exact qb2
                      · exact qb3
                      · exact qb4
                      · exact qb5
                  · replace h68 := f_b_1 h68
                    refine ax_iinc dX8_scan_71 rfl (by decide) (by omega) (ls' := [some (.inr 58), some (.inr (-(3 + (q : Int)))), some (.inl (e1 + 1)), some (.inl tu), some (.inl i), some (.inl (ta i)), none]) rfl (pc' := 74) rfl ?_
                    refine ax_goto dX8_scan_74 (pc' := 51) (by decide) ?_
                    refine ih9 (e1 + 1) ?_ ?_ ?_
                    · omega
                    · omega
                    · exact (f_to_miss (by omega) (fun hc => hc (by rw [qse1]; exact h68))).symm.trans iv7_1
            refine LP7 (tn - (i + 1) : Int).toNat.succ (i + 1) ?_ ?_ ?_
            · omega
            · omega
            · rw [qE0]
              exact (f_to_miss (by omega) (fun hc => hc (by rw [qse]; exact h48))).symm
  refine LP1 (tn - 0 : Int).toNat.succ 0 0 kk vv ss 0 ([]) L v0 (ax_up (ax_up M 58 7 0) 58 8 0) ?_ ?_ ?_ ?_ ?_ ?_ ?_ ?_ ?_ ?_ ?_ ?_
  · omega
  · exact fun a i _ => rfl
  · exact (ax_up_rowmiss (by decide) (ax_up_rowmiss (by decide) hkk))
  · exact (ax_up_rowmiss (by decide) (ax_up_rowmiss (by decide) hvv))
  · exact (ax_up_rowmiss (by decide) (ax_up_rowmiss (by decide) hss))
  · exact (ax_up_miss (by decide) (ax_up_hit _ _ _ _))
  · omega
  · rfl
  · exact hg3
  · trivial
  · exact ⟨rfl, by decide⟩
  · exact hg4
