/-! the class's search: another number for a shape, the same order -/
def f_k3 : List Int → Int
  | [] => 0
  | x :: tl => f_k3 tl * 3 + x + 1
def f_c3 (L : List Int) : Int := f_k3 L.reverse
theorem f_c3_sn (D : List Int) (x : Int) : f_c3 (D ++ [x]) = f_c3 D * 3 + x + 1 := by
  unfold f_c3
  rw [List.reverse_append]
  rfl
def f_m3 : Nat → Int
  | 0 => 0
  | n + 1 => f_m3 n * 3 + 3
theorem f_m3_7 : ∀ n : Fin 8, f_m3 n.val ≤ 3279 := by decide
theorem f_k3_rg : ∀ {R : List Int}, f_lt3 R → 0 ≤ f_k3 R ∧ f_k3 R ≤ f_m3 R.length
  | [], _ => ⟨Int.le_refl 0, Int.le_refl 0⟩
  | x :: tl, h => by
    have a := f_k3_rg (R := tl) (fun q hq => h q (List.mem_cons_of_mem _ hq))
    have b := h x List.mem_cons_self
    show 0 ≤ f_k3 tl * 3 + x + 1 ∧ f_k3 tl * 3 + x + 1 ≤ f_m3 tl.length * 3 + 3
    omega
theorem f_c3_rg {L : List Int} (h : f_vl L) : 0 ≤ f_c3 L ∧ f_c3 L < 3280 := by
  have a := f_k3_rg (f_lt3_rev h.1)
  have hl := h.2
  have b := f_m3_7 ⟨L.length, by omega⟩
  rw [List.length_reverse] at a
  have b2 : f_m3 L.length ≤ 3279 := b
  unfold f_c3
  omega
def f_u3 : Nat → Int → List Int
  | 0, _ => []
  | g + 1, c => if c ≤ 0 then [] else (c - 1) % 3 :: f_u3 g ((c - 1) / 3)
theorem f_u3_k3 : ∀ {g : Nat} {R : List Int}, f_lt3 R → R.length ≤ g → f_u3 g (f_k3 R) = R
  | 0, [], _, _ => rfl
  | 0, _ :: _, _, h => absurd h (by simp only [List.length_cons]; omega)
  | g + 1, [], _, _ => rfl
  | g + 1, x :: tl, h, hl => by
    have a := f_k3_rg (R := tl) (fun q hq => h q (List.mem_cons_of_mem _ hq))
    have b := h x List.mem_cons_self
    show (if f_k3 tl * 3 + x + 1 ≤ 0 then [] else (f_k3 tl * 3 + x + 1 - 1) % 3 :: f_u3 g ((f_k3 tl * 3 + x + 1 - 1) / 3)) = x :: tl
    rw [if_neg (by omega), show (f_k3 tl * 3 + x + 1 - 1) % 3 = x by omega, show (f_k3 tl * 3 + x + 1 - 1) / 3 = f_k3 tl by omega, f_u3_k3 (fun q hq => h q (List.mem_cons_of_mem _ hq)) (by rw [List.length_cons] at hl; omega)]
theorem f_c3_inj {A B : List Int} (ha : f_vl A) (hb : f_vl B) (h : f_c3 A = f_c3 B) : A = B := by
  have h1 := ha.2
  have h2 := hb.2
  have e1 := f_u3_k3 (g := 7) (f_lt3_rev ha.1) (by rw [List.length_reverse]; omega)
  have e2 := f_u3_k3 (g := 7) (f_lt3_rev hb.1) (by rw [List.length_reverse]; omega)
  have e3 : f_k3 A.reverse = f_k3 B.reverse := h
  rw [e3] at e1
  exact List.reverse_inj.mp (e1.symm.trans e2)
theorem f_code_inj {A B : List Int} (ha : f_vl A) (hb : f_vl B) (h : f_code A = f_code B) : A = B := by
  rw [← f_dec_code ha, ← f_dec_code hb, h]
def f_rl (s t : f_Bf) : Prop := s.2.2 = t.2.2 ∧ (∀ L, f_vl L → s.1 (f_code L) = t.1 (f_c3 L)) ∧ ∃ Q : List (List Int), (Q.length : Int) = s.2.2 ∧ Q.Nodup ∧ (∀ L ∈ Q, f_vl L ∧ 0 ≤ t.1 (f_c3 L) ∧ t.1 (f_c3 L) ≤ 12) ∧ f_fwd s.2.1 0 (Q.map f_code) ∧ f_fwd t.2.1 0 (Q.map f_c3)
theorem f_rl_le {s t : f_Bf} (h : f_rl s t) : 0 ≤ t.2.2 ∧ t.2.2 ≤ 3280 := by
  obtain ⟨h1, h2, Q, q1, q2, q3, q4, q5⟩ := h
  have e := f_pig 3280 (Q.map f_c3) (List.Pairwise.map _ (fun a b hab => hab) ?_) (fun c hm => by
    obtain ⟨L, hL, rfl⟩ := List.mem_map.mp hm
    exact f_c3_rg (q3 L hL).1)
  · rw [List.length_map] at e
    omega
  · exact List.Pairwise.imp_of_mem (fun {a b} ha hb hab he => hab (f_c3_inj (q3 a ha).1 (q3 b hb).1 he)) q2
theorem f_rl_lt {s t : f_Bf} {L : List Int} (h : f_rl s t) (hl : f_vl L) (he : t.1 (f_c3 L) = -1) : t.2.2 < 3280 := by
  obtain ⟨h1, h2, Q, q1, q2, q3, q4, q5⟩ := h
  have hn : L ∉ Q := fun hm => by
    have e := (q3 L hm).2
    omega
  have e := f_pig 3280 ((L :: Q).map f_c3) (List.Pairwise.map _ (fun a b hab => hab) ?_) (fun c hm => by
    obtain ⟨K, hK, rfl⟩ := List.mem_map.mp hm
    rcases List.mem_cons.mp hK with e | e
    · rw [e]
      exact f_c3_rg hl
    · exact f_c3_rg (q3 K e).1)
  · rw [List.length_map, List.length_cons] at e
    omega
  · have hv : ∀ K ∈ L :: Q, f_vl K := fun K hK => by
      rcases List.mem_cons.mp hK with e | e
      · rw [e]
        exact hl
      · exact (q3 K e).1
    exact List.Pairwise.imp_of_mem (fun {a b} ha hb hab he => hab (f_c3_inj (hv a ha) (hv b hb) he)) (List.nodup_cons.mpr ⟨hn, q2⟩)
theorem f_rl_rch {s t : f_Bf} {L : List Int} {step : Int} (hs : 0 ≤ step ∧ step ≤ 12) (h : f_rl s t) (hl : f_vl L) : f_rl (f_rch (f_code L) step s) (f_rch (f_c3 L) step t) := by
  have he := h.2.1 L hl
  unfold f_rch
  by_cases h0 : t.1 (f_c3 L) = -1
  · rw [if_pos (he.trans h0), if_pos h0]
    obtain ⟨h1, h2, Q, q1, q2, q3, q4, q5⟩ := h
    have hn : L ∉ Q := fun hm => by
      have e := (q3 L hm).2
      omega
    refine ⟨by show s.2.2 + 1 = t.2.2 + 1; omega, fun K hK => ?_, Q ++ [L], ?_, ?_, fun K hK => ?_, ?_, ?_⟩
    · show f_up s.1 (f_code L) step (f_code K) = f_up t.1 (f_c3 L) step (f_c3 K)
      unfold f_up
      by_cases hk : K = L
      · rw [hk, if_pos rfl, if_pos rfl]
      · rw [if_neg (fun e => hk (f_code_inj hK hl e)), if_neg (fun e => hk (f_c3_inj hK hl e))]
        exact h2 K hK
    · rw [List.length_append, List.length_singleton]
      show ((Q.length + 1 : Nat) : Int) = s.2.2 + 1
      omega
    · rw [List.nodup_append]
      exact ⟨q2, List.nodup_cons.mpr ⟨List.not_mem_nil, List.nodup_nil⟩, fun a ha b hb => fun e => hn (by rw [← List.mem_singleton.mp hb, ← e]; exact ha)⟩
    · show f_vl K ∧ 0 ≤ f_up t.1 (f_c3 L) step (f_c3 K) ∧ f_up t.1 (f_c3 L) step (f_c3 K) ≤ 12
      rcases List.mem_append.mp hK with e | e
      · have e2 := q3 K e
        refine ⟨e2.1, ?_⟩
        unfold f_up
        split
        · exact hs
        · exact e2.2
      · rw [List.mem_singleton.mp e, f_up_same]
        exact ⟨hl, hs⟩
    · rw [List.map_append]
      refine f_fwd_cat (f_fwd_upR (by rw [List.length_map]; omega) q4) ⟨?_, trivial⟩
      rw [show 0 + ((Q.map f_code).length : Int) = s.2.2 by rw [List.length_map]; omega]
      exact f_up_same _ _ _
    · rw [List.map_append]
      refine f_fwd_cat (f_fwd_upR (by rw [List.length_map]; omega) q5) ⟨?_, trivial⟩
      rw [show 0 + ((Q.map f_c3).length : Int) = t.2.2 by rw [List.length_map]; omega]
      exact f_up_same _ _ _
  · rw [if_neg (fun e => h0 (he.symm.trans e)), if_neg h0]
    exact h
theorem f_rl_at {s t : f_Bf} {i : Int} (h : f_rl s t) (hi : 0 ≤ i ∧ i < t.2.2) : ∃ L, f_vl L ∧ s.2.1 i = f_code L ∧ t.2.1 i = f_c3 L ∧ 0 ≤ t.1 (f_c3 L) ∧ t.1 (f_c3 L) ≤ 12 := by
  obtain ⟨h1, h2, Q, q1, q2, q3, q4, q5⟩ := h
  have key : ∀ (Q : List (List Int)) (j : Int), f_fwd s.2.1 j (Q.map f_code) → f_fwd t.2.1 j (Q.map f_c3) → j ≤ i → i < j + (Q.length : Int) → ∃ L ∈ Q, s.2.1 i = f_code L ∧ t.2.1 i = f_c3 L := by
    intro Q
    induction Q with
    | nil =>
      intro j _ _ a b
      rw [List.length_nil] at b
      omega
    | cons K tl ih =>
      intro j a b c d
      rw [List.length_cons] at d
      by_cases hj : j = i
      · exact ⟨K, List.mem_cons_self, by rw [← hj]; exact a.1, by rw [← hj]; exact b.1⟩
      · obtain ⟨L, l1, l2⟩ := ih (j + 1) a.2 b.2 (by omega) (by omega)
        exact ⟨L, List.mem_cons_of_mem _ l1, l2⟩
  obtain ⟨L, l1, l2, l3⟩ := key Q 0 q4 q5 hi.1 (by omega)
  exact ⟨L, (q3 L l1).1, l2, l3, (q3 L l1).2⟩
theorem f_rl_eq {s : f_Bf} {a b : Int → Int} {n : Int} {M2 : ax_Mem} (h1 : M2 89 = a) (h2 : M2 90 = b) (h3 : M2 88 4 = n) (h : f_rl s (a, b, n)) : f_rl s (M2 89, M2 90, M2 88 4) := by
  rw [h1, h2, h3]
  exact h
theorem f_vl_pre {A B : List Int} (h : f_vl (A ++ B)) : f_vl A := by
  refine ⟨(f_lt3_app.mp h.1).1, ?_⟩
  have := h.2
  rw [List.length_append] at this
  omega
set_option maxRecDepth 20000 in
theorem s_X5_behind (E : ax_Env) (l : Launch) (d : Nat) (hd : 0 ≤ d) (M : ax_Mem) (c x : Int) (hg0 : 0 ≤ c ∧ c ≤ 100000) (hg1 : 0 ≤ x ∧ x ≤ 2) : ax_G E l d iX5_behind [.inl c, .inl x] M (fun z0 M2 => z0 = some (.inl (c * 3 + x + 1)) ∧ M = M2) := by
  refine ax_start rfl (Nat.le_of_ble_eq_true rfl) (ls := [some (.inl c), some (.inl x)]) rfl (fun hav hcm => ?_)
  have hc0 : -2147483648 ≤ c ∧ c < 2147483648 := hav (.inl c) (by simp)
  have hc1 : -2147483648 ≤ x ∧ x < 2147483648 := hav (.inl x) (by simp)
  clear hav
  refine ax_iload_n dX5_behind_0 rfl rfl (pc' := 1) rfl ?_
  refine ax_iconst dX5_behind_1 (by decide) (pc' := 2) rfl ?_
  refine ax_imul dX5_behind_2 (by omega) (pc' := 3) rfl ?_
  refine ax_iload_n dX5_behind_3 rfl rfl (pc' := 4) rfl ?_
  refine ax_iadd dX5_behind_4 (by omega) (pc' := 5) rfl ?_
  refine ax_iconst dX5_behind_5 (by decide) (pc' := 6) rfl ?_
  refine ax_iadd dX5_behind_6 (by omega) (pc' := 7) rfl ?_
  refine ax_iret dX5_behind_7 rfl ?_
  refine ⟨rfl, ?_, ?_⟩
  · rfl
  · rfl
set_option maxRecDepth 20000 in
theorem s_X5_spell (E : ax_Env) (l : Launch) (d : Nat) (hd : 0 ≤ d) (M : ax_Mem) (c : Int) (L : List Int) {lt : Int → Int} (hlt : M 91 = lt) (hg0 : c = f_c3 L) (hg1 : f_vl L) : ax_G E l d iX5_spell [.inr 88, .inl c] M (fun z0 M2 => z0 = none ∧ (∀ x0 i0 : Int, ¬ ((x0 = 88 ∧ i0 = 3) ∨ x0 = 91) → M2 x0 i0 = M x0 i0) ∧ M2 88 3 = (L.length : Int) ∧ (f_fwd (M2 91) 0 L)) := by
  refine ax_start rfl (Nat.le_of_ble_eq_true rfl) (ls := [some (.inr 88), some (.inl c), none, none]) rfl (fun hav hcm => ?_)
  have hc1 : -2147483648 ≤ c ∧ c < 2147483648 := hav (.inl c) (by simp)
  clear hav
  have ql := hg1.2
  have qc := f_c3_rg hg1
  refine ax_aload_n dX5_spell_0 rfl rfl (pc' := 1) rfl ?_
  refine ax_iconst dX5_spell_1 (by decide) (pc' := 2) rfl ?_
  refine ax_puti dX5_spell_2 flX5_42 (Or.inl rfl) sh_88 rfl (pc' := 5) rfl ?_
  refine ax_iload_n dX5_spell_5 rfl rfl (pc' := 6) rfl ?_
  refine ax_istore_n dX5_spell_6 rfl (by decide) (ls' := [some (.inr 88), some (.inl c), some (.inl c), none]) rfl (pc' := 7) rfl ?_
  have LP1 : ∀ (kq2 : Nat) (rs : Int) (cn : Int) (R : List Int) (M1 : ax_Mem) (hm1 : (R.length : Int) < (kq2 : Nat)) (fr1 : ∀ x0 i0 : Int, ¬ ((x0 = 88 ∧ i0 = 3)) → M1 x0 i0 = (ax_up M 88 3 0) x0 i0) (ms1_88_3 : M1 88 3 = cn) (iv1_0 : rs = f_k3 R ∧ f_lt3 R) (iv1_1 : 0 ≤ cn ∧ cn + (R.length : Int) = (L.length : Int)), ax_W E l d 0 0 iX5_spell 7 [some (.inr 88), some (.inl c), some (.inl rs), none] [] SH M1 (ax_P (fun z0 M2 => z0 = none ∧ (∀ x0 i0 : Int, ¬ ((x0 = 88 ∧ i0 = 3) ∨ x0 = 91) → M2 x0 i0 = M x0 i0) ∧ M2 88 3 = (L.length : Int) ∧ (f_fwd (M2 91) 0 L))) := by
    intro kq2
    induction kq2 with
    | zero =>
      intro rs cn R M1 hm1 fr1 ms1_88_3 iv1_0 iv1_1
      exfalso
      omega
    | succ kq2 ih3 =>
      intro rs cn R M1 hm1 fr1 ms1_88_3 iv1_0 iv1_1
      have qk := f_k3_rg iv1_0.2
      have qm := f_m3_7 ⟨R.length, by omega⟩
      have qm2 : f_m3 R.length ≤ 3279 := qm
      refine ax_iload_n dX5_spell_7 rfl rfl (pc' := 8) rfl ?_
      refine ax_if_le (tgt := 39) dX5_spell_8 (by decide) (pc' := 11) rfl (fun h8 => ?_) (fun h8 => ?_)
      · have qd : R = [] := by
          cases R with
          | nil => rfl
          | cons x0 y0 =>
            have q : f_k3 (x0 :: y0) = f_k3 y0 * 3 + x0 + 1 := rfl
            obtain ⟨a, b⟩ := f_lt3_cons.mp iv1_0.2
            have a2 := f_k3_rg b
            omega
        have qd2 : R.length = 0 := by rw [qd]; rfl
        refine ax_iload_n dX5_spell_39 rfl rfl (pc' := 40) rfl ?_
        refine ax_istore_n dX5_spell_40 rfl (by decide) (ls' := [some (.inr 88), some (.inl c), some (.inl c), none]) rfl (pc' := 41) rfl ?_
        refine ax_aload_n dX5_spell_41 rfl rfl (pc' := 42) rfl ?_
        refine ax_geti (v := cn) dX5_spell_42 flX5_42 rfl sh_88 ms1_88_3 rfl (pc' := 45) rfl ?_
        refine ax_iconst dX5_spell_45 (by decide) (pc' := 46) rfl ?_
        refine ax_isub dX5_spell_46 (by omega) (pc' := 47) rfl ?_
        refine ax_istore_n dX5_spell_47 rfl (by decide) (ls' := [some (.inr 88), some (.inl c), some (.inl c), some (.inl (cn - 1))]) rfl (pc' := 48) rfl ?_
        have LP4 : ∀ (kq5 : Nat) (re i : Int) (l1 : Int → Int) (R : List Int) (D : List Int) (M4 : ax_Mem) (hm4 : (R.length : Int) < (kq5 : Nat)) (fr4 : ∀ x0 i0 : Int, ¬ (x0 = 91) → M4 x0 i0 = M1 x0 i0) (mr4_91 : M4 91 = l1) (iv4_0 : re = f_k3 R ∧ f_lt3 R) (iv4_1 : i + 1 = (R.length : Int)) (iv4_2 : f_fwd l1 (i + 1) D) (iv4_3 : R.reverse ++ D = L), ax_W E l d 0 0 iX5_spell 48 [some (.inr 88), some (.inl c), some (.inl re), some (.inl i)] [] SH M4 (ax_P (fun z0 M2 => z0 = none ∧ (∀ x0 i0 : Int, ¬ ((x0 = 88 ∧ i0 = 3) ∨ x0 = 91) → M2 x0 i0 = M x0 i0) ∧ M2 88 3 = (L.length : Int) ∧ (f_fwd (M2 91) 0 L))) := by
          intro kq5
          induction kq5 with
          | zero =>
            intro re i l1 R D M4 hm4 fr4 mr4_91 iv4_0 iv4_1 iv4_2 iv4_3
            exfalso
            omega
          | succ kq5 ih6 =>
            intro re i l1 R D M4 hm4 fr4 mr4_91 iv4_0 iv4_1 iv4_2 iv4_3
            have qk := f_k3_rg iv4_0.2
            have qRl : R.length + D.length = L.length := by
              have q := congrArg List.length iv4_3
              rw [List.length_append, List.length_reverse] at q
              exact q
            have qm := f_m3_7 ⟨R.length, by omega⟩
            have qm2 : f_m3 R.length ≤ 3279 := qm
            refine ax_iload_n dX5_spell_48 rfl rfl (pc' := 49) rfl ?_
            refine ax_if_lt (tgt := 75) dX5_spell_49 (by decide) (pc' := 52) rfl (fun h49 => ?_) (fun h49 => ?_)
            · have qd : R = [] := List.eq_nil_of_length_eq_zero (by omega)
              refine ax_vret dX5_spell_75 rfl ?_
              refine ⟨rfl, rfl, ?_, ?_, ?_⟩
              · intro x0 i0 hai
                exact ((fr4 x0 i0 (fun h => hai (Or.inr h))).trans ((fr1 x0 i0 (fun h => hai (Or.inl h))).trans (ax_up_miss (fun h => hai (Or.inl h)) rfl)))
              · refine Eq.trans ((fr4 88 3 (fun h => absurd h (by decide))).trans ms1_88_3) ?_
                omega
              · have qr := mr4_91
                rw [qr]
                have q := iv4_2
                rw [show i + 1 = 0 by omega] at q
                rw [← iv4_3, qd]
                exact q
            · obtain ⟨x2, R2, qd⟩ : ∃ x0 y0, R = x0 :: y0 := by
                cases R with
                | nil =>
                  exfalso
                  have q := iv4_1
                  rw [List.length_nil] at q
                  omega
                | cons x0 y0 => exact ⟨x0, y0, rfl⟩
              have qd2 : R.length = R2.length + 1 := by rw [qd]; rfl
              have qlt := iv4_0.2
              rw [qd] at qlt
              obtain ⟨qx2, qr2⟩ := f_lt3_cons.mp qlt
              have qk2 := f_k3_rg qr2
              have qkk : f_k3 R = f_k3 R2 * 3 + x2 + 1 := by rw [qd]; rfl
              refine ax_aload_n dX5_spell_52 rfl rfl (pc' := 53) rfl ?_
              refine ax_getr (v := 91) dX5_spell_53 flX5_18 rfl sh_88 rfl (pc' := 56) rfl ?_
              refine ax_iload_n dX5_spell_56 rfl rfl (pc' := 57) rfl ?_
              refine ax_iload_n dX5_spell_57 rfl rfl (pc' := 58) rfl ?_
              refine ax_iconst dX5_spell_58 (by decide) (pc' := 59) rfl ?_
              refine ax_isub dX5_spell_59 (by omega) (pc' := 60) rfl ?_
              refine ax_iconst dX5_spell_60 (by decide) (pc' := 61) rfl ?_
              refine ax_irem dX5_spell_61 (by omega) (by omega) (pc' := 62) rfl ?_
              refine ax_iast dX5_spell_62 sh_91 rfl (by omega) (by omega) (pc' := 63) rfl ?_
              refine ax_iload_n dX5_spell_63 rfl rfl (pc' := 64) rfl ?_
              refine ax_iconst dX5_spell_64 (by decide) (pc' := 65) rfl ?_
              refine ax_isub dX5_spell_65 (by omega) (pc' := 66) rfl ?_
              refine ax_iconst dX5_spell_66 (by decide) (pc' := 67) rfl ?_
              refine ax_idiv dX5_spell_67 (by omega) (by omega) (pc' := 68) rfl ?_
              refine ax_istore_n dX5_spell_68 rfl (by decide) (ls' := [some (.inr 88), some (.inl c), some (.inl ((re - 1) / 3)), some (.inl i)]) rfl (pc' := 69) rfl ?_
              refine ax_iinc dX5_spell_69 rfl (by decide) (by omega) (ls' := [some (.inr 88), some (.inl c), some (.inl ((re - 1) / 3)), some (.inl (i + (-1)))]) rfl (pc' := 72) rfl ?_
              refine ax_goto dX5_spell_72 (pc' := 48) (by decide) ?_
              refine ih6 ((re - 1) / 3) (i + (-1)) (f_up l1 i ((re - 1) % 3)) R2 (x2 :: D) (ax_up M4 91 i ((re - 1) % 3)) ?_ ?_ ?_ ?_ ?_ ?_ ?_
              · omega
              · intro x0 i0 hai
                exact (ax_up_miss (fun h => hai h.1) ((fr4 x0 i0 (fun h => hai h)).trans rfl))
              · exact (ax_up_rowhit mr4_91)
              · exact ⟨by omega, qr2⟩
              · omega
              · refine ⟨?_, ?_⟩
                · rw [show i + -1 + 1 = i by omega]
                  exact (f_up_same _ _ _).trans (by omega)
                · rw [show i + -1 + 1 + 1 = i + 1 by omega]
                  exact f_fwd_up (by omega) iv4_2
              · rw [← iv4_3, qd, List.reverse_cons, List.append_assoc]
                rfl
        refine LP4 ((L.reverse.length : Int) : Int).toNat.succ c (cn - 1) lt L.reverse ([]) M1 ?_ ?_ ?_ ?_ ?_ ?_ ?_
        · omega
        · exact fun a i _ => rfl
        · exact ((funext fun i0 => fr1 91 i0 (fun h => absurd h.1 (by decide))).trans (ax_up_rowmiss (by decide) hlt))
        · exact ⟨hg0, f_lt3_rev hg1.1⟩
        · rw [List.length_reverse]
          omega
        · trivial
        · rw [List.reverse_reverse, List.append_nil]
      · obtain ⟨x2, R2, qd⟩ : ∃ x0 y0, R = x0 :: y0 := by
          cases R with
          | nil =>
            have q : f_k3 [] = 0 := rfl
            omega
          | cons x0 y0 => exact ⟨x0, y0, rfl⟩
        have qd2 : R.length = R2.length + 1 := by rw [qd]; rfl
        have qlt := iv1_0.2
        rw [qd] at qlt
        obtain ⟨qx2, qr2⟩ := f_lt3_cons.mp qlt
        have qk2 := f_k3_rg qr2
        have qkk : f_k3 R = f_k3 R2 * 3 + x2 + 1 := by rw [qd]; rfl
        refine ax_aload_n dX5_spell_11 rfl rfl (pc' := 12) rfl ?_
        refine ax_geti (v := cn) dX5_spell_12 flX5_42 rfl sh_88 ms1_88_3 rfl (pc' := 15) rfl ?_
        refine ax_bipush dX5_spell_15 (by decide) (pc' := 17) rfl ?_
        refine ax_icmp_ge (tgt := 39) dX5_spell_17 (by decide) (pc' := 20) rfl (fun h17 => ?_) (fun h17 => ?_)
        · exfalso
          omega
        · refine ax_aload_n dX5_spell_20 rfl rfl (pc' := 21) rfl ?_
          refine ax_dup dX5_spell_21 (pc' := 22) rfl ?_
          refine ax_geti (v := cn) dX5_spell_22 flX5_42 rfl sh_88 ms1_88_3 rfl (pc' := 25) rfl ?_
          refine ax_iconst dX5_spell_25 (by decide) (pc' := 26) rfl ?_
          refine ax_iadd dX5_spell_26 (by omega) (pc' := 27) rfl ?_
          refine ax_puti dX5_spell_27 flX5_42 (Or.inl rfl) sh_88 rfl (pc' := 30) rfl ?_
          refine ax_iload_n dX5_spell_30 rfl rfl (pc' := 31) rfl ?_
          refine ax_iconst dX5_spell_31 (by decide) (pc' := 32) rfl ?_
          refine ax_isub dX5_spell_32 (by omega) (pc' := 33) rfl ?_
          refine ax_iconst dX5_spell_33 (by decide) (pc' := 34) rfl ?_
          refine ax_idiv dX5_spell_34 (by omega) (by omega) (pc' := 35) rfl ?_
          refine ax_istore_n dX5_spell_35 rfl (by decide) (ls' := [some (.inr 88), some (.inl c), some (.inl ((rs - 1) / 3)), none]) rfl (pc' := 36) rfl ?_
          refine ax_goto dX5_spell_36 (pc' := 7) (by decide) ?_
          refine ih3 ((rs - 1) / 3) (cn + 1) R2 (ax_up M1 88 3 (cn + 1)) ?_ ?_ ?_ ?_ ?_
          · omega
          · intro x0 i0 hai
            exact (ax_up_miss (fun h => hai h) ((fr1 x0 i0 (fun h => hai h)).trans rfl))
          · exact (ax_up_hit _ _ _ _)
          · exact ⟨by omega, qr2⟩
          · omega
  refine LP1 ((L.reverse.length : Int) : Int).toNat.succ c 0 L.reverse (ax_up M 88 3 0) ?_ ?_ ?_ ?_ ?_
  · omega
  · exact fun a i _ => rfl
  · exact (ax_up_hit _ _ _ _)
  · exact ⟨hg0, f_lt3_rev hg1.1⟩
  · rw [List.length_reverse]
    omega
set_option maxRecDepth 20000 in
theorem s_X5_reach (E : ax_Env) (l : Launch) (d : Nat) (hd : 1 ≤ d) (M : ax_Mem) (mo un a b fm : Int) (s : f_Bf) (A mid B : List Int) {fa : Int → Int} (hfa : M 89 = fa) {qu : Int → Int} (hqu : M 90 = qu) {lt : Int → Int} (hlt : M 91 = lt) {cn : Int} (hcn : M 88 3 = cn) {n : Int} (hn : M 88 4 = n) (hg0 : f_rl s (fa, qu, n)) (hg1 : f_vl (A ++ mid ++ B)) (hg2 : 0 ≤ mo ∧ mo ≤ 12) (hg3 : un = (A.length : Int) ∧ f_fwd lt 0 A) (hg4 : f_fwd lt fm B ∧ fm + (B.length : Int) = cn ∧ 0 ≤ fm ∧ cn ≤ 7) (hg5 : (a = -1 ∧ mid = []) ∨ (a ≠ -1 ∧ mid = [a, b])) : ax_G E l d iX5_reach [.inr 88, .inl mo, .inl un, .inl a, .inl b, .inl fm] M (fun z0 M2 => z0 = none ∧ (∀ x0 i0 : Int, ¬ (x0 = 89 ∨ x0 = 90 ∨ (x0 = 88 ∧ i0 = 4)) → M2 x0 i0 = M x0 i0) ∧ (f_rl (f_rch (f_code (A ++ mid ++ B)) mo s) (M2 89, M2 90, M2 88 4))) := by
  obtain ⟨d, rfl⟩ : ∃ d0, d = d0 + 1 := ⟨d - 1, by omega⟩
  refine ax_start rfl (Nat.le_of_ble_eq_true rfl) (ls := [some (.inr 88), some (.inl mo), some (.inl un), some (.inl a), some (.inl b), some (.inl fm), none, none]) rfl (fun hav hcm => ?_)
  have hc1 : -2147483648 ≤ mo ∧ mo < 2147483648 := hav (.inl mo) (by simp)
  have hc2 : -2147483648 ≤ un ∧ un < 2147483648 := hav (.inl un) (by simp)
  have hc3 : -2147483648 ≤ a ∧ a < 2147483648 := hav (.inl a) (by simp)
  have hc4 : -2147483648 ≤ b ∧ b < 2147483648 := hav (.inl b) (by simp)
  have hc5 : -2147483648 ≤ fm ∧ fm < 2147483648 := hav (.inl fm) (by simp)
  clear hav
  have qc := f_c3_rg hg1
  have qv := hg1
  rw [List.append_assoc] at qv
  have qvA := f_vl_pre qv
  have qvM := f_vl_pre hg1
  have qAl := qvA.2
  have qle := f_rl_le hg0
  have qle2 : 0 ≤ n ∧ n ≤ 3280 := qle
  refine ax_iconst dX5_reach_0 (by decide) (pc' := 1) rfl ?_
  refine ax_istore dX5_reach_1 (by decide) (ls' := [some (.inr 88), some (.inl mo), some (.inl un), some (.inl a), some (.inl b), some (.inl fm), some (.inl 0), none]) rfl (pc' := 3) rfl ?_
  refine ax_iconst dX5_reach_3 (by decide) (pc' := 4) rfl ?_
  refine ax_istore dX5_reach_4 (by decide) (ls' := [some (.inr 88), some (.inl mo), some (.inl un), some (.inl a), some (.inl b), some (.inl fm), some (.inl 0), some (.inl 0)]) rfl (pc' := 6) rfl ?_
  have LP1 : ∀ (kq2 : Nat) (cd i : Int) (D : List Int) (R : List Int) (hm1 : un - i < (kq2 : Nat)) (iv1_0 : i = (D.length : Int) ∧ i + (R.length : Int) = un) (iv1_1 : D ++ R = A) (iv1_2 : cd = f_c3 D) (iv1_3 : f_fwd lt i R), ax_W E l (d + 1) 0 0 iX5_reach 6 [some (.inr 88), some (.inl mo), some (.inl un), some (.inl a), some (.inl b), some (.inl fm), some (.inl cd), some (.inl i)] [] SH M (ax_P (fun z0 M2 => z0 = none ∧ (∀ x0 i0 : Int, ¬ (x0 = 89 ∨ x0 = 90 ∨ (x0 = 88 ∧ i0 = 4)) → M2 x0 i0 = M x0 i0) ∧ (f_rl (f_rch (f_code (A ++ mid ++ B)) mo s) (M2 89, M2 90, M2 88 4)))) := by
    intro kq2
    induction kq2 with
    | zero =>
      intro cd i D R hm1 iv1_0 iv1_1 iv1_2 iv1_3
      exfalso
      omega
    | succ kq2 ih3 =>
      intro cd i D R hm1 iv1_0 iv1_1 iv1_2 iv1_3
      refine ax_iload dX5_reach_6 rfl (pc' := 8) rfl ?_
      refine ax_iload_n dX5_reach_8 rfl rfl (pc' := 9) rfl ?_
      refine ax_icmp_ge (tgt := 32) dX5_reach_9 (by decide) (pc' := 12) rfl (fun h9 => ?_) (fun h9 => ?_)
      · have qd : R = [] := List.eq_nil_of_length_eq_zero (by omega)
        have qDA : D = A := by
          rw [← iv1_1, qd, List.append_nil]
        have qcA := f_c3_rg qvA
        refine ax_iload_n dX5_reach_32 rfl rfl (pc' := 33) rfl ?_
        refine ax_iconst dX5_reach_33 (by decide) (pc' := 34) rfl ?_
        refine ax_icmp_eq (tgt := 50) dX5_reach_34 (by decide) (pc' := 37) rfl (fun h34 => ?_) (fun h34 => ?_)
        · have qmd : mid = [] := by
            rcases hg5 with q | q
            · exact q.2
            · exact absurd h34 q.1
          have qce : cd = f_c3 (A ++ mid) := by
            rw [iv1_2, qDA, qmd, List.append_nil]
          refine ax_iload dX5_reach_50 rfl (pc' := 52) rfl ?_
          refine ax_istore dX5_reach_52 (by decide) (ls' := [some (.inr 88), some (.inl mo), some (.inl un), some (.inl a), some (.inl b), some (.inl fm), some (.inl cd), some (.inl fm)]) rfl (pc' := 54) rfl ?_
          have LP4 : ∀ (kq5 : Nat) (ce j : Int) (D2 : List Int) (R : List Int) (hm4 : cn - j < (kq5 : Nat)) (iv4_0 : 0 ≤ j ∧ j + (R.length : Int) = cn) (iv4_1 : D2 ++ R = (A ++ mid ++ B)) (iv4_2 : ce = f_c3 D2) (iv4_3 : f_fwd lt j R), ax_W E l (d + 1) 0 0 iX5_reach 54 [some (.inr 88), some (.inl mo), some (.inl un), some (.inl a), some (.inl b), some (.inl fm), some (.inl ce), some (.inl j)] [] SH M (ax_P (fun z0 M2 => z0 = none ∧ (∀ x0 i0 : Int, ¬ (x0 = 89 ∨ x0 = 90 ∨ (x0 = 88 ∧ i0 = 4)) → M2 x0 i0 = M x0 i0) ∧ (f_rl (f_rch (f_code (A ++ mid ++ B)) mo s) (M2 89, M2 90, M2 88 4)))) := by
            intro kq5
            induction kq5 with
            | zero =>
              intro ce j D2 R hm4 iv4_0 iv4_1 iv4_2 iv4_3
              exfalso
              omega
            | succ kq5 ih6 =>
              intro ce j D2 R hm4 iv4_0 iv4_1 iv4_2 iv4_3
              refine ax_iload dX5_reach_54 rfl (pc' := 56) rfl ?_
              refine ax_aload_n dX5_reach_56 rfl rfl (pc' := 57) rfl ?_
              refine ax_geti (v := cn) dX5_reach_57 flX5_42 rfl sh_88 hcn rfl (pc' := 60) rfl ?_
              refine ax_icmp_ge (tgt := 83) dX5_reach_60 (by decide) (pc' := 63) rfl (fun h60 => ?_) (fun h60 => ?_)
              · have qd : R = [] := List.eq_nil_of_length_eq_zero (by omega)
                have qfin : ce = f_c3 (A ++ mid ++ B) := by
                  rw [iv4_2, ← iv4_1, qd, List.append_nil]
                have qrl := f_rl_rch hg2 hg0 hg1
                rw [← qfin] at qrl
                refine ax_iload dX5_reach_83 rfl (pc' := 85) rfl ?_
                refine ax_sipush dX5_reach_85 (by decide) (pc' := 88) rfl ?_
                refine ax_insG [.inl ce, .inl 3280] [] dX5_reach_88 mlX5_21 rfl rfl (Nat.le_of_ble_eq_true rfl) (s_X11_isIn E l _ (by omega) _ ce 3280) (pc' := 91) rfl (fun vv M_88 hq co88 hcm88 => ?_)
                obtain ⟨rfl, rfl⟩ := hq
                refine ax_reS (st2 := [.inl (f_b (0 ≤ ce ∧ ce < 3280))]) rfl ?_
                refine ax_if_eq (tgt := 134) dX5_reach_91 (by decide) (pc' := 94) rfl (fun h91 => ?_) (fun h91 => ?_)
                · replace h91 := f_b_0 h91
                  exfalso
                  omega
                · replace h91 := f_b_1 h91
                  refine ax_aload_n dX5_reach_94 rfl rfl (pc' := 95) rfl ?_
                  refine ax_getr (v := 89) dX5_reach_95 flX5_11 rfl sh_88 rfl (pc' := 98) rfl ?_
                  refine ax_iload dX5_reach_98 rfl (pc' := 100) rfl ?_
                  refine ax_iald (v := fa ce) dX5_reach_100 sh_89 rfl (by omega) (by omega) ((congrFun hfa ce).trans rfl) (pc' := 101) rfl ?_
                  refine ax_iconst dX5_reach_101 (by decide) (pc' := 102) rfl ?_
                  refine ax_icmp_ne (tgt := 134) dX5_reach_102 (by decide) (pc' := 105) rfl (fun h102 => ?_) (fun h102 => ?_)
                  · rw [show f_rch ce mo (fa, qu, n) = (fa, qu, n) from if_neg h102] at qrl
                    refine ax_vret dX5_reach_134 rfl ?_
                    refine ⟨rfl, rfl, ?_, ?_⟩
                    · intro x0 i0 hai
                      exact rfl
                    · exact f_rl_eq hfa hqu hn qrl
                  · have qlt : n < 3280 := f_rl_lt hg0 hg1 (by rw [← qfin]; exact h102)
                    rw [show f_rch ce mo (fa, qu, n) = (f_up fa ce mo, f_up qu n ce, n + 1) from if_pos h102] at qrl
                    refine ax_aload_n dX5_reach_105 rfl rfl (pc' := 106) rfl ?_
                    refine ax_getr (v := 89) dX5_reach_106 flX5_11 rfl sh_88 rfl (pc' := 109) rfl ?_
                    refine ax_iload dX5_reach_109 rfl (pc' := 111) rfl ?_
                    refine ax_iload_n dX5_reach_111 rfl rfl (pc' := 112) rfl ?_
                    refine ax_iast dX5_reach_112 sh_89 rfl (by omega) (by omega) (pc' := 113) rfl ?_
                    refine ax_aload_n dX5_reach_113 rfl rfl (pc' := 114) rfl ?_
                    refine ax_getr (v := 90) dX5_reach_114 flX5_15 rfl sh_88 rfl (pc' := 117) rfl ?_
                    refine ax_aload_n dX5_reach_117 rfl rfl (pc' := 118) rfl ?_
                    refine ax_geti (v := n) dX5_reach_118 flX5_31 rfl sh_88 (show (ax_up M 89 ce mo) 88 4 = n from (ax_up_miss (fun h => absurd h.1 (by decide)) hn)) rfl (pc' := 121) rfl ?_
                    refine ax_iload dX5_reach_121 rfl (pc' := 123) rfl ?_
                    refine ax_iast dX5_reach_123 sh_90 rfl (by omega) (by omega) (pc' := 124) rfl ?_
                    refine ax_aload_n dX5_reach_124 rfl rfl (pc' := 125) rfl ?_
                    refine ax_dup dX5_reach_125 (pc' := 126) rfl ?_
                    refine ax_geti (v := n) dX5_reach_126 flX5_31 rfl sh_88 (show (ax_up (ax_up M 89 ce mo) 90 n ce) 88 4 = n from (ax_up_miss (fun h => absurd h.1 (by decide)) (ax_up_miss (fun h => absurd h.1 (by decide)) hn))) rfl (pc' := 129) rfl ?_
                    refine ax_iconst dX5_reach_129 (by decide) (pc' := 130) rfl ?_
                    refine ax_iadd dX5_reach_130 (by omega) (pc' := 131) rfl ?_
                    refine ax_puti dX5_reach_131 flX5_31 (Or.inl rfl) sh_88 rfl (pc' := 134) rfl ?_
                    refine ax_vret dX5_reach_134 rfl ?_
                    refine ⟨rfl, rfl, ?_, ?_⟩
                    · intro x0 i0 hai
                      exact (ax_up_miss (fun h => hai (Or.inr (Or.inr h))) (ax_up_miss (fun h => hai (Or.inr (Or.inl h.1))) (ax_up_miss (fun h => hai (Or.inl h.1)) rfl)))
                    · exact f_rl_eq (ax_up_rowmiss (by decide) (ax_up_rowmiss (by decide) (ax_up_rowhit hfa))) (ax_up_rowmiss (by decide) (ax_up_rowhit (ax_up_rowmiss (by decide) hqu))) (ax_up_hit _ _ _ _) qrl
              · obtain ⟨x2, R2, qd⟩ : ∃ x0 y0, R = x0 :: y0 := by
                  cases R with
                  | nil =>
                    simp only [List.length_nil] at *
                    omega
                  | cons x0 y0 => exact ⟨x0, y0, rfl⟩
                have qd2 : R.length = R2.length + 1 := by rw [qd]; rfl
                have qf : f_fwd lt j (x2 :: R2) := qd ▸ iv4_3
                have qvD : f_vl (D2 ++ x2 :: R2) := by
                  rw [← qd, iv4_1]
                  exact hg1
                have qx2 := (f_lt3_cons.mp (f_lt3_app.mp qvD.1).2).1
                have qcD := f_c3_rg (f_vl_pre qvD)
                refine ax_iload dX5_reach_63 rfl (pc' := 65) rfl ?_
                refine ax_aload_n dX5_reach_65 rfl rfl (pc' := 66) rfl ?_
                refine ax_getr (v := 91) dX5_reach_66 flX5_18 rfl sh_88 rfl (pc' := 69) rfl ?_
                refine ax_iload dX5_reach_69 rfl (pc' := 71) rfl ?_
                refine ax_iald (v := lt j) dX5_reach_71 sh_91 rfl (by omega) (by omega) ((congrFun hlt j).trans rfl) (pc' := 72) rfl ?_
                refine ax_reS (st2 := [.inl x2, .inl ce]) (congrArg (fun z => Sum.inl z :: _) (by exact qf.1)) ?_
                refine ax_insG [.inl ce, .inl x2] [] dX5_reach_72 mlX5_49 rfl rfl (Nat.le_of_ble_eq_true rfl) (s_X5_behind E l _ (by omega) _ ce x2 (by first | omega | assumption) (by first | omega | assumption)) (pc' := 75) rfl (fun vv M_72 hq co72 hcm72 => ?_)
                obtain ⟨rfl, rfl⟩ := hq
                refine ax_reS (st2 := [.inl (ce * 3 + x2 + 1)]) rfl ?_
                have cc72 : -2147483648 ≤ ce * 3 + x2 + 1 ∧ ce * 3 + x2 + 1 < 2147483648 := co72 _ rfl
                refine ax_istore dX5_reach_75 (by decide) (ls' := [some (.inr 88), some (.inl mo), some (.inl un), some (.inl a), some (.inl b), some (.inl fm), some (.inl (ce * 3 + x2 + 1)), some (.inl j)]) rfl (pc' := 77) rfl ?_
                refine ax_iinc dX5_reach_77 rfl (by decide) (by omega) (ls' := [some (.inr 88), some (.inl mo), some (.inl un), some (.inl a), some (.inl b), some (.inl fm), some (.inl (ce * 3 + x2 + 1)), some (.inl (j + 1))]) rfl (pc' := 80) rfl ?_
                refine ax_goto dX5_reach_80 (pc' := 54) (by decide) ?_
                refine ih6 (ce * 3 + x2 + 1) (j + 1) (D2 ++ [x2]) R2 ?_ ?_ ?_ ?_ ?_
                · omega
                · omega
                · rw [← iv4_1, qd, List.append_assoc]
                  rfl
                · rw [f_c3_sn, iv4_2]
                · exact qf.2
          refine LP4 (cn - fm : Int).toNat.succ cd fm (A ++ mid) B ?_ ?_ ?_ ?_ ?_
          · omega
          · omega
          · rfl
          · exact qce
          · exact hg4.1
        · have qmd : mid = [a, b] := by
            rcases hg5 with q | q
            · exact absurd q.1 h34
            · exact q.2
          have qcd : cd = f_c3 A := by
            rw [iv1_2, qDA]
          have qab : (0 ≤ a ∧ a ≤ 2) ∧ 0 ≤ b ∧ b ≤ 2 := by
            have q := (f_lt3_app.mp qvM.1).2
            rw [qmd] at q
            exact ⟨q a (List.mem_cons_self), q b (List.mem_cons_of_mem _ (List.mem_cons_self))⟩
          have qce : (cd * 3 + a + 1) * 3 + b + 1 = f_c3 (A ++ mid) := by
            rw [qmd, show A ++ [a, b] = (A ++ [a]) ++ [b] by rw [List.append_assoc]; rfl, f_c3_sn, f_c3_sn, qcd]
          refine ax_iload dX5_reach_37 rfl (pc' := 39) rfl ?_
          refine ax_iload_n dX5_reach_39 rfl rfl (pc' := 40) rfl ?_
          refine ax_insG [.inl cd, .inl a] [] dX5_reach_40 mlX5_49 rfl rfl (Nat.le_of_ble_eq_true rfl) (s_X5_behind E l _ (by omega) _ cd a (by first | omega | assumption) (by first | omega | assumption)) (pc' := 43) rfl (fun vv M_40 hq co40 hcm40 => ?_)
          obtain ⟨rfl, rfl⟩ := hq
          refine ax_reS (st2 := [.inl (cd * 3 + a + 1)]) rfl ?_
          have cc40 : -2147483648 ≤ cd * 3 + a + 1 ∧ cd * 3 + a + 1 < 2147483648 := co40 _ rfl
          refine ax_iload dX5_reach_43 rfl (pc' := 45) rfl ?_
          refine ax_insG [.inl (cd * 3 + a + 1), .inl b] [] dX5_reach_45 mlX5_49 rfl rfl (Nat.le_of_ble_eq_true rfl) (s_X5_behind E l _ (by omega) _ (cd * 3 + a + 1) b (by first | omega | assumption) (by first | omega | assumption)) (pc' := 48) rfl (fun vv M_45 hq co45 hcm45 => ?_)
          obtain ⟨rfl, rfl⟩ := hq
          refine ax_reS (st2 := [.inl ((cd * 3 + a + 1) * 3 + b + 1)]) rfl ?_
          have cc45 : -2147483648 ≤ (cd * 3 + a + 1) * 3 + b + 1 ∧ (cd * 3 + a + 1) * 3 + b + 1 < 2147483648 := co45 _ rfl
          refine ax_istore dX5_reach_48 (by decide) (ls' := [some (.inr 88), some (.inl mo), some (.inl un), some (.inl a), some (.inl b), some (.inl fm), some (.inl ((cd * 3 + a + 1) * 3 + b + 1)), some (.inl i)]) rfl (pc' := 50) rfl ?_
          refine ax_iload dX5_reach_50 rfl (pc' := 52) rfl ?_
          refine ax_istore dX5_reach_52 (by decide) (ls' := [some (.inr 88), some (.inl mo), some (.inl un), some (.inl a), some (.inl b), some (.inl fm), some (.inl ((cd * 3 + a + 1) * 3 + b + 1)), some (.inl fm)]) rfl (pc' := 54) rfl ?_
          have LP7 : ∀ (kq8 : Nat) (ce j : Int) (D2 : List Int) (R : List Int) (hm7 : cn - j < (kq8 : Nat)) (iv7_0 : 0 ≤ j ∧ j + (R.length : Int) = cn) (iv7_1 : D2 ++ R = (A ++ mid ++ B)) (iv7_2 : ce = f_c3 D2) (iv7_3 : f_fwd lt j R), ax_W E l (d + 1) 0 0 iX5_reach 54 [some (.inr 88), some (.inl mo), some (.inl un), some (.inl a), some (.inl b), some (.inl fm), some (.inl ce), some (.inl j)] [] SH M (ax_P (fun z0 M2 => z0 = none ∧ (∀ x0 i0 : Int, ¬ (x0 = 89 ∨ x0 = 90 ∨ (x0 = 88 ∧ i0 = 4)) → M2 x0 i0 = M x0 i0) ∧ (f_rl (f_rch (f_code (A ++ mid ++ B)) mo s) (M2 89, M2 90, M2 88 4)))) := by
            intro kq8
            induction kq8 with
            | zero =>
              intro ce j D2 R hm7 iv7_0 iv7_1 iv7_2 iv7_3
              exfalso
              omega
            | succ kq8 ih9 =>
              intro ce j D2 R hm7 iv7_0 iv7_1 iv7_2 iv7_3
              refine ax_iload dX5_reach_54 rfl (pc' := 56) rfl ?_
              refine ax_aload_n dX5_reach_56 rfl rfl (pc' := 57) rfl ?_
              refine ax_geti (v := cn) dX5_reach_57 flX5_42 rfl sh_88 hcn rfl (pc' := 60) rfl ?_
              refine ax_icmp_ge (tgt := 83) dX5_reach_60 (by decide) (pc' := 63) rfl (fun h60 => ?_) (fun h60 => ?_)
              · have qd : R = [] := List.eq_nil_of_length_eq_zero (by omega)
                have qfin : ce = f_c3 (A ++ mid ++ B) := by
                  rw [iv7_2, ← iv7_1, qd, List.append_nil]
                have qrl := f_rl_rch hg2 hg0 hg1
                rw [← qfin] at qrl
                refine ax_iload dX5_reach_83 rfl (pc' := 85) rfl ?_
                refine ax_sipush dX5_reach_85 (by decide) (pc' := 88) rfl ?_
                refine ax_insG [.inl ce, .inl 3280] [] dX5_reach_88 mlX5_21 rfl rfl (Nat.le_of_ble_eq_true rfl) (s_X11_isIn E l _ (by omega) _ ce 3280) (pc' := 91) rfl (fun vv M_88 hq co88 hcm88 => ?_)
                obtain ⟨rfl, rfl⟩ := hq
                refine ax_reS (st2 := [.inl (f_b (0 ≤ ce ∧ ce < 3280))]) rfl ?_
                refine ax_if_eq (tgt := 134) dX5_reach_91 (by decide) (pc' := 94) rfl (fun h91 => ?_) (fun h91 => ?_)
                · replace h91 := f_b_0 h91
                  exfalso
                  omega
                · replace h91 := f_b_1 h91
                  refine ax_aload_n dX5_reach_94 rfl rfl (pc' := 95) rfl ?_
                  refine ax_getr (v := 89) dX5_reach_95 flX5_11 rfl sh_88 rfl (pc' := 98) rfl ?_
                  refine ax_iload dX5_reach_98 rfl (pc' := 100) rfl ?_
                  refine ax_iald (v := fa ce) dX5_reach_100 sh_89 rfl (by omega) (by omega) ((congrFun hfa ce).trans rfl) (pc' := 101) rfl ?_
                  refine ax_iconst dX5_reach_101 (by decide) (pc' := 102) rfl ?_
                  refine ax_icmp_ne (tgt := 134) dX5_reach_102 (by decide) (pc' := 105) rfl (fun h102 => ?_) (fun h102 => ?_)
                  · rw [show f_rch ce mo (fa, qu, n) = (fa, qu, n) from if_neg h102] at qrl
                    refine ax_vret dX5_reach_134 rfl ?_
                    refine ⟨rfl, rfl, ?_, ?_⟩
                    · intro x0 i0 hai
                      exact rfl
                    · exact f_rl_eq hfa hqu hn qrl
                  · have qlt : n < 3280 := f_rl_lt hg0 hg1 (by rw [← qfin]; exact h102)
                    rw [show f_rch ce mo (fa, qu, n) = (f_up fa ce mo, f_up qu n ce, n + 1) from if_pos h102] at qrl
                    refine ax_aload_n dX5_reach_105 rfl rfl (pc' := 106) rfl ?_
                    refine ax_getr (v := 89) dX5_reach_106 flX5_11 rfl sh_88 rfl (pc' := 109) rfl ?_
                    refine ax_iload dX5_reach_109 rfl (pc' := 111) rfl ?_
                    refine ax_iload_n dX5_reach_111 rfl rfl (pc' := 112) rfl ?_
                    refine ax_iast dX5_reach_112 sh_89 rfl (by omega) (by omega) (pc' := 113) rfl ?_
                    refine ax_aload_n dX5_reach_113 rfl rfl (pc' := 114) rfl ?_
                    refine ax_getr (v := 90) dX5_reach_114 flX5_15 rfl sh_88 rfl (pc' := 117) rfl ?_
                    refine ax_aload_n dX5_reach_117 rfl rfl (pc' := 118) rfl ?_
                    refine ax_geti (v := n) dX5_reach_118 flX5_31 rfl sh_88 (show (ax_up M 89 ce mo) 88 4 = n from (ax_up_miss (fun h => absurd h.1 (by decide)) hn)) rfl (pc' := 121) rfl ?_
                    refine ax_iload dX5_reach_121 rfl (pc' := 123) rfl ?_
                    refine ax_iast dX5_reach_123 sh_90 rfl (by omega) (by omega) (pc' := 124) rfl ?_
                    refine ax_aload_n dX5_reach_124 rfl rfl (pc' := 125) rfl ?_
                    refine ax_dup dX5_reach_125 (pc' := 126) rfl ?_
                    refine ax_geti (v := n) dX5_reach_126 flX5_31 rfl sh_88 (show (ax_up (ax_up M 89 ce mo) 90 n ce) 88 4 = n from (ax_up_miss (fun h => absurd h.1 (by decide)) (ax_up_miss (fun h => absurd h.1 (by decide)) hn))) rfl (pc' := 129) rfl ?_
                    refine ax_iconst dX5_reach_129 (by decide) (pc' := 130) rfl ?_
                    refine ax_iadd dX5_reach_130 (by omega) (pc' := 131) rfl ?_
                    refine ax_puti dX5_reach_131 flX5_31 (Or.inl rfl) sh_88 rfl (pc' := 134) rfl ?_
                    refine ax_vret dX5_reach_134 rfl ?_
                    refine ⟨rfl, rfl, ?_, ?_⟩
                    · intro x0 i0 hai
                      exact (ax_up_miss (fun h => hai (Or.inr (Or.inr h))) (ax_up_miss (fun h => hai (Or.inr (Or.inl h.1))) (ax_up_miss (fun h => hai (Or.inl h.1)) rfl)))
                    · exact f_rl_eq (ax_up_rowmiss (by decide) (ax_up_rowmiss (by decide) (ax_up_rowhit hfa))) (ax_up_rowmiss (by decide) (ax_up_rowhit (ax_up_rowmiss (by decide) hqu))) (ax_up_hit _ _ _ _) qrl
              · obtain ⟨x2, R2, qd⟩ : ∃ x0 y0, R = x0 :: y0 := by
                  cases R with
                  | nil =>
                    simp only [List.length_nil] at *
                    omega
                  | cons x0 y0 => exact ⟨x0, y0, rfl⟩
                have qd2 : R.length = R2.length + 1 := by rw [qd]; rfl
                have qf : f_fwd lt j (x2 :: R2) := qd ▸ iv7_3
                have qvD : f_vl (D2 ++ x2 :: R2) := by
                  rw [← qd, iv7_1]
                  exact hg1
                have qx2 := (f_lt3_cons.mp (f_lt3_app.mp qvD.1).2).1
                have qcD := f_c3_rg (f_vl_pre qvD)
                refine ax_iload dX5_reach_63 rfl (pc' := 65) rfl ?_
                refine ax_aload_n dX5_reach_65 rfl rfl (pc' := 66) rfl ?_
                refine ax_getr (v := 91) dX5_reach_66 flX5_18 rfl sh_88 rfl (pc' := 69) rfl ?_
                refine ax_iload dX5_reach_69 rfl (pc' := 71) rfl ?_
                refine ax_iald (v := lt j) dX5_reach_71 sh_91 rfl (by omega) (by omega) ((congrFun hlt j).trans rfl) (pc' := 72) rfl ?_
                refine ax_reS (st2 := [.inl x2, .inl ce]) (congrArg (fun z => Sum.inl z :: _) (by exact qf.1)) ?_
                refine ax_insG [.inl ce, .inl x2] [] dX5_reach_72 mlX5_49 rfl rfl (Nat.le_of_ble_eq_true rfl) (s_X5_behind E l _ (by omega) _ ce x2 (by first | omega | assumption) (by first | omega | assumption)) (pc' := 75) rfl (fun vv M_72 hq co72 hcm72 => ?_)
                obtain ⟨rfl, rfl⟩ := hq
                refine ax_reS (st2 := [.inl (ce * 3 + x2 + 1)]) rfl ?_
                have cc72 : -2147483648 ≤ ce * 3 + x2 + 1 ∧ ce * 3 + x2 + 1 < 2147483648 := co72 _ rfl
                refine ax_istore dX5_reach_75 (by decide) (ls' := [some (.inr 88), some (.inl mo), some (.inl un), some (.inl a), some (.inl b), some (.inl fm), some (.inl (ce * 3 + x2 + 1)), some (.inl j)]) rfl (pc' := 77) rfl ?_
                refine ax_iinc dX5_reach_77 rfl (by decide) (by omega) (ls' := [some (.inr 88), some (.inl mo), some (.inl un), some (.inl a), some (.inl b), some (.inl fm), some (.inl (ce * 3 + x2 + 1)), some (.inl (j + 1))]) rfl (pc' := 80) rfl ?_
                refine ax_goto dX5_reach_80 (pc' := 54) (by decide) ?_
                refine ih9 (ce * 3 + x2 + 1) (j + 1) (D2 ++ [x2]) R2 ?_ ?_ ?_ ?_ ?_
                · omega
                · omega
                · rw [← iv7_1, qd, List.append_assoc]
                  rfl
                · rw [f_c3_sn, iv7_2]
                · exact qf.2
          refine LP7 (cn - fm : Int).toNat.succ ((cd * 3 + a + 1) * 3 + b + 1) fm (A ++ mid) B ?_ ?_ ?_ ?_ ?_
          · omega
          · omega
          · rfl
          · exact qce
          · exact hg4.1
      · obtain ⟨x2, R2, qd⟩ : ∃ x0 y0, R = x0 :: y0 := by
          cases R with
          | nil =>
            simp only [List.length_nil] at *
            omega
          | cons x0 y0 => exact ⟨x0, y0, rfl⟩
        have qd2 : R.length = R2.length + 1 := by rw [qd]; rfl
        have qf : f_fwd lt i (x2 :: R2) := qd ▸ iv1_3
        have qvD : f_vl (D ++ x2 :: R2) := by
          rw [← qd, iv1_1]
          exact qvA
        have qx2 := (f_lt3_cons.mp (f_lt3_app.mp qvD.1).2).1
        have qcD := f_c3_rg (f_vl_pre qvD)
        refine ax_iload dX5_reach_12 rfl (pc' := 14) rfl ?_
        refine ax_aload_n dX5_reach_14 rfl rfl (pc' := 15) rfl ?_
        refine ax_getr (v := 91) dX5_reach_15 flX5_18 rfl sh_88 rfl (pc' := 18) rfl ?_
        refine ax_iload dX5_reach_18 rfl (pc' := 20) rfl ?_
        refine ax_iald (v := lt i) dX5_reach_20 sh_91 rfl (by omega) (by omega) ((congrFun hlt i).trans rfl) (pc' := 21) rfl ?_
        refine ax_reS (st2 := [.inl x2, .inl cd]) (congrArg (fun z => Sum.inl z :: _) (by exact qf.1)) ?_
        refine ax_insG [.inl cd, .inl x2] [] dX5_reach_21 mlX5_49 rfl rfl (Nat.le_of_ble_eq_true rfl) (s_X5_behind E l _ (by omega) _ cd x2 (by first | omega | assumption) (by first | omega | assumption)) (pc' := 24) rfl (fun vv M_21 hq co21 hcm21 => ?_)
        obtain ⟨rfl, rfl⟩ := hq
        refine ax_reS (st2 := [.inl (cd * 3 + x2 + 1)]) rfl ?_
        have cc21 : -2147483648 ≤ cd * 3 + x2 + 1 ∧ cd * 3 + x2 + 1 < 2147483648 := co21 _ rfl
        refine ax_istore dX5_reach_24 (by decide) (ls' := [some (.inr 88), some (.inl mo), some (.inl un), some (.inl a), some (.inl b), some (.inl fm), some (.inl (cd * 3 + x2 + 1)), some (.inl i)]) rfl (pc' := 26) rfl ?_
        refine ax_iinc dX5_reach_26 rfl (by decide) (by omega) (ls' := [some (.inr 88), some (.inl mo), some (.inl un), some (.inl a), some (.inl b), some (.inl fm), some (.inl (cd * 3 + x2 + 1)), some (.inl (i + 1))]) rfl (pc' := 29) rfl ?_
        refine ax_goto dX5_reach_29 (pc' := 6) (by decide) ?_
        refine ih3 (cd * 3 + x2 + 1) (i + 1) (D ++ [x2]) R2 ?_ ?_ ?_ ?_ ?_
        · omega
        · rw [List.length_append, List.length_cons, List.length_nil]
          omega
        · rw [← iv1_1, qd, List.append_assoc]
          rfl
        · rw [f_c3_sn, iv1_2]
        · exact qf.2
  refine LP1 (un - 0 : Int).toNat.succ 0 0 ([]) A ?_ ?_ ?_ ?_ ?_
  · omega
  · exact ⟨rfl, by omega⟩
  · rfl
  · rfl
  · exact hg3.2
