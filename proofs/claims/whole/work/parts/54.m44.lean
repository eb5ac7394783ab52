/-! what ties itself, without the book -/
def f_ti1 (w : Int → Int) (r p k : Int) : Int → Int := f_more (f_sP w r p 0 k) r p k 1
abbrev f_Ta : Type := (Int → Int) × List Int
def f_tAS (Ls : Int → List f_Ln) (w0 : Int → Int) (r f : Int) (s : f_Ta) (p : Int) : f_Ta := if f_need Ls s.1 r p (f_cl w0 r p) ≤ f then (f_ti1 s.1 r p (f_cl w0 r p), s.2 ++ [p]) else s
def f_tAl (Ls : Int → List f_Ln) (w : Int → Int) (r f : Int) : f_Ta := (f_lrow w r).reverse.foldl (f_tAS Ls w r f) (w, [])
theorem f_fwd_lt {pl : Int → Int} {x v : Int} : ∀ {L : List Int} {b : Int}, x < b → f_fwd pl b L → f_fwd (f_up pl x v) b L
  | [], _, _, _ => trivial
  | q :: tl, b, h, hf => ⟨(f_up_o (by omega)).trans hf.1, f_fwd_lt (by omega) hf.2⟩
theorem f_fwd_snoc {pl : Int → Int} {v : Int} : ∀ {L : List Int} {b x : Int}, x = b + (L.length : Int) → f_fwd pl b L → f_fwd (f_up pl x v) b (L ++ [v])
  | [], b, x, h, _ => by
    simp only [List.length_nil] at h
    rw [show x = b by omega]
    exact ⟨f_up_same _ _ _, trivial⟩
  | q :: tl, b, x, h, hf => by
    simp only [List.length_cons] at h
    exact ⟨(f_up_o (by omega)).trans hf.1, f_fwd_snoc (by omega) hf.2⟩
def f_nzp (w x : Int → Int) (r : Int) : Prop := ∀ q k, 0 ≤ q → q < 24 → 0 ≤ k → k < 6 → f_P w r q (1 + k) ≠ 0 → f_P x r q (1 + k) ≠ 0
theorem f_nzp_ti1 {w x : Int → Int} {r p k : Int} (hr : 0 ≤ r ∧ r < 8) (hp : 0 ≤ p ∧ p < 24) (hk : 0 ≤ k ∧ k < 6) (hx : f_iv x) (h : f_nzp w x r) : f_nzp w (f_ti1 x r p k) r := by
  intro q j q1 q2 j1 j2 hn
  have h1 := h q j q1 q2 j1 j2 hn
  have e0 : ∀ g, 0 ≤ g → g < 6 → f_P (f_sP x r p 0 k) r q (1 + g) = f_P x r q (1 + g) := fun g g1 g2 => by
    rw [f_P_sP ⟨hr.1, hr.2, hp.1, hp.2, by decide, by decide⟩ ⟨hr.1, hr.2, q1, q2, by omega, by omega⟩, if_neg (by omega)]
  unfold f_ti1 f_more
  by_cases hq : q = p ∧ j = k
  · have e := f_P_habe (w := f_sP x r p 0 k) (v := min 99 (f_P (f_sP x r p 0 k) r p (1 + k) + 1)) (s := if f_P (f_sP x r p 0 k) r p (1 + k) = 0 then f_sP x r p 0 k 0 else f_P (f_sP x r p 0 k) r p (7 + k)) (r := r) (p := p) (k := k) ⟨hr.1, hr.2, hp.1, hp.2, hk.1, hk.2⟩
    have e1 := e0 k hk.1 hk.2
    rw [hq.1] at e1
    rw [hq.1, hq.2, e.1, e1]
    have := f_rg_h hx hr (p := p) (k := k) hp hk
    omega
  · rw [(f_P_habn ⟨hr.1, hr.2, hp.1, hp.2, hk.1, hk.2⟩ ⟨q1, q2⟩ ⟨j1, j2⟩ hq).1, e0 j j1 j2]
    exact h1
theorem f_sm_ti1 {x : Int → Int} {r p k : Int} (hr : 0 ≤ r ∧ r < 8) (hp : 0 ≤ p ∧ p < 24) (hk : 0 ≤ k ∧ k < 6) : f_sm x (f_ti1 x r p k) := f_sm_trans (f_sm_sP ⟨hr.1, hr.2, hp.1, hp.2, by decide, by decide⟩) (f_sm_hab ⟨hr.1, hr.2, hp.1, hp.2, hk.1, hk.2⟩)
theorem f_iv_ti1 {x : Int → Int} {r p k : Int} (hr : 0 ≤ r ∧ r < 8) (hp : 0 ≤ p ∧ p < 24) (hk : 0 ≤ k ∧ k < 6) (hx : f_iv x) : f_iv (f_ti1 x r p k) := f_iv_more hr hp hk (by decide) (f_iv_tied hr hp (by omega) hx)
theorem f_onl_ti1 {x : Int → Int} {r p k : Int} (hp : 0 ≤ p ∧ p < 24) (hk : 0 ≤ k ∧ k < 6) : f_onl r x (f_ti1 x r p k) := f_onl_tr (f_onl_sP hp (by omega)) (f_onl_more hp hk)
theorem f_hm_sm {M : ax_Mem} {w x : Int → Int} (h : f_sm w x) (hm : f_hm M w) : f_hm M x := by
  refine ⟨hm.1.trans h.2.1.symm, fun k k1 k2 => ?_⟩
  rw [h.1 (2564 + k) (by omega) (by omega), h.1 (2570 + k) (by omega) (by omega)]
  exact hm.2 k k1 k2
theorem f_tAl_pre {Ls : Int → List f_Ln} {w0 : Int → Int} {r f : Int} : ∀ (L : List Int) (s : f_Ta), ∃ T, (L.foldl (f_tAS Ls w0 r f) s).2 = s.2 ++ T
  | [], s => ⟨[], (List.append_nil _).symm⟩
  | p :: tl, s => by
    obtain ⟨T, e⟩ := f_tAl_pre tl (f_tAS Ls w0 r f s p)
    show ∃ T, (tl.foldl (f_tAS Ls w0 r f) (f_tAS Ls w0 r f s p)).2 = s.2 ++ T
    rw [e]
    unfold f_tAS
    split
    · exact ⟨p :: T, by show s.2 ++ [p] ++ T = _; rw [List.append_assoc]; rfl⟩
    · exact ⟨T, rfl⟩
def f_hd1 (Ls : Int → List f_Ln) (w : Int → Int) (r f : Int) : Int := (f_tAl Ls w r f).2.headD (-1)
def f_hd2 (Ls : Int → List f_Ln) (w : Int → Int) (r f : Int) : Int := if (f_tAl Ls w r f).2 = [] then -1 else f_cl w r (f_hd1 Ls w r f)
theorem f_fwd_mp {pl : Int → Int} {g : Int → Int} : ∀ {st : List Int}, f_pil pl (st.map g) → f_fwd pl 0 (st.reverse.map g) := fun {st} h => by
  rw [List.map_reverse]
  exact f_fwd_rev h
set_option maxRecDepth 20000 in
theorem s_X6_tieAll (E : ax_Env) (l : Launch) (d : Nat) (hd : 3 ≤ d) (M : ax_Mem) (a f : Int) (Ls : Int → List f_Ln) (w : Int → Int) (r : Int) (hg0 : f_rp a) (hg1 : f_rm M a w r) (hg2 : f_jv Ls w) (hg3 : 0 ≤ r ∧ r < 8) (hg4 : f_hm M w) (hg5 : f_lrn M 52 Ls) (hg6 : 4 < a ∧ a < 37 ∨ a = 78) : ax_G E l d iX6_tieAll [.inr 75, .inr 1, .inr a, .inl f] M (fun z0 M2 => z0 = none ∧ (∀ x0 i0 : Int, ¬ (x0 = a + 1 ∨ x0 = a + 2 ∨ x0 = a + 3 ∨ x0 = 72 ∨ x0 = 73 ∨ x0 = 76 ∨ x0 = 77 ∨ (x0 = 75 ∧ i0 = 3) ∨ (x0 = 75 ∧ i0 = 4)) → M2 x0 i0 = M x0 i0) ∧ (f_rm M2 a (f_tAl Ls w r f).1 r) ∧ (f_fwd (M2 76) 0 (f_tAl Ls w r f).2) ∧ (f_fwd (M2 77) 0 ((f_tAl Ls w r f).2.map (f_cl w r))) ∧ (M2 75 3 = ((f_tAl Ls w r f).2.length : Int) ∧ ((f_tAl Ls w r f).2.length : Int) ≤ 24) ∧ (f_iv (f_tAl Ls w r f).1 ∧ f_sm w (f_tAl Ls w r f).1 ∧ f_onl r w (f_tAl Ls w r f).1)) := by
  obtain ⟨d, rfl⟩ : ∃ d0, d = d0 + 1 := ⟨d - 1, by omega⟩
  refine ax_start rfl (Nat.le_of_ble_eq_true rfl) (ls := [some (.inr 75), some (.inr 1), some (.inr a), some (.inl f), none, none, none]) rfl (fun hav hcm => ?_)
  have hc3 : -2147483648 ≤ f ∧ f < 2147483648 := hav (.inl f) (by simp)
  clear hav
  have ql : M a 1 = f_R w r 1 := hg1.1
  have qlr := (hg2.1.1 r hg3.1 hg3.2).2
  have qp := hg1.2.2.2.2
  have qw4 : M a 4 = f_R w r 4 := hg1.2.2.2.1
  have qa2 := f_lrow_ok (w := w) (r := r) qlr.1
  refine ax_aload_n dX6_tieAll_0 rfl rfl (pc' := 1) rfl ?_
  refine ax_aload_n dX6_tieAll_1 rfl rfl (pc' := 2) rfl ?_
  refine ax_invG [.inr a] [] dX6_tieAll_2 mlX6_41 sh_75 rfl rfl rfl (Nat.le_of_ble_eq_true rfl) (s_X6_lineUp E l _ (by omega) _ a w r hg0 hg1 hg2.1 hg3 hg6) (pc' := 5) rfl (fun vv M_2 hq co2 hcm2 => ?_)
  obtain ⟨rfl, frM_2, fa2_0, fa2_1, fa2_2, fa2_3⟩ := hq
  refine ax_reS (st2 := []) rfl ?_
  
  refine ax_aload_n dX6_tieAll_5 rfl rfl (pc' := 6) rfl ?_
  refine ax_iconst dX6_tieAll_6 (by decide) (pc' := 7) rfl ?_
  refine ax_puti dX6_tieAll_7 flX6_45 (Or.inl rfl) sh_75 rfl (pc' := 10) rfl ?_
  have qrm0 : f_rm (ax_up M_2 75 3 0) a w r := f_rm_fr (M := M) (fun x0 i0 hx => (ax_up_miss (by omega) ((frM_2 x0 i0 (by omega)).trans rfl))) hg1
  refine ax_iconst dX6_tieAll_10 (by decide) (pc' := 11) rfl ?_
  refine ax_istore dX6_tieAll_11 (by decide) (ls' := [some (.inr 75), some (.inr 1), some (.inr a), some (.inl f), some (.inl 0), none, none]) rfl (pc' := 13) rfl ?_
  have LP1 : ∀ (kq2 : Nat) (i : Int) (pv kv : Int → Int) (ts : Int) (rem : List Int) (x : Int → Int) (T : List Int) (M1 : ax_Mem) (hm1 : (rem.length : Int) < (kq2 : Nat)) (fr1 : ∀ x0 i0 : Int, ¬ (x0 = 76 ∨ x0 = 77 ∨ (x0 = 75 ∧ i0 = 3) ∨ x0 = a + 1 ∨ x0 = a + 2 ∨ x0 = a + 3 ∨ x0 = 72 ∨ x0 = 73) → M1 x0 i0 = (ax_up M_2 75 3 0) x0 i0) (mr1_76 : M1 76 = pv) (mr1_77 : M1 77 = kv) (ms1_75_3 : M1 75 3 = ts) (iv1_0 : (0 ≤ i ∧ i + (rem.length : Int) = ((f_lrow w r).length : Int)) ∧ ts = (T.length : Int) ∧ ts ≤ i) (iv1_1 : f_fwd pv i rem) (iv1_2 : f_fwd kv i (rem.map (f_cl w r))) (iv1_3 : f_fwd pv 0 T) (iv1_4 : f_fwd kv 0 (T.map (f_cl w r))) (iv1_5 : f_rm M1 a x r) (iv1_6 : f_iv x ∧ f_sm w x ∧ f_onl r w x) (iv1_7 : rem.foldl (f_tAS Ls w r f) (x, T) = f_tAl Ls w r f) (iv1_8 : ∀ q ∈ rem, 0 ≤ q ∧ q < f_R w r 1 ∧ f_cl w r q ≠ -1) (iv1_9 : f_nzp w x r), ax_W E l (d + 1) 0 0 iX6_tieAll 13 [some (.inr 75), some (.inr 1), some (.inr a), some (.inl f), some (.inl i), none, none] [] SH M1 (ax_P (fun z0 M2 => z0 = none ∧ (∀ x0 i0 : Int, ¬ (x0 = a + 1 ∨ x0 = a + 2 ∨ x0 = a + 3 ∨ x0 = 72 ∨ x0 = 73 ∨ x0 = 76 ∨ x0 = 77 ∨ (x0 = 75 ∧ i0 = 3) ∨ (x0 = 75 ∧ i0 = 4)) → M2 x0 i0 = M x0 i0) ∧ (f_rm M2 a (f_tAl Ls w r f).1 r) ∧ (f_fwd (M2 76) 0 (f_tAl Ls w r f).2) ∧ (f_fwd (M2 77) 0 ((f_tAl Ls w r f).2.map (f_cl w r))) ∧ (M2 75 3 = ((f_tAl Ls w r f).2.length : Int) ∧ ((f_tAl Ls w r f).2.length : Int) ≤ 24) ∧ (f_iv (f_tAl Ls w r f).1 ∧ f_sm w (f_tAl Ls w r f).1 ∧ f_onl r w (f_tAl Ls w r f).1))) := by
    intro kq2
    induction kq2 with
    | zero =>
      intro i pv kv ts rem x T M1 hm1 fr1 mr1_76 mr1_77 ms1_75_3 iv1_0 iv1_1 iv1_2 iv1_3 iv1_4 iv1_5 iv1_6 iv1_7 iv1_8 iv1_9
      exfalso
      omega
    | succ kq2 ih3 =>
      intro i pv kv ts rem x T M1 hm1 fr1 mr1_76 mr1_77 ms1_75_3 iv1_0 iv1_1 iv1_2 iv1_3 iv1_4 iv1_5 iv1_6 iv1_7 iv1_8 iv1_9
      
      refine ax_iload dX6_tieAll_13 rfl (pc' := 15) rfl ?_
      refine ax_aload_n dX6_tieAll_15 rfl rfl (pc' := 16) rfl ?_
      refine ax_geti (v := M_2 75 4) dX6_tieAll_16 flX6_22 rfl sh_75 (show M1 75 4 = M_2 75 4 from ((fr1 75 4 (by omega)).trans (ax_up_miss (by decide) rfl))) rfl (pc' := 19) rfl ?_
      refine ax_icmp_ge (tgt := 108) dX6_tieAll_19 (by decide) (pc' := 22) rfl (fun h19 => ?_) (fun h19 => ?_)
      · have qe : rem = [] := by
          cases rem with
          | nil => rfl
          | cons x0 y0 => simp only [List.length_cons] at *; omega
        have qz : (x, T) = f_tAl Ls w r f := by
          rw [← iv1_7, qe]
          rfl
        refine ax_vret dX6_tieAll_108 rfl ?_
        refine ⟨rfl, rfl, ?_, ?_, ?_, ?_, ?_, ?_⟩
        · intro x0 i0 hai
          exact ((fr1 x0 i0 (fun h => h.elim (fun h => hai (Or.inr (Or.inr (Or.inr (Or.inr (Or.inr (Or.inl h))))))) (fun h => h.elim (fun h => hai (Or.inr (Or.inr (Or.inr (Or.inr (Or.inr (Or.inr (Or.inl h)))))))) (fun h => h.elim (fun h => hai (Or.inr (Or.inr (Or.inr (Or.inr (Or.inr (Or.inr (Or.inr (Or.inl h))))))))) (fun h => h.elim (fun h => hai (Or.inl h)) (fun h => h.elim (fun h => hai (Or.inr (Or.inl h))) (fun h => h.elim (fun h => hai (Or.inr (Or.inr (Or.inl h)))) (fun h => h.elim (fun h => hai (Or.inr (Or.inr (Or.inr (Or.inl h))))) (fun h => hai (Or.inr (Or.inr (Or.inr (Or.inr (Or.inl h)))))))))))))).trans (ax_up_miss (fun h => hai (Or.inr (Or.inr (Or.inr (Or.inr (Or.inr (Or.inr (Or.inr (Or.inl h))))))))) ((frM_2 x0 i0 (fun h => h.elim (fun h => hai (Or.inr (Or.inr (Or.inr (Or.inr (Or.inr (Or.inl h))))))) (fun h => h.elim (fun h => hai (Or.inr (Or.inr (Or.inr (Or.inr (Or.inr (Or.inr (Or.inl h)))))))) (fun h => hai (Or.inr (Or.inr (Or.inr (Or.inr (Or.inr (Or.inr (Or.inr (Or.inr h)))))))))))).trans rfl)))
        · rw [← qz]
          exact iv1_5
        · rw [← qz, show M1 76 = pv from mr1_76]
          exact iv1_3
        · rw [← qz, show M1 77 = kv from mr1_77]
          exact iv1_4
        · rw [← qz, show M1 75 3 = ts from ms1_75_3]
          exact ⟨iv1_0.2.1, by show (T.length : Int) ≤ 24; omega⟩
        · rw [← qz]
          exact iv1_6
      · obtain ⟨q7, rem2, qd⟩ : ∃ x0 y0, rem = x0 :: y0 := by
          cases rem with
          | nil => simp only [List.length_nil] at *; omega
          | cons x0 y0 => exact ⟨x0, y0, rfl⟩
        have qdl : rem.length = rem2.length + 1 := by rw [qd]; rfl
        have qf1 : f_fwd pv i (q7 :: rem2) := qd ▸ iv1_1
        have qf2 : f_fwd kv i (f_cl w r q7 :: rem2.map (f_cl w r)) := by
          have q := iv1_2
          rw [qd] at q
          exact q
        have qm := iv1_8 q7 (qd ▸ List.mem_cons_self)
        have qnz := f_cl_nz qm.2.2
        have qjx := f_jv_sm iv1_6.1 iv1_6.2.1 hg2
        have qlx : f_R x r 1 = f_R w r 1 := iv1_6.2.1.2.2.2.2 r 1 ⟨hg3.1, hg3.2, by decide, by decide⟩
        refine ax_aload_n dX6_tieAll_22 rfl rfl (pc' := 23) rfl ?_
        refine ax_getr (v := 76) dX6_tieAll_23 flX6_9 rfl sh_75 rfl (pc' := 26) rfl ?_
        refine ax_iload dX6_tieAll_26 rfl (pc' := 28) rfl ?_
        refine ax_iald (v := pv i) dX6_tieAll_28 sh_76 rfl (by omega) (by omega) ((congrFun mr1_76 i).trans rfl) (pc' := 29) rfl ?_
        refine ax_reS (st2 := [.inl q7]) (congrArg (fun z => Sum.inl z :: _) (by exact qf1.1)) ?_
        refine ax_istore dX6_tieAll_29 (by decide) (ls' := [some (.inr 75), some (.inr 1), some (.inr a), some (.inl f), some (.inl i), some (.inl q7), none]) rfl (pc' := 31) rfl ?_
        refine ax_aload_n dX6_tieAll_31 rfl rfl (pc' := 32) rfl ?_
        refine ax_getr (v := 77) dX6_tieAll_32 flX6_15 rfl sh_75 rfl (pc' := 35) rfl ?_
        refine ax_iload dX6_tieAll_35 rfl (pc' := 37) rfl ?_
        refine ax_iald (v := kv i) dX6_tieAll_37 sh_77 rfl (by omega) (by omega) ((congrFun mr1_77 i).trans rfl) (pc' := 38) rfl ?_
        refine ax_reS (st2 := [.inl (f_cl w r q7)]) (congrArg (fun z => Sum.inl z :: _) (by exact qf2.1)) ?_
        refine ax_istore dX6_tieAll_38 (by decide) (ls' := [some (.inr 75), some (.inr 1), some (.inr a), some (.inl f), some (.inl i), some (.inl q7), some (.inl (f_cl w r q7))]) rfl (pc' := 40) rfl ?_
        refine ax_aload_n dX6_tieAll_40 rfl rfl (pc' := 41) rfl ?_
        refine ax_getr (v := 71) dX6_tieAll_41 flX6_18 rfl sh_75 rfl (pc' := 44) rfl ?_
        refine ax_aload_n dX6_tieAll_44 rfl rfl (pc' := 45) rfl ?_
        refine ax_aload_n dX6_tieAll_45 rfl rfl (pc' := 46) rfl ?_
        refine ax_iload dX6_tieAll_46 rfl (pc' := 48) rfl ?_
        refine ax_iload dX6_tieAll_48 rfl (pc' := 50) rfl ?_
        refine ax_invG [.inr 1, .inr a, .inl q7, .inl (f_cl w r q7)] [] dX6_tieAll_50 mlX6_48 sh_71 rfl rfl rfl (Nat.le_of_ble_eq_true rfl) (s_X2_needOf E l _ (by omega) _ a q7 (f_cl w r q7) Ls x r hg0 iv1_5 qjx hg3 (f_hm_sm iv1_6.2.1 (f_hm_fr (M := M) (fun x0 i0 hx => ((fr1 x0 i0 (by omega)).trans (ax_up_miss (by omega) ((frM_2 x0 i0 (by omega)).trans rfl)))) hg4)) (f_lrn_fr (M := M) (fun x0 i0 hx => ((fr1 x0 i0 (by omega)).trans (ax_up_miss (by omega) ((frM_2 x0 i0 (by omega)).trans rfl)))) hg5) hg6 ⟨qm.1, by omega⟩ qnz.1 (iv1_9 q7 _ qm.1 (by omega) qnz.1.1 qnz.1.2 qnz.2.1)) (pc' := 53) rfl (fun vv M_50 hq co50 hcm50 => ?_)
        obtain ⟨rfl, frM_50⟩ := hq
        refine ax_reS (st2 := [.inl (f_need Ls x r q7 (f_cl w r q7))]) rfl ?_
        have cc50 : -2147483648 ≤ f_need Ls x r q7 (f_cl w r q7) ∧ f_need Ls x r q7 (f_cl w r q7) < 2147483648 := co50 _ rfl
        refine ax_iload_n dX6_tieAll_53 rfl rfl (pc' := 54) rfl ?_
        refine ax_icmp_gt (tgt := 102) dX6_tieAll_54 (by decide) (pc' := 57) rfl (fun h54 => ?_) (fun h54 => ?_)
        · obtain ⟨x3, qx3⟩ : ∃ z, z = x := ⟨_, rfl⟩
          obtain ⟨T3, qT3⟩ : ∃ z, z = T := ⟨_, rfl⟩
          have qb1 := qf1.2
          have qb2 := qf2.2
          have qts : ts = (T3.length : Int) := by rw [qT3]; exact iv1_0.2.1
          have qb3 : f_fwd pv 0 T3 := by rw [qT3]; exact iv1_3
          have qb4 : f_fwd kv 0 (T3.map (f_cl w r)) := by rw [qT3]; exact iv1_4
          have qb6 : f_iv x3 ∧ f_sm w x3 ∧ f_onl r w x3 := by rw [qx3]; exact iv1_6
          have qb9 : f_nzp w x3 r := by rw [qx3]; exact iv1_9
          have qb7 : rem2.foldl (f_tAS Ls w r f) (x3, T3) = f_tAl Ls w r f := by
            rw [← iv1_7, qd, qx3, qT3]
            show _ = rem2.foldl (f_tAS Ls w r f) (f_tAS Ls w r f (x, T) q7)
            rw [show f_tAS Ls w r f (x, T) q7 = (x, T) from if_neg (by show ¬ f_need Ls x r q7 (f_cl w r q7) ≤ f; omega)]
          have qb5 : f_rm M_50 a x3 r := by
            rw [qx3]
            exact f_rm_fr (fun x0 i0 hx => frM_50 x0 i0 (by omega)) iv1_5
          refine ax_iinc dX6_tieAll_102 rfl (by decide) (by omega) (ls' := [some (.inr 75), some (.inr 1), some (.inr a), some (.inl f), some (.inl (i + 1)), some (.inl q7), some (.inl (f_cl w r q7))]) rfl (pc' := 105) rfl ?_
          refine ax_goto dX6_tieAll_105 (pc' := 13) (by decide) ?_
          refine ax_less (ls2 := [some (.inr 75), some (.inr 1), some (.inr a), some (.inl f), some (.inl (i + 1)), none, none]) [true, true, true, true, true, false, false] rfl ?_
          refine ih3 (i + 1) pv kv ts rem2 x3 T3 M_50 ?_ ?_ ?_ ?_ ?_ ?_ ?_ ?_ ?_ ?_ ?_ ?_ ?_ ?_ ?_
          · omega
          · intro x0 i0 hai
            exact ((frM_50 x0 i0 (fun h => h.elim (fun h => hai (Or.inr (Or.inr (Or.inr (Or.inr (Or.inr (Or.inr (Or.inl h)))))))) (fun h => hai (Or.inr (Or.inr (Or.inr (Or.inr (Or.inr (Or.inr (Or.inr h)))))))))).trans ((fr1 x0 i0 (fun h => h.elim (fun h => hai (Or.inl h)) (fun h => h.elim (fun h => hai (Or.inr (Or.inl h))) (fun h => h.elim (fun h => hai (Or.inr (Or.inr (Or.inl h)))) (fun h => h.elim (fun h => hai (Or.inr (Or.inr (Or.inr (Or.inl h))))) (fun h => h.elim (fun h => hai (Or.inr (Or.inr (Or.inr (Or.inr (Or.inl h)))))) (fun h => h.elim (fun h => hai (Or.inr (Or.inr (Or.inr (Or.inr (Or.inr (Or.inl h))))))) (fun h => h.elim (fun h => hai (Or.inr (Or.inr (Or.inr (Or.inr (Or.inr (Or.inr (Or.inl h)))))))) (fun h => hai (Or.inr (Or.inr (Or.inr (Or.inr (Or.inr (Or.inr (Or.inr h)))))))))))))))).trans rfl))
          · exact ((funext fun i0 => frM_50 76 i0 (fun h => h.elim (fun h => absurd h (by decide)) (fun h => absurd h (by decide)))).trans mr1_76)
          · exact ((funext fun i0 => frM_50 77 i0 (fun h => h.elim (fun h => absurd h (by decide)) (fun h => absurd h (by decide)))).trans mr1_77)
          · exact ((frM_50 75 3 (fun h => h.elim (fun h => absurd h (by decide)) (fun h => absurd h (by decide)))).trans ms1_75_3)
          · omega
          · exact qb1
          · exact qb2
          · exact qb3
          · exact qb4
          · exact qb5
          · exact qb6
          · exact qb7
          · exact fun q hq => iv1_8 q (qd ▸ List.mem_cons_of_mem _ hq)
          · exact qb9
        · obtain ⟨x3, qx3⟩ : ∃ z, z = f_ti1 x r q7 (f_cl w r q7) := ⟨_, rfl⟩
          obtain ⟨T3, qT3⟩ : ∃ z, z = T ++ [q7] := ⟨_, rfl⟩
          have qts : ts + 1 = (T3.length : Int) := by
            rw [qT3, List.length_append, List.length_singleton]
            omega
          have qb1 : f_fwd (f_up pv ts q7) (i + 1) rem2 := f_fwd_lt (by omega) qf1.2
          have qb2 : f_fwd (f_up kv ts (f_cl w r q7)) (i + 1) (rem2.map (f_cl w r)) := f_fwd_lt (by omega) qf2.2
          have qb3 : f_fwd (f_up pv ts q7) 0 T3 := by
            rw [qT3]
            exact f_fwd_snoc (by omega) iv1_3
          have qb4 : f_fwd (f_up kv ts (f_cl w r q7)) 0 (T3.map (f_cl w r)) := by
            rw [qT3, List.map_append]
            exact f_fwd_snoc (by rw [List.length_map]; omega) iv1_4
          have qb6 : f_iv x3 ∧ f_sm w x3 ∧ f_onl r w x3 := by
            rw [qx3]
            exact ⟨f_iv_ti1 hg3 ⟨qm.1, by omega⟩ qnz.1 iv1_6.1, f_sm_trans iv1_6.2.1 (f_sm_ti1 hg3 ⟨qm.1, by omega⟩ qnz.1), f_onl_tr iv1_6.2.2 (f_onl_ti1 ⟨qm.1, by omega⟩ qnz.1)⟩
          have qb9 : f_nzp w x3 r := by
            rw [qx3]
            exact f_nzp_ti1 hg3 ⟨qm.1, by omega⟩ qnz.1 iv1_6.1 iv1_9
          have qb7 : rem2.foldl (f_tAS Ls w r f) (x3, T3) = f_tAl Ls w r f := by
            rw [← iv1_7, qd, qx3, qT3]
            show _ = rem2.foldl (f_tAS Ls w r f) (f_tAS Ls w r f (x, T) q7)
            rw [show f_tAS Ls w r f (x, T) q7 = (f_ti1 x r q7 (f_cl w r q7), T ++ [q7]) from if_pos (by show f_need Ls x r q7 (f_cl w r q7) ≤ f; omega)]
          have qrx : f_rm M_50 a x r := f_rm_fr (fun x0 i0 hx => frM_50 x0 i0 (by omega)) iv1_5
          refine ax_aload_n dX6_tieAll_57 rfl rfl (pc' := 58) rfl ?_
          refine ax_iload dX6_tieAll_58 rfl (pc' := 60) rfl ?_
          refine ax_iload dX6_tieAll_60 rfl (pc' := 62) rfl ?_
          refine ax_iconst dX6_tieAll_62 (by decide) (pc' := 63) rfl ?_
          refine ax_aload_n dX6_tieAll_63 rfl rfl (pc' := 64) rfl ?_
          refine ax_geti (v := M 1 0) dX6_tieAll_64 flX6_54 rfl sh_1 (show M_50 1 0 = M 1 0 from ((frM_50 1 0 (fun h => h.elim (fun h => absurd h (by decide)) (fun h => absurd h (by decide)))).trans ((fr1 1 0 (by omega)).trans (ax_up_miss (fun h => absurd h.1 (by decide)) ((frM_2 1 0 (fun h => h.elim (fun h => absurd h (by decide)) (fun h => h.elim (fun h => absurd h (by decide)) (fun h => absurd h.1 (by decide))))).trans rfl))))) rfl (pc' := 67) rfl ?_
          refine ax_invG [.inl q7, .inl (f_cl w r q7), .inl 1, .inl (M 1 0)] [] dX6_tieAll_67 mlX6_59 hg0.1 rfl rfl rfl (Nat.le_of_ble_eq_true rfl) (s_X7_tieKnot E l _ (by omega) _ a q7 (f_cl w r q7) 1 (M 1 0) x r hg0 qrx iv1_6.1 hg3 ⟨qm.1, by omega⟩ qnz.1 (by decide) (by rw [iv1_6.2.1.2.1]; exact hg4.1)) (pc' := 70) rfl (fun vv M_67 hq co67 hcm67 => ?_)
          obtain ⟨rfl, frM_67, fa67_0⟩ := hq
          refine ax_reS (st2 := []) rfl ?_
          refine ax_aload_n dX6_tieAll_70 rfl rfl (pc' := 71) rfl ?_
          refine ax_getr (v := 76) dX6_tieAll_71 flX6_9 rfl sh_75 rfl (pc' := 74) rfl ?_
          refine ax_aload_n dX6_tieAll_74 rfl rfl (pc' := 75) rfl ?_
          refine ax_geti (v := ts) dX6_tieAll_75 flX6_45 rfl sh_75 ((frM_67 75 3 (by omega)).trans ((frM_50 75 3 (fun h => h.elim (fun h => absurd h (by decide)) (fun h => absurd h (by decide)))).trans ms1_75_3)) rfl (pc' := 78) rfl ?_
          refine ax_iload dX6_tieAll_78 rfl (pc' := 80) rfl ?_
          refine ax_iast dX6_tieAll_80 sh_76 rfl (by omega) (by omega) (pc' := 81) rfl ?_
          refine ax_aload_n dX6_tieAll_81 rfl rfl (pc' := 82) rfl ?_
          refine ax_getr (v := 77) dX6_tieAll_82 flX6_15 rfl sh_75 rfl (pc' := 85) rfl ?_
          refine ax_aload_n dX6_tieAll_85 rfl rfl (pc' := 86) rfl ?_
          refine ax_geti (v := ts) dX6_tieAll_86 flX6_45 rfl sh_75 (show (ax_up M_67 76 ts q7) 75 3 = ts from (ax_up_miss (fun h => absurd h.1 (by decide)) ((frM_67 75 3 (by omega)).trans ((frM_50 75 3 (fun h => h.elim (fun h => absurd h (by decide)) (fun h => absurd h (by decide)))).trans ms1_75_3)))) rfl (pc' := 89) rfl ?_
          refine ax_iload dX6_tieAll_89 rfl (pc' := 91) rfl ?_
          refine ax_iast dX6_tieAll_91 sh_77 rfl (by omega) (by omega) (pc' := 92) rfl ?_
          refine ax_aload_n dX6_tieAll_92 rfl rfl (pc' := 93) rfl ?_
          refine ax_dup dX6_tieAll_93 (pc' := 94) rfl ?_
          refine ax_geti (v := ts) dX6_tieAll_94 flX6_45 rfl sh_75 (show (ax_up (ax_up M_67 76 ts q7) 77 ts (f_cl w r q7)) 75 3 = ts from (ax_up_miss (fun h => absurd h.1 (by decide)) (ax_up_miss (fun h => absurd h.1 (by decide)) ((frM_67 75 3 (by omega)).trans ((frM_50 75 3 (fun h => h.elim (fun h => absurd h (by decide)) (fun h => absurd h (by decide)))).trans ms1_75_3))))) rfl (pc' := 97) rfl ?_
          refine ax_iconst dX6_tieAll_97 (by decide) (pc' := 98) rfl ?_
          refine ax_iadd dX6_tieAll_98 (by omega) (pc' := 99) rfl ?_
          refine ax_puti dX6_tieAll_99 flX6_45 (Or.inl rfl) sh_75 rfl (pc' := 102) rfl ?_
          have qb5 : f_rm (ax_up (ax_up (ax_up M_67 76 ts q7) 77 ts (f_cl w r q7)) 75 3 (ts + 1)) a x3 r := by
            rw [qx3]
            exact f_rm_fr (M := M_67) (fun x0 i0 hx => (ax_up_miss (by omega) (ax_up_miss (by omega) (ax_up_miss (by omega) rfl)))) fa67_0
          refine ax_iinc dX6_tieAll_102 rfl (by decide) (by omega) (ls' := [some (.inr 75), some (.inr 1), some (.inr a), some (.inl f), some (.inl (i + 1)), some (.inl q7), some (.inl (f_cl w r q7))]) rfl (pc' := 105) rfl ?_
          refine ax_goto dX6_tieAll_105 (pc' := 13) (by decide) ?_
          refine ax_less (ls2 := [some (.inr 75), some (.inr 1), some (.inr a), some (.inl f), some (.inl (i + 1)), none, none]) [true, true, true, true, true, false, false] rfl ?_
          refine ih3 (i + 1) (f_up pv ts q7) (f_up kv ts (f_cl w r q7)) (ts + 1) rem2 x3 T3 (ax_up (ax_up (ax_up M_67 76 ts q7) 77 ts (f_cl w r q7)) 75 3 (ts + 1)) ?_ ?_ ?_ ?_ ?_ ?_ ?_ ?_ ?_ ?_ ?_ ?_ ?_ ?_ ?_
          · omega
          · intro x0 i0 hai
            exact (ax_up_miss (fun h => hai (Or.inr (Or.inr (Or.inl h)))) (ax_up_miss (fun h => hai (Or.inr (Or.inl h.1))) (ax_up_miss (fun h => hai (Or.inl h.1)) ((frM_67 x0 i0 (fun h => h.elim (fun h => hai (Or.inr (Or.inr (Or.inr (Or.inl h))))) (fun h => h.elim (fun h => hai (Or.inr (Or.inr (Or.inr (Or.inr (Or.inl h)))))) (fun h => hai (Or.inr (Or.inr (Or.inr (Or.inr (Or.inr (Or.inl h)))))))))).trans ((frM_50 x0 i0 (fun h => h.elim (fun h => hai (Or.inr (Or.inr (Or.inr (Or.inr (Or.inr (Or.inr (Or.inl h)))))))) (fun h => hai (Or.inr (Or.inr (Or.inr (Or.inr (Or.inr (Or.inr (Or.inr h)))))))))).trans ((fr1 x0 i0 (fun h => h.elim (fun h => hai (Or.inl h)) (fun h => h.elim (fun h => hai (Or.inr (Or.inl h))) (fun h => h.elim (fun h => hai (Or.inr (Or.inr (Or.inl h)))) (fun h => h.elim (fun h => hai (Or.inr (Or.inr (Or.inr (Or.inl h))))) (fun h => h.elim (fun h => hai (Or.inr (Or.inr (Or.inr (Or.inr (Or.inl h)))))) (fun h => h.elim (fun h => hai (Or.inr (Or.inr (Or.inr (Or.inr (Or.inr (Or.inl h))))))) (fun h => h.elim (fun h => hai (Or.inr (Or.inr (Or.inr (Or.inr (Or.inr (Or.inr (Or.inl h)))))))) (fun h => hai (Or.inr (Or.inr (Or.inr (Or.inr (Or.inr (Or.inr (Or.inr h)))))))))))))))).trans rfl))))))
          · exact (ax_up_rowmiss (by decide) (ax_up_rowmiss (by decide) (ax_up_rowhit ((funext fun i0 => frM_67 76 i0 (by omega)).trans ((funext fun i0 => frM_50 76 i0 (fun h => h.elim (fun h => absurd h (by decide)) (fun h => absurd h (by decide)))).trans mr1_76)))))
          · exact (ax_up_rowmiss (by decide) (ax_up_rowhit (ax_up_rowmiss (by decide) ((funext fun i0 => frM_67 77 i0 (by omega)).trans ((funext fun i0 => frM_50 77 i0 (fun h => h.elim (fun h => absurd h (by decide)) (fun h => absurd h (by decide)))).trans mr1_77)))))
          · exact (ax_up_hit _ _ _ _)
          · omega
          · exact qb1
          · exact qb2
          · exact qb3
          · exact qb4
          · exact qb5
          · exact qb6
          · exact qb7
          · exact fun q hq => iv1_8 q (qd ▸ List.mem_cons_of_mem _ hq)
          · exact qb9
  refine LP1 ((((f_lrow w r).reverse).length : Int) : Int).toNat.succ 0 (M_2 76) (M_2 77) 0 ((f_lrow w r).reverse) w ([]) (ax_up M_2 75 3 0) ?_ ?_ ?_ ?_ ?_ ?_ ?_ ?_ ?_ ?_ ?_ ?_ ?_ ?_ ?_
  · omega
  · exact fun a i _ => rfl
  · exact (ax_up_rowmiss (by decide) rfl)
  · exact (ax_up_rowmiss (by decide) rfl)
  · exact (ax_up_hit _ _ _ _)
  · rw [List.length_reverse]
    exact ⟨⟨by decide, by omega⟩, rfl, by decide⟩
  · exact f_fwd_rev fa2_0
  · exact f_fwd_mp fa2_1
  · trivial
  · trivial
  · exact qrm0
  · exact ⟨hg2.1, f_sm_refl, f_onl_refl⟩
  · rfl
  · exact fun q hq => qa2 q (List.mem_reverse.mp hq)
  · exact fun q k q1 q2 k1 k2 h => h
set_option maxRecDepth 20000 in
theorem s_X6_tiesFirst (E : ax_Env) (l : Launch) (d : Nat) (hd : 3 ≤ d) (M : ax_Mem) (a f p k : Int) (Ls : Int → List f_Ln) (w : Int → Int) (r : Int) (hg0 : f_rp a) (hg1 : f_rm M a w r) (hg2 : f_jv Ls w) (hg3 : 0 ≤ r ∧ r < 8) (hg4 : f_hm M w) (hg5 : f_lrn M 52 Ls) (hg6 : 4 < a ∧ a < 37 ∨ a = 78) (hg7 : 0 ≤ p) : ax_G E l d iX6_tiesFirst [.inr 75, .inr 1, .inr a, .inl f, .inl p, .inl k] M (fun z0 M2 => z0 = some (.inl (f_b (f_hd1 Ls w r f = p ∧ f_hd2 Ls w r f = k))) ∧ (∀ x0 i0 : Int, ¬ (x0 = 72 ∨ x0 = 73 ∨ x0 = 76 ∨ x0 = 77 ∨ (x0 = 75 ∧ i0 = 4)) → M2 x0 i0 = M x0 i0)) := by
  obtain ⟨d, rfl⟩ : ∃ d0, d = d0 + 1 := ⟨d - 1, by omega⟩
  refine ax_start rfl (Nat.le_of_ble_eq_true rfl) (ls := [some (.inr 75), some (.inr 1), some (.inr a), some (.inl f), some (.inl p), some (.inl k), none]) rfl (fun hav hcm => ?_)
  have hc3 : -2147483648 ≤ f ∧ f < 2147483648 := hav (.inl f) (by simp)
  have hc4 : -2147483648 ≤ p ∧ p < 2147483648 := hav (.inl p) (by simp)
  have hc5 : -2147483648 ≤ k ∧ k < 2147483648 := hav (.inl k) (by simp)
  clear hav
  have ql : M a 1 = f_R w r 1 := hg1.1
  have qlr := (hg2.1.1 r hg3.1 hg3.2).2
  have qp := hg1.2.2.2.2
  have qw4 : M a 4 = f_R w r 4 := hg1.2.2.2.1
  have qa2 := f_lrow_ok (w := w) (r := r) qlr.1
  refine ax_aload_n dX6_tiesFirst_0 rfl rfl (pc' := 1) rfl ?_
  refine ax_aload_n dX6_tiesFirst_1 rfl rfl (pc' := 2) rfl ?_
  refine ax_invG [.inr a] [] dX6_tiesFirst_2 mlX6_41 sh_75 rfl rfl rfl (Nat.le_of_ble_eq_true rfl) (s_X6_lineUp E l _ (by omega) _ a w r hg0 hg1 hg2.1 hg3 hg6) (pc' := 5) rfl (fun vv M_2 hq co2 hcm2 => ?_)
  obtain ⟨rfl, frM_2, fa2_0, fa2_1, fa2_2, fa2_3⟩ := hq
  refine ax_reS (st2 := []) rfl ?_
  refine ax_iconst dX6_tiesFirst_5 (by decide) (pc' := 6) rfl ?_
  refine ax_istore dX6_tiesFirst_6 (by decide) (ls' := [some (.inr 75), some (.inr 1), some (.inr a), some (.inl f), some (.inl p), some (.inl k), some (.inl 0)]) rfl (pc' := 8) rfl ?_
  have LP1 : ∀ (kq2 : Nat) (i : Int) (rem : List Int) (M1 : ax_Mem) (hm1 : (rem.length : Int) < (kq2 : Nat)) (fr1 : ∀ x0 i0 : Int, ¬ (x0 = 72 ∨ x0 = 73) → M1 x0 i0 = M_2 x0 i0) (iv1_0 : 0 ≤ i ∧ i + (rem.length : Int) = ((f_lrow w r).length : Int)) (iv1_1 : f_fwd (M_2 76) i rem) (iv1_2 : f_fwd (M_2 77) i (rem.map (f_cl w r))) (iv1_3 : rem.foldl (f_tAS Ls w r f) (w, []) = f_tAl Ls w r f) (iv1_4 : ∀ q ∈ rem, 0 ≤ q ∧ q < f_R w r 1 ∧ f_cl w r q ≠ -1), ax_W E l (d + 1) 0 0 iX6_tiesFirst 8 [some (.inr 75), some (.inr 1), some (.inr a), some (.inl f), some (.inl p), some (.inl k), some (.inl i)] [] SH M1 (ax_P (fun z0 M2 => z0 = some (.inl (f_b (f_hd1 Ls w r f = p ∧ f_hd2 Ls w r f = k))) ∧ (∀ x0 i0 : Int, ¬ (x0 = 72 ∨ x0 = 73 ∨ x0 = 76 ∨ x0 = 77 ∨ (x0 = 75 ∧ i0 = 4)) → M2 x0 i0 = M x0 i0))) := by
    intro kq2
    induction kq2 with
    | zero =>
      intro i rem M1 hm1 fr1 iv1_0 iv1_1 iv1_2 iv1_3 iv1_4
      exfalso
      omega
    | succ kq2 ih3 =>
      intro i rem M1 hm1 fr1 iv1_0 iv1_1 iv1_2 iv1_3 iv1_4
      refine ax_iload dX6_tiesFirst_8 rfl (pc' := 10) rfl ?_
      refine ax_aload_n dX6_tiesFirst_10 rfl rfl (pc' := 11) rfl ?_
      refine ax_geti (v := M_2 75 4) dX6_tiesFirst_11 flX6_22 rfl sh_75 ((fr1 75 4 (fun h => h.elim (fun h => absurd h (by decide)) (fun h => absurd h (by decide)))).trans rfl) rfl (pc' := 14) rfl ?_
      refine ax_icmp_ge (tgt := 80) dX6_tiesFirst_14 (by decide) (pc' := 17) rfl (fun h14 => ?_) (fun h14 => ?_)
      · have qe : rem = [] := by
          cases rem with
          | nil => rfl
          | cons x0 y0 => simp only [List.length_cons] at *; omega
        have qz : f_tAl Ls w r f = (w, []) := by
          rw [← iv1_3, qe]
          rfl
        have qh1 : f_hd1 Ls w r f = -1 := by
          unfold f_hd1
          rw [qz]
          rfl
        refine ax_iconst dX6_tiesFirst_80 (by decide) (pc' := 81) rfl ?_
        refine ax_zret dX6_tiesFirst_81 rfl (by decide) ?_
        refine ⟨rfl, ?_, ?_⟩
        · refine congrArg (fun z => some (Sum.inl z)) ?_
          unfold f_b
          rw [if_neg (by omega)]
        · intro x0 i0 hai
          exact ((fr1 x0 i0 (fun h => h.elim (fun h => hai (Or.inl h)) (fun h => hai (Or.inr (Or.inl h))))).trans ((frM_2 x0 i0 (fun h => h.elim (fun h => hai (Or.inr (Or.inr (Or.inl h)))) (fun h => h.elim (fun h => hai (Or.inr (Or.inr (Or.inr (Or.inl h))))) (fun h => hai (Or.inr (Or.inr (Or.inr (Or.inr h)))))))).trans rfl))
      · obtain ⟨q7, rem2, qd⟩ : ∃ x0 y0, rem = x0 :: y0 := by
          cases rem with
          | nil => simp only [List.length_nil] at *; omega
          | cons x0 y0 => exact ⟨x0, y0, rfl⟩
        have qdl : rem.length = rem2.length + 1 := by rw [qd]; rfl
        have qf1 : f_fwd (M_2 76) i (q7 :: rem2) := qd ▸ iv1_1
        have qf2 : f_fwd (M_2 77) i (f_cl w r q7 :: rem2.map (f_cl w r)) := by
          have q := iv1_2
          rw [qd] at q
          exact q
        have qm := iv1_4 q7 (qd ▸ List.mem_cons_self)
        have qnz := f_cl_nz qm.2.2
        refine ax_aload_n dX6_tiesFirst_17 rfl rfl (pc' := 18) rfl ?_
        refine ax_getr (v := 71) dX6_tiesFirst_18 flX6_18 rfl sh_75 rfl (pc' := 21) rfl ?_
        refine ax_aload_n dX6_tiesFirst_21 rfl rfl (pc' := 22) rfl ?_
        refine ax_aload_n dX6_tiesFirst_22 rfl rfl (pc' := 23) rfl ?_
        refine ax_aload_n dX6_tiesFirst_23 rfl rfl (pc' := 24) rfl ?_
        refine ax_getr (v := 76) dX6_tiesFirst_24 flX6_9 rfl sh_75 rfl (pc' := 27) rfl ?_
        refine ax_iload dX6_tiesFirst_27 rfl (pc' := 29) rfl ?_
        refine ax_iald (v := (M_2 76) i) dX6_tiesFirst_29 sh_76 rfl (by omega) (by omega) ((congrFun ((funext fun i0 => fr1 76 i0 (fun h => h.elim (fun h => absurd h (by decide)) (fun h => absurd h (by decide)))).trans rfl) i).trans rfl) (pc' := 30) rfl ?_
        refine ax_reS (st2 := [.inl q7, .inr a, .inr 1, .inr 71]) (congrArg (fun z => Sum.inl z :: _) (by exact qf1.1)) ?_
        refine ax_aload_n dX6_tiesFirst_30 rfl rfl (pc' := 31) rfl ?_
        refine ax_getr (v := 77) dX6_tiesFirst_31 flX6_15 rfl sh_75 rfl (pc' := 34) rfl ?_
        refine ax_iload dX6_tiesFirst_34 rfl (pc' := 36) rfl ?_
        refine ax_iald (v := (M_2 77) i) dX6_tiesFirst_36 sh_77 rfl (by omega) (by omega) ((congrFun ((funext fun i0 => fr1 77 i0 (fun h => h.elim (fun h => absurd h (by decide)) (fun h => absurd h (by decide)))).trans rfl) i).trans rfl) (pc' := 37) rfl ?_
        refine ax_reS (st2 := [.inl (f_cl w r q7), .inl q7, .inr a, .inr 1, .inr 71]) (congrArg (fun z => Sum.inl z :: _) (by exact qf2.1)) ?_
        refine ax_invG [.inr 1, .inr a, .inl q7, .inl (f_cl w r q7)] [] dX6_tiesFirst_37 mlX6_48 sh_71 rfl rfl rfl (Nat.le_of_ble_eq_true rfl) (s_X2_needOf E l _ (by omega) _ a q7 (f_cl w r q7) Ls w r hg0 (f_rm_fr (M := M) (fun x0 i0 hx => ((fr1 x0 i0 (by omega)).trans ((frM_2 x0 i0 (by omega)).trans rfl))) hg1) hg2 hg3 (f_hm_fr (M := M) (fun x0 i0 hx => ((fr1 x0 i0 (by omega)).trans ((frM_2 x0 i0 (by omega)).trans rfl))) hg4) (f_lrn_fr (M := M) (fun x0 i0 hx => ((fr1 x0 i0 (by omega)).trans ((frM_2 x0 i0 (by omega)).trans rfl))) hg5) hg6 ⟨qm.1, by omega⟩ qnz.1 qnz.2.1) (pc' := 40) rfl (fun vv M_37 hq co37 hcm37 => ?_)
        obtain ⟨rfl, frM_37⟩ := hq
        refine ax_reS (st2 := [.inl (f_need Ls w r q7 (f_cl w r q7))]) rfl ?_
        have cc37 : -2147483648 ≤ f_need Ls w r q7 (f_cl w r q7) ∧ f_need Ls w r q7 (f_cl w r q7) < 2147483648 := co37 _ rfl
        refine ax_iload_n dX6_tiesFirst_40 rfl rfl (pc' := 41) rfl ?_
        refine ax_icmp_gt (tgt := 74) dX6_tiesFirst_41 (by decide) (pc' := 44) rfl (fun h41 => ?_) (fun h41 => ?_)
        · refine ax_iinc dX6_tiesFirst_74 rfl (by decide) (by omega) (ls' := [some (.inr 75), some (.inr 1), some (.inr a), some (.inl f), some (.inl p), some (.inl k), some (.inl (i + 1))]) rfl (pc' := 77) rfl ?_
          refine ax_goto dX6_tiesFirst_77 (pc' := 8) (by decide) ?_
          refine ih3 (i + 1) rem2 M_37 ?_ ?_ ?_ ?_ ?_ ?_ ?_
          · omega
          · intro x0 i0 hai
            exact ((frM_37 x0 i0 (fun h => h.elim (fun h => hai (Or.inl h)) (fun h => hai (Or.inr h)))).trans ((fr1 x0 i0 (fun h => h.elim (fun h => hai (Or.inl h)) (fun h => hai (Or.inr h)))).trans rfl))
          · omega
          · exact qf1.2
          · exact qf2.2
          · rw [← iv1_3, qd]
            show _ = rem2.foldl (f_tAS Ls w r f) (f_tAS Ls w r f (w, []) q7)
            rw [show f_tAS Ls w r f (w, []) q7 = (w, []) from if_neg (by show ¬ f_need Ls w r q7 (f_cl w r q7) ≤ f; omega)]
          · exact fun q hq => iv1_4 q (qd ▸ List.mem_cons_of_mem _ hq)
        · obtain ⟨T9, qT9⟩ := f_tAl_pre (Ls := Ls) (w0 := w) (r := r) (f := f) rem2 (f_ti1 w r q7 (f_cl w r q7), [q7])
          have qz : (f_tAl Ls w r f).2 = q7 :: T9 := by
            rw [← iv1_3, qd]
            show (rem2.foldl (f_tAS Ls w r f) (f_tAS Ls w r f (w, []) q7)).2 = _
            rw [show f_tAS Ls w r f (w, []) q7 = (f_ti1 w r q7 (f_cl w r q7), [q7]) from if_pos (by show f_need Ls w r q7 (f_cl w r q7) ≤ f; omega), qT9]
            rfl
          have qh1 : f_hd1 Ls w r f = q7 := by
            unfold f_hd1
            rw [qz]
            rfl
          have qh2 : f_hd2 Ls w r f = f_cl w r q7 := by
            unfold f_hd2
            rw [qh1, qz, if_neg (by intro q; cases q)]
          refine ax_aload_n dX6_tiesFirst_44 rfl rfl (pc' := 45) rfl ?_
          refine ax_getr (v := 76) dX6_tiesFirst_45 flX6_9 rfl sh_75 rfl (pc' := 48) rfl ?_
          refine ax_iload dX6_tiesFirst_48 rfl (pc' := 50) rfl ?_
          refine ax_iald (v := (M_2 76) i) dX6_tiesFirst_50 sh_76 rfl (by omega) (by omega) ((congrFun ((funext fun i0 => frM_37 76 i0 (fun h => h.elim (fun h => absurd h (by decide)) (fun h => absurd h (by decide)))).trans ((funext fun i0 => fr1 76 i0 (fun h => h.elim (fun h => absurd h (by decide)) (fun h => absurd h (by decide)))).trans rfl)) i).trans rfl) (pc' := 51) rfl ?_
          refine ax_reS (st2 := [.inl q7]) (congrArg (fun z => Sum.inl z :: _) (by exact qf1.1)) ?_
          refine ax_iload dX6_tiesFirst_51 rfl (pc' := 53) rfl ?_
          refine ax_icmp_ne (tgt := 72) dX6_tiesFirst_53 (by decide) (pc' := 56) rfl (fun h53 => ?_) (fun h53 => ?_)
          · refine ax_iconst dX6_tiesFirst_72 (by decide) (pc' := 73) rfl ?_
            refine ax_zret dX6_tiesFirst_73 rfl (by decide) ?_
            refine ⟨rfl, ?_, ?_⟩
            · refine congrArg (fun z => some (Sum.inl z)) ?_
              rw [qh1, qh2]
              unfold f_b
              split <;> first | rfl | (exfalso; omega)
            · intro x0 i0 hai
              exact ((frM_37 x0 i0 (fun h => h.elim (fun h => hai (Or.inl h)) (fun h => hai (Or.inr (Or.inl h))))).trans ((fr1 x0 i0 (fun h => h.elim (fun h => hai (Or.inl h)) (fun h => hai (Or.inr (Or.inl h))))).trans ((frM_2 x0 i0 (fun h => h.elim (fun h => hai (Or.inr (Or.inr (Or.inl h)))) (fun h => h.elim (fun h => hai (Or.inr (Or.inr (Or.inr (Or.inl h))))) (fun h => hai (Or.inr (Or.inr (Or.inr (Or.inr h)))))))).trans rfl)))
          · refine ax_aload_n dX6_tiesFirst_56 rfl rfl (pc' := 57) rfl ?_
            refine ax_getr (v := 77) dX6_tiesFirst_57 flX6_15 rfl sh_75 rfl (pc' := 60) rfl ?_
            refine ax_iload dX6_tiesFirst_60 rfl (pc' := 62) rfl ?_
            refine ax_iald (v := (M_2 77) i) dX6_tiesFirst_62 sh_77 rfl (by omega) (by omega) ((congrFun ((funext fun i0 => frM_37 77 i0 (fun h => h.elim (fun h => absurd h (by decide)) (fun h => absurd h (by decide)))).trans ((funext fun i0 => fr1 77 i0 (fun h => h.elim (fun h => absurd h (by decide)) (fun h => absurd h (by decide)))).trans rfl)) i).trans rfl) (pc' := 63) rfl ?_
            refine ax_reS (st2 := [.inl (f_cl w r q7)]) (congrArg (fun z => Sum.inl z :: _) (by exact qf2.1)) ?_
            refine ax_iload dX6_tiesFirst_63 rfl (pc' := 65) rfl ?_
            refine ax_icmp_ne (tgt := 72) dX6_tiesFirst_65 (by decide) (pc' := 68) rfl (fun h65 => ?_) (fun h65 => ?_)
            · refine ax_iconst dX6_tiesFirst_72 (by decide) (pc' := 73) rfl ?_
              refine ax_zret dX6_tiesFirst_73 rfl (by decide) ?_
              refine ⟨rfl, ?_, ?_⟩
              · refine congrArg (fun z => some (Sum.inl z)) ?_
                rw [qh1, qh2]
                unfold f_b
                split <;> first | rfl | (exfalso; omega)
              · intro x0 i0 hai
                exact ((frM_37 x0 i0 (fun h => h.elim (fun h => hai (Or.inl h)) (fun h => hai (Or.inr (Or.inl h))))).trans ((fr1 x0 i0 (fun h => h.elim (fun h => hai (Or.inl h)) (fun h => hai (Or.inr (Or.inl h))))).trans ((frM_2 x0 i0 (fun h => h.elim (fun h => hai (Or.inr (Or.inr (Or.inl h)))) (fun h => h.elim (fun h => hai (Or.inr (Or.inr (Or.inr (Or.inl h))))) (fun h => hai (Or.inr (Or.inr (Or.inr (Or.inr h)))))))).trans rfl)))
            · refine ax_iconst dX6_tiesFirst_68 (by decide) (pc' := 69) rfl ?_
              refine ax_goto dX6_tiesFirst_69 (pc' := 73) (by decide) ?_
              refine ax_zret dX6_tiesFirst_73 rfl (by decide) ?_
              refine ⟨rfl, ?_, ?_⟩
              · refine congrArg (fun z => some (Sum.inl z)) ?_
                rw [qh1, qh2]
                unfold f_b
                split <;> first | rfl | (exfalso; omega)
              · intro x0 i0 hai
                exact ((frM_37 x0 i0 (fun h => h.elim (fun h => hai (Or.inl h)) (fun h => hai (Or.inr (Or.inl h))))).trans ((fr1 x0 i0 (fun h => h.elim (fun h => hai (Or.inl h)) (fun h => hai (Or.inr (Or.inl h))))).trans ((frM_2 x0 i0 (fun h => h.elim (fun h => hai (Or.inr (Or.inr (Or.inl h)))) (fun h => h.elim (fun h => hai (Or.inr (Or.inr (Or.inr (Or.inl h))))) (fun h => hai (Or.inr (Or.inr (Or.inr (Or.inr h)))))))).trans rfl)))
  refine LP1 ((((f_lrow w r).reverse).length : Int) : Int).toNat.succ 0 ((f_lrow w r).reverse) M_2 ?_ ?_ ?_ ?_ ?_ ?_ ?_
  · omega
  · exact fun a i _ => rfl
  · rw [List.length_reverse]
    exact ⟨by decide, by omega⟩
  · exact f_fwd_rev fa2_0
  · exact f_fwd_mp fa2_1
  · rfl
  · exact fun q hq => qa2 q (List.mem_reverse.mp hq)
