/-! the tokens of a tape -/
def f_tk1 (ta : Int → Int) (tn rd p v : Int) : f_Tk := (f_nT ta tn p rd, f_nV ta tn p v, f_nS ta tn p, f_nE ta tn p)
def f_lx (ta : Int → Int) (tn rd : Int) : Int → Int → List f_Tk → Prop
  | _, _, [] => False
  | p, v, t :: tl => t = f_tk1 ta tn rd p v ∧ (t.1 = 0 → tl = []) ∧ (t.1 ≠ 0 → f_lx ta tn rd t.2.2.2 t.2.1 tl)
def f_cur (ta : Int → Int) (tn rd : Int) (L : List f_Tk) (p to tk v : Int) : Prop := (0 ≤ p ∧ p ≤ tn ∧ 0 ≤ v ∧ v ≤ 9999) ∧ ∃ tl, L = (to, v, tk, p) :: tl ∧ (to = 0 → tl = []) ∧ (to ≠ 0 → f_lx ta tn rd p v tl)
theorem f_to_bd {c : Int → Prop} [DecidablePred c] {lo hi : Int} (h : lo ≤ hi) : lo ≤ f_to c lo hi ∧ f_to c lo hi ≤ hi := by
  have key : ∀ (n : Nat) (lo : Int), (n : Int) = hi - lo → lo ≤ f_to c lo hi ∧ f_to c lo hi ≤ hi := by
    intro n
    induction n with
    | zero =>
      intro lo e
      rw [f_to_done (by omega)]
      omega
    | succ n ih =>
      intro lo e
      by_cases hc : c lo
      · rw [f_to_hit hc]
        omega
      · rw [f_to_miss (by omega) hc]
        have := ih (lo + 1) (by omega)
        omega
  exact key (hi - lo).toNat lo (by omega)
theorem f_num_rg {ta : Int → Int} {tn s : Int} : ∀ (n : Nat) (lo v : Int) (b : Int), (∀ k, lo ≤ k → k < lo + (n : Int) → f_dig (f_see ta tn k)) → 0 ≤ v → v ≤ b → f_loop (fun k v => 10 * v + f_see ta tn k - 48) lo (lo + (n : Int)) v ≤ 10 ^ n * b + (10 ^ n - 1) ∧ 0 ≤ f_loop (fun k v => 10 * v + f_see ta tn k - 48) lo (lo + (n : Int)) v := by
  intro n
  induction n with
  | zero =>
    intro lo v b _ h0 h1
    rw [f_loop_done (by omega)]
    simp only [Int.pow_zero]
    omega
  | succ n ih =>
    intro lo v b hd h0 h1
    rw [f_loop_step (by omega)]
    have h2 := hd lo (by omega) (by omega)
    have h3 := ih (lo + 1) (10 * v + f_see ta tn lo - 48) (10 * b + 9) (fun k hk1 hk2 => hd k (by omega) (by omega)) (by unfold f_dig at h2; omega) (by unfold f_dig at h2; omega)
    rw [show lo + ((n + 1 : Nat) : Int) = lo + 1 + (n : Int) by omega]
    have h4 : (10 : Int) ^ (n + 1) = 10 * 10 ^ n := by rw [Int.pow_succ]; omega
    rw [h4]
    have h5 : (10 : Int) ^ n * (10 * b + 9) = 10 * 10 ^ n * b + 9 * 10 ^ n := by
      rw [Int.mul_add]
      have : (10 : Int) ^ n * (10 * b) = 10 * 10 ^ n * b := by
        rw [← Int.mul_assoc, Int.mul_comm ((10 : Int) ^ n) 10]
      omega
    omega
theorem f_to_all {c : Int → Prop} [DecidablePred c] {lo hi : Int} (h : lo ≤ hi) : ∀ k, lo ≤ k → k < f_to c lo hi → ¬ c k := by
  have key : ∀ (n : Nat) (lo : Int), (n : Int) = hi - lo → ∀ k, lo ≤ k → k < f_to c lo hi → ¬ c k := by
    intro n
    induction n with
    | zero =>
      intro lo e k h1 h2
      rw [f_to_done (by omega)] at h2
      omega
    | succ n ih =>
      intro lo e k h1 h2
      by_cases hc : c lo
      · rw [f_to_hit hc] at h2
        omega
      · rw [f_to_miss (by omega) hc] at h2
        by_cases hk : k = lo
        · rw [hk]
          exact hc
        · exact ih (lo + 1) (by omega) k (by omega) h2
  exact key (hi - lo).toNat lo (by omega)
def f_wP (rd x : Int) : Prop := x ≠ 0 ∧ (0 ≤ rd → rd < 3 → 41 ≤ x ∧ x ≤ 53 → f_al rd (x - 40))
theorem f_wP_ite {rd a b : Int} {c : Prop} [Decidable c] (h1 : c → f_wP rd a) (h2 : ¬ c → f_wP rd b) : f_wP rd (if c then a else b) := by
  split
  · exact h1 (by assumption)
  · exact h2 (by assumption)
theorem f_wrd_P {ta : Int → Int} {tk at0 rd : Int} : f_wP rd (f_wrd ta tk at0 rd) := by
  unfold f_wrd f_nmD f_nmT f_nmH f_nmB
  repeat' (refine f_wP_ite (fun _ => ?_) (fun _ => ?_))
  all_goals (unfold f_wP f_al; omega)
theorem f_wrd_rg {ta : Int → Int} {tk at0 rd : Int} : f_wrd ta tk at0 rd ≠ 0 ∧ (0 ≤ rd → rd < 3 → 41 ≤ f_wrd ta tk at0 rd ∧ f_wrd ta tk at0 rd ≤ 53 → f_al rd (f_wrd ta tk at0 rd - 40)) := f_wrd_P
theorem f_nS_rg {ta : Int → Int} {tn p : Int} (h : p ≤ tn) : p ≤ f_nS ta tn p ∧ f_nS ta tn p ≤ tn := f_to_bd h
theorem f_nC_lt {ta : Int → Int} {tn p : Int} (h : f_nC ta tn p ≠ -1) : f_nS ta tn p < tn := by
  unfold f_nC f_see at h
  split at h
  · assumption
  · exact absurd rfl h
theorem f_nE_rg {ta : Int → Int} {tn p : Int} (h : p ≤ tn) : f_nS ta tn p ≤ f_nE ta tn p ∧ f_nE ta tn p ≤ tn ∧ (f_nC ta tn p ≠ -1 → f_nS ta tn p < f_nE ta tn p) := by
  have h1 := f_nS_rg (ta := ta) h
  unfold f_nE
  by_cases hc : f_nC ta tn p = -1
  · rw [if_pos hc]
    exact ⟨Int.le_refl _, h1.2, fun q => absurd hc q⟩
  · have h2 := f_nC_lt hc
    rw [if_neg hc]
    by_cases hl : f_let (f_nC ta tn p)
    · rw [if_pos hl, f_to_miss h2 (fun q => q hl)]
      have h3 := f_to_bd (c := f_cL ta tn) (lo := f_nS ta tn p + 1) (hi := tn) (by omega)
      omega
    · rw [if_neg hl]
      by_cases hd : f_dig (f_nC ta tn p)
      · rw [if_pos hd, f_to_miss h2 (fun q => q hd)]
        have h3 := f_to_bd (c := f_cD ta tn) (lo := f_nS ta tn p + 1) (hi := tn) (by omega)
        omega
      · rw [if_neg hd]
        omega
theorem f_nT_0 {ta : Int → Int} {tn p rd : Int} (hp : 0 ≤ p) (hq : p ≤ tn) (ht : f_tp ta tn) : f_nT ta tn p rd = 0 ↔ f_nC ta tn p = -1 := by
  unfold f_nT
  constructor
  · intro h
    by_cases hc : f_nC ta tn p = -1
    · exact hc
    · exfalso
      have h1 := f_nS_rg (ta := ta) hq
      have h2 := f_see_rg (k := f_nS ta tn p) ht (by omega)
      rw [if_neg hc] at h
      split at h
      · exact f_wrd_rg.1 h
      · split at h
        · split at h <;> omega
        · split at h
          · unfold f_nC at h
            unfold f_nC at hc
            omega
          · omega
  · intro h
    rw [if_pos h]
theorem f_nV_rg {ta : Int → Int} {tn p v : Int} (hq : p ≤ tn) (hv : 0 ≤ v ∧ v ≤ 9999) : 0 ≤ f_nV ta tn p v ∧ f_nV ta tn p v ≤ 9999 := by
  unfold f_nV
  split
  · rename_i h
    have h2 := f_nC_lt h.1
    have h3 := f_nE_rg (ta := ta) hq
    have h5 : f_nE ta tn p = f_to (f_cD ta tn) (f_nS ta tn p) tn := by
      unfold f_nE
      rw [if_neg h.1, if_neg h.2.1, if_pos h.2.2]
    have h6 := f_to_all (c := f_cD ta tn) (lo := f_nS ta tn p) (hi := tn) (by omega)
    rw [← h5] at h6
    unfold f_num
    obtain ⟨n, hn⟩ : ∃ n : Nat, min (f_nE ta tn p) (f_nS ta tn p + 4) = f_nS ta tn p + (n : Int) ∧ n ≤ 4 := ⟨(min (f_nE ta tn p) (f_nS ta tn p + 4) - f_nS ta tn p).toNat, by omega, by omega⟩
    rw [hn.1]
    have h7 := f_num_rg (ta := ta) (tn := tn) (s := 0) n (f_nS ta tn p) 0 0 (fun k h1 h2 => Decidable.not_not.mp (h6 k h1 (by omega))) (Int.le_refl 0) (Int.le_refl 0)
    have h8 : (10 : Int) ^ n ≤ 10000 := by
      obtain ⟨_, hn⟩ := hn
      match n, hn with
      | 0, _ => decide
      | 1, _ => decide
      | 2, _ => decide
      | 3, _ => decide
      | 4, _ => decide
    omega
  · exact hv
theorem f_cur_rg {ta : Int → Int} {tn rd : Int} {L : List f_Tk} {p to tk v : Int} (h : f_cur ta tn rd L p to tk v) : 0 ≤ p ∧ p ≤ tn ∧ 0 ≤ v ∧ v ≤ 9999 := h.1
theorem f_cur_hd {ta : Int → Int} {tn rd : Int} {L : List f_Tk} {p to tk v : Int} (h : f_cur ta tn rd L p to tk v) : f_T L = to ∧ f_V L = v ∧ f_S L = tk := by
  obtain ⟨tl, rfl, -⟩ := h.2
  exact ⟨rfl, rfl, rfl⟩
theorem f_lx_cur {ta : Int → Int} {tn rd : Int} {L : List f_Tk} {p v : Int} (hp : 0 ≤ p ∧ p ≤ tn ∧ 0 ≤ v ∧ v ≤ 9999) (h : f_lx ta tn rd p v L) : f_cur ta tn rd L (f_nE ta tn p) (f_nT ta tn p rd) (f_nS ta tn p) (f_nV ta tn p v) := by
  match L, h with
  | t :: tl, h =>
    obtain ⟨rfl, h1, h2⟩ := h
    have h3 := f_nS_rg (ta := ta) hp.2.1
    have h4 := f_nE_rg (ta := ta) hp.2.1
    have h5 := f_nV_rg (ta := ta) hp.2.1 hp.2.2
    exact ⟨⟨by omega, by omega, h5.1, h5.2⟩, tl, rfl, h1, h2⟩
theorem f_cur_next {ta : Int → Int} {tn rd : Int} {L : List f_Tk} {p to tk v : Int} (h : f_cur ta tn rd L p to tk v) (ht : to ≠ 0) : ∃ L2, L.tail = L2 ∧ L.length = L2.length + 1 ∧ f_cur ta tn rd L2 (f_nE ta tn p) (f_nT ta tn p rd) (f_nS ta tn p) (f_nV ta tn p v) := by
  obtain ⟨hr, tl, rfl, -, h2⟩ := h
  exact ⟨tl, rfl, rfl, f_lx_cur hr (h2 ht)⟩
theorem f_cur_eq {ta : Int → Int} {tn rd : Int} {L : List f_Tk} {p to tk v p2 to2 tk2 v2 : Int} (h : f_cur ta tn rd L p to tk v) (h1 : p2 = p) (h2 : to2 = to) (h3 : tk2 = tk) (h4 : v2 = v) : f_cur ta tn rd L p2 to2 tk2 v2 := by
  rw [h1, h2, h3, h4]
  exact h
theorem f_lx_ex {ta : Int → Int} {tn rd : Int} (ht : f_tp ta tn) : ∀ (n : Nat) (p v : Int), tn - p < (n : Int) → 0 ≤ p → p ≤ tn → ∃ L, f_lx ta tn rd p v L ∧ (L.length : Int) ≤ tn - p + 1 := by
  intro n
  induction n with
  | zero => intro p v h; omega
  | succ n ih =>
    intro p v h hp hq
    by_cases h0 : f_nT ta tn p rd = 0
    · refine ⟨[f_tk1 ta tn rd p v], ⟨rfl, fun _ => rfl, fun q => absurd h0 q⟩, ?_⟩
      simp only [List.length_cons, List.length_nil]
      omega
    · have h1 := (not_congr (f_nT_0 (rd := rd) hp hq ht)).mp h0
      have h2 := f_nE_rg (ta := ta) hq
      have h4 := f_nS_rg (ta := ta) hq
      have h5 := h2.2.2 h1
      obtain ⟨L, hL, hn⟩ := ih (f_nE ta tn p) (f_nV ta tn p v) (by omega) (by omega) (by omega)
      refine ⟨f_tk1 ta tn rd p v :: L, ⟨rfl, fun q => absurd q h0, fun _ => hL⟩, ?_⟩
      simp only [List.length_cons]
      omega
theorem f_lx_tkr {ta : Int → Int} {tn rd : Int} (hr : 0 ≤ rd ∧ rd < 3) : ∀ {L : List f_Tk} {p v : Int}, f_tp ta tn → 0 ≤ p ∧ p ≤ tn ∧ 0 ≤ v ∧ v ≤ 9999 → f_lx ta tn rd p v L → ∀ x ∈ L, f_tkr rd x
  | [], _, _, _, _, h => False.elim h
  | t :: tl, p, v, ht, hp, h => by
    obtain ⟨rfl, h1, h2⟩ := h
    have h3 := f_nS_rg (ta := ta) hp.2.1
    have h4 := f_nE_rg (ta := ta) hp.2.1
    have h5 := f_nV_rg (ta := ta) hp.2.1 hp.2.2
    intro x hx
    rcases List.mem_cons.mp hx with rfl | hx
    · refine ⟨h5, fun hq => ?_⟩
      have hq2 : 41 ≤ f_nT ta tn p rd ∧ f_nT ta tn p rd ≤ 53 := hq
      show f_al rd (f_nT ta tn p rd - 40)
      have h6 := f_see_rg (k := f_nS ta tn p) ht (by omega)
      by_cases hc : f_nC ta tn p = -1
      · have := (f_nT_0 (rd := rd) hp.1 hp.2.1 ht).mpr hc
        omega
      · unfold f_nT at hq2 ⊢
        rw [if_neg hc] at hq2 ⊢
        by_cases hl : f_let (f_nC ta tn p)
        · rw [if_pos hl] at hq2 ⊢
          exact f_wrd_rg.2 hr.1 hr.2 hq2
        · rw [if_neg hl] at hq2
          exfalso
          split at hq2
          · split at hq2 <;> omega
          · split at hq2
            · unfold f_nC at hq2 hc
              omega
            · omega
    · by_cases h0 : (f_tk1 ta tn rd p v).1 = 0
      · rw [h1 h0] at hx
        exact absurd hx (List.not_mem_nil)
      · exact f_lx_tkr hr (p := f_nE ta tn p) (v := f_nV ta tn p v) ht ⟨by omega, by omega, h5.1, h5.2⟩ (h2 h0) x hx
/-! what is laid in a row -/
def f_put (fs : Int → Int) : Int → List f_Op → (Int → Int)
  | _, [] => fs
  | n, o :: tl => f_put (f_up (f_up fs (2 * n) o.1) (2 * n + 1) o.2) (n + 1) tl
theorem f_put_app : ∀ (a b : List f_Op) (fs : Int → Int) (n : Int), f_put fs n (a ++ b) = f_put (f_put fs n a) (n + (a.length : Int)) b
  | [], b, fs, n => by
    show f_put fs n b = f_put fs (n + 0) b
    rw [Int.add_zero]
  | o :: tl, b, fs, n => by
    show f_put (f_up (f_up fs (2 * n) o.1) (2 * n + 1) o.2) (n + 1) (tl ++ b) = f_put (f_put (f_up (f_up fs (2 * n) o.1) (2 * n + 1) o.2) (n + 1) tl) (n + ((tl.length + 1 : Nat) : Int)) b
    rw [f_put_app tl b, show n + 1 + (tl.length : Int) = n + ((tl.length + 1 : Nat) : Int) by omega]
theorem f_put_snoc {fs A : Int → Int} {sn n k v : Int} {o : List f_Op} (h1 : A = f_put fs sn o) (h2 : n = sn + (o.length : Int)) : f_up (f_up A (2 * n) k) (2 * n + 1) v = f_put fs sn (o ++ [(k, v)]) := by
  rw [f_put_app, ← h1, ← h2]
  rfl
theorem f_put_more {fs A : Int → Int} {sn n : Int} {o b : List f_Op} (h1 : A = f_put fs sn o) (h2 : n = sn + (o.length : Int)) : f_put A n b = f_put fs sn (o ++ b) := by
  rw [f_put_app, ← h1, ← h2]
theorem f_r9 {x v : Int} (h : x = v) (h2 : 0 ≤ v ∧ v ≤ 9999) : 0 ≤ x ∧ x ≤ 9999 := by
  rw [h]
  exact h2
def f_pok (ta : Int → Int) (tn rd : Int) (fs : Int → Int) (sn dp : Int) (r : f_Rs) (M2 : ax_Mem) : Prop := match r with
  | .inl (k, s) => M2 330 22 = k ∧ M2 330 23 = s
  | .inr (L2, o) => M2 336 = f_put fs sn o ∧ M2 330 15 = sn + (o.length : Int) ∧ f_cur ta tn rd L2 (M2 330 18) (M2 330 19) (M2 330 20) (M2 330 21) ∧ M2 330 25 = dp
theorem f_pok_ok {ta : Int → Int} {tn rd : Int} {fs : Int → Int} {sn dp : Int} {r : f_Rs} {M2 : ax_Mem} {L2 : List f_Tk} {o : List f_Op} {p to tk v : Int} (e : r = .inr (L2, o)) (h1 : M2 336 = f_put fs sn o) (h2 : M2 330 15 = sn + (o.length : Int)) (hc : f_cur ta tn rd L2 p to tk v) (h3 : M2 330 18 = p) (h4 : M2 330 19 = to) (h5 : M2 330 20 = tk) (h6 : M2 330 21 = v) (h7 : M2 330 25 = dp) : f_pok ta tn rd fs sn dp r M2 := by
  rw [e]
  exact ⟨h1, h2, f_cur_eq hc h3 h4 h5 h6, h7⟩
theorem f_pok_no {ta : Int → Int} {tn rd : Int} {fs : Int → Int} {sn dp : Int} {r : f_Rs} {M2 : ax_Mem} {k s : Int} (e : r = .inl (k, s)) (h1 : M2 330 22 = k) (h2 : M2 330 23 = s) : f_pok ta tn rd fs sn dp r M2 := by
  rw [e]
  exact ⟨h1, h2⟩
theorem f_pre_pre (a b : List f_Op) (r : f_Rs) : f_pre a (f_pre b r) = f_pre (a ++ b) r := by
  match r with
  | .inl e => rfl
  | .inr (L, o) =>
    show (.inr (L, a ++ (b ++ o)) : f_Rs) = .inr (L, a ++ b ++ o)
    rw [List.append_assoc]
theorem f_pre_nil (a : List f_Op) (L : List f_Tk) : f_pre a (.inr (L, [])) = .inr (L, a) := by
  show (.inr (L, a ++ []) : f_Rs) = _
  rw [List.append_nil]
theorem f_aft_ok {a o : List f_Op} {L : List f_Tk} {r : f_Rs} (h : r = .inr (L, o)) : f_aft a r = .inr (L, o ++ a) := by
  rw [h]
  rfl
theorem f_aft_no {a : List f_Op} {e : Int × Int} {r : f_Rs} (h : r = .inl e) : f_aft a r = .inl e := by
  rw [h]
  rfl
theorem f_rep_no {q : List f_Tk → Option f_Rs} (hq : f_gq q) {L : List f_Tk} {e : Int × Int} (h : q L = some (.inl e)) {a : List f_Op} : f_pre a (f_rep q L) = .inl e := by
  rw [f_rep_some hq h]
  rfl
set_option maxRecDepth 20000 in
theorem s_X12_unit (E : ax_Env) (l : Launch) (d : Nat) (hd : 10 ≤ d) (M : ax_Mem) (L : List f_Tk) {ta : Int → Int} (hta : M 339 = ta) {fs : Int → Int} (hfs : M 336 = fs) {p0 : Int} (hp0 : M 330 18 = p0) {to : Int} (hto : M 330 19 = to) {tk : Int} (htk : M 330 20 = tk) {v0 : Int} (hv0 : M 330 21 = v0) {sn : Int} (hsn : M 330 15 = sn) {dp : Int} (hdp : M 330 25 = dp) {tn : Int} (htn : M 330 17 = tn) {rd : Int} (hrd : M 330 13 = rd) (hg0 : 0 ≤ tn ∧ tn ≤ 400) (hg1 : f_tp ta tn) (hg2 : f_cur ta tn rd L p0 to tk v0) (hg3 : 0 ≤ sn ∧ sn + (L.length : Int) ≤ 405) : ax_G E l d iX12_unit [.inr 330] M (fun z0 M2 => z0 = some (.inl (f_rb (f_unit L))) ∧ (∀ x0 i0 : Int, ¬ (x0 = 336 ∨ (x0 = 330 ∧ i0 = 15) ∨ (x0 = 330 ∧ i0 = 18) ∨ (x0 = 330 ∧ i0 = 19) ∨ (x0 = 330 ∧ i0 = 20) ∨ (x0 = 330 ∧ i0 = 21) ∨ (x0 = 330 ∧ i0 = 22) ∨ (x0 = 330 ∧ i0 = 23)) → M2 x0 i0 = M x0 i0) ∧ (f_pok ta tn rd fs sn dp (f_unit L) M2) ∧ (0 ≤ M2 330 21 ∧ M2 330 21 ≤ 9999)) := by
  obtain ⟨d, rfl⟩ : ∃ d0, d = d0 + 1 := ⟨d - 1, by omega⟩
  refine ax_start rfl (Nat.le_of_ble_eq_true rfl) (ls := [some (.inr 330), none]) rfl (fun hav hcm => ?_)
  clear hav
  have qR := f_cur_rg hg2
  have qh := f_cur_hd hg2
  refine ax_aload_n dX12_unit_0 rfl rfl (pc' := 1) rfl ?_
  refine ax_geti (v := to) dX12_unit_1 flX12_208 rfl sh_330 hto rfl (pc' := 4) rfl ?_
  refine ax_bipush dX12_unit_4 (by decide) (pc' := 6) rfl ?_
  refine ax_bipush dX12_unit_6 (by decide) (pc' := 8) rfl ?_
  refine ax_insG [.inl to, .inl 41, .inl 53] [] dX12_unit_8 mlX12_74 rfl rfl (Nat.le_of_ble_eq_true rfl) (s_X12_isIn E l _ (by omega) _ to 41 53) (pc' := 11) rfl (fun vv M_8 hq co8 hcm8 => ?_)
  obtain ⟨rfl, rfl⟩ := hq
  refine ax_reS (st2 := [.inl (f_b (41 ≤ to ∧ to ≤ 53))]) rfl ?_
  refine ax_istore_n dX12_unit_11 rfl (by decide) (ls' := [some (.inr 330), some (.inl (f_b (41 ≤ to ∧ to ≤ 53)))]) rfl (pc' := 12) rfl ?_
  refine ax_aload_n dX12_unit_12 rfl rfl (pc' := 13) rfl ?_
  refine ax_geti (v := to) dX12_unit_13 flX12_208 rfl sh_330 hto rfl (pc' := 16) rfl ?_
  refine ax_iconst dX12_unit_16 (by decide) (pc' := 17) rfl ?_
  refine ax_icmp_eq (tgt := 30) dX12_unit_17 (by decide) (pc' := 20) rfl (fun h17 => ?_) (fun h17 => ?_)
  · refine ax_aload_n dX12_unit_30 rfl rfl (pc' := 31) rfl ?_
    refine ax_iload_n dX12_unit_31 rfl rfl (pc' := 32) rfl ?_
    refine ax_if_eq (tgt := 45) dX12_unit_32 (by decide) (pc' := 35) rfl (fun h32 => ?_) (fun h32 => ?_)
    · replace h32 := f_b_0 h32
      have qr : f_unit L = .inr (L.tail, [(0, v0)]) := by
        unfold f_unit
        rw [if_pos (by omega), qh.2.1]
      refine ax_iconst dX12_unit_45 (by decide) (pc' := 46) rfl ?_
      refine ax_aload_n dX12_unit_46 rfl rfl (pc' := 47) rfl ?_
      refine ax_geti (v := v0) dX12_unit_47 flX12_220 rfl sh_330 hv0 rfl (pc' := 50) rfl ?_
      refine ax_invG [.inl 0, .inl v0] [] dX12_unit_50 mlX12_245 sh_330 rfl rfl rfl (Nat.le_of_ble_eq_true rfl) (s_X12_lay E l _ (by omega) _ 0 v0 hfs hsn (by first | omega | assumption)) (pc' := 53) rfl (fun vv M_50 hq co50 hcm50 => ?_)
      obtain ⟨rfl, frM_50, mrM_50_0, msM_50_0⟩ := hq
      refine ax_reS (st2 := []) rfl ?_
      obtain ⟨L9, qt9, ql9, qc9⟩ := f_cur_next hg2 (by omega)
      have qR9 := f_cur_rg qc9
      have qh9 := f_cur_hd qc9
      refine ax_aload_n dX12_unit_53 rfl rfl (pc' := 54) rfl ?_
      refine ax_invG [] [] dX12_unit_54 mlX12_232 sh_330 rfl rfl rfl (Nat.le_of_ble_eq_true rfl) (s_X12_next0 E l _ (by omega) _ ((funext fun i0 => frM_50 339 i0 (fun h => h.elim (fun h => absurd h (by decide)) (fun h => absurd h.1 (by decide)))).trans hta) ((frM_50 330 18 (fun h => h.elim (fun h => absurd h (by decide)) (fun h => absurd h.2 (by decide)))).trans hp0) ((frM_50 330 17 (fun h => h.elim (fun h => absurd h (by decide)) (fun h => absurd h.2 (by decide)))).trans htn) ((frM_50 330 13 (fun h => h.elim (fun h => absurd h (by decide)) (fun h => absurd h.2 (by decide)))).trans hrd) ((frM_50 330 21 (fun h => h.elim (fun h => absurd h (by decide)) (fun h => absurd h.2 (by decide)))).trans hv0) (by first | omega | assumption) (by first | omega | assumption)) (pc' := 57) rfl (fun vv M_54 hq co54 hcm54 => ?_)
      obtain ⟨rfl, frM_54, msM_54_0, msM_54_1, msM_54_2, msM_54_3⟩ := hq
      refine ax_reS (st2 := []) rfl ?_
      refine ax_iconst dX12_unit_57 (by decide) (pc' := 58) rfl ?_
      refine ax_zret dX12_unit_58 rfl (by decide) ?_
      refine ⟨rfl, ?_, ?_, ?_, ?_⟩
      · refine congrArg (fun z => some (Sum.inl z)) ?_
        rw [qr]
        rfl
      · intro x0 i0 hai
        exact ((frM_54 x0 i0 (fun h => h.elim (fun h => hai (Or.inr (Or.inr (Or.inl h)))) (fun h => h.elim (fun h => hai (Or.inr (Or.inr (Or.inr (Or.inl h))))) (fun h => h.elim (fun h => hai (Or.inr (Or.inr (Or.inr (Or.inr (Or.inl h)))))) (fun h => hai (Or.inr (Or.inr (Or.inr (Or.inr (Or.inr (Or.inl h))))))))))).trans ((frM_50 x0 i0 (fun h => h.elim (fun h => hai (Or.inl h)) (fun h => hai (Or.inr (Or.inl h))))).trans rfl))
      · refine f_pok_ok (qr.trans (by rw [qt9])) (Eq.trans ((funext fun i0 => frM_54 336 i0 (fun h => h.elim (fun h => absurd h.1 (by decide)) (fun h => h.elim (fun h => absurd h.1 (by decide)) (fun h => h.elim (fun h => absurd h.1 (by decide)) (fun h => absurd h.1 (by decide)))))).trans mrM_50_0) ?_) (Eq.trans ((frM_54 330 15 (fun h => h.elim (fun h => absurd h.2 (by decide)) (fun h => h.elim (fun h => absurd h.2 (by decide)) (fun h => h.elim (fun h => absurd h.2 (by decide)) (fun h => absurd h.2 (by decide)))))).trans msM_50_0) ?_) qc9 msM_54_0 msM_54_1 msM_54_2 msM_54_3 ((frM_54 330 25 (fun h => h.elim (fun h => absurd h.2 (by decide)) (fun h => h.elim (fun h => absurd h.2 (by decide)) (fun h => h.elim (fun h => absurd h.2 (by decide)) (fun h => absurd h.2 (by decide)))))).trans ((frM_50 330 25 (fun h => h.elim (fun h => absurd h (by decide)) (fun h => absurd h.2 (by decide)))).trans hdp))
        · rfl
        · first | rfl | (simp only [List.length_append, List.length_cons, List.length_nil] at *; omega)
      · have q9 : M_54 330 21 = f_nV ta tn p0 v0 := msM_54_3
        have q9b : 0 ≤ f_nV ta tn p0 v0 ∧ f_nV ta tn p0 v0 ≤ 9999 := by omega
        exact f_r9 q9 q9b
    · replace h32 := f_b_1 h32
      exfalso
      omega
  · refine ax_iload_n dX12_unit_20 rfl rfl (pc' := 21) rfl ?_
    refine ax_if_ne (tgt := 30) dX12_unit_21 (by decide) (pc' := 24) rfl (fun h21 => ?_) (fun h21 => ?_)
    · replace h21 := f_b_1 h21
      refine ax_aload_n dX12_unit_30 rfl rfl (pc' := 31) rfl ?_
      refine ax_iload_n dX12_unit_31 rfl rfl (pc' := 32) rfl ?_
      refine ax_if_eq (tgt := 45) dX12_unit_32 (by decide) (pc' := 35) rfl (fun h32 => ?_) (fun h32 => ?_)
      · replace h32 := f_b_0 h32
        exfalso
        omega
      · replace h32 := f_b_1 h32
        have qr : f_unit L = .inr (L.tail, [(to - 40, v0)]) := by
          unfold f_unit
          rw [if_neg (by omega), if_pos (by omega), qh.2.1, qh.1]
        refine ax_aload_n dX12_unit_35 rfl rfl (pc' := 36) rfl ?_
        refine ax_geti (v := to) dX12_unit_36 flX12_208 rfl sh_330 hto rfl (pc' := 39) rfl ?_
        refine ax_bipush dX12_unit_39 (by decide) (pc' := 41) rfl ?_
        refine ax_isub dX12_unit_41 (by omega) (pc' := 42) rfl ?_
        refine ax_goto dX12_unit_42 (pc' := 46) (by decide) ?_
        refine ax_aload_n dX12_unit_46 rfl rfl (pc' := 47) rfl ?_
        refine ax_geti (v := v0) dX12_unit_47 flX12_220 rfl sh_330 hv0 rfl (pc' := 50) rfl ?_
        refine ax_invG [.inl (to - 40), .inl v0] [] dX12_unit_50 mlX12_245 sh_330 rfl rfl rfl (Nat.le_of_ble_eq_true rfl) (s_X12_lay E l _ (by omega) _ (to - 40) v0 hfs hsn (by first | omega | assumption)) (pc' := 53) rfl (fun vv M_50 hq co50 hcm50 => ?_)
        obtain ⟨rfl, frM_50, mrM_50_0, msM_50_0⟩ := hq
        refine ax_reS (st2 := []) rfl ?_
        obtain ⟨L9, qt9, ql9, qc9⟩ := f_cur_next hg2 (by omega)
        have qR9 := f_cur_rg qc9
        have qh9 := f_cur_hd qc9
        refine ax_aload_n dX12_unit_53 rfl rfl (pc' := 54) rfl ?_
        refine ax_invG [] [] dX12_unit_54 mlX12_232 sh_330 rfl rfl rfl (Nat.le_of_ble_eq_true rfl) (s_X12_next0 E l _ (by omega) _ ((funext fun i0 => frM_50 339 i0 (fun h => h.elim (fun h => absurd h (by decide)) (fun h => absurd h.1 (by decide)))).trans hta) ((frM_50 330 18 (fun h => h.elim (fun h => absurd h (by decide)) (fun h => absurd h.2 (by decide)))).trans hp0) ((frM_50 330 17 (fun h => h.elim (fun h => absurd h (by decide)) (fun h => absurd h.2 (by decide)))).trans htn) ((frM_50 330 13 (fun h => h.elim (fun h => absurd h (by decide)) (fun h => absurd h.2 (by decide)))).trans hrd) ((frM_50 330 21 (fun h => h.elim (fun h => absurd h (by decide)) (fun h => absurd h.2 (by decide)))).trans hv0) (by first | omega | assumption) (by first | omega | assumption)) (pc' := 57) rfl (fun vv M_54 hq co54 hcm54 => ?_)
        obtain ⟨rfl, frM_54, msM_54_0, msM_54_1, msM_54_2, msM_54_3⟩ := hq
        refine ax_reS (st2 := []) rfl ?_
        refine ax_iconst dX12_unit_57 (by decide) (pc' := 58) rfl ?_
        refine ax_zret dX12_unit_58 rfl (by decide) ?_
        refine ⟨rfl, ?_, ?_, ?_, ?_⟩
        · refine congrArg (fun z => some (Sum.inl z)) ?_
          rw [qr]
          rfl
        · intro x0 i0 hai
          exact ((frM_54 x0 i0 (fun h => h.elim (fun h => hai (Or.inr (Or.inr (Or.inl h)))) (fun h => h.elim (fun h => hai (Or.inr (Or.inr (Or.inr (Or.inl h))))) (fun h => h.elim (fun h => hai (Or.inr (Or.inr (Or.inr (Or.inr (Or.inl h)))))) (fun h => hai (Or.inr (Or.inr (Or.inr (Or.inr (Or.inr (Or.inl h))))))))))).trans ((frM_50 x0 i0 (fun h => h.elim (fun h => hai (Or.inl h)) (fun h => hai (Or.inr (Or.inl h))))).trans rfl))
        · refine f_pok_ok (qr.trans (by rw [qt9])) (Eq.trans ((funext fun i0 => frM_54 336 i0 (fun h => h.elim (fun h => absurd h.1 (by decide)) (fun h => h.elim (fun h => absurd h.1 (by decide)) (fun h => h.elim (fun h => absurd h.1 (by decide)) (fun h => absurd h.1 (by decide)))))).trans mrM_50_0) ?_) (Eq.trans ((frM_54 330 15 (fun h => h.elim (fun h => absurd h.2 (by decide)) (fun h => h.elim (fun h => absurd h.2 (by decide)) (fun h => h.elim (fun h => absurd h.2 (by decide)) (fun h => absurd h.2 (by decide)))))).trans msM_50_0) ?_) qc9 msM_54_0 msM_54_1 msM_54_2 msM_54_3 ((frM_54 330 25 (fun h => h.elim (fun h => absurd h.2 (by decide)) (fun h => h.elim (fun h => absurd h.2 (by decide)) (fun h => h.elim (fun h => absurd h.2 (by decide)) (fun h => absurd h.2 (by decide)))))).trans ((frM_50 330 25 (fun h => h.elim (fun h => absurd h (by decide)) (fun h => absurd h.2 (by decide)))).trans hdp))
          · rfl
          · first | rfl | (simp only [List.length_append, List.length_cons, List.length_nil] at *; omega)
        · have q9 : M_54 330 21 = f_nV ta tn p0 v0 := msM_54_3
          have q9b : 0 ≤ f_nV ta tn p0 v0 ∧ f_nV ta tn p0 v0 ≤ 9999 := by omega
          exact f_r9 q9 q9b
    · replace h21 := f_b_0 h21
      have qr : f_unit L = .inl (1, tk) := by
        unfold f_unit
        rw [if_neg (by omega), if_neg (by omega), qh.2.2]
      refine ax_aload_n dX12_unit_24 rfl rfl (pc' := 25) rfl ?_
      refine ax_iconst dX12_unit_25 (by decide) (pc' := 26) rfl ?_
      refine ax_invG [.inl 1] [] dX12_unit_26 mlX12_229 sh_330 rfl rfl rfl (Nat.le_of_ble_eq_true rfl) (s_X12_bad E l _ (by omega) _ 1 htk) (pc' := 29) rfl (fun vv M_26 hq co26 hcm26 => ?_)
      obtain ⟨rfl, frM_26, msM_26_0, msM_26_1⟩ := hq
      refine ax_reS (st2 := [.inl 0]) rfl ?_
      refine ax_zret dX12_unit_29 rfl (by decide) ?_
      refine ⟨rfl, ?_, ?_, ?_, ?_⟩
      · refine congrArg (fun z => some (Sum.inl z)) ?_
        rw [qr]
        rfl
      · intro x0 i0 hai
        exact ((frM_26 x0 i0 (fun h => h.elim (fun h => hai (Or.inr (Or.inr (Or.inr (Or.inr (Or.inr (Or.inr (Or.inl h)))))))) (fun h => hai (Or.inr (Or.inr (Or.inr (Or.inr (Or.inr (Or.inr (Or.inr h)))))))))).trans rfl)
      · exact f_pok_no qr msM_26_0 msM_26_1
      · have q9 : M_26 330 21 = v0 := ((frM_26 330 21 (fun h => h.elim (fun h => absurd h.2 (by decide)) (fun h => absurd h.2 (by decide)))).trans hv0)
        have q9b : 0 ≤ v0 ∧ v0 ≤ 9999 := by omega
        exact f_r9 q9 q9b
set_option maxRecDepth 20000 in
theorem s_X12_product (E : ax_Env) (l : Launch) (d : Nat) (hd : 11 ≤ d) (M : ax_Mem) (L : List f_Tk) {ta : Int → Int} (hta : M 339 = ta) {fs : Int → Int} (hfs : M 336 = fs) {p0 : Int} (hp0 : M 330 18 = p0) {to : Int} (hto : M 330 19 = to) {tk : Int} (htk : M 330 20 = tk) {v0 : Int} (hv0 : M 330 21 = v0) {sn : Int} (hsn : M 330 15 = sn) {dp : Int} (hdp : M 330 25 = dp) {tn : Int} (htn : M 330 17 = tn) {rd : Int} (hrd : M 330 13 = rd) (hg0 : 0 ≤ tn ∧ tn ≤ 400) (hg1 : f_tp ta tn) (hg2 : f_cur ta tn rd L p0 to tk v0) (hg3 : 0 ≤ sn ∧ sn + (L.length : Int) ≤ 405) : ax_G E l d iX12_product [.inr 330] M (fun z0 M2 => z0 = some (.inl (f_rb (f_prod L))) ∧ (∀ x0 i0 : Int, ¬ (x0 = 336 ∨ (x0 = 330 ∧ i0 = 15) ∨ (x0 = 330 ∧ i0 = 18) ∨ (x0 = 330 ∧ i0 = 19) ∨ (x0 = 330 ∧ i0 = 20) ∨ (x0 = 330 ∧ i0 = 21) ∨ (x0 = 330 ∧ i0 = 22) ∨ (x0 = 330 ∧ i0 = 23)) → M2 x0 i0 = M x0 i0) ∧ (f_pok ta tn rd fs sn dp (f_prod L) M2) ∧ (0 ≤ M2 330 21 ∧ M2 330 21 ≤ 9999)) := by
  obtain ⟨d, rfl⟩ : ∃ d0, d = d0 + 1 := ⟨d - 1, by omega⟩
  refine ax_start rfl (Nat.le_of_ble_eq_true rfl) (ls := [some (.inr 330), none, none]) rfl (fun hav hcm => ?_)
  clear hav
  have qR := f_cur_rg hg2
  have qh := f_cur_hd hg2
  refine ax_aload_n dX12_product_0 rfl rfl (pc' := 1) rfl ?_
  refine ax_invG [] [] dX12_product_1 mlX12_249 sh_330 rfl rfl rfl (Nat.le_of_ble_eq_true rfl) (s_X12_unit E l _ (by omega) _ L hta hfs hp0 hto htk hv0 hsn hdp htn hrd (by first | omega | assumption) (by first | omega | assumption) (by first | omega | assumption) (by first | omega | assumption)) (pc' := 4) rfl (fun vv M_1 hq co1 hcm1 => ?_)
  obtain ⟨rfl, frM_1, fa1_0, fa1_1⟩ := hq
  refine ax_reS (st2 := [.inl (f_rb (f_unit L))]) rfl ?_
  have cc1 : -2147483648 ≤ f_rb (f_unit L) ∧ f_rb (f_unit L) < 2147483648 := co1 _ rfl
  refine ax_if_ne (tgt := 9) dX12_product_4 (by decide) (pc' := 7) rfl (fun h4 => ?_) (fun h4 => ?_)
  · obtain ⟨L2, o2, qr2⟩ := f_rb_ok h4
    rw [qr2] at fa1_0
    obtain ⟨qm2, qs2, qc2, qd2⟩ := fa1_0
    have qg2 := f_unit_gd _ L2 o2 qr2
    have qR2 := f_cur_rg qc2
    have qh2 := f_cur_hd qc2
    have qw2 := f_wt_len o2
    have LP1 : ∀ (kq2 : Nat) (f1 : Int → Int) (s1 p1 t1 k1 v1 : Int) (L1 : List f_Tk) (o1 : List f_Op) (M1 : ax_Mem) (hm1 : (L1.length : Int) < (kq2 : Nat)) (fr1 : ∀ x0 i0 : Int, ¬ (x0 = 336 ∨ (x0 = 330 ∧ i0 = 15) ∨ (x0 = 330 ∧ i0 = 18) ∨ (x0 = 330 ∧ i0 = 19) ∨ (x0 = 330 ∧ i0 = 20) ∨ (x0 = 330 ∧ i0 = 21) ∨ (x0 = 330 ∧ i0 = 22) ∨ (x0 = 330 ∧ i0 = 23)) → M1 x0 i0 = M_1 x0 i0) (mr1_336 : M1 336 = f1) (ms1_330_15 : M1 330 15 = s1) (ms1_330_18 : M1 330 18 = p1) (ms1_330_19 : M1 330 19 = t1) (ms1_330_20 : M1 330 20 = k1) (ms1_330_21 : M1 330 21 = v1) (iv1_0 : f_cur ta tn rd L1 p1 t1 k1 v1) (iv1_1 : f1 = f_put fs sn o1) (iv1_2 : s1 = sn + (o1.length : Int)) (iv1_3 : f_wt o1 + L1.length ≤ L.length) (iv1_4 : f_prod L = f_pre o1 (f_rep f_qMul L1)), ax_W E l (d + 1) 0 0 iX12_product 9 [some (.inr 330), none, none] [] SH M1 (ax_P (fun z0 M2 => z0 = some (.inl (f_rb (f_prod L))) ∧ (∀ x0 i0 : Int, ¬ (x0 = 336 ∨ (x0 = 330 ∧ i0 = 15) ∨ (x0 = 330 ∧ i0 = 18) ∨ (x0 = 330 ∧ i0 = 19) ∨ (x0 = 330 ∧ i0 = 20) ∨ (x0 = 330 ∧ i0 = 21) ∨ (x0 = 330 ∧ i0 = 22) ∨ (x0 = 330 ∧ i0 = 23)) → M2 x0 i0 = M x0 i0) ∧ (f_pok ta tn rd fs sn dp (f_prod L) M2) ∧ (0 ≤ M2 330 21 ∧ M2 330 21 ≤ 9999))) := by
      intro kq2
      induction kq2 with
      | zero =>
        intro f1 s1 p1 t1 k1 v1 L1 o1 M1 hm1 fr1 mr1_336 ms1_330_15 ms1_330_18 ms1_330_19 ms1_330_20 ms1_330_21 iv1_0 iv1_1 iv1_2 iv1_3 iv1_4
        exfalso
        omega
      | succ kq2 ih3 =>
        intro f1 s1 p1 t1 k1 v1 L1 o1 M1 hm1 fr1 mr1_336 ms1_330_15 ms1_330_18 ms1_330_19 ms1_330_20 ms1_330_21 iv1_0 iv1_1 iv1_2 iv1_3 iv1_4
        have qR1 := f_cur_rg iv1_0
        have qh1 := f_cur_hd iv1_0
        have qw1 := f_wt_len o1
        refine ax_aload_n dX12_product_9 rfl rfl (pc' := 10) rfl ?_
        refine ax_geti (v := t1) dX12_product_10 flX12_208 rfl sh_330 ms1_330_19 rfl (pc' := 13) rfl ?_
        refine ax_sipush dX12_product_13 (by decide) (pc' := 16) rfl ?_
        refine ax_icmp_eq (tgt := 29) dX12_product_16 (by decide) (pc' := 19) rfl (fun h16 => ?_) (fun h16 => ?_)
        · refine ax_aload_n dX12_product_29 rfl rfl (pc' := 30) rfl ?_
          refine ax_geti (v := t1) dX12_product_30 flX12_208 rfl sh_330 ms1_330_19 rfl (pc' := 33) rfl ?_
          refine ax_sipush dX12_product_33 (by decide) (pc' := 36) rfl ?_
          refine ax_icmp_ne (tgt := 43) dX12_product_36 (by decide) (pc' := 39) rfl (fun h36 => ?_) (fun h36 => ?_)
          · refine ax_iconst dX12_product_43 (by decide) (pc' := 44) rfl ?_
            refine ax_istore_n dX12_product_44 rfl (by decide) (ls' := [some (.inr 330), some (.inl 0), none]) rfl (pc' := 45) rfl ?_
            obtain ⟨L4, qt4, ql4, qc4⟩ := f_cur_next iv1_0 (by omega)
            have qR4 := f_cur_rg qc4
            have qh4 := f_cur_hd qc4
            refine ax_aload_n dX12_product_45 rfl rfl (pc' := 46) rfl ?_
            refine ax_invG [] [] dX12_product_46 mlX12_232 sh_330 rfl rfl rfl (Nat.le_of_ble_eq_true rfl) (s_X12_next0 E l _ (by omega) _ ((funext fun i0 => fr1 339 i0 (fun h => h.elim (fun h => absurd h (by decide)) (fun h => h.elim (fun h => absurd h.1 (by decide)) (fun h => h.elim (fun h => absurd h.1 (by decide)) (fun h => h.elim (fun h => absurd h.1 (by decide)) (fun h => h.elim (fun h => absurd h.1 (by decide)) (fun h => h.elim (fun h => absurd h.1 (by decide)) (fun h => h.elim (fun h => absurd h.1 (by decide)) (fun h => absurd h.1 (by decide)))))))))).trans ((funext fun i0 => frM_1 339 i0 (fun h => h.elim (fun h => absurd h (by decide)) (fun h => h.elim (fun h => absurd h.1 (by decide)) (fun h => h.elim (fun h => absurd h.1 (by decide)) (fun h => h.elim (fun h => absurd h.1 (by decide)) (fun h => h.elim (fun h => absurd h.1 (by decide)) (fun h => h.elim (fun h => absurd h.1 (by decide)) (fun h => h.elim (fun h => absurd h.1 (by decide)) (fun h => absurd h.1 (by decide)))))))))).trans hta)) ms1_330_18 ((fr1 330 17 (fun h => h.elim (fun h => absurd h (by decide)) (fun h => h.elim (fun h => absurd h.2 (by decide)) (fun h => h.elim (fun h => absurd h.2 (by decide)) (fun h => h.elim (fun h => absurd h.2 (by decide)) (fun h => h.elim (fun h => absurd h.2 (by decide)) (fun h => h.elim (fun h => absurd h.2 (by decide)) (fun h => h.elim (fun h => absurd h.2 (by decide)) (fun h => absurd h.2 (by decide)))))))))).trans ((frM_1 330 17 (fun h => h.elim (fun h => absurd h (by decide)) (fun h => h.elim (fun h => absurd h.2 (by decide)) (fun h => h.elim (fun h => absurd h.2 (by decide)) (fun h => h.elim (fun h => absurd h.2 (by decide)) (fun h => h.elim (fun h => absurd h.2 (by decide)) (fun h => h.elim (fun h => absurd h.2 (by decide)) (fun h => h.elim (fun h => absurd h.2 (by decide)) (fun h => absurd h.2 (by decide)))))))))).trans htn)) ((fr1 330 13 (fun h => h.elim (fun h => absurd h (by decide)) (fun h => h.elim (fun h => absurd h.2 (by decide)) (fun h => h.elim (fun h => absurd h.2 (by decide)) (fun h => h.elim (fun h => absurd h.2 (by decide)) (fun h => h.elim (fun h => absurd h.2 (by decide)) (fun h => h.elim (fun h => absurd h.2 (by decide)) (fun h => h.elim (fun h => absurd h.2 (by decide)) (fun h => absurd h.2 (by decide)))))))))).trans ((frM_1 330 13 (fun h => h.elim (fun h => absurd h (by decide)) (fun h => h.elim (fun h => absurd h.2 (by decide)) (fun h => h.elim (fun h => absurd h.2 (by decide)) (fun h => h.elim (fun h => absurd h.2 (by decide)) (fun h => h.elim (fun h => absurd h.2 (by decide)) (fun h => h.elim (fun h => absurd h.2 (by decide)) (fun h => h.elim (fun h => absurd h.2 (by decide)) (fun h => absurd h.2 (by decide)))))))))).trans hrd)) ms1_330_21 (by first | omega | assumption) (by first | omega | assumption)) (pc' := 49) rfl (fun vv M_46 hq co46 hcm46 => ?_)
            obtain ⟨rfl, frM_46, msM_46_0, msM_46_1, msM_46_2, msM_46_3⟩ := hq
            refine ax_reS (st2 := []) rfl ?_
            refine ax_iload_n dX12_product_49 rfl rfl (pc' := 50) rfl ?_
            refine ax_if_eq (tgt := 96) dX12_product_50 (by decide) (pc' := 53) rfl (fun h50 => ?_) (fun h50 => ?_)
            · refine ax_aload_n dX12_product_96 rfl rfl (pc' := 97) rfl ?_
              refine ax_invG [] [] dX12_product_97 mlX12_249 sh_330 rfl rfl rfl (Nat.le_of_ble_eq_true rfl) (s_X12_unit E l _ (by omega) _ L4 ((funext fun i0 => frM_46 339 i0 (fun h => h.elim (fun h => absurd h.1 (by decide)) (fun h => h.elim (fun h => absurd h.1 (by decide)) (fun h => h.elim (fun h => absurd h.1 (by decide)) (fun h => absurd h.1 (by decide)))))).trans ((funext fun i0 => fr1 339 i0 (fun h => h.elim (fun h => absurd h (by decide)) (fun h => h.elim (fun h => absurd h.1 (by decide)) (fun h => h.elim (fun h => absurd h.1 (by decide)) (fun h => h.elim (fun h => absurd h.1 (by decide)) (fun h => h.elim (fun h => absurd h.1 (by decide)) (fun h => h.elim (fun h => absurd h.1 (by decide)) (fun h => h.elim (fun h => absurd h.1 (by decide)) (fun h => absurd h.1 (by decide)))))))))).trans ((funext fun i0 => frM_1 339 i0 (fun h => h.elim (fun h => absurd h (by decide)) (fun h => h.elim (fun h => absurd h.1 (by decide)) (fun h => h.elim (fun h => absurd h.1 (by decide)) (fun h => h.elim (fun h => absurd h.1 (by decide)) (fun h => h.elim (fun h => absurd h.1 (by decide)) (fun h => h.elim (fun h => absurd h.1 (by decide)) (fun h => h.elim (fun h => absurd h.1 (by decide)) (fun h => absurd h.1 (by decide)))))))))).trans hta))) ((funext fun i0 => frM_46 336 i0 (fun h => h.elim (fun h => absurd h.1 (by decide)) (fun h => h.elim (fun h => absurd h.1 (by decide)) (fun h => h.elim (fun h => absurd h.1 (by decide)) (fun h => absurd h.1 (by decide)))))).trans mr1_336) msM_46_0 msM_46_1 msM_46_2 msM_46_3 ((frM_46 330 15 (fun h => h.elim (fun h => absurd h.2 (by decide)) (fun h => h.elim (fun h => absurd h.2 (by decide)) (fun h => h.elim (fun h => absurd h.2 (by decide)) (fun h => absurd h.2 (by decide)))))).trans ms1_330_15) ((frM_46 330 25 (fun h => h.elim (fun h => absurd h.2 (by decide)) (fun h => h.elim (fun h => absurd h.2 (by decide)) (fun h => h.elim (fun h => absurd h.2 (by decide)) (fun h => absurd h.2 (by decide)))))).trans ((fr1 330 25 (fun h => h.elim (fun h => absurd h (by decide)) (fun h => h.elim (fun h => absurd h.2 (by decide)) (fun h => h.elim (fun h => absurd h.2 (by decide)) (fun h => h.elim (fun h => absurd h.2 (by decide)) (fun h => h.elim (fun h => absurd h.2 (by decide)) (fun h => h.elim (fun h => absurd h.2 (by decide)) (fun h => h.elim (fun h => absurd h.2 (by decide)) (fun h => absurd h.2 (by decide)))))))))).trans ((frM_1 330 25 (fun h => h.elim (fun h => absurd h (by decide)) (fun h => h.elim (fun h => absurd h.2 (by decide)) (fun h => h.elim (fun h => absurd h.2 (by decide)) (fun h => h.elim (fun h => absurd h.2 (by decide)) (fun h => h.elim (fun h => absurd h.2 (by decide)) (fun h => h.elim (fun h => absurd h.2 (by decide)) (fun h => h.elim (fun h => absurd h.2 (by decide)) (fun h => absurd h.2 (by decide)))))))))).trans hdp))) ((frM_46 330 17 (fun h => h.elim (fun h => absurd h.2 (by decide)) (fun h => h.elim (fun h => absurd h.2 (by decide)) (fun h => h.elim (fun h => absurd h.2 (by decide)) (fun h => absurd h.2 (by decide)))))).trans ((fr1 330 17 (fun h => h.elim (fun h => absurd h (by decide)) (fun h => h.elim (fun h => absurd h.2 (by decide)) (fun h => h.elim (fun h => absurd h.2 (by decide)) (fun h => h.elim (fun h => absurd h.2 (by decide)) (fun h => h.elim (fun h => absurd h.2 (by decide)) (fun h => h.elim (fun h => absurd h.2 (by decide)) (fun h => h.elim (fun h => absurd h.2 (by decide)) (fun h => absurd h.2 (by decide)))))))))).trans ((frM_1 330 17 (fun h => h.elim (fun h => absurd h (by decide)) (fun h => h.elim (fun h => absurd h.2 (by decide)) (fun h => h.elim (fun h => absurd h.2 (by decide)) (fun h => h.elim (fun h => absurd h.2 (by decide)) (fun h => h.elim (fun h => absurd h.2 (by decide)) (fun h => h.elim (fun h => absurd h.2 (by decide)) (fun h => h.elim (fun h => absurd h.2 (by decide)) (fun h => absurd h.2 (by decide)))))))))).trans htn))) ((frM_46 330 13 (fun h => h.elim (fun h => absurd h.2 (by decide)) (fun h => h.elim (fun h => absurd h.2 (by decide)) (fun h => h.elim (fun h => absurd h.2 (by decide)) (fun h => absurd h.2 (by decide)))))).trans ((fr1 330 13 (fun h => h.elim (fun h => absurd h (by decide)) (fun h => h.elim (fun h => absurd h.2 (by decide)) (fun h => h.elim (fun h => absurd h.2 (by decide)) (fun h => h.elim (fun h => absurd h.2 (by decide)) (fun h => h.elim (fun h => absurd h.2 (by decide)) (fun h => h.elim (fun h => absurd h.2 (by decide)) (fun h => h.elim (fun h => absurd h.2 (by decide)) (fun h => absurd h.2 (by decide)))))))))).trans ((frM_1 330 13 (fun h => h.elim (fun h => absurd h (by decide)) (fun h => h.elim (fun h => absurd h.2 (by decide)) (fun h => h.elim (fun h => absurd h.2 (by decide)) (fun h => h.elim (fun h => absurd h.2 (by decide)) (fun h => h.elim (fun h => absurd h.2 (by decide)) (fun h => h.elim (fun h => absurd h.2 (by decide)) (fun h => h.elim (fun h => absurd h.2 (by decide)) (fun h => absurd h.2 (by decide)))))))))).trans hrd))) (by first | omega | assumption) (by first | omega | assumption) (by first | omega | assumption) (by first | omega | assumption)) (pc' := 100) rfl (fun vv M_97 hq co97 hcm97 => ?_)
              obtain ⟨rfl, frM_97, fa97_0, fa97_1⟩ := hq
              refine ax_reS (st2 := [.inl (f_rb (f_unit L4))]) rfl ?_
              have cc97 : -2147483648 ≤ f_rb (f_unit L4) ∧ f_rb (f_unit L4) < 2147483648 := co97 _ rfl
              refine ax_if_ne (tgt := 105) dX12_product_100 (by decide) (pc' := 103) rfl (fun h100 => ?_) (fun h100 => ?_)
              · obtain ⟨L8, o8, qr8⟩ := f_rb_ok h100
                rw [qr8] at fa97_0
                obtain ⟨qm8, qs8, qc8, qd8⟩ := fa97_0
                have qg8 := f_unit_gd _ L8 o8 qr8
                have qR8 := f_cur_rg qc8
                have qh8 := f_cur_hd qc8
                have qw8 := f_wt_len o8
                obtain ⟨o3, qo3⟩ : ∃ z, z = o8 ++ [((25 : Int), (0 : Int))] := ⟨_, rfl⟩
                obtain ⟨L3, qL3⟩ : ∃ z, z = L8 := ⟨_, rfl⟩
                have qq : f_qMul L1 = some (f_aft [(25, 0)] (f_unit L4)) := by
                  unfold f_qMul
                  rw [if_pos (by omega), qt4]
                have qr3 : f_aft [(25, 0)] (f_unit L4) = .inr (L3, o3) := by
                  rw [f_aft_ok qr8, qo3, qL3]
                have qg3 := f_qMul_gd L1 _ qq L3 o3 qr3
                have qw3 := f_wt_len o3
                have qc3 : f_cur ta tn rd L3 (M_97 330 18) (M_97 330 19) (M_97 330 20) (M_97 330 21) := by
                  rw [qL3]
                  exact qc8
                refine ax_aload_n dX12_product_105 rfl rfl (pc' := 106) rfl ?_
                refine ax_bipush dX12_product_106 (by decide) (pc' := 108) rfl ?_
                refine ax_iconst dX12_product_108 (by decide) (pc' := 109) rfl ?_
                refine ax_invG [.inl 25, .inl 0] [] dX12_product_109 mlX12_245 sh_330 rfl rfl rfl (Nat.le_of_ble_eq_true rfl) (s_X12_lay E l _ (by omega) _ 25 0 rfl rfl (by first | omega | assumption)) (pc' := 112) rfl (fun vv M_109 hq co109 hcm109 => ?_)
                obtain ⟨rfl, frM_109, mrM_109_0, msM_109_0⟩ := hq
                refine ax_reS (st2 := []) rfl ?_
                have qp3 : f_up (f_up (M_97 336) (2 * (M_97 330 15)) 25) (2 * (M_97 330 15) + 1) 0 = f_put f1 s1 o3 := by
                  rw [qo3]
                  exact f_put_snoc qm8 qs8
                have qn3 : (M_97 330 15) + 1 = s1 + (o3.length : Int) := by
                  rw [qo3, List.length_append, qs8]
                  simp only [List.length_cons, List.length_nil]
                  omega
                refine ax_goto dX12_product_112 (pc' := 9) (by decide) ?_
                refine ax_less (ls2 := [some (.inr 330), none, none]) [true, false, false] rfl ?_
                refine ih3 (f_up (f_up (M_97 336) (2 * (M_97 330 15)) 25) (2 * (M_97 330 15) + 1) 0) ((M_97 330 15) + 1) (M_97 330 18) (M_97 330 19) (M_97 330 20) (M_97 330 21) L3 (o1 ++ o3) M_109 ?_ ?_ ?_ ?_ ?_ ?_ ?_ ?_ ?_ ?_ ?_ ?_ ?_
                · omega
                · intro x0 i0 hai
                  exact ((frM_109 x0 i0 (fun h => h.elim (fun h => hai (Or.inl h)) (fun h => hai (Or.inr (Or.inl h))))).trans ((frM_97 x0 i0 (fun h => h.elim (fun h => hai (Or.inl h)) (fun h => h.elim (fun h => hai (Or.inr (Or.inl h))) (fun h => h.elim (fun h => hai (Or.inr (Or.inr (Or.inl h)))) (fun h => h.elim (fun h => hai (Or.inr (Or.inr (Or.inr (Or.inl h))))) (fun h => h.elim (fun h => hai (Or.inr (Or.inr (Or.inr (Or.inr (Or.inl h)))))) (fun h => h.elim (fun h => hai (Or.inr (Or.inr (Or.inr (Or.inr (Or.inr (Or.inl h))))))) (fun h => h.elim (fun h => hai (Or.inr (Or.inr (Or.inr (Or.inr (Or.inr (Or.inr (Or.inl h)))))))) (fun h => hai (Or.inr (Or.inr (Or.inr (Or.inr (Or.inr (Or.inr (Or.inr h)))))))))))))))).trans ((frM_46 x0 i0 (fun h => h.elim (fun h => hai (Or.inr (Or.inr (Or.inl h)))) (fun h => h.elim (fun h => hai (Or.inr (Or.inr (Or.inr (Or.inl h))))) (fun h => h.elim (fun h => hai (Or.inr (Or.inr (Or.inr (Or.inr (Or.inl h)))))) (fun h => hai (Or.inr (Or.inr (Or.inr (Or.inr (Or.inr (Or.inl h))))))))))).trans ((fr1 x0 i0 (fun h => h.elim (fun h => hai (Or.inl h)) (fun h => h.elim (fun h => hai (Or.inr (Or.inl h))) (fun h => h.elim (fun h => hai (Or.inr (Or.inr (Or.inl h)))) (fun h => h.elim (fun h => hai (Or.inr (Or.inr (Or.inr (Or.inl h))))) (fun h => h.elim (fun h => hai (Or.inr (Or.inr (Or.inr (Or.inr (Or.inl h)))))) (fun h => h.elim (fun h => hai (Or.inr (Or.inr (Or.inr (Or.inr (Or.inr (Or.inl h))))))) (fun h => h.elim (fun h => hai (Or.inr (Or.inr (Or.inr (Or.inr (Or.inr (Or.inr (Or.inl h)))))))) (fun h => hai (Or.inr (Or.inr (Or.inr (Or.inr (Or.inr (Or.inr (Or.inr h)))))))))))))))).trans rfl))))
                · exact mrM_109_0
                · exact msM_109_0
                · exact ((frM_109 330 18 (fun h => h.elim (fun h => absurd h (by decide)) (fun h => absurd h.2 (by decide)))).trans rfl)
                · exact ((frM_109 330 19 (fun h => h.elim (fun h => absurd h (by decide)) (fun h => absurd h.2 (by decide)))).trans rfl)
                · exact ((frM_109 330 20 (fun h => h.elim (fun h => absurd h (by decide)) (fun h => absurd h.2 (by decide)))).trans rfl)
                · exact ((frM_109 330 21 (fun h => h.elim (fun h => absurd h (by decide)) (fun h => absurd h.2 (by decide)))).trans rfl)
                · exact qc3
                · rw [qp3]
                  exact f_put_more iv1_1 iv1_2
                · rw [qn3, iv1_2, List.length_append]
                  omega
                · rw [f_wt_app]
                  omega
                · rw [iv1_4, f_rep_some f_qMul_gd qq, qr3]
                  show f_pre o1 (f_pre o3 (f_rep f_qMul L3)) = f_pre (o1 ++ o3) (f_rep f_qMul L3)
                  exact f_pre_pre o1 o3 _
              · obtain ⟨kk8, ss8, qr8⟩ := f_rb_no h100
                rw [qr8] at fa97_0
                have qz : f_prod L = .inl (kk8, ss8) := by
                  rw [iv1_4]
                  refine f_rep_no f_qMul_gd ?_
                  unfold f_qMul
                  rw [if_pos (by omega), qt4, f_aft_no qr8]
                refine ax_iconst dX12_product_103 (by decide) (pc' := 104) rfl ?_
                refine ax_zret dX12_product_104 rfl (by decide) ?_
                refine ⟨rfl, ?_, ?_, ?_, ?_⟩
                · refine congrArg (fun z => some (Sum.inl z)) ?_
                  rw [qz]
                  rfl
                · intro x0 i0 hai
                  exact ((frM_97 x0 i0 (fun h => h.elim (fun h => hai (Or.inl h)) (fun h => h.elim (fun h => hai (Or.inr (Or.inl h))) (fun h => h.elim (fun h => hai (Or.inr (Or.inr (Or.inl h)))) (fun h => h.elim (fun h => hai (Or.inr (Or.inr (Or.inr (Or.inl h))))) (fun h => h.elim (fun h => hai (Or.inr (Or.inr (Or.inr (Or.inr (Or.inl h)))))) (fun h => h.elim (fun h => hai (Or.inr (Or.inr (Or.inr (Or.inr (Or.inr (Or.inl h))))))) (fun h => h.elim (fun h => hai (Or.inr (Or.inr (Or.inr (Or.inr (Or.inr (Or.inr (Or.inl h)))))))) (fun h => hai (Or.inr (Or.inr (Or.inr (Or.inr (Or.inr (Or.inr (Or.inr h)))))))))))))))).trans ((frM_46 x0 i0 (fun h => h.elim (fun h => hai (Or.inr (Or.inr (Or.inl h)))) (fun h => h.elim (fun h => hai (Or.inr (Or.inr (Or.inr (Or.inl h))))) (fun h => h.elim (fun h => hai (Or.inr (Or.inr (Or.inr (Or.inr (Or.inl h)))))) (fun h => hai (Or.inr (Or.inr (Or.inr (Or.inr (Or.inr (Or.inl h))))))))))).trans ((fr1 x0 i0 (fun h => h.elim (fun h => hai (Or.inl h)) (fun h => h.elim (fun h => hai (Or.inr (Or.inl h))) (fun h => h.elim (fun h => hai (Or.inr (Or.inr (Or.inl h)))) (fun h => h.elim (fun h => hai (Or.inr (Or.inr (Or.inr (Or.inl h))))) (fun h => h.elim (fun h => hai (Or.inr (Or.inr (Or.inr (Or.inr (Or.inl h)))))) (fun h => h.elim (fun h => hai (Or.inr (Or.inr (Or.inr (Or.inr (Or.inr (Or.inl h))))))) (fun h => h.elim (fun h => hai (Or.inr (Or.inr (Or.inr (Or.inr (Or.inr (Or.inr (Or.inl h)))))))) (fun h => hai (Or.inr (Or.inr (Or.inr (Or.inr (Or.inr (Or.inr (Or.inr h)))))))))))))))).trans ((frM_1 x0 i0 (fun h => h.elim (fun h => hai (Or.inl h)) (fun h => h.elim (fun h => hai (Or.inr (Or.inl h))) (fun h => h.elim (fun h => hai (Or.inr (Or.inr (Or.inl h)))) (fun h => h.elim (fun h => hai (Or.inr (Or.inr (Or.inr (Or.inl h))))) (fun h => h.elim (fun h => hai (Or.inr (Or.inr (Or.inr (Or.inr (Or.inl h)))))) (fun h => h.elim (fun h => hai (Or.inr (Or.inr (Or.inr (Or.inr (Or.inr (Or.inl h))))))) (fun h => h.elim (fun h => hai (Or.inr (Or.inr (Or.inr (Or.inr (Or.inr (Or.inr (Or.inl h)))))))) (fun h => hai (Or.inr (Or.inr (Or.inr (Or.inr (Or.inr (Or.inr (Or.inr h)))))))))))))))).trans rfl))))
                · exact f_pok_no qz fa97_0.1 fa97_0.2
                · have q9 : M_97 330 21 = M_97 330 21 := rfl
                  have q9b : 0 ≤ M_97 330 21 ∧ M_97 330 21 ≤ 9999 := by omega
                  exact f_r9 q9 q9b
            · exfalso
              omega
          · exfalso
            omega
        · refine ax_aload_n dX12_product_19 rfl rfl (pc' := 20) rfl ?_
          refine ax_geti (v := t1) dX12_product_20 flX12_208 rfl sh_330 ms1_330_19 rfl (pc' := 23) rfl ?_
          refine ax_sipush dX12_product_23 (by decide) (pc' := 26) rfl ?_
          refine ax_icmp_ne (tgt := 115) dX12_product_26 (by decide) (pc' := 29) rfl (fun h26 => ?_) (fun h26 => ?_)
          · have qz : f_prod L = .inr (L1, o1) := by
              rw [iv1_4, f_rep_none (by unfold f_qMul; rw [if_neg (by omega), if_neg (by omega)]), f_pre_nil]
            refine ax_iconst dX12_product_115 (by decide) (pc' := 116) rfl ?_
            refine ax_zret dX12_product_116 rfl (by decide) ?_
            refine ⟨rfl, ?_, ?_, ?_, ?_⟩
            · refine congrArg (fun z => some (Sum.inl z)) ?_
              rw [qz]
              rfl
            · intro x0 i0 hai
              exact ((fr1 x0 i0 (fun h => h.elim (fun h => hai (Or.inl h)) (fun h => h.elim (fun h => hai (Or.inr (Or.inl h))) (fun h => h.elim (fun h => hai (Or.inr (Or.inr (Or.inl h)))) (fun h => h.elim (fun h => hai (Or.inr (Or.inr (Or.inr (Or.inl h))))) (fun h => h.elim (fun h => hai (Or.inr (Or.inr (Or.inr (Or.inr (Or.inl h)))))) (fun h => h.elim (fun h => hai (Or.inr (Or.inr (Or.inr (Or.inr (Or.inr (Or.inl h))))))) (fun h => h.elim (fun h => hai (Or.inr (Or.inr (Or.inr (Or.inr (Or.inr (Or.inr (Or.inl h)))))))) (fun h => hai (Or.inr (Or.inr (Or.inr (Or.inr (Or.inr (Or.inr (Or.inr h)))))))))))))))).trans ((frM_1 x0 i0 (fun h => h.elim (fun h => hai (Or.inl h)) (fun h => h.elim (fun h => hai (Or.inr (Or.inl h))) (fun h => h.elim (fun h => hai (Or.inr (Or.inr (Or.inl h)))) (fun h => h.elim (fun h => hai (Or.inr (Or.inr (Or.inr (Or.inl h))))) (fun h => h.elim (fun h => hai (Or.inr (Or.inr (Or.inr (Or.inr (Or.inl h)))))) (fun h => h.elim (fun h => hai (Or.inr (Or.inr (Or.inr (Or.inr (Or.inr (Or.inl h))))))) (fun h => h.elim (fun h => hai (Or.inr (Or.inr (Or.inr (Or.inr (Or.inr (Or.inr (Or.inl h)))))))) (fun h => hai (Or.inr (Or.inr (Or.inr (Or.inr (Or.inr (Or.inr (Or.inr h)))))))))))))))).trans rfl))
            · refine f_pok_ok qz (Eq.trans mr1_336 ?_) (Eq.trans ms1_330_15 ?_) iv1_0 ms1_330_18 ms1_330_19 ms1_330_20 ms1_330_21 ((fr1 330 25 (fun h => h.elim (fun h => absurd h (by decide)) (fun h => h.elim (fun h => absurd h.2 (by decide)) (fun h => h.elim (fun h => absurd h.2 (by decide)) (fun h => h.elim (fun h => absurd h.2 (by decide)) (fun h => h.elim (fun h => absurd h.2 (by decide)) (fun h => h.elim (fun h => absurd h.2 (by decide)) (fun h => h.elim (fun h => absurd h.2 (by decide)) (fun h => absurd h.2 (by decide)))))))))).trans ((frM_1 330 25 (fun h => h.elim (fun h => absurd h (by decide)) (fun h => h.elim (fun h => absurd h.2 (by decide)) (fun h => h.elim (fun h => absurd h.2 (by decide)) (fun h => h.elim (fun h => absurd h.2 (by decide)) (fun h => h.elim (fun h => absurd h.2 (by decide)) (fun h => h.elim (fun h => absurd h.2 (by decide)) (fun h => h.elim (fun h => absurd h.2 (by decide)) (fun h => absurd h.2 (by decide)))))))))).trans hdp))
              · exact iv1_1
              · exact iv1_2
            · have q9 : M1 330 21 = v1 := ms1_330_21
              have q9b : 0 ≤ v1 ∧ v1 ≤ 9999 := by omega
              exact f_r9 q9 q9b
          · refine ax_aload_n dX12_product_29 rfl rfl (pc' := 30) rfl ?_
            refine ax_geti (v := t1) dX12_product_30 flX12_208 rfl sh_330 ms1_330_19 rfl (pc' := 33) rfl ?_
            refine ax_sipush dX12_product_33 (by decide) (pc' := 36) rfl ?_
            refine ax_icmp_ne (tgt := 43) dX12_product_36 (by decide) (pc' := 39) rfl (fun h36 => ?_) (fun h36 => ?_)
            · exfalso
              omega
            · refine ax_iconst dX12_product_39 (by decide) (pc' := 40) rfl ?_
              refine ax_goto dX12_product_40 (pc' := 44) (by decide) ?_
              refine ax_istore_n dX12_product_44 rfl (by decide) (ls' := [some (.inr 330), some (.inl 1), none]) rfl (pc' := 45) rfl ?_
              obtain ⟨L4, qt4, ql4, qc4⟩ := f_cur_next iv1_0 (by omega)
              have qR4 := f_cur_rg qc4
              have qh4 := f_cur_hd qc4
              refine ax_aload_n dX12_product_45 rfl rfl (pc' := 46) rfl ?_
              refine ax_invG [] [] dX12_product_46 mlX12_232 sh_330 rfl rfl rfl (Nat.le_of_ble_eq_true rfl) (s_X12_next0 E l _ (by omega) _ ((funext fun i0 => fr1 339 i0 (fun h => h.elim (fun h => absurd h (by decide)) (fun h => h.elim (fun h => absurd h.1 (by decide)) (fun h => h.elim (fun h => absurd h.1 (by decide)) (fun h => h.elim (fun h => absurd h.1 (by decide)) (fun h => h.elim (fun h => absurd h.1 (by decide)) (fun h => h.elim (fun h => absurd h.1 (by decide)) (fun h => h.elim (fun h => absurd h.1 (by decide)) (fun h => absurd h.1 (by decide)))))))))).trans ((funext fun i0 => frM_1 339 i0 (fun h => h.elim (fun h => absurd h (by decide)) (fun h => h.elim (fun h => absurd h.1 (by decide)) (fun h => h.elim (fun h => absurd h.1 (by decide)) (fun h => h.elim (fun h => absurd h.1 (by decide)) (fun h => h.elim (fun h => absurd h.1 (by decide)) (fun h => h.elim (fun h => absurd h.1 (by decide)) (fun h => h.elim (fun h => absurd h.1 (by decide)) (fun h => absurd h.1 (by decide)))))))))).trans hta)) ms1_330_18 ((fr1 330 17 (fun h => h.elim (fun h => absurd h (by decide)) (fun h => h.elim (fun h => absurd h.2 (by decide)) (fun h => h.elim (fun h => absurd h.2 (by decide)) (fun h => h.elim (fun h => absurd h.2 (by decide)) (fun h => h.elim (fun h => absurd h.2 (by decide)) (fun h => h.elim (fun h => absurd h.2 (by decide)) (fun h => h.elim (fun h => absurd h.2 (by decide)) (fun h => absurd h.2 (by decide)))))))))).trans ((frM_1 330 17 (fun h => h.elim (fun h => absurd h (by decide)) (fun h => h.elim (fun h => absurd h.2 (by decide)) (fun h => h.elim (fun h => absurd h.2 (by decide)) (fun h => h.elim (fun h => absurd h.2 (by decide)) (fun h => h.elim (fun h => absurd h.2 (by decide)) (fun h => h.elim (fun h => absurd h.2 (by decide)) (fun h => h.elim (fun h => absurd h.2 (by decide)) (fun h => absurd h.2 (by decide)))))))))).trans htn)) ((fr1 330 13 (fun h => h.elim (fun h => absurd h (by decide)) (fun h => h.elim (fun h => absurd h.2 (by decide)) (fun h => h.elim (fun h => absurd h.2 (by decide)) (fun h => h.elim (fun h => absurd h.2 (by decide)) (fun h => h.elim (fun h => absurd h.2 (by decide)) (fun h => h.elim (fun h => absurd h.2 (by decide)) (fun h => h.elim (fun h => absurd h.2 (by decide)) (fun h => absurd h.2 (by decide)))))))))).trans ((frM_1 330 13 (fun h => h.elim (fun h => absurd h (by decide)) (fun h => h.elim (fun h => absurd h.2 (by decide)) (fun h => h.elim (fun h => absurd h.2 (by decide)) (fun h => h.elim (fun h => absurd h.2 (by decide)) (fun h => h.elim (fun h => absurd h.2 (by decide)) (fun h => h.elim (fun h => absurd h.2 (by decide)) (fun h => h.elim (fun h => absurd h.2 (by decide)) (fun h => absurd h.2 (by decide)))))))))).trans hrd)) ms1_330_21 (by first | omega | assumption) (by first | omega | assumption)) (pc' := 49) rfl (fun vv M_46 hq co46 hcm46 => ?_)
              obtain ⟨rfl, frM_46, msM_46_0, msM_46_1, msM_46_2, msM_46_3⟩ := hq
              refine ax_reS (st2 := []) rfl ?_
              refine ax_iload_n dX12_product_49 rfl rfl (pc' := 50) rfl ?_
              refine ax_if_eq (tgt := 96) dX12_product_50 (by decide) (pc' := 53) rfl (fun h50 => ?_) (fun h50 => ?_)
              · exfalso
                omega
              · refine ax_aload_n dX12_product_53 rfl rfl (pc' := 54) rfl ?_
                refine ax_geti (v := f_nV ta tn p1 v1) dX12_product_54 flX12_220 rfl sh_330 msM_46_3 rfl (pc' := 57) rfl ?_
                refine ax_istore_n dX12_product_57 rfl (by decide) (ls' := [some (.inr 330), some (.inl 1), some (.inl (f_nV ta tn p1 v1))]) rfl (pc' := 58) rfl ?_
                refine ax_aload_n dX12_product_58 rfl rfl (pc' := 59) rfl ?_
                refine ax_geti (v := f_nT ta tn p1 rd) dX12_product_59 flX12_208 rfl sh_330 msM_46_1 rfl (pc' := 62) rfl ?_
                refine ax_iconst dX12_product_62 (by decide) (pc' := 63) rfl ?_
                refine ax_icmp_eq (tgt := 72) dX12_product_63 (by decide) (pc' := 66) rfl (fun h63 => ?_) (fun h63 => ?_)
                · refine ax_iload_n dX12_product_72 rfl rfl (pc' := 73) rfl ?_
                  refine ax_if_ne (tgt := 82) dX12_product_73 (by decide) (pc' := 76) rfl (fun h73 => ?_) (fun h73 => ?_)
                  · have qv4 : f_V L4 = f_nV ta tn p1 v1 := qh4.2.1
                    obtain ⟨o3, qo3⟩ : ∃ z, z = [((26 : Int), f_nV ta tn p1 v1)] := ⟨_, rfl⟩
                    obtain ⟨L3, qt3, ql3, qc3⟩ := f_cur_next qc4 (by omega)
                    have qR3 := f_cur_rg qc3
                    have qh3 := f_cur_hd qc3
                    have qq0 : f_qMul L1 = some (.inr (L3, o3)) := by
                      unfold f_qMul
                      rw [if_neg (by omega), if_pos (by omega), qt4, if_neg (by omega), if_neg (by omega), qt3, qv4, qo3]
                    have qr3 : (.inr (L3, o3) : f_Rs) = .inr (L3, o3) := rfl
                    have qq := qq0
                    have qg3 := f_qMul_gd L1 _ qq L3 o3 rfl
                    have qw3 := f_wt_len o3
                    refine ax_aload_n dX12_product_82 rfl rfl (pc' := 83) rfl ?_
                    refine ax_invG [] [] dX12_product_83 mlX12_232 sh_330 rfl rfl rfl (Nat.le_of_ble_eq_true rfl) (s_X12_next0 E l _ (by omega) _ ((funext fun i0 => frM_46 339 i0 (fun h => h.elim (fun h => absurd h.1 (by decide)) (fun h => h.elim (fun h => absurd h.1 (by decide)) (fun h => h.elim (fun h => absurd h.1 (by decide)) (fun h => absurd h.1 (by decide)))))).trans ((funext fun i0 => fr1 339 i0 (fun h => h.elim (fun h => absurd h (by decide)) (fun h => h.elim (fun h => absurd h.1 (by decide)) (fun h => h.elim (fun h => absurd h.1 (by decide)) (fun h => h.elim (fun h => absurd h.1 (by decide)) (fun h => h.elim (fun h => absurd h.1 (by decide)) (fun h => h.elim (fun h => absurd h.1 (by decide)) (fun h => h.elim (fun h => absurd h.1 (by decide)) (fun h => absurd h.1 (by decide)))))))))).trans ((funext fun i0 => frM_1 339 i0 (fun h => h.elim (fun h => absurd h (by decide)) (fun h => h.elim (fun h => absurd h.1 (by decide)) (fun h => h.elim (fun h => absurd h.1 (by decide)) (fun h => h.elim (fun h => absurd h.1 (by decide)) (fun h => h.elim (fun h => absurd h.1 (by decide)) (fun h => h.elim (fun h => absurd h.1 (by decide)) (fun h => h.elim (fun h => absurd h.1 (by decide)) (fun h => absurd h.1 (by decide)))))))))).trans hta))) msM_46_0 ((frM_46 330 17 (fun h => h.elim (fun h => absurd h.2 (by decide)) (fun h => h.elim (fun h => absurd h.2 (by decide)) (fun h => h.elim (fun h => absurd h.2 (by decide)) (fun h => absurd h.2 (by decide)))))).trans ((fr1 330 17 (fun h => h.elim (fun h => absurd h (by decide)) (fun h => h.elim (fun h => absurd h.2 (by decide)) (fun h => h.elim (fun h => absurd h.2 (by decide)) (fun h => h.elim (fun h => absurd h.2 (by decide)) (fun h => h.elim (fun h => absurd h.2 (by decide)) (fun h => h.elim (fun h => absurd h.2 (by decide)) (fun h => h.elim (fun h => absurd h.2 (by decide)) (fun h => absurd h.2 (by decide)))))))))).trans ((frM_1 330 17 (fun h => h.elim (fun h => absurd h (by decide)) (fun h => h.elim (fun h => absurd h.2 (by decide)) (fun h => h.elim (fun h => absurd h.2 (by decide)) (fun h => h.elim (fun h => absurd h.2 (by decide)) (fun h => h.elim (fun h => absurd h.2 (by decide)) (fun h => h.elim (fun h => absurd h.2 (by decide)) (fun h => h.elim (fun h => absurd h.2 (by decide)) (fun h => absurd h.2 (by decide)))))))))).trans htn))) ((frM_46 330 13 (fun h => h.elim (fun h => absurd h.2 (by decide)) (fun h => h.elim (fun h => absurd h.2 (by decide)) (fun h => h.elim (fun h => absurd h.2 (by decide)) (fun h => absurd h.2 (by decide)))))).trans ((fr1 330 13 (fun h => h.elim (fun h => absurd h (by decide)) (fun h => h.elim (fun h => absurd h.2 (by decide)) (fun h => h.elim (fun h => absurd h.2 (by decide)) (fun h => h.elim (fun h => absurd h.2 (by decide)) (fun h => h.elim (fun h => absurd h.2 (by decide)) (fun h => h.elim (fun h => absurd h.2 (by decide)) (fun h => h.elim (fun h => absurd h.2 (by decide)) (fun h => absurd h.2 (by decide)))))))))).trans ((frM_1 330 13 (fun h => h.elim (fun h => absurd h (by decide)) (fun h => h.elim (fun h => absurd h.2 (by decide)) (fun h => h.elim (fun h => absurd h.2 (by decide)) (fun h => h.elim (fun h => absurd h.2 (by decide)) (fun h => h.elim (fun h => absurd h.2 (by decide)) (fun h => h.elim (fun h => absurd h.2 (by decide)) (fun h => h.elim (fun h => absurd h.2 (by decide)) (fun h => absurd h.2 (by decide)))))))))).trans hrd))) msM_46_3 (by first | omega | assumption) (by first | omega | assumption)) (pc' := 86) rfl (fun vv M_83 hq co83 hcm83 => ?_)
                    obtain ⟨rfl, frM_83, msM_83_0, msM_83_1, msM_83_2, msM_83_3⟩ := hq
                    refine ax_reS (st2 := []) rfl ?_
                    refine ax_aload_n dX12_product_86 rfl rfl (pc' := 87) rfl ?_
                    refine ax_bipush dX12_product_87 (by decide) (pc' := 89) rfl ?_
                    refine ax_iload_n dX12_product_89 rfl rfl (pc' := 90) rfl ?_
                    refine ax_invG [.inl 26, .inl (f_nV ta tn p1 v1)] [] dX12_product_90 mlX12_245 sh_330 rfl rfl rfl (Nat.le_of_ble_eq_true rfl) (s_X12_lay E l _ (by omega) _ 26 (f_nV ta tn p1 v1) ((funext fun i0 => frM_83 336 i0 (fun h => h.elim (fun h => absurd h.1 (by decide)) (fun h => h.elim (fun h => absurd h.1 (by decide)) (fun h => h.elim (fun h => absurd h.1 (by decide)) (fun h => absurd h.1 (by decide)))))).trans ((funext fun i0 => frM_46 336 i0 (fun h => h.elim (fun h => absurd h.1 (by decide)) (fun h => h.elim (fun h => absurd h.1 (by decide)) (fun h => h.elim (fun h => absurd h.1 (by decide)) (fun h => absurd h.1 (by decide)))))).trans mr1_336)) ((frM_83 330 15 (fun h => h.elim (fun h => absurd h.2 (by decide)) (fun h => h.elim (fun h => absurd h.2 (by decide)) (fun h => h.elim (fun h => absurd h.2 (by decide)) (fun h => absurd h.2 (by decide)))))).trans ((frM_46 330 15 (fun h => h.elim (fun h => absurd h.2 (by decide)) (fun h => h.elim (fun h => absurd h.2 (by decide)) (fun h => h.elim (fun h => absurd h.2 (by decide)) (fun h => absurd h.2 (by decide)))))).trans ms1_330_15)) (by first | omega | assumption)) (pc' := 93) rfl (fun vv M_90 hq co90 hcm90 => ?_)
                    obtain ⟨rfl, frM_90, mrM_90_0, msM_90_0⟩ := hq
                    refine ax_reS (st2 := []) rfl ?_
                    have qp3 : f_up (f_up f1 (2 * s1) 26) (2 * s1 + 1) (f_nV ta tn p1 v1) = f_put f1 s1 o3 := by
                      rw [qo3]
                      rfl
                    have qn3 : s1 + 1 = s1 + (o3.length : Int) := by
                      rw [qo3]
                      rfl
                    refine ax_goto dX12_product_93 (pc' := 112) (by decide) ?_
                    
                    refine ax_goto dX12_product_112 (pc' := 9) (by decide) ?_
                    refine ax_less (ls2 := [some (.inr 330), none, none]) [true, false, false] rfl ?_
                    refine ih3 (f_up (f_up f1 (2 * s1) 26) (2 * s1 + 1) (f_nV ta tn p1 v1)) (s1 + 1) (f_nE ta tn (f_nE ta tn p1)) (f_nT ta tn (f_nE ta tn p1) rd) (f_nS ta tn (f_nE ta tn p1)) (f_nV ta tn (f_nE ta tn p1) (f_nV ta tn p1 v1)) L3 (o1 ++ o3) M_90 ?_ ?_ ?_ ?_ ?_ ?_ ?_ ?_ ?_ ?_ ?_ ?_ ?_
                    · omega
                    · intro x0 i0 hai
                      exact ((frM_90 x0 i0 (fun h => h.elim (fun h => hai (Or.inl h)) (fun h => hai (Or.inr (Or.inl h))))).trans ((frM_83 x0 i0 (fun h => h.elim (fun h => hai (Or.inr (Or.inr (Or.inl h)))) (fun h => h.elim (fun h => hai (Or.inr (Or.inr (Or.inr (Or.inl h))))) (fun h => h.elim (fun h => hai (Or.inr (Or.inr (Or.inr (Or.inr (Or.inl h)))))) (fun h => hai (Or.inr (Or.inr (Or.inr (Or.inr (Or.inr (Or.inl h))))))))))).trans ((frM_46 x0 i0 (fun h => h.elim (fun h => hai (Or.inr (Or.inr (Or.inl h)))) (fun h => h.elim (fun h => hai (Or.inr (Or.inr (Or.inr (Or.inl h))))) (fun h => h.elim (fun h => hai (Or.inr (Or.inr (Or.inr (Or.inr (Or.inl h)))))) (fun h => hai (Or.inr (Or.inr (Or.inr (Or.inr (Or.inr (Or.inl h))))))))))).trans ((fr1 x0 i0 (fun h => h.elim (fun h => hai (Or.inl h)) (fun h => h.elim (fun h => hai (Or.inr (Or.inl h))) (fun h => h.elim (fun h => hai (Or.inr (Or.inr (Or.inl h)))) (fun h => h.elim (fun h => hai (Or.inr (Or.inr (Or.inr (Or.inl h))))) (fun h => h.elim (fun h => hai (Or.inr (Or.inr (Or.inr (Or.inr (Or.inl h)))))) (fun h => h.elim (fun h => hai (Or.inr (Or.inr (Or.inr (Or.inr (Or.inr (Or.inl h))))))) (fun h => h.elim (fun h => hai (Or.inr (Or.inr (Or.inr (Or.inr (Or.inr (Or.inr (Or.inl h)))))))) (fun h => hai (Or.inr (Or.inr (Or.inr (Or.inr (Or.inr (Or.inr (Or.inr h)))))))))))))))).trans rfl))))
                    · exact mrM_90_0
                    · exact msM_90_0
                    · exact ((frM_90 330 18 (fun h => h.elim (fun h => absurd h (by decide)) (fun h => absurd h.2 (by decide)))).trans msM_83_0)
                    · exact ((frM_90 330 19 (fun h => h.elim (fun h => absurd h (by decide)) (fun h => absurd h.2 (by decide)))).trans msM_83_1)
                    · exact ((frM_90 330 20 (fun h => h.elim (fun h => absurd h (by decide)) (fun h => absurd h.2 (by decide)))).trans msM_83_2)
                    · exact ((frM_90 330 21 (fun h => h.elim (fun h => absurd h (by decide)) (fun h => absurd h.2 (by decide)))).trans msM_83_3)
                    · exact qc3
                    · rw [qp3]
                      exact f_put_more iv1_1 iv1_2
                    · rw [qn3, iv1_2, List.length_append]
                      omega
                    · rw [f_wt_app]
                      omega
                    · rw [iv1_4, f_rep_some f_qMul_gd qq, qr3]
                      show f_pre o1 (f_pre o3 (f_rep f_qMul L3)) = f_pre (o1 ++ o3) (f_rep f_qMul L3)
                      exact f_pre_pre o1 o3 _
                  · have qz : f_prod L = .inl (2, f_nS ta tn p1) := by
                      rw [iv1_4]
                      refine f_rep_no f_qMul_gd ?_
                      unfold f_qMul
                      rw [if_neg (by omega), if_pos (by omega), qt4, if_neg (by omega), if_pos (by omega), qh4.2.2]
                    refine ax_aload_n dX12_product_76 rfl rfl (pc' := 77) rfl ?_
                    refine ax_iconst dX12_product_77 (by decide) (pc' := 78) rfl ?_
                    refine ax_invG [.inl 2] [] dX12_product_78 mlX12_229 sh_330 rfl rfl rfl (Nat.le_of_ble_eq_true rfl) (s_X12_bad E l _ (by omega) _ 2 msM_46_2) (pc' := 81) rfl (fun vv M_78 hq co78 hcm78 => ?_)
                    obtain ⟨rfl, frM_78, msM_78_0, msM_78_1⟩ := hq
                    refine ax_reS (st2 := [.inl 0]) rfl ?_
                    refine ax_zret dX12_product_81 rfl (by decide) ?_
                    refine ⟨rfl, ?_, ?_, ?_, ?_⟩
                    · refine congrArg (fun z => some (Sum.inl z)) ?_
                      rw [qz]
                      rfl
                    · intro x0 i0 hai
                      exact ((frM_78 x0 i0 (fun h => h.elim (fun h => hai (Or.inr (Or.inr (Or.inr (Or.inr (Or.inr (Or.inr (Or.inl h)))))))) (fun h => hai (Or.inr (Or.inr (Or.inr (Or.inr (Or.inr (Or.inr (Or.inr h)))))))))).trans ((frM_46 x0 i0 (fun h => h.elim (fun h => hai (Or.inr (Or.inr (Or.inl h)))) (fun h => h.elim (fun h => hai (Or.inr (Or.inr (Or.inr (Or.inl h))))) (fun h => h.elim (fun h => hai (Or.inr (Or.inr (Or.inr (Or.inr (Or.inl h)))))) (fun h => hai (Or.inr (Or.inr (Or.inr (Or.inr (Or.inr (Or.inl h))))))))))).trans ((fr1 x0 i0 (fun h => h.elim (fun h => hai (Or.inl h)) (fun h => h.elim (fun h => hai (Or.inr (Or.inl h))) (fun h => h.elim (fun h => hai (Or.inr (Or.inr (Or.inl h)))) (fun h => h.elim (fun h => hai (Or.inr (Or.inr (Or.inr (Or.inl h))))) (fun h => h.elim (fun h => hai (Or.inr (Or.inr (Or.inr (Or.inr (Or.inl h)))))) (fun h => h.elim (fun h => hai (Or.inr (Or.inr (Or.inr (Or.inr (Or.inr (Or.inl h))))))) (fun h => h.elim (fun h => hai (Or.inr (Or.inr (Or.inr (Or.inr (Or.inr (Or.inr (Or.inl h)))))))) (fun h => hai (Or.inr (Or.inr (Or.inr (Or.inr (Or.inr (Or.inr (Or.inr h)))))))))))))))).trans ((frM_1 x0 i0 (fun h => h.elim (fun h => hai (Or.inl h)) (fun h => h.elim (fun h => hai (Or.inr (Or.inl h))) (fun h => h.elim (fun h => hai (Or.inr (Or.inr (Or.inl h)))) (fun h => h.elim (fun h => hai (Or.inr (Or.inr (Or.inr (Or.inl h))))) (fun h => h.elim (fun h => hai (Or.inr (Or.inr (Or.inr (Or.inr (Or.inl h)))))) (fun h => h.elim (fun h => hai (Or.inr (Or.inr (Or.inr (Or.inr (Or.inr (Or.inl h))))))) (fun h => h.elim (fun h => hai (Or.inr (Or.inr (Or.inr (Or.inr (Or.inr (Or.inr (Or.inl h)))))))) (fun h => hai (Or.inr (Or.inr (Or.inr (Or.inr (Or.inr (Or.inr (Or.inr h)))))))))))))))).trans rfl))))
                    · exact f_pok_no qz msM_78_0 msM_78_1
                    · have q9 : M_78 330 21 = f_nV ta tn p1 v1 := ((frM_78 330 21 (fun h => h.elim (fun h => absurd h.2 (by decide)) (fun h => absurd h.2 (by decide)))).trans msM_46_3)
                      have q9b : 0 ≤ f_nV ta tn p1 v1 ∧ f_nV ta tn p1 v1 ≤ 9999 := by omega
                      exact f_r9 q9 q9b
                · have qz : f_prod L = .inl (1, f_nS ta tn p1) := by
                    rw [iv1_4]
                    refine f_rep_no f_qMul_gd ?_
                    unfold f_qMul
                    rw [if_neg (by omega), if_pos (by omega), qt4, if_pos (by omega), qh4.2.2]
                  refine ax_aload_n dX12_product_66 rfl rfl (pc' := 67) rfl ?_
                  refine ax_iconst dX12_product_67 (by decide) (pc' := 68) rfl ?_
                  refine ax_invG [.inl 1] [] dX12_product_68 mlX12_229 sh_330 rfl rfl rfl (Nat.le_of_ble_eq_true rfl) (s_X12_bad E l _ (by omega) _ 1 msM_46_2) (pc' := 71) rfl (fun vv M_68 hq co68 hcm68 => ?_)
                  obtain ⟨rfl, frM_68, msM_68_0, msM_68_1⟩ := hq
                  refine ax_reS (st2 := [.inl 0]) rfl ?_
                  refine ax_zret dX12_product_71 rfl (by decide) ?_
                  refine ⟨rfl, ?_, ?_, ?_, ?_⟩
                  · refine congrArg (fun z => some (Sum.inl z)) ?_
                    rw [qz]
                    rfl
                  · intro x0 i0 hai
                    exact ((frM_68 x0 i0 (fun h => h.elim (fun h => hai (Or.inr (Or.inr (Or.inr (Or.inr (Or.inr (Or.inr (Or.inl h)))))))) (fun h => hai (Or.inr (Or.inr (Or.inr (Or.inr (Or.inr (Or.inr (Or.inr h)))))))))).trans ((frM_46 x0 i0 (fun h => h.elim (fun h => hai (Or.inr (Or.inr (Or.inl h)))) (fun h => h.elim (fun h => hai (Or.inr (Or.inr (Or.inr (Or.inl h))))) (fun h => h.elim (fun h => hai (Or.inr (Or.inr (Or.inr (Or.inr (Or.inl h)))))) (fun h => hai (Or.inr (Or.inr (Or.inr (Or.inr (Or.inr (Or.inl h))))))))))).trans ((fr1 x0 i0 (fun h => h.elim (fun h => hai (Or.inl h)) (fun h => h.elim (fun h => hai (Or.inr (Or.inl h))) (fun h => h.elim (fun h => hai (Or.inr (Or.inr (Or.inl h)))) (fun h => h.elim (fun h => hai (Or.inr (Or.inr (Or.inr (Or.inl h))))) (fun h => h.elim (fun h => hai (Or.inr (Or.inr (Or.inr (Or.inr (Or.inl h)))))) (fun h => h.elim (fun h => hai (Or.inr (Or.inr (Or.inr (Or.inr (Or.inr (Or.inl h))))))) (fun h => h.elim (fun h => hai (Or.inr (Or.inr (Or.inr (Or.inr (Or.inr (Or.inr (Or.inl h)))))))) (fun h => hai (Or.inr (Or.inr (Or.inr (Or.inr (Or.inr (Or.inr (Or.inr h)))))))))))))))).trans ((frM_1 x0 i0 (fun h => h.elim (fun h => hai (Or.inl h)) (fun h => h.elim (fun h => hai (Or.inr (Or.inl h))) (fun h => h.elim (fun h => hai (Or.inr (Or.inr (Or.inl h)))) (fun h => h.elim (fun h => hai (Or.inr (Or.inr (Or.inr (Or.inl h))))) (fun h => h.elim (fun h => hai (Or.inr (Or.inr (Or.inr (Or.inr (Or.inl h)))))) (fun h => h.elim (fun h => hai (Or.inr (Or.inr (Or.inr (Or.inr (Or.inr (Or.inl h))))))) (fun h => h.elim (fun h => hai (Or.inr (Or.inr (Or.inr (Or.inr (Or.inr (Or.inr (Or.inl h)))))))) (fun h => hai (Or.inr (Or.inr (Or.inr (Or.inr (Or.inr (Or.inr (Or.inr h)))))))))))))))).trans rfl))))
                  · exact f_pok_no qz msM_68_0 msM_68_1
                  · have q9 : M_68 330 21 = f_nV ta tn p1 v1 := ((frM_68 330 21 (fun h => h.elim (fun h => absurd h.2 (by decide)) (fun h => absurd h.2 (by decide)))).trans msM_46_3)
                    have q9b : 0 ≤ f_nV ta tn p1 v1 ∧ f_nV ta tn p1 v1 ≤ 9999 := by omega
                    exact f_r9 q9 q9b
    refine LP1 ((L2.length : Int) : Int).toNat.succ (M_1 336) (M_1 330 15) (M_1 330 18) (M_1 330 19) (M_1 330 20) (M_1 330 21) L2 o2 M_1 ?_ ?_ ?_ ?_ ?_ ?_ ?_ ?_ ?_ ?_ ?_ ?_ ?_
    · omega
    · exact fun a i _ => rfl
    · exact rfl
    · exact rfl
    · exact rfl
    · exact rfl
    · exact rfl
    · exact rfl
    · exact qc2
    · exact qm2
    · exact qs2
    · omega
    · unfold f_prod
      rw [qr2]
      rfl
  · obtain ⟨kk2, ss2, qr2⟩ := f_rb_no h4
    rw [qr2] at fa1_0
    have qz : f_prod L = .inl (kk2, ss2) := by
      unfold f_prod
      rw [qr2]
      rfl
    refine ax_iconst dX12_product_7 (by decide) (pc' := 8) rfl ?_
    refine ax_zret dX12_product_8 rfl (by decide) ?_
    refine ⟨rfl, ?_, ?_, ?_, ?_⟩
    · refine congrArg (fun z => some (Sum.inl z)) ?_
      rw [qz]
      rfl
    · intro x0 i0 hai
      exact ((frM_1 x0 i0 (fun h => h.elim (fun h => hai (Or.inl h)) (fun h => h.elim (fun h => hai (Or.inr (Or.inl h))) (fun h => h.elim (fun h => hai (Or.inr (Or.inr (Or.inl h)))) (fun h => h.elim (fun h => hai (Or.inr (Or.inr (Or.inr (Or.inl h))))) (fun h => h.elim (fun h => hai (Or.inr (Or.inr (Or.inr (Or.inr (Or.inl h)))))) (fun h => h.elim (fun h => hai (Or.inr (Or.inr (Or.inr (Or.inr (Or.inr (Or.inl h))))))) (fun h => h.elim (fun h => hai (Or.inr (Or.inr (Or.inr (Or.inr (Or.inr (Or.inr (Or.inl h)))))))) (fun h => hai (Or.inr (Or.inr (Or.inr (Or.inr (Or.inr (Or.inr (Or.inr h)))))))))))))))).trans rfl)
    · exact f_pok_no qz fa1_0.1 fa1_0.2
    · have q9 : M_1 330 21 = M_1 330 21 := rfl
      have q9b : 0 ≤ M_1 330 21 ∧ M_1 330 21 ≤ 9999 := by omega
      exact f_r9 q9 q9b
set_option maxRecDepth 20000 in
theorem s_X12_sumUp (E : ax_Env) (l : Launch) (d : Nat) (hd : 12 ≤ d) (M : ax_Mem) (L : List f_Tk) {ta : Int → Int} (hta : M 339 = ta) {fs : Int → Int} (hfs : M 336 = fs) {p0 : Int} (hp0 : M 330 18 = p0) {to : Int} (hto : M 330 19 = to) {tk : Int} (htk : M 330 20 = tk) {v0 : Int} (hv0 : M 330 21 = v0) {sn : Int} (hsn : M 330 15 = sn) {dp : Int} (hdp : M 330 25 = dp) {tn : Int} (htn : M 330 17 = tn) {rd : Int} (hrd : M 330 13 = rd) (hg0 : 0 ≤ tn ∧ tn ≤ 400) (hg1 : f_tp ta tn) (hg2 : f_cur ta tn rd L p0 to tk v0) (hg3 : 0 ≤ sn ∧ sn + (L.length : Int) ≤ 405) : ax_G E l d iX12_sumUp [.inr 330] M (fun z0 M2 => z0 = some (.inl (f_rb (f_sumU L))) ∧ (∀ x0 i0 : Int, ¬ (x0 = 336 ∨ (x0 = 330 ∧ i0 = 15) ∨ (x0 = 330 ∧ i0 = 18) ∨ (x0 = 330 ∧ i0 = 19) ∨ (x0 = 330 ∧ i0 = 20) ∨ (x0 = 330 ∧ i0 = 21) ∨ (x0 = 330 ∧ i0 = 22) ∨ (x0 = 330 ∧ i0 = 23)) → M2 x0 i0 = M x0 i0) ∧ (f_pok ta tn rd fs sn dp (f_sumU L) M2) ∧ (0 ≤ M2 330 21 ∧ M2 330 21 ≤ 9999)) := by
  obtain ⟨d, rfl⟩ : ∃ d0, d = d0 + 1 := ⟨d - 1, by omega⟩
  refine ax_start rfl (Nat.le_of_ble_eq_true rfl) (ls := [some (.inr 330), none]) rfl (fun hav hcm => ?_)
  clear hav
  have qR := f_cur_rg hg2
  have qh := f_cur_hd hg2
  refine ax_aload_n dX12_sumUp_0 rfl rfl (pc' := 1) rfl ?_
  refine ax_invG [] [] dX12_sumUp_1 mlX12_241 sh_330 rfl rfl rfl (Nat.le_of_ble_eq_true rfl) (s_X12_product E l _ (by omega) _ L hta hfs hp0 hto htk hv0 hsn hdp htn hrd (by first | omega | assumption) (by first | omega | assumption) (by first | omega | assumption) (by first | omega | assumption)) (pc' := 4) rfl (fun vv M_1 hq co1 hcm1 => ?_)
  obtain ⟨rfl, frM_1, fa1_0, fa1_1⟩ := hq
  refine ax_reS (st2 := [.inl (f_rb (f_prod L))]) rfl ?_
  have cc1 : -2147483648 ≤ f_rb (f_prod L) ∧ f_rb (f_prod L) < 2147483648 := co1 _ rfl
  refine ax_if_ne (tgt := 9) dX12_sumUp_4 (by decide) (pc' := 7) rfl (fun h4 => ?_) (fun h4 => ?_)
  · obtain ⟨L2, o2, qr2⟩ := f_rb_ok h4
    rw [qr2] at fa1_0
    obtain ⟨qm2, qs2, qc2, qd2⟩ := fa1_0
    have qg2 := f_prod_gd _ L2 o2 qr2
    have qR2 := f_cur_rg qc2
    have qh2 := f_cur_hd qc2
    have qw2 := f_wt_len o2
    have LP1 : ∀ (kq2 : Nat) (f1 : Int → Int) (s1 p1 t1 k1 v1 : Int) (L1 : List f_Tk) (o1 : List f_Op) (M1 : ax_Mem) (hm1 : (L1.length : Int) < (kq2 : Nat)) (fr1 : ∀ x0 i0 : Int, ¬ (x0 = 336 ∨ (x0 = 330 ∧ i0 = 15) ∨ (x0 = 330 ∧ i0 = 18) ∨ (x0 = 330 ∧ i0 = 19) ∨ (x0 = 330 ∧ i0 = 20) ∨ (x0 = 330 ∧ i0 = 21) ∨ (x0 = 330 ∧ i0 = 22) ∨ (x0 = 330 ∧ i0 = 23)) → M1 x0 i0 = M_1 x0 i0) (mr1_336 : M1 336 = f1) (ms1_330_15 : M1 330 15 = s1) (ms1_330_18 : M1 330 18 = p1) (ms1_330_19 : M1 330 19 = t1) (ms1_330_20 : M1 330 20 = k1) (ms1_330_21 : M1 330 21 = v1) (iv1_0 : f_cur ta tn rd L1 p1 t1 k1 v1) (iv1_1 : f1 = f_put fs sn o1) (iv1_2 : s1 = sn + (o1.length : Int)) (iv1_3 : f_wt o1 + L1.length ≤ L.length) (iv1_4 : f_sumU L = f_pre o1 (f_rep f_qAdd L1)), ax_W E l (d + 1) 0 0 iX12_sumUp 9 [some (.inr 330), none] [] SH M1 (ax_P (fun z0 M2 => z0 = some (.inl (f_rb (f_sumU L))) ∧ (∀ x0 i0 : Int, ¬ (x0 = 336 ∨ (x0 = 330 ∧ i0 = 15) ∨ (x0 = 330 ∧ i0 = 18) ∨ (x0 = 330 ∧ i0 = 19) ∨ (x0 = 330 ∧ i0 = 20) ∨ (x0 = 330 ∧ i0 = 21) ∨ (x0 = 330 ∧ i0 = 22) ∨ (x0 = 330 ∧ i0 = 23)) → M2 x0 i0 = M x0 i0) ∧ (f_pok ta tn rd fs sn dp (f_sumU L) M2) ∧ (0 ≤ M2 330 21 ∧ M2 330 21 ≤ 9999))) := by
      intro kq2
      induction kq2 with
      | zero =>
        intro f1 s1 p1 t1 k1 v1 L1 o1 M1 hm1 fr1 mr1_336 ms1_330_15 ms1_330_18 ms1_330_19 ms1_330_20 ms1_330_21 iv1_0 iv1_1 iv1_2 iv1_3 iv1_4
        exfalso
        omega
      | succ kq2 ih3 =>
        intro f1 s1 p1 t1 k1 v1 L1 o1 M1 hm1 fr1 mr1_336 ms1_330_15 ms1_330_18 ms1_330_19 ms1_330_20 ms1_330_21 iv1_0 iv1_1 iv1_2 iv1_3 iv1_4
        have qR1 := f_cur_rg iv1_0
        have qh1 := f_cur_hd iv1_0
        have qw1 := f_wt_len o1
        refine ax_aload_n dX12_sumUp_9 rfl rfl (pc' := 10) rfl ?_
        refine ax_geti (v := t1) dX12_sumUp_10 flX12_208 rfl sh_330 ms1_330_19 rfl (pc' := 13) rfl ?_
        refine ax_sipush dX12_sumUp_13 (by decide) (pc' := 16) rfl ?_
        refine ax_icmp_eq (tgt := 29) dX12_sumUp_16 (by decide) (pc' := 19) rfl (fun h16 => ?_) (fun h16 => ?_)
        · refine ax_aload_n dX12_sumUp_29 rfl rfl (pc' := 30) rfl ?_
          refine ax_geti (v := t1) dX12_sumUp_30 flX12_208 rfl sh_330 ms1_330_19 rfl (pc' := 33) rfl ?_
          refine ax_sipush dX12_sumUp_33 (by decide) (pc' := 36) rfl ?_
          refine ax_icmp_ne (tgt := 44) dX12_sumUp_36 (by decide) (pc' := 39) rfl (fun h36 => ?_) (fun h36 => ?_)
          · exfalso
            omega
          · obtain ⟨hw, qhw⟩ : ∃ z : Int, z = 23 := ⟨_, rfl⟩
            have qq1 : f_qAdd L1 = some (f_aft [(hw, 0)] (f_prod L1.tail)) := by
              unfold f_qAdd
              rw [if_pos (by omega), qhw]
            refine ax_bipush dX12_sumUp_39 (by decide) (pc' := 41) rfl ?_
            refine ax_goto dX12_sumUp_41 (pc' := 46) (by decide) ?_
            refine ax_istore_n dX12_sumUp_46 rfl (by decide) (ls' := [some (.inr 330), some (.inl 23)]) rfl (pc' := 47) rfl ?_
            obtain ⟨L4, qt4, ql4, qc4⟩ := f_cur_next iv1_0 (by omega)
            have qR4 := f_cur_rg qc4
            have qh4 := f_cur_hd qc4
            refine ax_aload_n dX12_sumUp_47 rfl rfl (pc' := 48) rfl ?_
            refine ax_invG [] [] dX12_sumUp_48 mlX12_232 sh_330 rfl rfl rfl (Nat.le_of_ble_eq_true rfl) (s_X12_next0 E l _ (by omega) _ ((funext fun i0 => fr1 339 i0 (fun h => h.elim (fun h => absurd h (by decide)) (fun h => h.elim (fun h => absurd h.1 (by decide)) (fun h => h.elim (fun h => absurd h.1 (by decide)) (fun h => h.elim (fun h => absurd h.1 (by decide)) (fun h => h.elim (fun h => absurd h.1 (by decide)) (fun h => h.elim (fun h => absurd h.1 (by decide)) (fun h => h.elim (fun h => absurd h.1 (by decide)) (fun h => absurd h.1 (by decide)))))))))).trans ((funext fun i0 => frM_1 339 i0 (fun h => h.elim (fun h => absurd h (by decide)) (fun h => h.elim (fun h => absurd h.1 (by decide)) (fun h => h.elim (fun h => absurd h.1 (by decide)) (fun h => h.elim (fun h => absurd h.1 (by decide)) (fun h => h.elim (fun h => absurd h.1 (by decide)) (fun h => h.elim (fun h => absurd h.1 (by decide)) (fun h => h.elim (fun h => absurd h.1 (by decide)) (fun h => absurd h.1 (by decide)))))))))).trans hta)) ms1_330_18 ((fr1 330 17 (fun h => h.elim (fun h => absurd h (by decide)) (fun h => h.elim (fun h => absurd h.2 (by decide)) (fun h => h.elim (fun h => absurd h.2 (by decide)) (fun h => h.elim (fun h => absurd h.2 (by decide)) (fun h => h.elim (fun h => absurd h.2 (by decide)) (fun h => h.elim (fun h => absurd h.2 (by decide)) (fun h => h.elim (fun h => absurd h.2 (by decide)) (fun h => absurd h.2 (by decide)))))))))).trans ((frM_1 330 17 (fun h => h.elim (fun h => absurd h (by decide)) (fun h => h.elim (fun h => absurd h.2 (by decide)) (fun h => h.elim (fun h => absurd h.2 (by decide)) (fun h => h.elim (fun h => absurd h.2 (by decide)) (fun h => h.elim (fun h => absurd h.2 (by decide)) (fun h => h.elim (fun h => absurd h.2 (by decide)) (fun h => h.elim (fun h => absurd h.2 (by decide)) (fun h => absurd h.2 (by decide)))))))))).trans htn)) ((fr1 330 13 (fun h => h.elim (fun h => absurd h (by decide)) (fun h => h.elim (fun h => absurd h.2 (by decide)) (fun h => h.elim (fun h => absurd h.2 (by decide)) (fun h => h.elim (fun h => absurd h.2 (by decide)) (fun h => h.elim (fun h => absurd h.2 (by decide)) (fun h => h.elim (fun h => absurd h.2 (by decide)) (fun h => h.elim (fun h => absurd h.2 (by decide)) (fun h => absurd h.2 (by decide)))))))))).trans ((frM_1 330 13 (fun h => h.elim (fun h => absurd h (by decide)) (fun h => h.elim (fun h => absurd h.2 (by decide)) (fun h => h.elim (fun h => absurd h.2 (by decide)) (fun h => h.elim (fun h => absurd h.2 (by decide)) (fun h => h.elim (fun h => absurd h.2 (by decide)) (fun h => h.elim (fun h => absurd h.2 (by decide)) (fun h => h.elim (fun h => absurd h.2 (by decide)) (fun h => absurd h.2 (by decide)))))))))).trans hrd)) ms1_330_21 (by first | omega | assumption) (by first | omega | assumption)) (pc' := 51) rfl (fun vv M_48 hq co48 hcm48 => ?_)
            obtain ⟨rfl, frM_48, msM_48_0, msM_48_1, msM_48_2, msM_48_3⟩ := hq
            refine ax_reS (st2 := []) rfl ?_
            refine ax_aload_n dX12_sumUp_51 rfl rfl (pc' := 52) rfl ?_
            refine ax_invG [] [] dX12_sumUp_52 mlX12_241 sh_330 rfl rfl rfl (Nat.le_of_ble_eq_true rfl) (s_X12_product E l _ (by omega) _ L4 ((funext fun i0 => frM_48 339 i0 (fun h => h.elim (fun h => absurd h.1 (by decide)) (fun h => h.elim (fun h => absurd h.1 (by decide)) (fun h => h.elim (fun h => absurd h.1 (by decide)) (fun h => absurd h.1 (by decide)))))).trans ((funext fun i0 => fr1 339 i0 (fun h => h.elim (fun h => absurd h (by decide)) (fun h => h.elim (fun h => absurd h.1 (by decide)) (fun h => h.elim (fun h => absurd h.1 (by decide)) (fun h => h.elim (fun h => absurd h.1 (by decide)) (fun h => h.elim (fun h => absurd h.1 (by decide)) (fun h => h.elim (fun h => absurd h.1 (by decide)) (fun h => h.elim (fun h => absurd h.1 (by decide)) (fun h => absurd h.1 (by decide)))))))))).trans ((funext fun i0 => frM_1 339 i0 (fun h => h.elim (fun h => absurd h (by decide)) (fun h => h.elim (fun h => absurd h.1 (by decide)) (fun h => h.elim (fun h => absurd h.1 (by decide)) (fun h => h.elim (fun h => absurd h.1 (by decide)) (fun h => h.elim (fun h => absurd h.1 (by decide)) (fun h => h.elim (fun h => absurd h.1 (by decide)) (fun h => h.elim (fun h => absurd h.1 (by decide)) (fun h => absurd h.1 (by decide)))))))))).trans hta))) ((funext fun i0 => frM_48 336 i0 (fun h => h.elim (fun h => absurd h.1 (by decide)) (fun h => h.elim (fun h => absurd h.1 (by decide)) (fun h => h.elim (fun h => absurd h.1 (by decide)) (fun h => absurd h.1 (by decide)))))).trans mr1_336) msM_48_0 msM_48_1 msM_48_2 msM_48_3 ((frM_48 330 15 (fun h => h.elim (fun h => absurd h.2 (by decide)) (fun h => h.elim (fun h => absurd h.2 (by decide)) (fun h => h.elim (fun h => absurd h.2 (by decide)) (fun h => absurd h.2 (by decide)))))).trans ms1_330_15) ((frM_48 330 25 (fun h => h.elim (fun h => absurd h.2 (by decide)) (fun h => h.elim (fun h => absurd h.2 (by decide)) (fun h => h.elim (fun h => absurd h.2 (by decide)) (fun h => absurd h.2 (by decide)))))).trans ((fr1 330 25 (fun h => h.elim (fun h => absurd h (by decide)) (fun h => h.elim (fun h => absurd h.2 (by decide)) (fun h => h.elim (fun h => absurd h.2 (by decide)) (fun h => h.elim (fun h => absurd h.2 (by decide)) (fun h => h.elim (fun h => absurd h.2 (by decide)) (fun h => h.elim (fun h => absurd h.2 (by decide)) (fun h => h.elim (fun h => absurd h.2 (by decide)) (fun h => absurd h.2 (by decide)))))))))).trans ((frM_1 330 25 (fun h => h.elim (fun h => absurd h (by decide)) (fun h => h.elim (fun h => absurd h.2 (by decide)) (fun h => h.elim (fun h => absurd h.2 (by decide)) (fun h => h.elim (fun h => absurd h.2 (by decide)) (fun h => h.elim (fun h => absurd h.2 (by decide)) (fun h => h.elim (fun h => absurd h.2 (by decide)) (fun h => h.elim (fun h => absurd h.2 (by decide)) (fun h => absurd h.2 (by decide)))))))))).trans hdp))) ((frM_48 330 17 (fun h => h.elim (fun h => absurd h.2 (by decide)) (fun h => h.elim (fun h => absurd h.2 (by decide)) (fun h => h.elim (fun h => absurd h.2 (by decide)) (fun h => absurd h.2 (by decide)))))).trans ((fr1 330 17 (fun h => h.elim (fun h => absurd h (by decide)) (fun h => h.elim (fun h => absurd h.2 (by decide)) (fun h => h.elim (fun h => absurd h.2 (by decide)) (fun h => h.elim (fun h => absurd h.2 (by decide)) (fun h => h.elim (fun h => absurd h.2 (by decide)) (fun h => h.elim (fun h => absurd h.2 (by decide)) (fun h => h.elim (fun h => absurd h.2 (by decide)) (fun h => absurd h.2 (by decide)))))))))).trans ((frM_1 330 17 (fun h => h.elim (fun h => absurd h (by decide)) (fun h => h.elim (fun h => absurd h.2 (by decide)) (fun h => h.elim (fun h => absurd h.2 (by decide)) (fun h => h.elim (fun h => absurd h.2 (by decide)) (fun h => h.elim (fun h => absurd h.2 (by decide)) (fun h => h.elim (fun h => absurd h.2 (by decide)) (fun h => h.elim (fun h => absurd h.2 (by decide)) (fun h => absurd h.2 (by decide)))))))))).trans htn))) ((frM_48 330 13 (fun h => h.elim (fun h => absurd h.2 (by decide)) (fun h => h.elim (fun h => absurd h.2 (by decide)) (fun h => h.elim (fun h => absurd h.2 (by decide)) (fun h => absurd h.2 (by decide)))))).trans ((fr1 330 13 (fun h => h.elim (fun h => absurd h (by decide)) (fun h => h.elim (fun h => absurd h.2 (by decide)) (fun h => h.elim (fun h => absurd h.2 (by decide)) (fun h => h.elim (fun h => absurd h.2 (by decide)) (fun h => h.elim (fun h => absurd h.2 (by decide)) (fun h => h.elim (fun h => absurd h.2 (by decide)) (fun h => h.elim (fun h => absurd h.2 (by decide)) (fun h => absurd h.2 (by decide)))))))))).trans ((frM_1 330 13 (fun h => h.elim (fun h => absurd h (by decide)) (fun h => h.elim (fun h => absurd h.2 (by decide)) (fun h => h.elim (fun h => absurd h.2 (by decide)) (fun h => h.elim (fun h => absurd h.2 (by decide)) (fun h => h.elim (fun h => absurd h.2 (by decide)) (fun h => h.elim (fun h => absurd h.2 (by decide)) (fun h => h.elim (fun h => absurd h.2 (by decide)) (fun h => absurd h.2 (by decide)))))))))).trans hrd))) (by first | omega | assumption) (by first | omega | assumption) (by first | omega | assumption) (by first | omega | assumption)) (pc' := 55) rfl (fun vv M_52 hq co52 hcm52 => ?_)
            obtain ⟨rfl, frM_52, fa52_0, fa52_1⟩ := hq
            refine ax_reS (st2 := [.inl (f_rb (f_prod L4))]) rfl ?_
            have cc52 : -2147483648 ≤ f_rb (f_prod L4) ∧ f_rb (f_prod L4) < 2147483648 := co52 _ rfl
            refine ax_if_ne (tgt := 60) dX12_sumUp_55 (by decide) (pc' := 58) rfl (fun h55 => ?_) (fun h55 => ?_)
            · obtain ⟨L8, o8, qr8⟩ := f_rb_ok h55
              rw [qr8] at fa52_0
              obtain ⟨qm8, qs8, qc8, qd8⟩ := fa52_0
              have qg8 := f_prod_gd _ L8 o8 qr8
              have qR8 := f_cur_rg qc8
              have qh8 := f_cur_hd qc8
              have qw8 := f_wt_len o8
              obtain ⟨o3, qo3⟩ : ∃ z, z = o8 ++ [(hw, (0 : Int))] := ⟨_, rfl⟩
              obtain ⟨L3, qL3⟩ : ∃ z, z = L8 := ⟨_, rfl⟩
              have qq : f_qAdd L1 = some (f_aft [(hw, 0)] (f_prod L4)) := by
                rw [qq1, qt4]
              have qr3 : f_aft [(hw, 0)] (f_prod L4) = .inr (L3, o3) := by
                rw [f_aft_ok qr8, qo3, qL3]
              have qg3 := f_qAdd_gd L1 _ qq L3 o3 qr3
              have qw3 := f_wt_len o3
              have qc3 : f_cur ta tn rd L3 (M_52 330 18) (M_52 330 19) (M_52 330 20) (M_52 330 21) := by
                rw [qL3]
                exact qc8
              refine ax_aload_n dX12_sumUp_60 rfl rfl (pc' := 61) rfl ?_
              refine ax_iload_n dX12_sumUp_61 rfl rfl (pc' := 62) rfl ?_
              refine ax_iconst dX12_sumUp_62 (by decide) (pc' := 63) rfl ?_
              refine ax_invG [.inl 23, .inl 0] [] dX12_sumUp_63 mlX12_245 sh_330 rfl rfl rfl (Nat.le_of_ble_eq_true rfl) (s_X12_lay E l _ (by omega) _ 23 0 rfl rfl (by first | omega | assumption)) (pc' := 66) rfl (fun vv M_63 hq co63 hcm63 => ?_)
              obtain ⟨rfl, frM_63, mrM_63_0, msM_63_0⟩ := hq
              refine ax_reS (st2 := []) rfl ?_
              have qp3 : f_up (f_up (M_52 336) (2 * (M_52 330 15)) 23) (2 * (M_52 330 15) + 1) 0 = f_put f1 s1 o3 := by
                rw [qo3, qhw]
                exact f_put_snoc qm8 qs8
              have qn3 : (M_52 330 15) + 1 = s1 + (o3.length : Int) := by
                rw [qo3, List.length_append, qs8]
                simp only [List.length_cons, List.length_nil]
                omega
              refine ax_goto dX12_sumUp_66 (pc' := 9) (by decide) ?_
              refine ax_less (ls2 := [some (.inr 330), none]) [true, false] rfl ?_
              refine ih3 (f_up (f_up (M_52 336) (2 * (M_52 330 15)) 23) (2 * (M_52 330 15) + 1) 0) ((M_52 330 15) + 1) (M_52 330 18) (M_52 330 19) (M_52 330 20) (M_52 330 21) L3 (o1 ++ o3) M_63 ?_ ?_ ?_ ?_ ?_ ?_ ?_ ?_ ?_ ?_ ?_ ?_ ?_
              · omega
              · intro x0 i0 hai
                exact ((frM_63 x0 i0 (fun h => h.elim (fun h => hai (Or.inl h)) (fun h => hai (Or.inr (Or.inl h))))).trans ((frM_52 x0 i0 (fun h => h.elim (fun h => hai (Or.inl h)) (fun h => h.elim (fun h => hai (Or.inr (Or.inl h))) (fun h => h.elim (fun h => hai (Or.inr (Or.inr (Or.inl h)))) (fun h => h.elim (fun h => hai (Or.inr (Or.inr (Or.inr (Or.inl h))))) (fun h => h.elim (fun h => hai (Or.inr (Or.inr (Or.inr (Or.inr (Or.inl h)))))) (fun h => h.elim (fun h => hai (Or.inr (Or.inr (Or.inr (Or.inr (Or.inr (Or.inl h))))))) (fun h => h.elim (fun h => hai (Or.inr (Or.inr (Or.inr (Or.inr (Or.inr (Or.inr (Or.inl h)))))))) (fun h => hai (Or.inr (Or.inr (Or.inr (Or.inr (Or.inr (Or.inr (Or.inr h)))))))))))))))).trans ((frM_48 x0 i0 (fun h => h.elim (fun h => hai (Or.inr (Or.inr (Or.inl h)))) (fun h => h.elim (fun h => hai (Or.inr (Or.inr (Or.inr (Or.inl h))))) (fun h => h.elim (fun h => hai (Or.inr (Or.inr (Or.inr (Or.inr (Or.inl h)))))) (fun h => hai (Or.inr (Or.inr (Or.inr (Or.inr (Or.inr (Or.inl h))))))))))).trans ((fr1 x0 i0 (fun h => h.elim (fun h => hai (Or.inl h)) (fun h => h.elim (fun h => hai (Or.inr (Or.inl h))) (fun h => h.elim (fun h => hai (Or.inr (Or.inr (Or.inl h)))) (fun h => h.elim (fun h => hai (Or.inr (Or.inr (Or.inr (Or.inl h))))) (fun h => h.elim (fun h => hai (Or.inr (Or.inr (Or.inr (Or.inr (Or.inl h)))))) (fun h => h.elim (fun h => hai (Or.inr (Or.inr (Or.inr (Or.inr (Or.inr (Or.inl h))))))) (fun h => h.elim (fun h => hai (Or.inr (Or.inr (Or.inr (Or.inr (Or.inr (Or.inr (Or.inl h)))))))) (fun h => hai (Or.inr (Or.inr (Or.inr (Or.inr (Or.inr (Or.inr (Or.inr h)))))))))))))))).trans rfl))))
              · exact mrM_63_0
              · exact msM_63_0
              · exact ((frM_63 330 18 (fun h => h.elim (fun h => absurd h (by decide)) (fun h => absurd h.2 (by decide)))).trans rfl)
              · exact ((frM_63 330 19 (fun h => h.elim (fun h => absurd h (by decide)) (fun h => absurd h.2 (by decide)))).trans rfl)
              · exact ((frM_63 330 20 (fun h => h.elim (fun h => absurd h (by decide)) (fun h => absurd h.2 (by decide)))).trans rfl)
              · exact ((frM_63 330 21 (fun h => h.elim (fun h => absurd h (by decide)) (fun h => absurd h.2 (by decide)))).trans rfl)
              · exact qc3
              · rw [qp3]
                exact f_put_more iv1_1 iv1_2
              · rw [qn3, iv1_2, List.length_append]
                omega
              · rw [f_wt_app]
                omega
              · rw [iv1_4, f_rep_some f_qAdd_gd qq, qr3]
                show f_pre o1 (f_pre o3 (f_rep f_qAdd L3)) = f_pre (o1 ++ o3) (f_rep f_qAdd L3)
                exact f_pre_pre o1 o3 _
            · obtain ⟨kk8, ss8, qr8⟩ := f_rb_no h55
              rw [qr8] at fa52_0
              have qz : f_sumU L = .inl (kk8, ss8) := by
                rw [iv1_4]
                refine f_rep_no f_qAdd_gd ?_
                rw [qq1, qt4, f_aft_no qr8]
              refine ax_iconst dX12_sumUp_58 (by decide) (pc' := 59) rfl ?_
              refine ax_zret dX12_sumUp_59 rfl (by decide) ?_
              refine ⟨rfl, ?_, ?_, ?_, ?_⟩
              · refine congrArg (fun z => some (Sum.inl z)) ?_
                rw [qz]
                rfl
              · intro x0 i0 hai
                exact ((frM_52 x0 i0 (fun h => h.elim (fun h => hai (Or.inl h)) (fun h => h.elim (fun h => hai (Or.inr (Or.inl h))) (fun h => h.elim (fun h => hai (Or.inr (Or.inr (Or.inl h)))) (fun h => h.elim (fun h => hai (Or.inr (Or.inr (Or.inr (Or.inl h))))) (fun h => h.elim (fun h => hai (Or.inr (Or.inr (Or.inr (Or.inr (Or.inl h)))))) (fun h => h.elim (fun h => hai (Or.inr (Or.inr (Or.inr (Or.inr (Or.inr (Or.inl h))))))) (fun h => h.elim (fun h => hai (Or.inr (Or.inr (Or.inr (Or.inr (Or.inr (Or.inr (Or.inl h)))))))) (fun h => hai (Or.inr (Or.inr (Or.inr (Or.inr (Or.inr (Or.inr (Or.inr h)))))))))))))))).trans ((frM_48 x0 i0 (fun h => h.elim (fun h => hai (Or.inr (Or.inr (Or.inl h)))) (fun h => h.elim (fun h => hai (Or.inr (Or.inr (Or.inr (Or.inl h))))) (fun h => h.elim (fun h => hai (Or.inr (Or.inr (Or.inr (Or.inr (Or.inl h)))))) (fun h => hai (Or.inr (Or.inr (Or.inr (Or.inr (Or.inr (Or.inl h))))))))))).trans ((fr1 x0 i0 (fun h => h.elim (fun h => hai (Or.inl h)) (fun h => h.elim (fun h => hai (Or.inr (Or.inl h))) (fun h => h.elim (fun h => hai (Or.inr (Or.inr (Or.inl h)))) (fun h => h.elim (fun h => hai (Or.inr (Or.inr (Or.inr (Or.inl h))))) (fun h => h.elim (fun h => hai (Or.inr (Or.inr (Or.inr (Or.inr (Or.inl h)))))) (fun h => h.elim (fun h => hai (Or.inr (Or.inr (Or.inr (Or.inr (Or.inr (Or.inl h))))))) (fun h => h.elim (fun h => hai (Or.inr (Or.inr (Or.inr (Or.inr (Or.inr (Or.inr (Or.inl h)))))))) (fun h => hai (Or.inr (Or.inr (Or.inr (Or.inr (Or.inr (Or.inr (Or.inr h)))))))))))))))).trans ((frM_1 x0 i0 (fun h => h.elim (fun h => hai (Or.inl h)) (fun h => h.elim (fun h => hai (Or.inr (Or.inl h))) (fun h => h.elim (fun h => hai (Or.inr (Or.inr (Or.inl h)))) (fun h => h.elim (fun h => hai (Or.inr (Or.inr (Or.inr (Or.inl h))))) (fun h => h.elim (fun h => hai (Or.inr (Or.inr (Or.inr (Or.inr (Or.inl h)))))) (fun h => h.elim (fun h => hai (Or.inr (Or.inr (Or.inr (Or.inr (Or.inr (Or.inl h))))))) (fun h => h.elim (fun h => hai (Or.inr (Or.inr (Or.inr (Or.inr (Or.inr (Or.inr (Or.inl h)))))))) (fun h => hai (Or.inr (Or.inr (Or.inr (Or.inr (Or.inr (Or.inr (Or.inr h)))))))))))))))).trans rfl))))
              · exact f_pok_no qz fa52_0.1 fa52_0.2
              · have q9 : M_52 330 21 = M_52 330 21 := rfl
                have q9b : 0 ≤ M_52 330 21 ∧ M_52 330 21 ≤ 9999 := by omega
                exact f_r9 q9 q9b
        · refine ax_aload_n dX12_sumUp_19 rfl rfl (pc' := 20) rfl ?_
          refine ax_geti (v := t1) dX12_sumUp_20 flX12_208 rfl sh_330 ms1_330_19 rfl (pc' := 23) rfl ?_
          refine ax_sipush dX12_sumUp_23 (by decide) (pc' := 26) rfl ?_
          refine ax_icmp_ne (tgt := 69) dX12_sumUp_26 (by decide) (pc' := 29) rfl (fun h26 => ?_) (fun h26 => ?_)
          · have qz : f_sumU L = .inr (L1, o1) := by
              rw [iv1_4, f_rep_none (by unfold f_qAdd; rw [if_neg (by omega), if_neg (by omega)]), f_pre_nil]
            refine ax_iconst dX12_sumUp_69 (by decide) (pc' := 70) rfl ?_
            refine ax_zret dX12_sumUp_70 rfl (by decide) ?_
            refine ⟨rfl, ?_, ?_, ?_, ?_⟩
            · refine congrArg (fun z => some (Sum.inl z)) ?_
              rw [qz]
              rfl
            · intro x0 i0 hai
              exact ((fr1 x0 i0 (fun h => h.elim (fun h => hai (Or.inl h)) (fun h => h.elim (fun h => hai (Or.inr (Or.inl h))) (fun h => h.elim (fun h => hai (Or.inr (Or.inr (Or.inl h)))) (fun h => h.elim (fun h => hai (Or.inr (Or.inr (Or.inr (Or.inl h))))) (fun h => h.elim (fun h => hai (Or.inr (Or.inr (Or.inr (Or.inr (Or.inl h)))))) (fun h => h.elim (fun h => hai (Or.inr (Or.inr (Or.inr (Or.inr (Or.inr (Or.inl h))))))) (fun h => h.elim (fun h => hai (Or.inr (Or.inr (Or.inr (Or.inr (Or.inr (Or.inr (Or.inl h)))))))) (fun h => hai (Or.inr (Or.inr (Or.inr (Or.inr (Or.inr (Or.inr (Or.inr h)))))))))))))))).trans ((frM_1 x0 i0 (fun h => h.elim (fun h => hai (Or.inl h)) (fun h => h.elim (fun h => hai (Or.inr (Or.inl h))) (fun h => h.elim (fun h => hai (Or.inr (Or.inr (Or.inl h)))) (fun h => h.elim (fun h => hai (Or.inr (Or.inr (Or.inr (Or.inl h))))) (fun h => h.elim (fun h => hai (Or.inr (Or.inr (Or.inr (Or.inr (Or.inl h)))))) (fun h => h.elim (fun h => hai (Or.inr (Or.inr (Or.inr (Or.inr (Or.inr (Or.inl h))))))) (fun h => h.elim (fun h => hai (Or.inr (Or.inr (Or.inr (Or.inr (Or.inr (Or.inr (Or.inl h)))))))) (fun h => hai (Or.inr (Or.inr (Or.inr (Or.inr (Or.inr (Or.inr (Or.inr h)))))))))))))))).trans rfl))
            · refine f_pok_ok qz (Eq.trans mr1_336 ?_) (Eq.trans ms1_330_15 ?_) iv1_0 ms1_330_18 ms1_330_19 ms1_330_20 ms1_330_21 ((fr1 330 25 (fun h => h.elim (fun h => absurd h (by decide)) (fun h => h.elim (fun h => absurd h.2 (by decide)) (fun h => h.elim (fun h => absurd h.2 (by decide)) (fun h => h.elim (fun h => absurd h.2 (by decide)) (fun h => h.elim (fun h => absurd h.2 (by decide)) (fun h => h.elim (fun h => absurd h.2 (by decide)) (fun h => h.elim (fun h => absurd h.2 (by decide)) (fun h => absurd h.2 (by decide)))))))))).trans ((frM_1 330 25 (fun h => h.elim (fun h => absurd h (by decide)) (fun h => h.elim (fun h => absurd h.2 (by decide)) (fun h => h.elim (fun h => absurd h.2 (by decide)) (fun h => h.elim (fun h => absurd h.2 (by decide)) (fun h => h.elim (fun h => absurd h.2 (by decide)) (fun h => h.elim (fun h => absurd h.2 (by decide)) (fun h => h.elim (fun h => absurd h.2 (by decide)) (fun h => absurd h.2 (by decide)))))))))).trans hdp))
              · exact iv1_1
              · exact iv1_2
            · have q9 : M1 330 21 = v1 := ms1_330_21
              have q9b : 0 ≤ v1 ∧ v1 ≤ 9999 := by omega
              exact f_r9 q9 q9b
          · refine ax_aload_n dX12_sumUp_29 rfl rfl (pc' := 30) rfl ?_
            refine ax_geti (v := t1) dX12_sumUp_30 flX12_208 rfl sh_330 ms1_330_19 rfl (pc' := 33) rfl ?_
            refine ax_sipush dX12_sumUp_33 (by decide) (pc' := 36) rfl ?_
            refine ax_icmp_ne (tgt := 44) dX12_sumUp_36 (by decide) (pc' := 39) rfl (fun h36 => ?_) (fun h36 => ?_)
            · obtain ⟨hw, qhw⟩ : ∃ z : Int, z = 24 := ⟨_, rfl⟩
              have qq1 : f_qAdd L1 = some (f_aft [(hw, 0)] (f_prod L1.tail)) := by
                unfold f_qAdd
                rw [if_neg (by omega), if_pos (by omega), qhw]
              refine ax_bipush dX12_sumUp_44 (by decide) (pc' := 46) rfl ?_
              refine ax_istore_n dX12_sumUp_46 rfl (by decide) (ls' := [some (.inr 330), some (.inl 24)]) rfl (pc' := 47) rfl ?_
              obtain ⟨L4, qt4, ql4, qc4⟩ := f_cur_next iv1_0 (by omega)
              have qR4 := f_cur_rg qc4
              have qh4 := f_cur_hd qc4
              refine ax_aload_n dX12_sumUp_47 rfl rfl (pc' := 48) rfl ?_
              refine ax_invG [] [] dX12_sumUp_48 mlX12_232 sh_330 rfl rfl rfl (Nat.le_of_ble_eq_true rfl) (s_X12_next0 E l _ (by omega) _ ((funext fun i0 => fr1 339 i0 (fun h => h.elim (fun h => absurd h (by decide)) (fun h => h.elim (fun h => absurd h.1 (by decide)) (fun h => h.elim (fun h => absurd h.1 (by decide)) (fun h => h.elim (fun h => absurd h.1 (by decide)) (fun h => h.elim (fun h => absurd h.1 (by decide)) (fun h => h.elim (fun h => absurd h.1 (by decide)) (fun h => h.elim (fun h => absurd h.1 (by decide)) (fun h => absurd h.1 (by decide)))))))))).trans ((funext fun i0 => frM_1 339 i0 (fun h => h.elim (fun h => absurd h (by decide)) (fun h => h.elim (fun h => absurd h.1 (by decide)) (fun h => h.elim (fun h => absurd h.1 (by decide)) (fun h => h.elim (fun h => absurd h.1 (by decide)) (fun h => h.elim (fun h => absurd h.1 (by decide)) (fun h => h.elim (fun h => absurd h.1 (by decide)) (fun h => h.elim (fun h => absurd h.1 (by decide)) (fun h => absurd h.1 (by decide)))))))))).trans hta)) ms1_330_18 ((fr1 330 17 (fun h => h.elim (fun h => absurd h (by decide)) (fun h => h.elim (fun h => absurd h.2 (by decide)) (fun h => h.elim (fun h => absurd h.2 (by decide)) (fun h => h.elim (fun h => absurd h.2 (by decide)) (fun h => h.elim (fun h => absurd h.2 (by decide)) (fun h => h.elim (fun h => absurd h.2 (by decide)) (fun h => h.elim (fun h => absurd h.2 (by decide)) (fun h => absurd h.2 (by decide)))))))))).trans ((frM_1 330 17 (fun h => h.elim (fun h => absurd h (by decide)) (fun h => h.elim (fun h => absurd h.2 (by decide)) (fun h => h.elim (fun h => absurd h.2 (by decide)) (fun h => h.elim (fun h => absurd h.2 (by decide)) (fun h => h.elim (fun h => absurd h.2 (by decide)) (fun h => h.elim (fun h => absurd h.2 (by decide)) (fun h => h.elim (fun h => absurd h.2 (by decide)) (fun h => absurd h.2 (by decide)))))))))).trans htn)) ((fr1 330 13 (fun h => h.elim (fun h => absurd h (by decide)) (fun h => h.elim (fun h => absurd h.2 (by decide)) (fun h => h.elim (fun h => absurd h.2 (by decide)) (fun h => h.elim (fun h => absurd h.2 (by decide)) (fun h => h.elim (fun h => absurd h.2 (by decide)) (fun h => h.elim (fun h => absurd h.2 (by decide)) (fun h => h.elim (fun h => absurd h.2 (by decide)) (fun h => absurd h.2 (by decide)))))))))).trans ((frM_1 330 13 (fun h => h.elim (fun h => absurd h (by decide)) (fun h => h.elim (fun h => absurd h.2 (by decide)) (fun h => h.elim (fun h => absurd h.2 (by decide)) (fun h => h.elim (fun h => absurd h.2 (by decide)) (fun h => h.elim (fun h => absurd h.2 (by decide)) (fun h => h.elim (fun h => absurd h.2 (by decide)) (fun h => h.elim (fun h => absurd h.2 (by decide)) (fun h => absurd h.2 (by decide)))))))))).trans hrd)) ms1_330_21 (by first | omega | assumption) (by first | omega | assumption)) (pc' := 51) rfl (fun vv M_48 hq co48 hcm48 => ?_)
              obtain ⟨rfl, frM_48, msM_48_0, msM_48_1, msM_48_2, msM_48_3⟩ := hq
              refine ax_reS (st2 := []) rfl ?_
              refine ax_aload_n dX12_sumUp_51 rfl rfl (pc' := 52) rfl ?_
              refine ax_invG [] [] dX12_sumUp_52 mlX12_241 sh_330 rfl rfl rfl (Nat.le_of_ble_eq_true rfl) (s_X12_product E l _ (by omega) _ L4 ((funext fun i0 => frM_48 339 i0 (fun h => h.elim (fun h => absurd h.1 (by decide)) (fun h => h.elim (fun h => absurd h.1 (by decide)) (fun h => h.elim (fun h => absurd h.1 (by decide)) (fun h => absurd h.1 (by decide)))))).trans ((funext fun i0 => fr1 339 i0 (fun h => h.elim (fun h => absurd h (by decide)) (fun h => h.elim (fun h => absurd h.1 (by decide)) (fun h => h.elim (fun h => absurd h.1 (by decide)) (fun h => h.elim (fun h => absurd h.1 (by decide)) (fun h => h.elim (fun h => absurd h.1 (by decide)) (fun h => h.elim (fun h => absurd h.1 (by decide)) (fun h => h.elim (fun h => absurd h.1 (by decide)) (fun h => absurd h.1 (by decide)))))))))).trans ((funext fun i0 => frM_1 339 i0 (fun h => h.elim (fun h => absurd h (by decide)) (fun h => h.elim (fun h => absurd h.1 (by decide)) (fun h => h.elim (fun h => absurd h.1 (by decide)) (fun h => h.elim (fun h => absurd h.1 (by decide)) (fun h => h.elim (fun h => absurd h.1 (by decide)) (fun h => h.elim (fun h => absurd h.1 (by decide)) (fun h => h.elim (fun h => absurd h.1 (by decide)) (fun h => absurd h.1 (by decide)))))))))).trans hta))) ((funext fun i0 => frM_48 336 i0 (fun h => h.elim (fun h => absurd h.1 (by decide)) (fun h => h.elim (fun h => absurd h.1 (by decide)) (fun h => h.elim (fun h => absurd h.1 (by decide)) (fun h => absurd h.1 (by decide)))))).trans mr1_336) msM_48_0 msM_48_1 msM_48_2 msM_48_3 ((frM_48 330 15 (fun h => h.elim (fun h => absurd h.2 (by decide)) (fun h => h.elim (fun h => absurd h.2 (by decide)) (fun h => h.elim (fun h => absurd h.2 (by decide)) (fun h => absurd h.2 (by decide)))))).trans ms1_330_15) ((frM_48 330 25 (fun h => h.elim (fun h => absurd h.2 (by decide)) (fun h => h.elim (fun h => absurd h.2 (by decide)) (fun h => h.elim (fun h => absurd h.2 (by decide)) (fun h => absurd h.2 (by decide)))))).trans ((fr1 330 25 (fun h => h.elim (fun h => absurd h (by decide)) (fun h => h.elim (fun h => absurd h.2 (by decide)) (fun h => h.elim (fun h => absurd h.2 (by decide)) (fun h => h.elim (fun h => absurd h.2 (by decide)) (fun h => h.elim (fun h => absurd h.2 (by decide)) (fun h => h.elim (fun h => absurd h.2 (by decide)) (fun h => h.elim (fun h => absurd h.2 (by decide)) (fun h => absurd h.2 (by decide)))))))))).trans ((frM_1 330 25 (fun h => h.elim (fun h => absurd h (by decide)) (fun h => h.elim (fun h => absurd h.2 (by decide)) (fun h => h.elim (fun h => absurd h.2 (by decide)) (fun h => h.elim (fun h => absurd h.2 (by decide)) (fun h => h.elim (fun h => absurd h.2 (by decide)) (fun h => h.elim (fun h => absurd h.2 (by decide)) (fun h => h.elim (fun h => absurd h.2 (by decide)) (fun h => absurd h.2 (by decide)))))))))).trans hdp))) ((frM_48 330 17 (fun h => h.elim (fun h => absurd h.2 (by decide)) (fun h => h.elim (fun h => absurd h.2 (by decide)) (fun h => h.elim (fun h => absurd h.2 (by decide)) (fun h => absurd h.2 (by decide)))))).trans ((fr1 330 17 (fun h => h.elim (fun h => absurd h (by decide)) (fun h => h.elim (fun h => absurd h.2 (by decide)) (fun h => h.elim (fun h => absurd h.2 (by decide)) (fun h => h.elim (fun h => absurd h.2 (by decide)) (fun h => h.elim (fun h => absurd h.2 (by decide)) (fun h => h.elim (fun h => absurd h.2 (by decide)) (fun h => h.elim (fun h => absurd h.2 (by decide)) (fun h => absurd h.2 (by decide)))))))))).trans ((frM_1 330 17 (fun h => h.elim (fun h => absurd h (by decide)) (fun h => h.elim (fun h => absurd h.2 (by decide)) (fun h => h.elim (fun h => absurd h.2 (by decide)) (fun h => h.elim (fun h => absurd h.2 (by decide)) (fun h => h.elim (fun h => absurd h.2 (by decide)) (fun h => h.elim (fun h => absurd h.2 (by decide)) (fun h => h.elim (fun h => absurd h.2 (by decide)) (fun h => absurd h.2 (by decide)))))))))).trans htn))) ((frM_48 330 13 (fun h => h.elim (fun h => absurd h.2 (by decide)) (fun h => h.elim (fun h => absurd h.2 (by decide)) (fun h => h.elim (fun h => absurd h.2 (by decide)) (fun h => absurd h.2 (by decide)))))).trans ((fr1 330 13 (fun h => h.elim (fun h => absurd h (by decide)) (fun h => h.elim (fun h => absurd h.2 (by decide)) (fun h => h.elim (fun h => absurd h.2 (by decide)) (fun h => h.elim (fun h => absurd h.2 (by decide)) (fun h => h.elim (fun h => absurd h.2 (by decide)) (fun h => h.elim (fun h => absurd h.2 (by decide)) (fun h => h.elim (fun h => absurd h.2 (by decide)) (fun h => absurd h.2 (by decide)))))))))).trans ((frM_1 330 13 (fun h => h.elim (fun h => absurd h (by decide)) (fun h => h.elim (fun h => absurd h.2 (by decide)) (fun h => h.elim (fun h => absurd h.2 (by decide)) (fun h => h.elim (fun h => absurd h.2 (by decide)) (fun h => h.elim (fun h => absurd h.2 (by decide)) (fun h => h.elim (fun h => absurd h.2 (by decide)) (fun h => h.elim (fun h => absurd h.2 (by decide)) (fun h => absurd h.2 (by decide)))))))))).trans hrd))) (by first | omega | assumption) (by first | omega | assumption) (by first | omega | assumption) (by first | omega | assumption)) (pc' := 55) rfl (fun vv M_52 hq co52 hcm52 => ?_)
              obtain ⟨rfl, frM_52, fa52_0, fa52_1⟩ := hq
              refine ax_reS (st2 := [.inl (f_rb (f_prod L4))]) rfl ?_
              have cc52 : -2147483648 ≤ f_rb (f_prod L4) ∧ f_rb (f_prod L4) < 2147483648 := co52 _ rfl
              refine ax_if_ne (tgt := 60) dX12_sumUp_55 (by decide) (pc' := 58) rfl (fun h55 => ?_) (fun h55 => ?_)
              · obtain ⟨L8, o8, qr8⟩ := f_rb_ok h55
                rw [qr8] at fa52_0
                obtain ⟨qm8, qs8, qc8, qd8⟩ := fa52_0
                have qg8 := f_prod_gd _ L8 o8 qr8
                have qR8 := f_cur_rg qc8
                have qh8 := f_cur_hd qc8
                have qw8 := f_wt_len o8
                obtain ⟨o3, qo3⟩ : ∃ z, z = o8 ++ [(hw, (0 : Int))] := ⟨_, rfl⟩
                obtain ⟨L3, qL3⟩ : ∃ z, z = L8 := ⟨_, rfl⟩
                have qq : f_qAdd L1 = some (f_aft [(hw, 0)] (f_prod L4)) := by
                  rw [qq1, qt4]
                have qr3 : f_aft [(hw, 0)] (f_prod L4) = .inr (L3, o3) := by
                  rw [f_aft_ok qr8, qo3, qL3]
                have qg3 := f_qAdd_gd L1 _ qq L3 o3 qr3
                have qw3 := f_wt_len o3
                have qc3 : f_cur ta tn rd L3 (M_52 330 18) (M_52 330 19) (M_52 330 20) (M_52 330 21) := by
                  rw [qL3]
                  exact qc8
                refine ax_aload_n dX12_sumUp_60 rfl rfl (pc' := 61) rfl ?_
                refine ax_iload_n dX12_sumUp_61 rfl rfl (pc' := 62) rfl ?_
                refine ax_iconst dX12_sumUp_62 (by decide) (pc' := 63) rfl ?_
                refine ax_invG [.inl 24, .inl 0] [] dX12_sumUp_63 mlX12_245 sh_330 rfl rfl rfl (Nat.le_of_ble_eq_true rfl) (s_X12_lay E l _ (by omega) _ 24 0 rfl rfl (by first | omega | assumption)) (pc' := 66) rfl (fun vv M_63 hq co63 hcm63 => ?_)
                obtain ⟨rfl, frM_63, mrM_63_0, msM_63_0⟩ := hq
                refine ax_reS (st2 := []) rfl ?_
                have qp3 : f_up (f_up (M_52 336) (2 * (M_52 330 15)) 24) (2 * (M_52 330 15) + 1) 0 = f_put f1 s1 o3 := by
                  rw [qo3, qhw]
                  exact f_put_snoc qm8 qs8
                have qn3 : (M_52 330 15) + 1 = s1 + (o3.length : Int) := by
                  rw [qo3, List.length_append, qs8]
                  simp only [List.length_cons, List.length_nil]
                  omega
                refine ax_goto dX12_sumUp_66 (pc' := 9) (by decide) ?_
                refine ax_less (ls2 := [some (.inr 330), none]) [true, false] rfl ?_
                refine ih3 (f_up (f_up (M_52 336) (2 * (M_52 330 15)) 24) (2 * (M_52 330 15) + 1) 0) ((M_52 330 15) + 1) (M_52 330 18) (M_52 330 19) (M_52 330 20) (M_52 330 21) L3 (o1 ++ o3) M_63 ?_ ?_ ?_ ?_ ?_ ?_ ?_ ?_ ?_ ?_ ?_ ?_ ?_
                · omega
                · intro x0 i0 hai
                  exact ((frM_63 x0 i0 (fun h => h.elim (fun h => hai (Or.inl h)) (fun h => hai (Or.inr (Or.inl h))))).trans ((frM_52 x0 i0 (fun h => h.elim (fun h => hai (Or.inl h)) (fun h => h.elim (fun h => hai (Or.inr (Or.inl h))) (fun h => h.elim (fun h => hai (Or.inr (Or.inr (Or.inl h)))) (fun h => h.elim (fun h => hai (Or.inr (Or.inr (Or.inr (Or.inl h))))) (fun h => h.elim (fun h => hai (Or.inr (Or.inr (Or.inr (Or.inr (Or.inl h)))))) (fun h => h.elim (fun h => hai (Or.inr (Or.inr (Or.inr (Or.inr (Or.inr (Or.inl h))))))) (fun h => h.elim (fun h => hai (Or.inr (Or.inr (Or.inr (Or.inr (Or.inr (Or.inr (Or.inl h)))))))) (fun h => hai (Or.inr (Or.inr (Or.inr (Or.inr (Or.inr (Or.inr (Or.inr h)))))))))))))))).trans ((frM_48 x0 i0 (fun h => h.elim (fun h => hai (Or.inr (Or.inr (Or.inl h)))) (fun h => h.elim (fun h => hai (Or.inr (Or.inr (Or.inr (Or.inl h))))) (fun h => h.elim (fun h => hai (Or.inr (Or.inr (Or.inr (Or.inr (Or.inl h)))))) (fun h => hai (Or.inr (Or.inr (Or.inr (Or.inr (Or.inr (Or.inl h))))))))))).trans ((fr1 x0 i0 (fun h => h.elim (fun h => hai (Or.inl h)) (fun h => h.elim (fun h => hai (Or.inr (Or.inl h))) (fun h => h.elim (fun h => hai (Or.inr (Or.inr (Or.inl h)))) (fun h => h.elim (fun h => hai (Or.inr (Or.inr (Or.inr (Or.inl h))))) (fun h => h.elim (fun h => hai (Or.inr (Or.inr (Or.inr (Or.inr (Or.inl h)))))) (fun h => h.elim (fun h => hai (Or.inr (Or.inr (Or.inr (Or.inr (Or.inr (Or.inl h))))))) (fun h => h.elim (fun h => hai (Or.inr (Or.inr (Or.inr (Or.inr (Or.inr (Or.inr (Or.inl h)))))))) (fun h => hai (Or.inr (Or.inr (Or.inr (Or.inr (Or.inr (Or.inr (Or.inr h)))))))))))))))).trans rfl))))
                · exact mrM_63_0
                · exact msM_63_0
                · exact ((frM_63 330 18 (fun h => h.elim (fun h => absurd h (by decide)) (fun h => absurd h.2 (by decide)))).trans rfl)
                · exact ((frM_63 330 19 (fun h => h.elim (fun h => absurd h (by decide)) (fun h => absurd h.2 (by decide)))).trans rfl)
                · exact ((frM_63 330 20 (fun h => h.elim (fun h => absurd h (by decide)) (fun h => absurd h.2 (by decide)))).trans rfl)
                · exact ((frM_63 330 21 (fun h => h.elim (fun h => absurd h (by decide)) (fun h => absurd h.2 (by decide)))).trans rfl)
                · exact qc3
                · rw [qp3]
                  exact f_put_more iv1_1 iv1_2
                · rw [qn3, iv1_2, List.length_append]
                  omega
                · rw [f_wt_app]
                  omega
                · rw [iv1_4, f_rep_some f_qAdd_gd qq, qr3]
                  show f_pre o1 (f_pre o3 (f_rep f_qAdd L3)) = f_pre (o1 ++ o3) (f_rep f_qAdd L3)
                  exact f_pre_pre o1 o3 _
              · obtain ⟨kk8, ss8, qr8⟩ := f_rb_no h55
                rw [qr8] at fa52_0
                have qz : f_sumU L = .inl (kk8, ss8) := by
                  rw [iv1_4]
                  refine f_rep_no f_qAdd_gd ?_
                  rw [qq1, qt4, f_aft_no qr8]
                refine ax_iconst dX12_sumUp_58 (by decide) (pc' := 59) rfl ?_
                refine ax_zret dX12_sumUp_59 rfl (by decide) ?_
                refine ⟨rfl, ?_, ?_, ?_, ?_⟩
                · refine congrArg (fun z => some (Sum.inl z)) ?_
                  rw [qz]
                  rfl
                · intro x0 i0 hai
                  exact ((frM_52 x0 i0 (fun h => h.elim (fun h => hai (Or.inl h)) (fun h => h.elim (fun h => hai (Or.inr (Or.inl h))) (fun h => h.elim (fun h => hai (Or.inr (Or.inr (Or.inl h)))) (fun h => h.elim (fun h => hai (Or.inr (Or.inr (Or.inr (Or.inl h))))) (fun h => h.elim (fun h => hai (Or.inr (Or.inr (Or.inr (Or.inr (Or.inl h)))))) (fun h => h.elim (fun h => hai (Or.inr (Or.inr (Or.inr (Or.inr (Or.inr (Or.inl h))))))) (fun h => h.elim (fun h => hai (Or.inr (Or.inr (Or.inr (Or.inr (Or.inr (Or.inr (Or.inl h)))))))) (fun h => hai (Or.inr (Or.inr (Or.inr (Or.inr (Or.inr (Or.inr (Or.inr h)))))))))))))))).trans ((frM_48 x0 i0 (fun h => h.elim (fun h => hai (Or.inr (Or.inr (Or.inl h)))) (fun h => h.elim (fun h => hai (Or.inr (Or.inr (Or.inr (Or.inl h))))) (fun h => h.elim (fun h => hai (Or.inr (Or.inr (Or.inr (Or.inr (Or.inl h)))))) (fun h => hai (Or.inr (Or.inr (Or.inr (Or.inr (Or.inr (Or.inl h))))))))))).trans ((fr1 x0 i0 (fun h => h.elim (fun h => hai (Or.inl h)) (fun h => h.elim (fun h => hai (Or.inr (Or.inl h))) (fun h => h.elim (fun h => hai (Or.inr (Or.inr (Or.inl h)))) (fun h => h.elim (fun h => hai (Or.inr (Or.inr (Or.inr (Or.inl h))))) (fun h => h.elim (fun h => hai (Or.inr (Or.inr (Or.inr (Or.inr (Or.inl h)))))) (fun h => h.elim (fun h => hai (Or.inr (Or.inr (Or.inr (Or.inr (Or.inr (Or.inl h))))))) (fun h => h.elim (fun h => hai (Or.inr (Or.inr (Or.inr (Or.inr (Or.inr (Or.inr (Or.inl h)))))))) (fun h => hai (Or.inr (Or.inr (Or.inr (Or.inr (Or.inr (Or.inr (Or.inr h)))))))))))))))).trans ((frM_1 x0 i0 (fun h => h.elim (fun h => hai (Or.inl h)) (fun h => h.elim (fun h => hai (Or.inr (Or.inl h))) (fun h => h.elim (fun h => hai (Or.inr (Or.inr (Or.inl h)))) (fun h => h.elim (fun h => hai (Or.inr (Or.inr (Or.inr (Or.inl h))))) (fun h => h.elim (fun h => hai (Or.inr (Or.inr (Or.inr (Or.inr (Or.inl h)))))) (fun h => h.elim (fun h => hai (Or.inr (Or.inr (Or.inr (Or.inr (Or.inr (Or.inl h))))))) (fun h => h.elim (fun h => hai (Or.inr (Or.inr (Or.inr (Or.inr (Or.inr (Or.inr (Or.inl h)))))))) (fun h => hai (Or.inr (Or.inr (Or.inr (Or.inr (Or.inr (Or.inr (Or.inr h)))))))))))))))).trans rfl))))
                · exact f_pok_no qz fa52_0.1 fa52_0.2
                · have q9 : M_52 330 21 = M_52 330 21 := rfl
                  have q9b : 0 ≤ M_52 330 21 ∧ M_52 330 21 ≤ 9999 := by omega
                  exact f_r9 q9 q9b
            · exfalso
              omega
    refine LP1 ((L2.length : Int) : Int).toNat.succ (M_1 336) (M_1 330 15) (M_1 330 18) (M_1 330 19) (M_1 330 20) (M_1 330 21) L2 o2 M_1 ?_ ?_ ?_ ?_ ?_ ?_ ?_ ?_ ?_ ?_ ?_ ?_ ?_
    · omega
    · exact fun a i _ => rfl
    · exact rfl
    · exact rfl
    · exact rfl
    · exact rfl
    · exact rfl
    · exact rfl
    · exact qc2
    · exact qm2
    · exact qs2
    · omega
    · unfold f_sumU
      rw [qr2]
      rfl
  · obtain ⟨kk2, ss2, qr2⟩ := f_rb_no h4
    rw [qr2] at fa1_0
    have qz : f_sumU L = .inl (kk2, ss2) := by
      unfold f_sumU
      rw [qr2]
      rfl
    refine ax_iconst dX12_sumUp_7 (by decide) (pc' := 8) rfl ?_
    refine ax_zret dX12_sumUp_8 rfl (by decide) ?_
    refine ⟨rfl, ?_, ?_, ?_, ?_⟩
    · refine congrArg (fun z => some (Sum.inl z)) ?_
      rw [qz]
      rfl
    · intro x0 i0 hai
      exact ((frM_1 x0 i0 (fun h => h.elim (fun h => hai (Or.inl h)) (fun h => h.elim (fun h => hai (Or.inr (Or.inl h))) (fun h => h.elim (fun h => hai (Or.inr (Or.inr (Or.inl h)))) (fun h => h.elim (fun h => hai (Or.inr (Or.inr (Or.inr (Or.inl h))))) (fun h => h.elim (fun h => hai (Or.inr (Or.inr (Or.inr (Or.inr (Or.inl h)))))) (fun h => h.elim (fun h => hai (Or.inr (Or.inr (Or.inr (Or.inr (Or.inr (Or.inl h))))))) (fun h => h.elim (fun h => hai (Or.inr (Or.inr (Or.inr (Or.inr (Or.inr (Or.inr (Or.inl h)))))))) (fun h => hai (Or.inr (Or.inr (Or.inr (Or.inr (Or.inr (Or.inr (Or.inr h)))))))))))))))).trans rfl)
    · exact f_pok_no qz fa1_0.1 fa1_0.2
    · have q9 : M_1 330 21 = M_1 330 21 := rfl
      have q9b : 0 ≤ M_1 330 21 ∧ M_1 330 21 ≤ 9999 := by omega
      exact f_r9 q9 q9b
