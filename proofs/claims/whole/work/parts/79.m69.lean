/-! the class reads laws -/
def f_wl : List f_Tk → Prop
  | [] => False
  | t :: tl => (t.1 = 0 → tl = []) ∧ (t.1 ≠ 0 → f_wl tl)
theorem f_lx_wl {ta : Int → Int} {tn rd : Int} : ∀ {L : List f_Tk} {p v : Int}, f_lx ta tn rd p v L → f_wl L
  | [], _, _, h => h
  | t :: tl, _, _, h => ⟨h.2.1, fun q => f_lx_wl (h.2.2 q)⟩
def f_cc (rd : Int) (K V S : Int → Int) (nx : Int) (L : List f_Tk) : Prop := f_tkl rd K V S nx L ∧ f_wl L ∧ 0 ≤ nx ∧ nx + (L.length : Int) ≤ 401
theorem f_cc_hd {rd : Int} {K V S : Int → Int} {nx : Int} {L : List f_Tk} (h : f_cc rd K V S nx L) : (f_kv rd (f_T L) (f_V L) (K nx) (V nx) ∧ S nx = f_S L) ∧ 0 ≤ nx ∧ nx ≤ 400 ∧ 1 ≤ (L.length : Int) ∧ nx + (L.length : Int) ≤ 401 ∧ (f_T L ≠ 0 → 2 ≤ (L.length : Int)) := by
  obtain ⟨h1, h2, h3, h4⟩ := h
  match L, h1, h2, h4 with
  | t :: tl, h1, h2, h4 =>
    rw [List.length_cons] at h4 ⊢
    refine ⟨⟨h1.1, h1.2.1⟩, h3, by omega, by omega, by omega, fun q => ?_⟩
    have h5 := h2.2 q
    match tl, h5 with
    | u :: tl, h5 =>
      rw [List.length_cons]
      omega
theorem f_cc_nx {rd : Int} {K V S : Int → Int} {nx : Int} {L : List f_Tk} (h : f_cc rd K V S nx L) (ht : f_T L ≠ 0) : f_cc rd K V S (nx + 1) L.tail ∧ L.tail.length + 1 = L.length ∧ nx < 400 := by
  have h5 := f_cc_hd h
  have h6 := h5.2.2.2.2.2 ht
  obtain ⟨h1, h2, h3, h4⟩ := h
  match L, h1, h2, h4 with
  | t :: tl, h1, h2, h4 =>
    refine ⟨⟨h1.2.2, h2.2 ht, by omega, ?_⟩, rfl, by omega⟩
    rw [List.length_cons] at h4
    show nx + 1 + (tl.length : Int) ≤ 401
    omega
theorem f_cc_rg {rd : Int} {K V S : Int → Int} {nx : Int} {L : List f_Tk} (h : f_cc rd K V S nx L) : 0 ≤ nx ∧ nx ≤ 400 ∧ 1 ≤ (L.length : Int) ∧ nx + (L.length : Int) ≤ 401 := by
  have h2 := f_cc_hd h
  exact ⟨h2.2.1, h2.2.2.1, h2.2.2.2.1, h2.2.2.2.2.1⟩
def f_kl (rd T V kd va : Int) : Prop := ((kd = 0 ↔ T = 0) ∧ (kd = 3 ↔ T = 2) ∧ (kd = 3 → va = V)) ∧ ((kd = 2 ∧ va = 0 ↔ T = 7) ∧ (kd = 2 ∧ va = 1 ↔ T = 3) ∧ (kd = 2 ∧ va = 2 ↔ T = 4) ∧ (kd = 2 ∧ va = 3 ↔ T = 5) ∧ (kd = 2 ∧ va = 4 ↔ T = 6)) ∧ (kd = 2 ∧ 5 ≤ va ↔ 41 ≤ T ∧ T ≤ 53) ∧ (kd = 2 ∧ 5 ≤ va → -(1 + f_ix rd (T - 40)) = 4 - va) ∧ ∀ c, 40 ≤ c → (kd = 1 ∧ va = c ↔ T = 100 + c)
theorem f_kl_no {rd T V kd va : Int} (h : (T = 0 ∧ kd = 0) ∨ (T = 1 ∧ kd = 4) ∨ (T = 2 ∧ kd = 3 ∧ va = V) ∨ (kd = 1 ∧ T = 100 + va ∧ f_sgn va)) : f_kl rd T V kd va := by
  unfold f_sgn at h
  have h2 : kd ≠ 2 := by omega
  exact ⟨⟨by omega, by omega, by omega⟩, ⟨by omega, by omega, by omega, by omega, by omega⟩, by omega, fun q => absurd q.1 h2, fun c hc => by omega⟩
theorem f_kl_0 {V va : Int} (h : 0 ≤ va ∧ va < 13) : f_kl 0 (f_wcode 0 va) V 2 va := by
  have h2 : va = 0 ∨ va = 1 ∨ va = 2 ∨ va = 3 ∨ va = 4 ∨ va = 5 ∨ va = 6 ∨ va = 7 ∨ va = 8 ∨ va = 9 ∨ va = 10 ∨ va = 11 ∨ va = 12 := by omega
  rcases h2 with rfl | rfl | rfl | rfl | rfl | rfl | rfl | rfl | rfl | rfl | rfl | rfl | rfl
  · rw [show f_wcode 0 0 = 7 by decide]
    exact ⟨⟨by decide, by decide, fun q => absurd q (by decide)⟩, ⟨by decide, by decide, by decide, by decide, by decide⟩, by decide, by decide, fun c hc => by omega⟩
  · rw [show f_wcode 0 1 = 3 by decide]
    exact ⟨⟨by decide, by decide, fun q => absurd q (by decide)⟩, ⟨by decide, by decide, by decide, by decide, by decide⟩, by decide, by decide, fun c hc => by omega⟩
  · rw [show f_wcode 0 2 = 4 by decide]
    exact ⟨⟨by decide, by decide, fun q => absurd q (by decide)⟩, ⟨by decide, by decide, by decide, by decide, by decide⟩, by decide, by decide, fun c hc => by omega⟩
  · rw [show f_wcode 0 3 = 5 by decide]
    exact ⟨⟨by decide, by decide, fun q => absurd q (by decide)⟩, ⟨by decide, by decide, by decide, by decide, by decide⟩, by decide, by decide, fun c hc => by omega⟩
  · rw [show f_wcode 0 4 = 6 by decide]
    exact ⟨⟨by decide, by decide, fun q => absurd q (by decide)⟩, ⟨by decide, by decide, by decide, by decide, by decide⟩, by decide, by decide, fun c hc => by omega⟩
  · rw [show f_wcode 0 5 = 41 by decide]
    exact ⟨⟨by decide, by decide, fun q => absurd q (by decide)⟩, ⟨by decide, by decide, by decide, by decide, by decide⟩, by decide, by decide, fun c hc => by omega⟩
  · rw [show f_wcode 0 6 = 42 by decide]
    exact ⟨⟨by decide, by decide, fun q => absurd q (by decide)⟩, ⟨by decide, by decide, by decide, by decide, by decide⟩, by decide, by decide, fun c hc => by omega⟩
  · rw [show f_wcode 0 7 = 43 by decide]
    exact ⟨⟨by decide, by decide, fun q => absurd q (by decide)⟩, ⟨by decide, by decide, by decide, by decide, by decide⟩, by decide, by decide, fun c hc => by omega⟩
  · rw [show f_wcode 0 8 = 44 by decide]
    exact ⟨⟨by decide, by decide, fun q => absurd q (by decide)⟩, ⟨by decide, by decide, by decide, by decide, by decide⟩, by decide, by decide, fun c hc => by omega⟩
  · rw [show f_wcode 0 9 = 45 by decide]
    exact ⟨⟨by decide, by decide, fun q => absurd q (by decide)⟩, ⟨by decide, by decide, by decide, by decide, by decide⟩, by decide, by decide, fun c hc => by omega⟩
  · rw [show f_wcode 0 10 = 46 by decide]
    exact ⟨⟨by decide, by decide, fun q => absurd q (by decide)⟩, ⟨by decide, by decide, by decide, by decide, by decide⟩, by decide, by decide, fun c hc => by omega⟩
  · rw [show f_wcode 0 11 = 47 by decide]
    exact ⟨⟨by decide, by decide, fun q => absurd q (by decide)⟩, ⟨by decide, by decide, by decide, by decide, by decide⟩, by decide, by decide, fun c hc => by omega⟩
  · rw [show f_wcode 0 12 = 48 by decide]
    exact ⟨⟨by decide, by decide, fun q => absurd q (by decide)⟩, ⟨by decide, by decide, by decide, by decide, by decide⟩, by decide, by decide, fun c hc => by omega⟩
theorem f_kl_1 {V va : Int} (h : 0 ≤ va ∧ va < 11) : f_kl 1 (f_wcode 1 va) V 2 va := by
  have h2 : va = 0 ∨ va = 1 ∨ va = 2 ∨ va = 3 ∨ va = 4 ∨ va = 5 ∨ va = 6 ∨ va = 7 ∨ va = 8 ∨ va = 9 ∨ va = 10 := by omega
  rcases h2 with rfl | rfl | rfl | rfl | rfl | rfl | rfl | rfl | rfl | rfl | rfl
  · rw [show f_wcode 1 0 = 7 by decide]
    exact ⟨⟨by decide, by decide, fun q => absurd q (by decide)⟩, ⟨by decide, by decide, by decide, by decide, by decide⟩, by decide, by decide, fun c hc => by omega⟩
  · rw [show f_wcode 1 1 = 3 by decide]
    exact ⟨⟨by decide, by decide, fun q => absurd q (by decide)⟩, ⟨by decide, by decide, by decide, by decide, by decide⟩, by decide, by decide, fun c hc => by omega⟩
  · rw [show f_wcode 1 2 = 4 by decide]
    exact ⟨⟨by decide, by decide, fun q => absurd q (by decide)⟩, ⟨by decide, by decide, by decide, by decide, by decide⟩, by decide, by decide, fun c hc => by omega⟩
  · rw [show f_wcode 1 3 = 5 by decide]
    exact ⟨⟨by decide, by decide, fun q => absurd q (by decide)⟩, ⟨by decide, by decide, by decide, by decide, by decide⟩, by decide, by decide, fun c hc => by omega⟩
  · rw [show f_wcode 1 4 = 6 by decide]
    exact ⟨⟨by decide, by decide, fun q => absurd q (by decide)⟩, ⟨by decide, by decide, by decide, by decide, by decide⟩, by decide, by decide, fun c hc => by omega⟩
  · rw [show f_wcode 1 5 = 41 by decide]
    exact ⟨⟨by decide, by decide, fun q => absurd q (by decide)⟩, ⟨by decide, by decide, by decide, by decide, by decide⟩, by decide, by decide, fun c hc => by omega⟩
  · rw [show f_wcode 1 6 = 42 by decide]
    exact ⟨⟨by decide, by decide, fun q => absurd q (by decide)⟩, ⟨by decide, by decide, by decide, by decide, by decide⟩, by decide, by decide, fun c hc => by omega⟩
  · rw [show f_wcode 1 7 = 43 by decide]
    exact ⟨⟨by decide, by decide, fun q => absurd q (by decide)⟩, ⟨by decide, by decide, by decide, by decide, by decide⟩, by decide, by decide, fun c hc => by omega⟩
  · rw [show f_wcode 1 8 = 44 by decide]
    exact ⟨⟨by decide, by decide, fun q => absurd q (by decide)⟩, ⟨by decide, by decide, by decide, by decide, by decide⟩, by decide, by decide, fun c hc => by omega⟩
  · rw [show f_wcode 1 9 = 45 by decide]
    exact ⟨⟨by decide, by decide, fun q => absurd q (by decide)⟩, ⟨by decide, by decide, by decide, by decide, by decide⟩, by decide, by decide, fun c hc => by omega⟩
  · rw [show f_wcode 1 10 = 46 by decide]
    exact ⟨⟨by decide, by decide, fun q => absurd q (by decide)⟩, ⟨by decide, by decide, by decide, by decide, by decide⟩, by decide, by decide, fun c hc => by omega⟩
theorem f_kl_2 {V va : Int} (h : 0 ≤ va ∧ va < 13) : f_kl 2 (f_wcode 2 va) V 2 va := by
  have h2 : va = 0 ∨ va = 1 ∨ va = 2 ∨ va = 3 ∨ va = 4 ∨ va = 5 ∨ va = 6 ∨ va = 7 ∨ va = 8 ∨ va = 9 ∨ va = 10 ∨ va = 11 ∨ va = 12 := by omega
  rcases h2 with rfl | rfl | rfl | rfl | rfl | rfl | rfl | rfl | rfl | rfl | rfl | rfl | rfl
  · rw [show f_wcode 2 0 = 7 by decide]
    exact ⟨⟨by decide, by decide, fun q => absurd q (by decide)⟩, ⟨by decide, by decide, by decide, by decide, by decide⟩, by decide, by decide, fun c hc => by omega⟩
  · rw [show f_wcode 2 1 = 3 by decide]
    exact ⟨⟨by decide, by decide, fun q => absurd q (by decide)⟩, ⟨by decide, by decide, by decide, by decide, by decide⟩, by decide, by decide, fun c hc => by omega⟩
  · rw [show f_wcode 2 2 = 4 by decide]
    exact ⟨⟨by decide, by decide, fun q => absurd q (by decide)⟩, ⟨by decide, by decide, by decide, by decide, by decide⟩, by decide, by decide, fun c hc => by omega⟩
  · rw [show f_wcode 2 3 = 5 by decide]
    exact ⟨⟨by decide, by decide, fun q => absurd q (by decide)⟩, ⟨by decide, by decide, by decide, by decide, by decide⟩, by decide, by decide, fun c hc => by omega⟩
  · rw [show f_wcode 2 4 = 6 by decide]
    exact ⟨⟨by decide, by decide, fun q => absurd q (by decide)⟩, ⟨by decide, by decide, by decide, by decide, by decide⟩, by decide, by decide, fun c hc => by omega⟩
  · rw [show f_wcode 2 5 = 49 by decide]
    exact ⟨⟨by decide, by decide, fun q => absurd q (by decide)⟩, ⟨by decide, by decide, by decide, by decide, by decide⟩, by decide, by decide, fun c hc => by omega⟩
  · rw [show f_wcode 2 6 = 45 by decide]
    exact ⟨⟨by decide, by decide, fun q => absurd q (by decide)⟩, ⟨by decide, by decide, by decide, by decide, by decide⟩, by decide, by decide, fun c hc => by omega⟩
  · rw [show f_wcode 2 7 = 50 by decide]
    exact ⟨⟨by decide, by decide, fun q => absurd q (by decide)⟩, ⟨by decide, by decide, by decide, by decide, by decide⟩, by decide, by decide, fun c hc => by omega⟩
  · rw [show f_wcode 2 8 = 51 by decide]
    exact ⟨⟨by decide, by decide, fun q => absurd q (by decide)⟩, ⟨by decide, by decide, by decide, by decide, by decide⟩, by decide, by decide, fun c hc => by omega⟩
  · rw [show f_wcode 2 9 = 43 by decide]
    exact ⟨⟨by decide, by decide, fun q => absurd q (by decide)⟩, ⟨by decide, by decide, by decide, by decide, by decide⟩, by decide, by decide, fun c hc => by omega⟩
  · rw [show f_wcode 2 10 = 52 by decide]
    exact ⟨⟨by decide, by decide, fun q => absurd q (by decide)⟩, ⟨by decide, by decide, by decide, by decide, by decide⟩, by decide, by decide, fun c hc => by omega⟩
  · rw [show f_wcode 2 11 = 46 by decide]
    exact ⟨⟨by decide, by decide, fun q => absurd q (by decide)⟩, ⟨by decide, by decide, by decide, by decide, by decide⟩, by decide, by decide, fun c hc => by omega⟩
  · rw [show f_wcode 2 12 = 53 by decide]
    exact ⟨⟨by decide, by decide, fun q => absurd q (by decide)⟩, ⟨by decide, by decide, by decide, by decide, by decide⟩, by decide, by decide, fun c hc => by omega⟩
theorem f_kv_lw {rd T V kd va : Int} (hr : 0 ≤ rd ∧ rd < 3) (h : f_kv rd T V kd va) : f_kl rd T V kd va := by
  rcases h with h | h | h | h | ⟨rfl, h2, rfl⟩
  · exact f_kl_no (Or.inl h)
  · exact f_kl_no (Or.inr (Or.inl h))
  · exact f_kl_no (Or.inr (Or.inr (Or.inl h)))
  · exact f_kl_no (Or.inr (Or.inr (Or.inr h)))
  · have h3 : rd = 0 ∨ rd = 1 ∨ rd = 2 := by omega
    rcases h3 with rfl | rfl | rfl
    · exact f_kl_0 h2
    · exact f_kl_1 h2
    · exact f_kl_2 h2
theorem kl_0 {rd T V kd va : Int} (h : f_kl rd T V kd va) : kd = 0 ↔ T = 0 := h.1.1
theorem kl_n {rd T V kd va : Int} (h : f_kl rd T V kd va) : kd = 3 ↔ T = 2 := h.1.2.1
theorem kl_V {rd T V kd va : Int} (h : f_kl rd T V kd va) (h3 : kd = 3) : va = V := h.1.2.2 h3
theorem kl_w0 {rd T V kd va : Int} (h : f_kl rd T V kd va) : kd = 2 ∧ va = 0 ↔ T = 7 := h.2.1.1
theorem kl_w1 {rd T V kd va : Int} (h : f_kl rd T V kd va) : kd = 2 ∧ va = 1 ↔ T = 3 := h.2.1.2.1
theorem kl_w2 {rd T V kd va : Int} (h : f_kl rd T V kd va) : kd = 2 ∧ va = 2 ↔ T = 4 := h.2.1.2.2.1
theorem kl_w3 {rd T V kd va : Int} (h : f_kl rd T V kd va) : kd = 2 ∧ va = 3 ↔ T = 5 := h.2.1.2.2.2.1
theorem kl_w4 {rd T V kd va : Int} (h : f_kl rd T V kd va) : kd = 2 ∧ va = 4 ↔ T = 6 := h.2.1.2.2.2.2
theorem kl_A {rd T V kd va : Int} (h : f_kl rd T V kd va) : kd = 2 ∧ 5 ≤ va ↔ 41 ≤ T ∧ T ≤ 53 := h.2.2.1
theorem kl_N {rd T V kd va : Int} (h : f_kl rd T V kd va) (h2 : kd = 2 ∧ 5 ≤ va) : -(1 + f_ix rd (T - 40)) = 4 - va := h.2.2.2.1 h2
theorem kl_s {rd T V kd va : Int} (h : f_kl rd T V kd va) (c : Int) (hc : 40 ≤ c) : kd = 1 ∧ va = c ↔ T = 100 + c := h.2.2.2.2 c hc
def f_pi (cd : Int → Int) : Int → List Int → (Int → Int)
  | _, [] => cd
  | n, x :: tl => f_pi (f_up cd n x) (n + 1) tl
theorem f_pi_app : ∀ (a b : List Int) (cd : Int → Int) (n : Int), f_pi cd n (a ++ b) = f_pi (f_pi cd n a) (n + (a.length : Int)) b
  | [], b, cd, n => by
    show f_pi cd n b = f_pi cd (n + 0) b
    rw [Int.add_zero]
  | x :: tl, b, cd, n => by
    show f_pi (f_up cd n x) (n + 1) (tl ++ b) = f_pi (f_pi (f_up cd n x) (n + 1) tl) (n + ((tl.length + 1 : Nat) : Int)) b
    rw [f_pi_app tl b, show n + 1 + (tl.length : Int) = n + ((tl.length + 1 : Nat) : Int) by omega]
theorem f_pi_more {cd A : Int → Int} {rd sz n : Int} {o b : List f_Op} (h1 : A = f_pi cd sz (f_en rd o)) (h2 : n = sz + (f_wt o : Int)) : f_pi A n (f_en rd b) = f_pi cd sz (f_en rd (o ++ b)) := by
  rw [f_en_app, f_pi_app, ← h1, f_en_wt, ← h2]
theorem f_pi_sn {cd A : Int → Int} {rd sz n x : Int} {o : List f_Op} {p : f_Op} (h1 : A = f_pi cd sz (f_en rd o)) (h2 : n = sz + (f_wt o : Int)) (h3 : f_enO rd p = [x]) : f_up A n x = f_pi cd sz (f_en rd (o ++ [p])) := by
  rw [← f_pi_more h1 h2]
  show _ = f_pi A n (f_enO rd p ++ [])
  rw [h3]
  rfl
theorem f_wt_sn {o : List f_Op} {p : f_Op} (h : p.1 ≠ 26) : f_wt (o ++ [p]) = f_wt o + 1 := by
  rw [f_wt_app]
  show f_wt o + ((if p.1 = 26 then 2 else 1) + 0) = _
  rw [if_neg h]
def f_rL (r : f_Rs) : List f_Tk := match r with
  | .inl _ => []
  | .inr (L, _) => L
def f_rO (r : f_Rs) : List f_Op := match r with
  | .inl _ => []
  | .inr (_, o) => o
theorem f_rb_1 {r : f_Rs} (h : f_rb r = 1) : r = .inr (f_rL r, f_rO r) := by
  match r, h with
  | .inr (L, o), _ => rfl
theorem f_seq_1 {r : f_Rs} {k : List f_Tk → f_Rs} (h : f_rb r = 1) : f_seq r k = f_pre (f_rO r) (k (f_rL r)) := by
  match r, h with
  | .inr (L, o), _ => rfl
theorem f_seq_0 {r : f_Rs} {k : List f_Tk → f_Rs} {e : Int × Int} (h : r = .inl e) : f_seq r k = .inl e := by
  rw [h]
  rfl
def f_cok (rd : Int) (K V S cd : Int → Int) (sz x2 x3 : Int) (r : f_Rs) (M2 : ax_Mem) : Prop := match r with
  | .inl (k, s) => M2 58 2 = k ∧ M2 58 3 = s
  | .inr (L2, o) => M2 64 = f_pi cd sz (f_en rd o) ∧ M2 63 1 = sz + (f_wt o : Int) ∧ f_cc rd K V S (M2 58 8) L2 ∧ M2 58 2 = x2 ∧ M2 58 3 = x3
theorem f_cok_ok {rd : Int} {K V S cd : Int → Int} {sz n x2 x3 : Int} {r : f_Rs} {M2 : ax_Mem} {L2 : List f_Tk} {o : List f_Op} (e : r = .inr (L2, o)) (h1 : M2 64 = f_pi cd sz (f_en rd o)) (h2 : M2 63 1 = sz + (f_wt o : Int)) (h3 : M2 58 8 = n) (hc : f_cc rd K V S n L2) (h4 : M2 58 2 = x2) (h5 : M2 58 3 = x3) : f_cok rd K V S cd sz x2 x3 r M2 := by
  rw [e]
  refine ⟨h1, h2, ?_, h4, h5⟩
  rw [h3]
  exact hc
theorem f_cok_no {rd : Int} {K V S cd : Int → Int} {sz x2 x3 : Int} {r : f_Rs} {M2 : ax_Mem} {k s : Int} (e : r = .inl (k, s)) (h1 : M2 58 2 = k) (h2 : M2 58 3 = s) : f_cok rd K V S cd sz x2 x3 r M2 := by
  rw [e]
  exact ⟨h1, h2⟩
theorem f_cok_1 {rd : Int} {K V S cd : Int → Int} {sz x2 x3 : Int} {r : f_Rs} {M2 : ax_Mem} (h : f_cok rd K V S cd sz x2 x3 r M2) (h1 : f_rb r = 1) : M2 64 = f_pi cd sz (f_en rd (f_rO r)) ∧ M2 63 1 = sz + (f_wt (f_rO r) : Int) ∧ f_cc rd K V S (M2 58 8) (f_rL r) ∧ M2 58 2 = x2 ∧ M2 58 3 = x3 := by
  match r, h, h1 with
  | .inr (L, o), h, _ => exact h
theorem f_cok_0 {rd : Int} {K V S cd : Int → Int} {sz x2 x3 : Int} {r : f_Rs} {M2 : ax_Mem} (h : f_cok rd K V S cd sz x2 x3 r M2) (h1 : f_rb r = 0) : r = .inl (M2 58 2, M2 58 3) := by
  match r, h, h1 with
  | .inl (k, s), h, _ =>
    obtain ⟨rfl, rfl⟩ := h
    rfl
theorem f_lp_go {q : List f_Tk → Option f_Rs} (hq : f_gq q) {L L1 L3 : List f_Tk} {o1 o3 : List f_Op} {r F : f_Rs} {tu : Int} (e : q L1 = some r) (hr : r = .inr (L3, o3)) (h5 : f_wt o1 + L1.length ≤ L.length ∧ tu + 1 ≤ (f_wt o1 : Int)) (h6 : F = f_pre o1 (f_rep q L1)) : (f_wt (o1 ++ o3) + L3.length ≤ L.length ∧ tu + 1 + 1 ≤ (f_wt (o1 ++ o3) : Int)) ∧ F = f_pre (o1 ++ o3) (f_rep q L3) := by
  have h1 := hq L1 r e L3 o3 hr
  rw [f_wt_app]
  refine ⟨⟨by omega, by omega⟩, ?_⟩
  rw [h6, f_rep_some hq e, hr]
  exact f_pre_pre o1 o3 _
theorem f_lp_no {q : List f_Tk → Option f_Rs} (hq : f_gq q) {L1 : List f_Tk} {o1 : List f_Op} {r F : f_Rs} {x : Int × Int} (e : q L1 = some r) (hr : r = .inl x) (h6 : F = f_pre o1 (f_rep q L1)) : F = .inl x := by
  rw [h6]
  exact f_rep_no hq (e.trans (congrArg some hr))
theorem f_lp_end {q : List f_Tk → Option f_Rs} {L1 : List f_Tk} {o1 : List f_Op} {F : f_Rs} (e : q L1 = none) (h6 : F = f_pre o1 (f_rep q L1)) : F = .inr (L1, o1) := by
  rw [h6, f_rep_none e, f_pre_nil]
set_option maxRecDepth 20000 in
theorem s_X3_put (E : ax_Env) (l : Launch) (d : Nat) (hd : 0 ≤ d) (M : ax_Mem) (cv : Int) {cd : Int → Int} (hcd : M 64 = cd) {sz : Int} (hsz : M 63 1 = sz) (hg0 : 0 ≤ sz ∧ sz < 400) : ax_G E l d iX3_put [.inr 63, .inl cv] M (fun z0 M2 => z0 = some (.inl 1) ∧ (∀ x0 i0 : Int, ¬ (x0 = 64 ∨ (x0 = 63 ∧ i0 = 1)) → M2 x0 i0 = M x0 i0) ∧ M2 64 = f_up cd sz cv ∧ M2 63 1 = sz + 1) := by
  refine ax_start rfl (Nat.le_of_ble_eq_true rfl) (ls := [some (.inr 63), some (.inl cv)]) rfl (fun hav hcm => ?_)
  have hc1 : -2147483648 ≤ cv ∧ cv < 2147483648 := hav (.inl cv) (by simp)
  clear hav
  refine ax_aload_n dX3_put_0 rfl rfl (pc' := 1) rfl ?_
  refine ax_geti (v := sz) dX3_put_1 flX3_19 rfl sh_63 hsz rfl (pc' := 4) rfl ?_
  refine ax_sipush dX3_put_4 (by decide) (pc' := 7) rfl ?_
  refine ax_icmp_ge (tgt := 30) dX3_put_7 (by decide) (pc' := 10) rfl (fun h7 => ?_) (fun h7 => ?_)
  · exfalso
    omega
  · refine ax_aload_n dX3_put_10 rfl rfl (pc' := 11) rfl ?_
    refine ax_getr (v := 64) dX3_put_11 flX3_11 rfl sh_63 rfl (pc' := 14) rfl ?_
    refine ax_aload_n dX3_put_14 rfl rfl (pc' := 15) rfl ?_
    refine ax_geti (v := sz) dX3_put_15 flX3_19 rfl sh_63 hsz rfl (pc' := 18) rfl ?_
    refine ax_iload_n dX3_put_18 rfl rfl (pc' := 19) rfl ?_
    refine ax_iast dX3_put_19 sh_64 rfl (by omega) (by omega) (pc' := 20) rfl ?_
    refine ax_aload_n dX3_put_20 rfl rfl (pc' := 21) rfl ?_
    refine ax_dup dX3_put_21 (pc' := 22) rfl ?_
    refine ax_geti (v := sz) dX3_put_22 flX3_19 rfl sh_63 (show (ax_up M 64 sz cv) 63 1 = sz from (ax_up_miss (fun h => absurd h.1 (by decide)) hsz)) rfl (pc' := 25) rfl ?_
    refine ax_iconst dX3_put_25 (by decide) (pc' := 26) rfl ?_
    refine ax_iadd dX3_put_26 (by omega) (pc' := 27) rfl ?_
    refine ax_puti dX3_put_27 flX3_19 (Or.inl rfl) sh_63 rfl (pc' := 30) rfl ?_
    refine ax_iconst dX3_put_30 (by decide) (pc' := 31) rfl ?_
    refine ax_zret dX3_put_31 rfl (by decide) ?_
    refine ⟨rfl, ?_, ?_, ?_, ?_⟩
    · rfl
    · intro x0 i0 hai
      exact (ax_up_miss (fun h => hai (Or.inr h)) (ax_up_miss (fun h => hai (Or.inl h.1)) rfl))
    · exact (ax_up_rowmiss (by decide) (ax_up_rowhit hcd))
    · exact (ax_up_hit _ _ _ _)
set_option maxRecDepth 20000 in
theorem s_X3_readUnit (E : ax_Env) (l : Launch) (d : Nat) (hd : 1 ≤ d) (M : ax_Mem) (rd : Int) (L : List f_Tk) {kk : Int → Int} (hkk : M 60 = kk) {vv : Int → Int} (hvv : M 61 = vv) {ss : Int → Int} (hss : M 62 = ss) {cd : Int → Int} (hcd : M 64 = cd) {nx : Int} (hnx : M 58 8 = nx) {sz : Int} (hsz : M 63 1 = sz) {x2 : Int} (hx2 : M 58 2 = x2) {x3 : Int} (hx3 : M 58 3 = x3) (hg0 : 0 ≤ rd ∧ rd < 3) (hg1 : f_cc rd kk vv ss nx L) (hg2 : 0 ≤ sz ∧ sz + (L.length : Int) ≤ 401) : ax_G E l d iX3_readUnit [.inr 63, .inr 58] M (fun z0 M2 => z0 = some (.inl (f_rb (f_unit L))) ∧ (∀ x0 i0 : Int, ¬ (x0 = 64 ∨ (x0 = 63 ∧ i0 = 1) ∨ (x0 = 58 ∧ i0 = 8) ∨ (x0 = 58 ∧ i0 = 2) ∨ (x0 = 58 ∧ i0 = 3)) → M2 x0 i0 = M x0 i0) ∧ (f_cok rd kk vv ss cd sz x2 x3 (f_unit L) M2)) := by
  obtain ⟨d, rfl⟩ : ∃ d0, d = d0 + 1 := ⟨d - 1, by omega⟩
  refine ax_start rfl (Nat.le_of_ble_eq_true rfl) (ls := [some (.inr 63), some (.inr 58), none]) rfl (fun hav hcm => ?_)
  clear hav
  have qK := f_kv_lw hg0 (f_cc_hd hg1).1.1
  have qs := (f_cc_hd hg1).1.2
  have qR := f_cc_rg hg1
  refine ax_aload_n dX3_readUnit_0 rfl rfl (pc' := 1) rfl ?_
  refine ax_invG [] [] dX3_readUnit_1 mlX3_74 sh_58 rfl rfl rfl (Nat.le_of_ble_eq_true rfl) (s_X8_value E l _ (by omega) _ hvv hnx (by first | omega | assumption)) (pc' := 4) rfl (fun vv M_1 hq co1 hcm1 => ?_)
  obtain ⟨rfl, rfl⟩ := hq
  refine ax_reS (st2 := [.inl (vv nx)]) rfl ?_
  have cc1 : -2147483648 ≤ vv nx ∧ vv nx < 2147483648 := co1 _ rfl
  refine ax_istore_n dX3_readUnit_4 rfl (by decide) (ls' := [some (.inr 63), some (.inr 58), some (.inl (vv nx))]) rfl (pc' := 5) rfl ?_
  refine ax_aload_n dX3_readUnit_5 rfl rfl (pc' := 6) rfl ?_
  refine ax_iconst dX3_readUnit_6 (by decide) (pc' := 7) rfl ?_
  refine ax_invG [.inl 5] [] dX3_readUnit_7 mlX3_78 sh_58 rfl rfl rfl (Nat.le_of_ble_eq_true rfl) (s_X8_isAsked E l _ (by omega) _ 5 hkk hvv hnx (by first | omega | assumption)) (pc' := 10) rfl (fun vv M_7 hq co7 hcm7 => ?_)
  obtain ⟨rfl, rfl⟩ := hq
  refine ax_reS (st2 := [.inl (f_b (kk nx = 2 ∧ 5 ≤ vv nx))]) rfl ?_
  refine ax_if_eq (tgt := 20) dX3_readUnit_10 (by decide) (pc' := 13) rfl (fun h10 => ?_) (fun h10 => ?_)
  · replace h10 := f_b_0 h10
    refine ax_aload_n dX3_readUnit_20 rfl rfl (pc' := 21) rfl ?_
    refine ax_invG [] [] dX3_readUnit_21 mlX3_71 sh_58 rfl rfl rfl (Nat.le_of_ble_eq_true rfl) (s_X8_isNumber E l _ (by omega) _ hkk hnx (by first | omega | assumption)) (pc' := 24) rfl (fun vv M_21 hq co21 hcm21 => ?_)
    obtain ⟨rfl, rfl⟩ := hq
    refine ax_reS (st2 := [.inl (f_b (kk nx = 3))]) rfl ?_
    refine ax_if_ne (tgt := 33) dX3_readUnit_24 (by decide) (pc' := 27) rfl (fun h24 => ?_) (fun h24 => ?_)
    · replace h24 := f_b_1 h24
      have qT := (kl_n qK).mp h24
      have qz : f_unit L = .inr (L.tail, [(0, f_V L)]) := by
        unfold f_unit
        rw [if_pos (by omega)]
      have qen : f_enO rd (0, f_V L) = [vv nx] := by
        rw [kl_V qK h24]
        rfl
      have qn26 : (0 : Int) ≠ 26 := by decide
      obtain ⟨xc, xl, xn⟩ := f_cc_nx hg1 (by omega)
      have xK := f_kv_lw hg0 (f_cc_hd xc).1.1
      have xs := (f_cc_hd xc).1.2
      have xR := f_cc_rg xc
      refine ax_aload_n dX3_readUnit_33 rfl rfl (pc' := 34) rfl ?_
      refine ax_invG [] [] dX3_readUnit_34 mlX3_45 sh_58 rfl rfl rfl (Nat.le_of_ble_eq_true rfl) (s_X8_step E l _ (by omega) _ hkk hnx (by first | omega | assumption) (by first | omega | assumption)) (pc' := 37) rfl (fun vv M_34 hq co34 hcm34 => ?_)
      obtain ⟨rfl, frM_34, msM_34_0⟩ := hq
      refine ax_reS (st2 := []) rfl ?_
      refine ax_aload_n dX3_readUnit_37 rfl rfl (pc' := 38) rfl ?_
      refine ax_iload_n dX3_readUnit_38 rfl rfl (pc' := 39) rfl ?_
      refine ax_invG [.inl (vv nx)] [] dX3_readUnit_39 mlX3_55 sh_63 rfl rfl rfl (Nat.le_of_ble_eq_true rfl) (s_X3_put E l _ (by omega) _ (vv nx) ((funext fun i0 => frM_34 64 i0 (fun h => absurd h.1 (by decide))).trans hcd) ((frM_34 63 1 (fun h => absurd h.1 (by decide))).trans hsz) (by first | omega | assumption)) (pc' := 42) rfl (fun vv M_39 hq co39 hcm39 => ?_)
      obtain ⟨rfl, frM_39, mrM_39_0, msM_39_0⟩ := hq
      refine ax_reS (st2 := [.inl 1]) rfl ?_
      refine ax_zret dX3_readUnit_42 rfl (by decide) ?_
      refine ⟨rfl, ?_, ?_, ?_⟩
      · refine congrArg (fun z => some (Sum.inl z)) ?_
        rw [qz]
        rfl
      · intro x0 i0 hai
        exact ((frM_39 x0 i0 (fun h => h.elim (fun h => hai (Or.inl h)) (fun h => hai (Or.inr (Or.inl h))))).trans ((frM_34 x0 i0 (fun h => hai (Or.inr (Or.inr (Or.inl h))))).trans rfl))
      · refine f_cok_ok qz (Eq.trans mrM_39_0 ?_) (Eq.trans msM_39_0 ?_) ((frM_39 58 8 (fun h => h.elim (fun h => absurd h (by decide)) (fun h => absurd h.1 (by decide)))).trans msM_34_0) xc (Eq.trans ((frM_39 58 2 (fun h => h.elim (fun h => absurd h (by decide)) (fun h => absurd h.1 (by decide)))).trans ((frM_34 58 2 (fun h => absurd h.2 (by decide))).trans hx2)) rfl) (Eq.trans ((frM_39 58 3 (fun h => h.elim (fun h => absurd h (by decide)) (fun h => absurd h.1 (by decide)))).trans ((frM_34 58 3 (fun h => absurd h.2 (by decide))).trans hx3)) rfl)
        · exact f_pi_sn (o := []) (sz := sz) rfl (Int.add_zero _).symm qen
        · have e := f_wt_sn (o := []) (p := (_, f_V L)) qn26
          rw [List.nil_append] at e
          rw [e]
          rfl
    · replace h24 := f_b_0 h24
      have qT := not_congr (kl_n qK)
      have qT2 := not_congr (kl_A qK)
      have qz : f_unit L = .inl (1, ss nx) := by
        unfold f_unit
        rw [if_neg (qT.mp h24), if_neg (qT2.mp h10), qs]
      refine ax_aload_n dX3_readUnit_27 rfl rfl (pc' := 28) rfl ?_
      refine ax_iconst dX3_readUnit_28 (by decide) (pc' := 29) rfl ?_
      refine ax_invG [.inl 1] [] dX3_readUnit_29 mlX3_42 sh_58 rfl rfl rfl (Nat.le_of_ble_eq_true rfl) (s_X8_fail E l _ (by omega) _ 1 hss hnx (by first | omega | assumption)) (pc' := 32) rfl (fun vv M_29 hq co29 hcm29 => ?_)
      obtain ⟨rfl, frM_29, msM_29_0, msM_29_1⟩ := hq
      refine ax_reS (st2 := [.inl 0]) rfl ?_
      refine ax_zret dX3_readUnit_32 rfl (by decide) ?_
      refine ⟨rfl, ?_, ?_, ?_⟩
      · refine congrArg (fun z => some (Sum.inl z)) ?_
        rw [qz]
        rfl
      · intro x0 i0 hai
        exact ((frM_29 x0 i0 (fun h => h.elim (fun h => hai (Or.inr (Or.inr (Or.inr (Or.inl h))))) (fun h => hai (Or.inr (Or.inr (Or.inr (Or.inr h))))))).trans rfl)
      · exact f_cok_no qz msM_29_0 msM_29_1
  · replace h10 := f_b_1 h10
    have qT := (kl_A qK).mp h10
    have qz : f_unit L = .inr (L.tail, [(f_T L - 40, f_V L)]) := by
      unfold f_unit
      rw [if_neg (by omega), if_pos (by omega)]
    have qen : f_enO rd (f_T L - 40, f_V L) = [4 - vv nx] := by
      unfold f_enO
      dsimp only
      rw [if_pos (by omega), if_neg (by omega), kl_N qK h10]
    have qn26 : f_T L - 40 ≠ 26 := by omega
    obtain ⟨xc, xl, xn⟩ := f_cc_nx hg1 (by omega)
    have xK := f_kv_lw hg0 (f_cc_hd xc).1.1
    have xs := (f_cc_hd xc).1.2
    have xR := f_cc_rg xc
    refine ax_iconst dX3_readUnit_13 (by decide) (pc' := 14) rfl ?_
    refine ax_iload_n dX3_readUnit_14 rfl rfl (pc' := 15) rfl ?_
    refine ax_isub dX3_readUnit_15 (by omega) (pc' := 16) rfl ?_
    refine ax_istore_n dX3_readUnit_16 rfl (by decide) (ls' := [some (.inr 63), some (.inr 58), some (.inl (4 - (vv nx)))]) rfl (pc' := 17) rfl ?_
    refine ax_goto dX3_readUnit_17 (pc' := 33) (by decide) ?_
    refine ax_aload_n dX3_readUnit_33 rfl rfl (pc' := 34) rfl ?_
    refine ax_invG [] [] dX3_readUnit_34 mlX3_45 sh_58 rfl rfl rfl (Nat.le_of_ble_eq_true rfl) (s_X8_step E l _ (by omega) _ hkk hnx (by first | omega | assumption) (by first | omega | assumption)) (pc' := 37) rfl (fun vv M_34 hq co34 hcm34 => ?_)
    obtain ⟨rfl, frM_34, msM_34_0⟩ := hq
    refine ax_reS (st2 := []) rfl ?_
    refine ax_aload_n dX3_readUnit_37 rfl rfl (pc' := 38) rfl ?_
    refine ax_iload_n dX3_readUnit_38 rfl rfl (pc' := 39) rfl ?_
    refine ax_invG [.inl (4 - (vv nx))] [] dX3_readUnit_39 mlX3_55 sh_63 rfl rfl rfl (Nat.le_of_ble_eq_true rfl) (s_X3_put E l _ (by omega) _ (4 - (vv nx)) ((funext fun i0 => frM_34 64 i0 (fun h => absurd h.1 (by decide))).trans hcd) ((frM_34 63 1 (fun h => absurd h.1 (by decide))).trans hsz) (by first | omega | assumption)) (pc' := 42) rfl (fun vv M_39 hq co39 hcm39 => ?_)
    obtain ⟨rfl, frM_39, mrM_39_0, msM_39_0⟩ := hq
    refine ax_reS (st2 := [.inl 1]) rfl ?_
    refine ax_zret dX3_readUnit_42 rfl (by decide) ?_
    refine ⟨rfl, ?_, ?_, ?_⟩
    · refine congrArg (fun z => some (Sum.inl z)) ?_
      rw [qz]
      rfl
    · intro x0 i0 hai
      exact ((frM_39 x0 i0 (fun h => h.elim (fun h => hai (Or.inl h)) (fun h => hai (Or.inr (Or.inl h))))).trans ((frM_34 x0 i0 (fun h => hai (Or.inr (Or.inr (Or.inl h))))).trans rfl))
    · refine f_cok_ok qz (Eq.trans mrM_39_0 ?_) (Eq.trans msM_39_0 ?_) ((frM_39 58 8 (fun h => h.elim (fun h => absurd h (by decide)) (fun h => absurd h.1 (by decide)))).trans msM_34_0) xc (Eq.trans ((frM_39 58 2 (fun h => h.elim (fun h => absurd h (by decide)) (fun h => absurd h.1 (by decide)))).trans ((frM_34 58 2 (fun h => absurd h.2 (by decide))).trans hx2)) rfl) (Eq.trans ((frM_39 58 3 (fun h => h.elim (fun h => absurd h (by decide)) (fun h => absurd h.1 (by decide)))).trans ((frM_34 58 3 (fun h => absurd h.2 (by decide))).trans hx3)) rfl)
      · exact f_pi_sn (o := []) (sz := sz) rfl (Int.add_zero _).symm qen
      · have e := f_wt_sn (o := []) (p := (_, f_V L)) qn26
        rw [List.nil_append] at e
        rw [e]
        rfl
