/-! yards: bits of sets, and the class's row of the fewest -/
def f_an : Nat → Nat → Nat → Nat
  | 0, _, _ => 0
  | n + 1, a, s => 2 * f_an n (a / 2) (s / 2) + (if a % 2 = 1 ∧ s % 2 = 1 then 1 else 0)
set_option maxRecDepth 100000 in
theorem f_an_all : ∀ a : Fin 128, ∀ s : Fin 128, ax_and (a.val : Int) (s.val : Int) = (f_an 7 a.val s.val : Int) := by decide +kernel
set_option maxRecDepth 100000 in
theorem f_xo_all : ∀ s : Fin 128, ∀ p : Fin 128, f_ble 7 p.val s.val = true → ax_xor (s.val : Int) (p.val : Int) = (s.val : Int) - (p.val : Int) := by decide +kernel
set_option maxRecDepth 100000 in
theorem f_sh_all : ∀ s : Fin 128, ∀ j : Fin 7, ax_and (ax_shr (s.val : Int) (j.val : Int)) 1 = ((s.val / 2 ^ j.val % 2 : Nat) : Int) := by decide +kernel
theorem f_fl_all : ∀ n : Fin 8, ax_shl 1 (n.val : Int) = ((f_full n.val + 1 : Nat) : Int) ∧ f_full n.val ≤ 127 := by decide +kernel
theorem f_rf_all : ∀ m : Fin 128, f_ble 7 m.val m.val = true := by decide +kernel
theorem f_an_eq {a s : Nat} (ha : a < 128) (hs : s < 128) : ax_and (a : Int) (s : Int) = (f_an 7 a s : Int) := f_an_all ⟨a, ha⟩ ⟨s, hs⟩
theorem f_xo_eq {s p : Nat} (hs : s < 128) (h : f_ble 7 p s = true) : ax_xor (s : Int) (p : Int) = ((s - p : Nat) : Int) := by
  have hp := f_ble_le h
  have e := f_xo_all ⟨s, hs⟩ ⟨p, by omega⟩ h
  have e2 : ax_xor (s : Int) (p : Int) = (s : Int) - (p : Int) := e
  rw [e2]
  omega
theorem f_full_7 {n : Nat} (h : n ≤ 7) : f_full n ≤ 127 := (f_fl_all ⟨n, by omega⟩).2
theorem f_sh_fl {n : Nat} (h : n ≤ 7) : ax_shl 1 (n : Int) = ((f_full n + 1 : Nat) : Int) := (f_fl_all ⟨n, by omega⟩).1
theorem f_an_le : ∀ (n a s : Nat), f_an n a s ≤ a
  | 0, a, _ => Nat.zero_le a
  | n + 1, a, s => by
    have h := f_an_le n (a / 2) (s / 2)
    show 2 * f_an n (a / 2) (s / 2) + (if a % 2 = 1 ∧ s % 2 = 1 then 1 else 0) ≤ a
    split <;> omega
theorem f_an_sub : ∀ {n p s : Nat}, f_ble n p s = true → f_an n p s = p
  | 0, p, s, h => (f_ble_z.mp h).symm
  | n + 1, p, s, h => by
    obtain ⟨h1, h2⟩ := f_ble_s.mp h
    show 2 * f_an n (p / 2) (s / 2) + (if p % 2 = 1 ∧ s % 2 = 1 then 1 else 0) = p
    rw [f_an_sub h2]
    split <;> omega
theorem f_an_1 : ∀ {n p s : Nat}, 0 < p → f_ble n p s = true → f_ble n (f_an n (p - 1) s) s = true ∧ ∀ q, q < p → f_ble n q s = true → q ≤ f_an n (p - 1) s
  | 0, p, s, h0, h => by
    have := f_ble_z.mp h
    omega
  | n + 1, p, s, h0, h => by
    obtain ⟨h1, h2⟩ := f_ble_s.mp h
    have e : f_an (n + 1) (p - 1) s = 2 * f_an n ((p - 1) / 2) (s / 2) + (if (p - 1) % 2 = 1 ∧ s % 2 = 1 then 1 else 0) := rfl
    rcases (by omega : p % 2 = 1 ∨ p % 2 = 0) with hp | hp
    · rw [show (p - 1) / 2 = p / 2 by omega, f_an_sub h2, if_neg (by omega)] at e
      rw [e]
      refine ⟨f_ble_s.mpr ⟨by omega, ?_⟩, fun q hq _ => by omega⟩
      rw [show (2 * (p / 2) + 0) / 2 = p / 2 by omega]
      exact h2
    · have hp2 : 0 < p / 2 := by omega
      obtain ⟨i1, i2⟩ := f_an_1 hp2 h2
      rw [show (p - 1) / 2 = p / 2 - 1 by omega] at e
      have hb : (if (p - 1) % 2 = 1 ∧ s % 2 = 1 then 1 else 0) = s % 2 := by
        split <;> omega
      rw [hb] at e
      rw [e]
      refine ⟨f_ble_s.mpr ⟨by omega, ?_⟩, fun q hq hqs => ?_⟩
      · rw [show (2 * f_an n (p / 2 - 1) (s / 2) + s % 2) / 2 = f_an n (p / 2 - 1) (s / 2) by omega]
        exact i1
      · obtain ⟨q1, q2⟩ := f_ble_s.mp hqs
        have := i2 (q / 2) (by omega) q2
        omega
theorem f_ble_up : ∀ {n p s : Nat}, s ≤ f_full n → (f_ble (n + 1) p s = true ↔ f_ble n p s = true)
  | 0, p, s, h => by
    have h0 : s = 0 := Nat.le_zero.mp h
    rw [f_ble_s, f_ble_z, f_ble_z]
    omega
  | n + 1, p, s, h => by
    have h2 : s ≤ 2 * f_full n + 1 := h
    exact (f_ble_s (n := n + 1) (p := p) (m := s)).trans ((and_congr_right fun _ => f_ble_up (n := n) (by omega)).trans (f_ble_s (n := n) (p := p) (m := s)).symm)
theorem f_full_up (n : Nat) : f_full n ≤ f_full (n + 1) := by
  show f_full n ≤ 2 * f_full n + 1
  omega
theorem f_ble_7 {n p s : Nat} (hn : n ≤ 7) (h : s ≤ f_full n) : f_ble 7 p s = true ↔ f_ble n p s = true := by
  have key : ∀ k, s ≤ f_full (n + k) ∧ (f_ble (n + k) p s = true ↔ f_ble n p s = true) := by
    intro k
    induction k with
    | zero => exact ⟨h, Iff.rfl⟩
    | succ k ih => exact ⟨Nat.le_trans ih.1 (f_full_up _), (f_ble_up ih.1).trans ih.2⟩
  have := (key (7 - n)).2
  rw [show n + (7 - n) = 7 by omega] at this
  exact this
def f_bwl (ld le : Int) (su b : Int → Int) (m : Nat) : Nat → Nat → Int → Int
  | 0, _, x => x
  | g + 1, p, x => if p = 0 then x else f_bwl ld le su b m g (f_an 7 (p - 1) m) (if ld + su (p : Int) ≤ le then min x (b ((m - p : Nat) : Int) + 1) else x)
theorem f_bwl_0 {ld le : Int} {su b : Int → Int} {m g : Nat} {x : Int} : f_bwl ld le su b m g 0 x = x := by
  cases g with
  | zero => rfl
  | succ g => exact if_pos rfl
theorem f_bwl_y {ld le : Int} {su b : Int → Int} {m g p : Nat} {x : Int} (hp : p ≠ 0) (h : ld + su (p : Int) ≤ le) : f_bwl ld le su b m (g + 1) p x = f_bwl ld le su b m g (f_an 7 (p - 1) m) (min x (b ((m - p : Nat) : Int) + 1)) := by
  show (if p = 0 then x else f_bwl ld le su b m g (f_an 7 (p - 1) m) (if ld + su (p : Int) ≤ le then min x (b ((m - p : Nat) : Int) + 1) else x)) = _
  rw [if_neg hp, if_pos h]
theorem f_bwl_n {ld le : Int} {su b : Int → Int} {m g p : Nat} {x : Int} (hp : p ≠ 0) (h : ¬ ld + su (p : Int) ≤ le) : f_bwl ld le su b m (g + 1) p x = f_bwl ld le su b m g (f_an 7 (p - 1) m) x := by
  show (if p = 0 then x else f_bwl ld le su b m g (f_an 7 (p - 1) m) (if ld + su (p : Int) ≤ le then min x (b ((m - p : Nat) : Int) + 1) else x)) = _
  rw [if_neg hp, if_neg h]
theorem f_bwl_cong {ld le : Int} {su b su2 b2 : Int → Int} {m : Nat} (h : ∀ q : Nat, q ≤ m → su (q : Int) = su2 (q : Int) ∧ b (q : Int) = b2 (q : Int)) : ∀ (g p : Nat) (x : Int), p ≤ m → f_bwl ld le su b m g p x = f_bwl ld le su2 b2 m g p x
  | 0, _, _, _ => rfl
  | g + 1, p, x, hp => by
    have h1 := h p hp
    have h2 := h (m - p) (by omega)
    have h3 := f_an_le 7 (p - 1) m
    show (if p = 0 then x else f_bwl ld le su b m g (f_an 7 (p - 1) m) (if ld + su (p : Int) ≤ le then min x (b ((m - p : Nat) : Int) + 1) else x)) = (if p = 0 then x else f_bwl ld le su2 b2 m g (f_an 7 (p - 1) m) (if ld + su2 (p : Int) ≤ le then min x (b2 ((m - p : Nat) : Int) + 1) else x))
    rw [h1.1, h2.2, f_bwl_cong h g _ _ (by omega)]
theorem f_bwl_sp {ld le : Int} {su b : Int → Int} {m : Nat} : ∀ (g p : Nat) (x : Int), p < g → f_ble 7 p m = true → f_bwl ld le su b m g p x ≤ x ∧ (∀ q, 0 < q → q ≤ p → f_ble 7 q m = true → ld + su (q : Int) ≤ le → f_bwl ld le su b m g p x ≤ b ((m - q : Nat) : Int) + 1) ∧ (f_bwl ld le su b m g p x = x ∨ ∃ q, 0 < q ∧ f_ble 7 q m = true ∧ ld + su (q : Int) ≤ le ∧ f_bwl ld le su b m g p x = b ((m - q : Nat) : Int) + 1)
  | 0, p, x, h, _ => by omega
  | g + 1, p, x, h, hb => by
    by_cases h0 : p = 0
    · subst h0
      rw [f_bwl_0]
      exact ⟨Int.le_refl x, fun q q1 q2 => by omega, Or.inl rfl⟩
    · obtain ⟨a1, a2⟩ := f_an_1 (Nat.pos_of_ne_zero h0) hb
      have a3 := f_an_le 7 (p - 1) m
      by_cases hc : ld + su (p : Int) ≤ le
      · rw [f_bwl_y h0 hc]
        obtain ⟨b1, b2, b3⟩ := f_bwl_sp (ld := ld) (le := le) (su := su) (b := b) g (f_an 7 (p - 1) m) (min x (b ((m - p : Nat) : Int) + 1)) (by omega) a1
        refine ⟨by omega, fun q q1 q2 q3 q4 => ?_, ?_⟩
        · by_cases hq : q = p
          · subst hq
            omega
          · exact b2 q q1 (a2 q (by omega) q3) q3 q4
        · rcases b3 with b3 | b3
          · rcases (by omega : min x (b ((m - p : Nat) : Int) + 1) = x ∨ min x (b ((m - p : Nat) : Int) + 1) = b ((m - p : Nat) : Int) + 1) with e | e
            · exact Or.inl (b3.trans e)
            · exact Or.inr ⟨p, by omega, hb, hc, b3.trans e⟩
          · exact Or.inr b3
      · rw [f_bwl_n h0 hc]
        obtain ⟨b1, b2, b3⟩ := f_bwl_sp (ld := ld) (le := le) (su := su) (b := b) g (f_an 7 (p - 1) m) x (by omega) a1
        refine ⟨b1, fun q q1 q2 q3 q4 => ?_, b3⟩
        by_cases hq : q = p
        · subst hq
          exact absurd q4 hc
        · exact b2 q q1 (a2 q (by omega) q3) q3 q4
def f_us1 (x : Int) : Int := if 0 < x then 1 else 0
def f_uL (ld : Int → Int) : Int → Int := fun k => f_us1 (ld k)
def f_vL (le ld : Int → Int) : Int → Int := fun k => le k - ld k
def f_bwr (ld le : Int) (su b : Int → Int) (m : Nat) : Int := f_bwl ld le su b m (m + 1) m (b (m : Int) + f_us1 ld)
def f_dpr (ld le : Int → Int) (os : List Int) : Nat → (Int → Int)
  | 0 => fun m => if m = 0 then 0 else 1000
  | R + 1 => fun m => f_bwr (ld (R : Int)) (le (R : Int)) (fun p => f_ms os p.toNat) (f_dpr ld le os R) m.toNat
theorem f_us1_01 (x : Int) : f_us1 x = 0 ∨ f_us1 x = 1 := by
  unfold f_us1
  split <;> omega
theorem f_dpr_dp {ld le : Int → Int} {os : List Int} (hn : os.length ≤ 7) : ∀ R : Nat, f_dp2 (f_uL ld) (f_vL le ld) os R (f_dpr ld le os R)
  | 0 => f_dp2_0 (show (if (0 : Int) = 0 then (0 : Int) else 1000) = 0 from if_pos rfl) (fun m hm _ => show (if (m : Int) = 0 then (0 : Int) else 1000) = 1000 from if_neg (by omega))
  | R + 1 => by
    refine f_dp2_s (f_us1_01 _) (f_dpr_dp hn R) (fun m hm => ?_)
    have h7 := f_full_7 hn
    have e : f_dpr ld le os (R + 1) (m : Int) = f_bwr (ld (R : Int)) (le (R : Int)) (fun p => f_ms os p.toNat) (f_dpr ld le os R) m := rfl
    rw [e]
    unfold f_bwr
    obtain ⟨b1, b2, b3⟩ := f_bwl_sp (ld := ld (R : Int)) (le := le (R : Int)) (su := fun p => f_ms os p.toNat) (b := f_dpr ld le os R) (m := m) (m + 1) m (f_dpr ld le os R (m : Int) + f_us1 (ld (R : Int))) (by omega) (f_rf_all ⟨m, by omega⟩)
    refine ⟨⟨b1, fun p p1 p2 p3 => ?_⟩, ?_⟩
    · have p4 : f_ms os p ≤ le (R : Int) - ld (R : Int) := p3
      refine b2 p p1 (f_ble_le p2) ((f_ble_7 hn hm).mpr p2) ?_
      show ld (R : Int) + f_ms os p ≤ le (R : Int)
      omega
    · rcases b3 with b3 | ⟨q, q1, q2, q3, q4⟩
      · exact Or.inl b3
      · refine Or.inr ⟨q, q1, (f_ble_7 hn hm).mp q2, ?_, q4⟩
        have q5 : ld (R : Int) + f_ms os q ≤ le (R : Int) := q3
        show f_ms os q ≤ le (R : Int) - ld (R : Int)
        omega
def f_fwF (ld le : Int → Int) (os : List Int) : Int := f_dpr ld le os 8 (f_full os.length : Int)
theorem f_fwF_mn {ld le : Int → Int} {os : List Int} (hn : os.length ≤ 7) (ho : ∀ o ∈ os, 1 ≤ o ∧ o ≤ 24) : f_fwF ld le os < 1000 ∨ f_mn (f_cs (f_uL ld) 8) (f_uL ld) (f_vL le ld) os < 1000 → f_fwF ld le os = f_mn (f_cs (f_uL ld) 8) (f_uL ld) (f_vL le ld) os := f_dp2_8 (fun o h => by have := ho o h; omega) (f_dpr_dp hn 8)
theorem f_dpr_rg {ld le : Int → Int} {os : List Int} (hn : os.length ≤ 7) {R m : Nat} (hm : m ≤ f_full os.length) : 0 ≤ f_dpr ld le os R (m : Int) ∧ f_dpr ld le os R (m : Int) ≤ 1000 + (R : Int) := (f_dpr_dp hn R m hm).2.2
theorem f_ms_hi : ∀ {os : List Int} {p : Nat}, (∀ o ∈ os, 1 ≤ o ∧ o ≤ 24) → 0 ≤ f_ms os p ∧ f_ms os p ≤ 24 * (os.length : Int)
  | [], _, _ => ⟨Int.le_refl 0, Int.le_refl 0⟩
  | o :: tl, p, h => by
    have h1 := f_ms_hi (os := tl) (p := p / 2) (fun x hx => h x (List.mem_cons_of_mem _ hx))
    have h2 := h o (List.mem_cons_self)
    rw [List.length_cons]
    show 0 ≤ ((p % 2 : Nat) : Int) * o + f_ms tl (p / 2) ∧ ((p % 2 : Nat) : Int) * o + f_ms tl (p / 2) ≤ _
    rcases (by omega : p % 2 = 0 ∨ p % 2 = 1) with e | e
    · rw [e]
      show 0 ≤ (0 : Int) * o + _ ∧ (0 : Int) * o + _ ≤ _
      omega
    · rw [e]
      show 0 ≤ (1 : Int) * o + _ ∧ (1 : Int) * o + _ ≤ _
      omega
set_option maxRecDepth 20000 in
theorem s_X10_bestWith (E : ax_Env) (l : Launch) (d : Nat) (hd : 1 ≤ d) (M : ax_Mem) (rp st : Int) (m : Nat) {le : Int → Int} (hle : M 84 = le) {ld : Int → Int} (hld : M 85 = ld) {su : Int → Int} (hsu : M 86 = su) {b : Int → Int} (hb : M 87 = b) (hg0 : 0 ≤ rp ∧ rp < 8) (hg1 : st = (m : Int) ∧ m ≤ 127) (hg2 : ∀ p : Nat, p ≤ m → (0 ≤ su (p : Int) ∧ su (p : Int) ≤ 1000) ∧ 0 ≤ b (p : Int) ∧ b (p : Int) ≤ 1100) (hg3 : (0 ≤ ld rp ∧ ld rp ≤ 1000) ∧ 0 ≤ le rp ∧ le rp ≤ 1000) : ax_G E l d iX10_bestWith [.inr 82, .inl rp, .inl st] M (fun z0 M2 => z0 = some (.inl (f_bwr (ld rp) (le rp) su b m)) ∧ M = M2) := by
  obtain ⟨d, rfl⟩ : ∃ d0, d = d0 + 1 := ⟨d - 1, by omega⟩
  refine ax_start rfl (Nat.le_of_ble_eq_true rfl) (ls := [some (.inr 82), some (.inl rp), some (.inl st), none, none]) rfl (fun hav hcm => ?_)
  have hc1 : -2147483648 ≤ rp ∧ rp < 2147483648 := hav (.inl rp) (by simp)
  have hc2 : -2147483648 ≤ st ∧ st < 2147483648 := hav (.inl st) (by simp)
  clear hav
  have qbm := (hg2 m (Nat.le_refl m)).2
  refine ax_aload_n dX10_bestWith_0 rfl rfl (pc' := 1) rfl ?_
  refine ax_getr (v := 87) dX10_bestWith_1 flX10_24 rfl sh_82 rfl (pc' := 4) rfl ?_
  refine ax_iload_n dX10_bestWith_4 rfl rfl (pc' := 5) rfl ?_
  refine ax_iald (v := b st) dX10_bestWith_5 sh_87 rfl (by omega) (by omega) ((congrFun hb st).trans rfl) (pc' := 6) rfl ?_
  refine ax_reS (st2 := [.inl (b (m : Int))]) (congrArg (fun z => Sum.inl z :: _) (by rw [hg1.1])) ?_
  refine ax_aload_n dX10_bestWith_6 rfl rfl (pc' := 7) rfl ?_
  refine ax_getr (v := 85) dX10_bestWith_7 flX10_18 rfl sh_82 rfl (pc' := 10) rfl ?_
  refine ax_iload_n dX10_bestWith_10 rfl rfl (pc' := 11) rfl ?_
  refine ax_iald (v := ld rp) dX10_bestWith_11 sh_85 rfl (by omega) (by omega) ((congrFun hld rp).trans rfl) (pc' := 12) rfl ?_
  refine ax_if_le (tgt := 19) dX10_bestWith_12 (by decide) (pc' := 15) rfl (fun h12 => ?_) (fun h12 => ?_)
  · have qu : f_us1 (ld rp) = 0 := if_neg (by omega)
    refine ax_iconst dX10_bestWith_19 (by decide) (pc' := 20) rfl ?_
    refine ax_iadd dX10_bestWith_20 (by omega) (pc' := 21) rfl ?_
    refine ax_istore_n dX10_bestWith_21 rfl (by decide) (ls' := [some (.inr 82), some (.inl rp), some (.inl st), some (.inl (b (m : Int) + 0)), none]) rfl (pc' := 22) rfl ?_
    refine ax_iload_n dX10_bestWith_22 rfl rfl (pc' := 23) rfl ?_
    refine ax_istore dX10_bestWith_23 (by decide) (ls' := [some (.inr 82), some (.inl rp), some (.inl st), some (.inl (b (m : Int) + 0)), some (.inl st)]) rfl (pc' := 25) rfl ?_
    have LP1 : ∀ (kq2 : Nat) (x pt : Int) (pn : Nat) (g : Nat) (hm1 : pt < (kq2 : Nat)) (iv1_0 : pt = (pn : Int) ∧ pn ≤ m ∧ pn < g) (iv1_1 : f_ble 7 pn m = true) (iv1_2 : f_bwl (ld rp) (le rp) su b m g pn x = f_bwr (ld rp) (le rp) su b m) (iv1_3 : 0 ≤ x ∧ x ≤ 2000), ax_W E l (d + 1) 0 0 iX10_bestWith 25 [some (.inr 82), some (.inl rp), some (.inl st), some (.inl x), some (.inl pt)] [] SH M (ax_P (fun z0 M2 => z0 = some (.inl (f_bwr (ld rp) (le rp) su b m)) ∧ M = M2)) := by
      intro kq2
      induction kq2 with
      | zero =>
        intro x pt pn g hm1 iv1_0 iv1_1 iv1_2 iv1_3
        exfalso
        omega
      | succ kq2 ih3 =>
        intro x pt pn g hm1 iv1_0 iv1_1 iv1_2 iv1_3
        refine ax_iload dX10_bestWith_25 rfl (pc' := 27) rfl ?_
        refine ax_if_le (tgt := 80) dX10_bestWith_27 (by decide) (pc' := 30) rfl (fun h27 => ?_) (fun h27 => ?_)
        · have qp0 : pn = 0 := by omega
          refine ax_iload_n dX10_bestWith_80 rfl rfl (pc' := 81) rfl ?_
          refine ax_iret dX10_bestWith_81 rfl ?_
          refine ⟨rfl, ?_, ?_⟩
          · refine congrArg (fun z => some (Sum.inl z)) ?_
            rw [← iv1_2, qp0]
            exact f_bwl_0.symm
          · rfl
        · have qp0 : pn ≠ 0 := by omega
          obtain ⟨g2, qg2⟩ : ∃ k, g = k + 1 := ⟨g - 1, by omega⟩
          have qres := iv1_2
          rw [qg2] at qres
          have qa1 := f_an_1 (Nat.pos_of_ne_zero qp0) iv1_1
          have qa2 := f_an_le 7 (pn - 1) m
          have qr1 := (hg2 pn iv1_0.2.1).1
          have qr2 := (hg2 (m - pn) (by omega)).2
          refine ax_aload_n dX10_bestWith_30 rfl rfl (pc' := 31) rfl ?_
          refine ax_getr (v := 85) dX10_bestWith_31 flX10_18 rfl sh_82 rfl (pc' := 34) rfl ?_
          refine ax_iload_n dX10_bestWith_34 rfl rfl (pc' := 35) rfl ?_
          refine ax_iald (v := ld rp) dX10_bestWith_35 sh_85 rfl (by omega) (by omega) ((congrFun hld rp).trans rfl) (pc' := 36) rfl ?_
          refine ax_aload_n dX10_bestWith_36 rfl rfl (pc' := 37) rfl ?_
          refine ax_getr (v := 86) dX10_bestWith_37 flX10_21 rfl sh_82 rfl (pc' := 40) rfl ?_
          refine ax_iload dX10_bestWith_40 rfl (pc' := 42) rfl ?_
          refine ax_iald (v := su pt) dX10_bestWith_42 sh_86 rfl (by omega) (by omega) ((congrFun hsu pt).trans rfl) (pc' := 43) rfl ?_
          refine ax_reS (st2 := [.inl (su (pn : Int)), .inl (ld rp)]) (congrArg (fun z => Sum.inl z :: _) (by rw [iv1_0.1])) ?_
          refine ax_iadd dX10_bestWith_43 (by omega) (pc' := 44) rfl ?_
          refine ax_aload_n dX10_bestWith_44 rfl rfl (pc' := 45) rfl ?_
          refine ax_getr (v := 84) dX10_bestWith_45 flX10_15 rfl sh_82 rfl (pc' := 48) rfl ?_
          refine ax_iload_n dX10_bestWith_48 rfl rfl (pc' := 49) rfl ?_
          refine ax_iald (v := le rp) dX10_bestWith_49 sh_84 rfl (by omega) (by omega) ((congrFun hle rp).trans rfl) (pc' := 50) rfl ?_
          refine ax_icmp_gt (tgt := 69) dX10_bestWith_50 (by decide) (pc' := 53) rfl (fun h50 => ?_) (fun h50 => ?_)
          · refine ax_iload dX10_bestWith_69 rfl (pc' := 71) rfl ?_
            refine ax_iconst dX10_bestWith_71 (by decide) (pc' := 72) rfl ?_
            refine ax_isub dX10_bestWith_72 (by omega) (pc' := 73) rfl ?_
            refine ax_iload_n dX10_bestWith_73 rfl rfl (pc' := 74) rfl ?_
            refine ax_iand dX10_bestWith_74 (pc' := 75) rfl ?_
            refine ax_reS (st2 := [.inl ((f_an 7 (pn - 1) m : Nat) : Int)]) (congrArg (fun z => Sum.inl z :: _) (by rw [hg1.1, iv1_0.1, show ((pn : Nat) : Int) - 1 = ((pn - 1 : Nat) : Int) by omega]; exact f_an_eq (by omega) (by omega))) ?_
            refine ax_istore dX10_bestWith_75 (by decide) (ls' := [some (.inr 82), some (.inl rp), some (.inl st), some (.inl x), some (.inl ((f_an 7 (pn - 1) m : Nat) : Int))]) rfl (pc' := 77) rfl ?_
            refine ax_goto dX10_bestWith_77 (pc' := 25) (by decide) ?_
            refine ih3 x ((f_an 7 (pn - 1) m : Nat) : Int) (f_an 7 (pn - 1) m) g2 ?_ ?_ ?_ ?_ ?_
            · omega
            · omega
            · exact qa1.1
            · first | exact (f_bwl_y qp0 h50).symm.trans qres | exact (f_bwl_n qp0 (by omega)).symm.trans qres
            · omega
          · refine ax_iload_n dX10_bestWith_53 rfl rfl (pc' := 54) rfl ?_
            refine ax_aload_n dX10_bestWith_54 rfl rfl (pc' := 55) rfl ?_
            refine ax_getr (v := 87) dX10_bestWith_55 flX10_24 rfl sh_82 rfl (pc' := 58) rfl ?_
            refine ax_iload_n dX10_bestWith_58 rfl rfl (pc' := 59) rfl ?_
            refine ax_iload dX10_bestWith_59 rfl (pc' := 61) rfl ?_
            refine ax_ixor dX10_bestWith_61 (pc' := 62) rfl ?_
            refine ax_reS (st2 := [.inl ((m - pn : Nat) : Int), .inr 87, .inl x]) (congrArg (fun z => Sum.inl z :: _) (by rw [hg1.1, iv1_0.1]; exact f_xo_eq (by omega) iv1_1)) ?_
            refine ax_iald (v := b ((m - pn : Nat) : Int)) dX10_bestWith_62 sh_87 rfl (by omega) (by omega) ((congrFun hb ((m - pn : Nat) : Int)).trans rfl) (pc' := 63) rfl ?_
            refine ax_iconst dX10_bestWith_63 (by decide) (pc' := 64) rfl ?_
            refine ax_iadd dX10_bestWith_64 (by omega) (pc' := 65) rfl ?_
            refine ax_mmin dX10_bestWith_65 mlX10_70 (Nat.le_of_ble_eq_true rfl) (pc' := 68) rfl ?_
            refine ax_istore_n dX10_bestWith_68 rfl (by decide) (ls' := [some (.inr 82), some (.inl rp), some (.inl st), some (.inl (min x (b ((m - pn : Nat) : Int) + 1))), some (.inl pt)]) rfl (pc' := 69) rfl ?_
            refine ax_iload dX10_bestWith_69 rfl (pc' := 71) rfl ?_
            refine ax_iconst dX10_bestWith_71 (by decide) (pc' := 72) rfl ?_
            refine ax_isub dX10_bestWith_72 (by omega) (pc' := 73) rfl ?_
            refine ax_iload_n dX10_bestWith_73 rfl rfl (pc' := 74) rfl ?_
            refine ax_iand dX10_bestWith_74 (pc' := 75) rfl ?_
            refine ax_reS (st2 := [.inl ((f_an 7 (pn - 1) m : Nat) : Int)]) (congrArg (fun z => Sum.inl z :: _) (by rw [hg1.1, iv1_0.1, show ((pn : Nat) : Int) - 1 = ((pn - 1 : Nat) : Int) by omega]; exact f_an_eq (by omega) (by omega))) ?_
            refine ax_istore dX10_bestWith_75 (by decide) (ls' := [some (.inr 82), some (.inl rp), some (.inl st), some (.inl (min x (b ((m - pn : Nat) : Int) + 1))), some (.inl ((f_an 7 (pn - 1) m : Nat) : Int))]) rfl (pc' := 77) rfl ?_
            refine ax_goto dX10_bestWith_77 (pc' := 25) (by decide) ?_
            refine ih3 (min x (b ((m - pn : Nat) : Int) + 1)) ((f_an 7 (pn - 1) m : Nat) : Int) (f_an 7 (pn - 1) m) g2 ?_ ?_ ?_ ?_ ?_
            · omega
            · omega
            · exact qa1.1
            · first | exact (f_bwl_y qp0 h50).symm.trans qres | exact (f_bwl_n qp0 (by omega)).symm.trans qres
            · omega
    refine LP1 (st : Int).toNat.succ (b (m : Int) + 0) st m (m + 1) ?_ ?_ ?_ ?_ ?_
    · omega
    · omega
    · exact f_rf_all ⟨m, by omega⟩
    · unfold f_bwr
      rw [qu]
    · omega
  · have qu : f_us1 (ld rp) = 1 := if_pos (by omega)
    refine ax_iconst dX10_bestWith_15 (by decide) (pc' := 16) rfl ?_
    refine ax_goto dX10_bestWith_16 (pc' := 20) (by decide) ?_
    refine ax_iadd dX10_bestWith_20 (by omega) (pc' := 21) rfl ?_
    refine ax_istore_n dX10_bestWith_21 rfl (by decide) (ls' := [some (.inr 82), some (.inl rp), some (.inl st), some (.inl (b (m : Int) + 1)), none]) rfl (pc' := 22) rfl ?_
    refine ax_iload_n dX10_bestWith_22 rfl rfl (pc' := 23) rfl ?_
    refine ax_istore dX10_bestWith_23 (by decide) (ls' := [some (.inr 82), some (.inl rp), some (.inl st), some (.inl (b (m : Int) + 1)), some (.inl st)]) rfl (pc' := 25) rfl ?_
    have LP4 : ∀ (kq5 : Nat) (x pt : Int) (pn : Nat) (g : Nat) (hm4 : pt < (kq5 : Nat)) (iv4_0 : pt = (pn : Int) ∧ pn ≤ m ∧ pn < g) (iv4_1 : f_ble 7 pn m = true) (iv4_2 : f_bwl (ld rp) (le rp) su b m g pn x = f_bwr (ld rp) (le rp) su b m) (iv4_3 : 0 ≤ x ∧ x ≤ 2000), ax_W E l (d + 1) 0 0 iX10_bestWith 25 [some (.inr 82), some (.inl rp), some (.inl st), some (.inl x), some (.inl pt)] [] SH M (ax_P (fun z0 M2 => z0 = some (.inl (f_bwr (ld rp) (le rp) su b m)) ∧ M = M2)) := by
      intro kq5
      induction kq5 with
      | zero =>
        intro x pt pn g hm4 iv4_0 iv4_1 iv4_2 iv4_3
        exfalso
        omega
      | succ kq5 ih6 =>
        intro x pt pn g hm4 iv4_0 iv4_1 iv4_2 iv4_3
        refine ax_iload dX10_bestWith_25 rfl (pc' := 27) rfl ?_
        refine ax_if_le (tgt := 80) dX10_bestWith_27 (by decide) (pc' := 30) rfl (fun h27 => ?_) (fun h27 => ?_)
        · have qp0 : pn = 0 := by omega
          refine ax_iload_n dX10_bestWith_80 rfl rfl (pc' := 81) rfl ?_
          refine ax_iret dX10_bestWith_81 rfl ?_
          refine ⟨rfl, ?_, ?_⟩
          · refine congrArg (fun z => some (Sum.inl z)) ?_
            rw [← iv4_2, qp0]
            exact f_bwl_0.symm
          · rfl
        · have qp0 : pn ≠ 0 := by omega
          obtain ⟨g2, qg2⟩ : ∃ k, g = k + 1 := ⟨g - 1, by omega⟩
          have qres := iv4_2
          rw [qg2] at qres
          have qa1 := f_an_1 (Nat.pos_of_ne_zero qp0) iv4_1
          have qa2 := f_an_le 7 (pn - 1) m
          have qr1 := (hg2 pn iv4_0.2.1).1
          have qr2 := (hg2 (m - pn) (by omega)).2
          refine ax_aload_n dX10_bestWith_30 rfl rfl (pc' := 31) rfl ?_
          refine ax_getr (v := 85) dX10_bestWith_31 flX10_18 rfl sh_82 rfl (pc' := 34) rfl ?_
          refine ax_iload_n dX10_bestWith_34 rfl rfl (pc' := 35) rfl ?_
          refine ax_iald (v := ld rp) dX10_bestWith_35 sh_85 rfl (by omega) (by omega) ((congrFun hld rp).trans rfl) (pc' := 36) rfl ?_
          refine ax_aload_n dX10_bestWith_36 rfl rfl (pc' := 37) rfl ?_
          refine ax_getr (v := 86) dX10_bestWith_37 flX10_21 rfl sh_82 rfl (pc' := 40) rfl ?_
          refine ax_iload dX10_bestWith_40 rfl (pc' := 42) rfl ?_
          refine ax_iald (v := su pt) dX10_bestWith_42 sh_86 rfl (by omega) (by omega) ((congrFun hsu pt).trans rfl) (pc' := 43) rfl ?_
          refine ax_reS (st2 := [.inl (su (pn : Int)), .inl (ld rp)]) (congrArg (fun z => Sum.inl z :: _) (by rw [iv4_0.1])) ?_
          refine ax_iadd dX10_bestWith_43 (by omega) (pc' := 44) rfl ?_
          refine ax_aload_n dX10_bestWith_44 rfl rfl (pc' := 45) rfl ?_
          refine ax_getr (v := 84) dX10_bestWith_45 flX10_15 rfl sh_82 rfl (pc' := 48) rfl ?_
          refine ax_iload_n dX10_bestWith_48 rfl rfl (pc' := 49) rfl ?_
          refine ax_iald (v := le rp) dX10_bestWith_49 sh_84 rfl (by omega) (by omega) ((congrFun hle rp).trans rfl) (pc' := 50) rfl ?_
          refine ax_icmp_gt (tgt := 69) dX10_bestWith_50 (by decide) (pc' := 53) rfl (fun h50 => ?_) (fun h50 => ?_)
          · refine ax_iload dX10_bestWith_69 rfl (pc' := 71) rfl ?_
            refine ax_iconst dX10_bestWith_71 (by decide) (pc' := 72) rfl ?_
            refine ax_isub dX10_bestWith_72 (by omega) (pc' := 73) rfl ?_
            refine ax_iload_n dX10_bestWith_73 rfl rfl (pc' := 74) rfl ?_
            refine ax_iand dX10_bestWith_74 (pc' := 75) rfl ?_
            refine ax_reS (st2 := [.inl ((f_an 7 (pn - 1) m : Nat) : Int)]) (congrArg (fun z => Sum.inl z :: _) (by rw [hg1.1, iv4_0.1, show ((pn : Nat) : Int) - 1 = ((pn - 1 : Nat) : Int) by omega]; exact f_an_eq (by omega) (by omega))) ?_
            refine ax_istore dX10_bestWith_75 (by decide) (ls' := [some (.inr 82), some (.inl rp), some (.inl st), some (.inl x), some (.inl ((f_an 7 (pn - 1) m : Nat) : Int))]) rfl (pc' := 77) rfl ?_
            refine ax_goto dX10_bestWith_77 (pc' := 25) (by decide) ?_
            refine ih6 x ((f_an 7 (pn - 1) m : Nat) : Int) (f_an 7 (pn - 1) m) g2 ?_ ?_ ?_ ?_ ?_
            · omega
            · omega
            · exact qa1.1
            · first | exact (f_bwl_y qp0 h50).symm.trans qres | exact (f_bwl_n qp0 (by omega)).symm.trans qres
            · omega
          · refine ax_iload_n dX10_bestWith_53 rfl rfl (pc' := 54) rfl ?_
            refine ax_aload_n dX10_bestWith_54 rfl rfl (pc' := 55) rfl ?_
            refine ax_getr (v := 87) dX10_bestWith_55 flX10_24 rfl sh_82 rfl (pc' := 58) rfl ?_
            refine ax_iload_n dX10_bestWith_58 rfl rfl (pc' := 59) rfl ?_
            refine ax_iload dX10_bestWith_59 rfl (pc' := 61) rfl ?_
            refine ax_ixor dX10_bestWith_61 (pc' := 62) rfl ?_
            refine ax_reS (st2 := [.inl ((m - pn : Nat) : Int), .inr 87, .inl x]) (congrArg (fun z => Sum.inl z :: _) (by rw [hg1.1, iv4_0.1]; exact f_xo_eq (by omega) iv4_1)) ?_
            refine ax_iald (v := b ((m - pn : Nat) : Int)) dX10_bestWith_62 sh_87 rfl (by omega) (by omega) ((congrFun hb ((m - pn : Nat) : Int)).trans rfl) (pc' := 63) rfl ?_
            refine ax_iconst dX10_bestWith_63 (by decide) (pc' := 64) rfl ?_
            refine ax_iadd dX10_bestWith_64 (by omega) (pc' := 65) rfl ?_
            refine ax_mmin dX10_bestWith_65 mlX10_70 (Nat.le_of_ble_eq_true rfl) (pc' := 68) rfl ?_
            refine ax_istore_n dX10_bestWith_68 rfl (by decide) (ls' := [some (.inr 82), some (.inl rp), some (.inl st), some (.inl (min x (b ((m - pn : Nat) : Int) + 1))), some (.inl pt)]) rfl (pc' := 69) rfl ?_
            refine ax_iload dX10_bestWith_69 rfl (pc' := 71) rfl ?_
            refine ax_iconst dX10_bestWith_71 (by decide) (pc' := 72) rfl ?_
            refine ax_isub dX10_bestWith_72 (by omega) (pc' := 73) rfl ?_
            refine ax_iload_n dX10_bestWith_73 rfl rfl (pc' := 74) rfl ?_
            refine ax_iand dX10_bestWith_74 (pc' := 75) rfl ?_
            refine ax_reS (st2 := [.inl ((f_an 7 (pn - 1) m : Nat) : Int)]) (congrArg (fun z => Sum.inl z :: _) (by rw [hg1.1, iv4_0.1, show ((pn : Nat) : Int) - 1 = ((pn - 1 : Nat) : Int) by omega]; exact f_an_eq (by omega) (by omega))) ?_
            refine ax_istore dX10_bestWith_75 (by decide) (ls' := [some (.inr 82), some (.inl rp), some (.inl st), some (.inl (min x (b ((m - pn : Nat) : Int) + 1))), some (.inl ((f_an 7 (pn - 1) m : Nat) : Int))]) rfl (pc' := 77) rfl ?_
            refine ax_goto dX10_bestWith_77 (pc' := 25) (by decide) ?_
            refine ih6 (min x (b ((m - pn : Nat) : Int) + 1)) ((f_an 7 (pn - 1) m : Nat) : Int) (f_an 7 (pn - 1) m) g2 ?_ ?_ ?_ ?_ ?_
            · omega
            · omega
            · exact qa1.1
            · first | exact (f_bwl_y qp0 h50).symm.trans qres | exact (f_bwl_n qp0 (by omega)).symm.trans qres
            · omega
    refine LP4 (st : Int).toNat.succ (b (m : Int) + 1) st m (m + 1) ?_ ?_ ?_ ?_ ?_
    · omega
    · omega
    · exact f_rf_all ⟨m, by omega⟩
    · unfold f_bwr
      rw [qu]
    · omega
