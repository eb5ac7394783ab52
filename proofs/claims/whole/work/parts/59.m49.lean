/-! what was -/
theorem f_wp_1 : f_wp 1 := by
  refine ⟨sh_1, sh_2, sh_3, sh_4, fun i i1 i2 => ?_⟩
  rcases (by omega : i = 0 ∨ i = 1 ∨ i = 2 ∨ i = 3 ∨ i = 4 ∨ i = 5 ∨ i = 6 ∨ i = 7) with rfl | rfl | rfl | rfl | rfl | rfl | rfl | rfl
  · exact ⟨sh_5, sh_6, sh_7, sh_8⟩
  · exact ⟨sh_9, sh_10, sh_11, sh_12⟩
  · exact ⟨sh_13, sh_14, sh_15, sh_16⟩
  · exact ⟨sh_17, sh_18, sh_19, sh_20⟩
  · exact ⟨sh_21, sh_22, sh_23, sh_24⟩
  · exact ⟨sh_25, sh_26, sh_27, sh_28⟩
  · exact ⟨sh_29, sh_30, sh_31, sh_32⟩
  · exact ⟨sh_33, sh_34, sh_35, sh_36⟩
theorem f_wp_93 : f_wp 93 := by
  refine ⟨sh_93, sh_94, sh_95, sh_96, fun i i1 i2 => ?_⟩
  rcases (by omega : i = 0 ∨ i = 1 ∨ i = 2 ∨ i = 3 ∨ i = 4 ∨ i = 5 ∨ i = 6 ∨ i = 7) with rfl | rfl | rfl | rfl | rfl | rfl | rfl | rfl
  · exact ⟨sh_97, sh_98, sh_99, sh_100⟩
  · exact ⟨sh_101, sh_102, sh_103, sh_104⟩
  · exact ⟨sh_105, sh_106, sh_107, sh_108⟩
  · exact ⟨sh_109, sh_110, sh_111, sh_112⟩
  · exact ⟨sh_113, sh_114, sh_115, sh_116⟩
  · exact ⟨sh_117, sh_118, sh_119, sh_120⟩
  · exact ⟨sh_121, sh_122, sh_123, sh_124⟩
  · exact ⟨sh_125, sh_126, sh_127, sh_128⟩
theorem f_wp_129 : f_wp 129 := by
  refine ⟨sh_129, sh_130, sh_131, sh_132, fun i i1 i2 => ?_⟩
  rcases (by omega : i = 0 ∨ i = 1 ∨ i = 2 ∨ i = 3 ∨ i = 4 ∨ i = 5 ∨ i = 6 ∨ i = 7) with rfl | rfl | rfl | rfl | rfl | rfl | rfl | rfl
  · exact ⟨sh_133, sh_134, sh_135, sh_136⟩
  · exact ⟨sh_137, sh_138, sh_139, sh_140⟩
  · exact ⟨sh_141, sh_142, sh_143, sh_144⟩
  · exact ⟨sh_145, sh_146, sh_147, sh_148⟩
  · exact ⟨sh_149, sh_150, sh_151, sh_152⟩
  · exact ⟨sh_153, sh_154, sh_155, sh_156⟩
  · exact ⟨sh_157, sh_158, sh_159, sh_160⟩
  · exact ⟨sh_161, sh_162, sh_163, sh_164⟩
theorem f_wp_165 : f_wp 165 := by
  refine ⟨sh_165, sh_166, sh_167, sh_168, fun i i1 i2 => ?_⟩
  rcases (by omega : i = 0 ∨ i = 1 ∨ i = 2 ∨ i = 3 ∨ i = 4 ∨ i = 5 ∨ i = 6 ∨ i = 7) with rfl | rfl | rfl | rfl | rfl | rfl | rfl | rfl
  · exact ⟨sh_169, sh_170, sh_171, sh_172⟩
  · exact ⟨sh_173, sh_174, sh_175, sh_176⟩
  · exact ⟨sh_177, sh_178, sh_179, sh_180⟩
  · exact ⟨sh_181, sh_182, sh_183, sh_184⟩
  · exact ⟨sh_185, sh_186, sh_187, sh_188⟩
  · exact ⟨sh_189, sh_190, sh_191, sh_192⟩
  · exact ⟨sh_193, sh_194, sh_195, sh_196⟩
  · exact ⟨sh_197, sh_198, sh_199, sh_200⟩
theorem f_wp_201 : f_wp 201 := by
  refine ⟨sh_201, sh_202, sh_203, sh_204, fun i i1 i2 => ?_⟩
  rcases (by omega : i = 0 ∨ i = 1 ∨ i = 2 ∨ i = 3 ∨ i = 4 ∨ i = 5 ∨ i = 6 ∨ i = 7) with rfl | rfl | rfl | rfl | rfl | rfl | rfl | rfl
  · exact ⟨sh_205, sh_206, sh_207, sh_208⟩
  · exact ⟨sh_209, sh_210, sh_211, sh_212⟩
  · exact ⟨sh_213, sh_214, sh_215, sh_216⟩
  · exact ⟨sh_217, sh_218, sh_219, sh_220⟩
  · exact ⟨sh_221, sh_222, sh_223, sh_224⟩
  · exact ⟨sh_225, sh_226, sh_227, sh_228⟩
  · exact ⟨sh_229, sh_230, sh_231, sh_232⟩
  · exact ⟨sh_233, sh_234, sh_235, sh_236⟩
theorem f_wp_237 : f_wp 237 := by
  refine ⟨sh_237, sh_238, sh_239, sh_240, fun i i1 i2 => ?_⟩
  rcases (by omega : i = 0 ∨ i = 1 ∨ i = 2 ∨ i = 3 ∨ i = 4 ∨ i = 5 ∨ i = 6 ∨ i = 7) with rfl | rfl | rfl | rfl | rfl | rfl | rfl | rfl
  · exact ⟨sh_241, sh_242, sh_243, sh_244⟩
  · exact ⟨sh_245, sh_246, sh_247, sh_248⟩
  · exact ⟨sh_249, sh_250, sh_251, sh_252⟩
  · exact ⟨sh_253, sh_254, sh_255, sh_256⟩
  · exact ⟨sh_257, sh_258, sh_259, sh_260⟩
  · exact ⟨sh_261, sh_262, sh_263, sh_264⟩
  · exact ⟨sh_265, sh_266, sh_267, sh_268⟩
  · exact ⟨sh_269, sh_270, sh_271, sh_272⟩
theorem f_wp_273 : f_wp 273 := by
  refine ⟨sh_273, sh_274, sh_275, sh_276, fun i i1 i2 => ?_⟩
  rcases (by omega : i = 0 ∨ i = 1 ∨ i = 2 ∨ i = 3 ∨ i = 4 ∨ i = 5 ∨ i = 6 ∨ i = 7) with rfl | rfl | rfl | rfl | rfl | rfl | rfl | rfl
  · exact ⟨sh_277, sh_278, sh_279, sh_280⟩
  · exact ⟨sh_281, sh_282, sh_283, sh_284⟩
  · exact ⟨sh_285, sh_286, sh_287, sh_288⟩
  · exact ⟨sh_289, sh_290, sh_291, sh_292⟩
  · exact ⟨sh_293, sh_294, sh_295, sh_296⟩
  · exact ⟨sh_297, sh_298, sh_299, sh_300⟩
  · exact ⟨sh_301, sh_302, sh_303, sh_304⟩
  · exact ⟨sh_305, sh_306, sh_307, sh_308⟩
theorem f_av_p {i : Int} (f : Int → Int) (h : 0 ≤ i) : ax_val (15, 5, []) f i.toNat = f i := by
  show f (i.toNat : Int) = f i
  rw [Int.toNat_of_nonneg h]
def f_pw (b : Int) : Prop := b = 93 ∨ b = 129 ∨ b = 165 ∨ b = 201 ∨ b = 237
theorem f_wp_pw {b : Int} (h : f_pw b) : f_wp b := by
  rcases h with rfl | rfl | rfl | rfl | rfl
  · exact f_wp_93
  · exact f_wp_129
  · exact f_wp_165
  · exact f_wp_201
  · exact f_wp_237
theorem f_pw_rg {b : Int} (h : f_pw b) : 93 ≤ b ∧ b ≤ 237 := by
  unfold f_pw at h
  omega
theorem f_pw_ne {b c : Int} (h : f_pw b) (hc : f_pw c) (hn : b ≠ c) : b + 36 ≤ c ∨ c + 36 ≤ b := by
  unfold f_pw at h hc
  omega
def f_pp (g : Int → Int) : Prop := (∀ k, 0 ≤ k → k < 5 → f_pw (g k)) ∧ ∀ k l, 0 ≤ k → k < 5 → 0 ≤ l → l < 5 → g k = g l → k = l
def f_bw (bk : Int → Int) (k : Int) (w : Int → Int) : Int → Int := fun i => if 0 ≤ i ∧ i < 2564 then bk (2564 * k + i) else w i
def f_pr (M : ax_Mem) (bk : Int → Int) (m : Int) (w : Int → Int) : Prop := (M 0 12 = m ∧ 0 ≤ m ∧ m ≤ 5) ∧ f_pp (M 92) ∧ ∀ k, 0 ≤ k → k < m → f_wm M (M 92 k) (f_bw bk k w) ∧ f_ok (f_bw bk k w)
theorem f_wm_w {M : ax_Mem} {b : Int} {w v : Int → Int} (ho : ∀ i, 0 ≤ i → i < 2577 → v i = w i) (hok : f_ok w) (h : f_wm M b w) : f_wm M b v := by
  obtain ⟨a1, a2, a3⟩ := h
  refine ⟨?_, fun k k1 k2 => ?_, fun i i1 i2 => ?_⟩
  · rw [ho 0 (by decide) (by decide), ho 1 (by decide) (by decide), ho 2 (by decide) (by decide), ho 2576 (by decide) (by decide)]
    exact a1
  · rw [ho _ (by omega) (by omega), ho _ (by omega) (by omega)]
    exact a2 k k1 k2
  · have h3 := a3 i i1 i2
    have e3 : f_R v i 0 = f_R w i 0 := ho _ (by omega) (by omega)
    rw [e3]
    exact ⟨h3.1, fun h4 => f_rm_w (w := w) (fun j j1 j2 => ho j (by omega) (by omega)) (hok i i1 i2).2.2 (h3.2 h4)⟩
theorem f_pr_w {M : ax_Mem} {bk w v : Int → Int} {m : Int} (ho : ∀ i, 2564 ≤ i → i < 2577 → v i = w i) (h : f_pr M bk m w) : f_pr M bk m v := by
  refine ⟨h.1, h.2.1, fun k k1 k2 => ?_⟩
  have h1 := h.2.2 k k1 k2
  have e : ∀ i, 0 ≤ i → i < 2577 → f_bw bk k v i = f_bw bk k w i := fun i i1 i2 => by
    show (if 0 ≤ i ∧ i < 2564 then bk (2564 * k + i) else v i) = (if 0 ≤ i ∧ i < 2564 then bk (2564 * k + i) else w i)
    by_cases hi : i < 2564
    · rw [if_pos ⟨i1, hi⟩, if_pos ⟨i1, hi⟩]
    · rw [if_neg (by omega), if_neg (by omega)]
      exact ho i (by omega) i2
  exact ⟨f_wm_w e h1.2 h1.1, f_ok_of (fun i i1 i2 => e i (by omega) (by omega)) h1.2⟩
theorem f_pr_fr {M N : ax_Mem} {bk w : Int → Int} {m : Int} (hf : ∀ x i, 92 ≤ x → x < 273 → N x i = M x i) (h0 : N 0 12 = M 0 12) (h : f_pr M bk m w) : f_pr N bk m w := by
  have e : N 92 = M 92 := funext fun i => hf 92 i (by decide) (by decide)
  refine ⟨by rw [h0]; exact h.1, by rw [e]; exact h.2.1, fun k k1 k2 => ?_⟩
  have h1 := h.2.2 k k1 k2
  have h2 := f_pw_rg (h.2.1.1 k k1 (by have := h.1; omega))
  rw [e]
  exact ⟨f_wm_fr (fun x i x1 x2 => hf x i (by omega) (by omega)) h1.1, h1.2⟩
theorem f_bw_keep {bk w : Int → Int} {m k : Int} (hm : 0 ≤ m ∧ m < 5) (hk : 0 ≤ k ∧ k ≤ m) : f_bw (f_keep bk w m) k w = if k = m then w else f_bw bk k w := by
  have e : f_keep bk w m = f_cp w 0 bk (2564 * m) 2564 := by
    unfold f_keep
    rw [if_neg (by omega)]
  rw [e]
  funext i
  by_cases hi : 0 ≤ i ∧ i < 2564
  · have e1 : f_bw (f_cp w 0 bk (2564 * m) 2564) k w i = f_cp w 0 bk (2564 * m) 2564 (2564 * k + i) := if_pos hi
    rw [e1]
    unfold f_cp
    by_cases h : k = m
    · rw [if_pos (by omega), if_pos h, show 0 + (2564 * k + i - 2564 * m) = i by omega]
    · rw [if_neg (by omega), if_neg h]
      show _ = (if 0 ≤ i ∧ i < 2564 then bk (2564 * k + i) else w i)
      rw [if_pos hi]
  · have e1 : f_bw (f_cp w 0 bk (2564 * m) 2564) k w i = w i := if_neg hi
    rw [e1]
    by_cases h : k = m
    · rw [if_pos h]
    · rw [if_neg h]
      show _ = (if 0 ≤ i ∧ i < 2564 then bk (2564 * k + i) else w i)
      rw [if_neg hi]
theorem f_bw_keep5 {bk w : Int → Int} {k : Int} (hk : 0 ≤ k ∧ k < 5) : f_bw (f_keep bk w 5) k w = if k = 4 then w else f_bw bk (k + 1) w := by
  have e : f_keep bk w 5 = f_cp w 0 (f_shf bk 10256) (2564 * 4) 2564 := by
    unfold f_keep
    rw [if_pos rfl]
  rw [e]
  funext i
  by_cases hi : 0 ≤ i ∧ i < 2564
  · have e1 : f_bw (f_cp w 0 (f_shf bk 10256) (2564 * 4) 2564) k w i = f_cp w 0 (f_shf bk 10256) (2564 * 4) 2564 (2564 * k + i) := if_pos hi
    rw [e1]
    unfold f_cp
    by_cases h : k = 4
    · rw [if_pos (by omega), if_pos h, show 0 + (2564 * k + i - 2564 * 4) = i by omega]
    · rw [if_neg (by omega), if_neg h]
      unfold f_shf
      rw [if_pos (by omega)]
      show _ = (if 0 ≤ i ∧ i < 2564 then bk (2564 * (k + 1) + i) else w i)
      rw [if_pos hi, show 2564 * k + i + 2564 = 2564 * (k + 1) + i by omega]
  · have e1 : f_bw (f_cp w 0 (f_shf bk 10256) (2564 * 4) 2564) k w i = w i := if_neg hi
    rw [e1]
    by_cases h : k = 4
    · rw [if_pos h]
    · rw [if_neg h]
      show _ = (if 0 ≤ i ∧ i < 2564 then bk (2564 * (k + 1) + i) else w i)
      rw [if_neg hi]
set_option maxRecDepth 20000 in
theorem s_X11_keepPast (E : ax_Env) (l : Launch) (d : Nat) (hd : 3 ≤ d) (M : ax_Mem) (w bk : Int → Int) (m : Int) (hg0 : f_nb M w) (hg1 : f_ok w) (hg2 : f_pr M bk m w) : ax_G E l d iX11_keepPast [.inr 0] M (fun z0 M2 => z0 = none ∧ (∀ x0 i0 : Int, ¬ ((92 ≤ x0 ∧ x0 < 273) ∨ (x0 = 0 ∧ i0 = 12)) → M2 x0 i0 = M x0 i0) ∧ (f_pr M2 (f_keep bk w m) (f_keepN m) w)) := by
  obtain ⟨d, rfl⟩ : ∃ d0, d = d0 + 1 := ⟨d - 1, by omega⟩
  refine ax_start rfl (Nat.le_of_ble_eq_true rfl) (ls := [some (.inr 0), none, none]) rfl (fun hav hcm => ?_)
  clear hav
  have qm := hg2.1
  have qw := fun k k1 k2 => f_pw_rg (hg2.2.1.1 k k1 k2)
  have qw0 := qw 0 (by decide) (by decide)
  have qw1 := qw 1 (by decide) (by decide)
  have qw2 := qw 2 (by decide) (by decide)
  have qw3 := qw 3 (by decide) (by decide)
  have qw4 := qw 4 (by decide) (by decide)
  refine ax_aload_n dX11_keepPast_0 rfl rfl (pc' := 1) rfl ?_
  refine ax_geti (v := M 0 12) dX11_keepPast_1 flX11_107 rfl sh_0 rfl rfl (pc' := 4) rfl ?_
  refine ax_iconst dX11_keepPast_4 (by decide) (pc' := 5) rfl ?_
  refine ax_icmp_lt (tgt := 54) dX11_keepPast_5 (by decide) (pc' := 8) rfl (fun h5 => ?_) (fun h5 => ?_)
  · have qwm := qw (M 0 12) (by omega) (by omega)
    refine ax_aload_n dX11_keepPast_54 rfl rfl (pc' := 55) rfl ?_
    refine ax_getr (v := 92) dX11_keepPast_55 flX11_90 rfl sh_0 rfl (pc' := 58) rfl ?_
    refine ax_aload_n dX11_keepPast_58 rfl rfl (pc' := 59) rfl ?_
    refine ax_geti (v := M 0 12) dX11_keepPast_59 flX11_107 rfl sh_0 rfl rfl (pc' := 62) rfl ?_
    refine ax_aald (v := (M 92) (M 0 12)) dX11_keepPast_62 sh_92 (by decide) (by omega) (by omega) ((f_av_p _ (by omega)).trans ((congrFun rfl (M 0 12)).trans rfl)) (pc' := 63) rfl ?_
    refine ax_aload_n dX11_keepPast_63 rfl rfl (pc' := 64) rfl ?_
    refine ax_getr (v := 1) dX11_keepPast_64 flX11_10 rfl sh_0 rfl (pc' := 67) rfl ?_
    refine ax_invG [.inr 1] [] dX11_keepPast_67 mlX11_380 (f_wp_pw (hg2.2.1.1 (M 0 12) (by omega) (by omega))).1 rfl rfl rfl (Nat.le_of_ble_eq_true rfl) (s_X9_copyFrom E l _ (by omega) _ ((M 92) (M 0 12)) 1 w (f_wp_pw (hg2.2.1.1 _ (by omega) (by omega))) f_wp_1 (by omega) (f_wm_fr (M := M) (fun x0 i0 x1 x2 => rfl) hg0.1) hg1) (pc' := 70) rfl (fun vv M_67 hq co67 hcm67 => ?_)
    obtain ⟨rfl, frM_67, fa67_0⟩ := hq
    refine ax_reS (st2 := []) rfl ?_
    refine ax_aload_n dX11_keepPast_70 rfl rfl (pc' := 71) rfl ?_
    refine ax_dup dX11_keepPast_71 (pc' := 72) rfl ?_
    refine ax_geti (v := M 0 12) dX11_keepPast_72 flX11_107 rfl sh_0 ((frM_67 0 12 (by omega)).trans rfl) rfl (pc' := 75) rfl ?_
    refine ax_iconst dX11_keepPast_75 (by decide) (pc' := 76) rfl ?_
    refine ax_iadd dX11_keepPast_76 (by omega) (pc' := 77) rfl ?_
    refine ax_puti dX11_keepPast_77 flX11_107 (Or.inl rfl) sh_0 rfl (pc' := 80) rfl ?_
    refine ax_vret dX11_keepPast_80 rfl ?_
    refine ⟨rfl, rfl, ?_, ?_⟩
    · intro x0 i0 hai
      exact (ax_up_miss (fun h => hai (Or.inr h)) ((frM_67 x0 i0 (by omega)).trans rfl))
    · show f_pr (ax_up M_67 0 12 (M 0 12 + 1)) (f_keep bk w m) (f_keepN m) w
      have q92 : (ax_up M_67 0 12 (M 0 12 + 1)) 92 = M 92 := (ax_up_rowmiss (by decide) ((funext fun i0 => frM_67 92 i0 (by omega)).trans rfl))
      have qb := hg2.2.1.1 (M 0 12) (by omega) (by omega)
      have qbr := f_pw_rg qb
      refine ⟨⟨Eq.trans (ax_up_hit _ _ _ _) (by unfold f_keepN; rw [if_neg (by omega)]; omega), ?_⟩, by rw [q92]; exact hg2.2.1, fun k k1 k2 => ?_⟩
      · unfold f_keepN
        rw [if_neg (by omega)]
        omega
      · have k3 : k ≤ m := by
          unfold f_keepN at k2
          rw [if_neg (by omega)] at k2
          omega
        rw [q92, f_bw_keep ⟨by omega, by omega⟩ ⟨k1, k3⟩]
        by_cases h4 : k = m
        · rw [if_pos h4, show k = M 0 12 by omega]
          exact ⟨f_wm_fr (fun x0 i0 x1 x2 => (ax_up_miss (by omega) rfl)) fa67_0, hg1⟩
        · rw [if_neg h4]
          have qc := hg2.2.1.1 k (by omega) (by omega)
          have qcr := f_pw_rg qc
          have qne := f_pw_ne qb qc (fun e => by have := hg2.2.1.2 (M 0 12) k (by omega) (by omega) (by omega) (by omega) e; omega)
          exact ⟨f_wm_fr (M := M) (fun x0 i0 x1 x2 => (ax_up_miss (by omega) ((frM_67 x0 i0 (by omega)).trans rfl))) (hg2.2.2 k (by omega) (by omega)).1, (hg2.2.2 k (by omega) (by omega)).2⟩
  · refine ax_aload_n dX11_keepPast_8 rfl rfl (pc' := 9) rfl ?_
    refine ax_getr (v := 92) dX11_keepPast_9 flX11_90 rfl sh_0 rfl (pc' := 12) rfl ?_
    refine ax_iconst dX11_keepPast_12 (by decide) (pc' := 13) rfl ?_
    refine ax_aald (v := (M 92) 0) dX11_keepPast_13 sh_92 (by decide) (by omega) (by omega) ((f_av_p _ (by omega)).trans ((congrFun rfl 0).trans rfl)) (pc' := 14) rfl ?_
    refine ax_astore_n dX11_keepPast_14 rfl (by decide) (ls' := [some (.inr 0), some (.inr ((M 92) 0)), none]) rfl (pc' := 15) rfl ?_
    refine ax_iconst dX11_keepPast_15 (by decide) (pc' := 16) rfl ?_
    refine ax_istore_n dX11_keepPast_16 rfl (by decide) (ls' := [some (.inr 0), some (.inr ((M 92) 0)), some (.inl 1)]) rfl (pc' := 17) rfl ?_
    refine ax_iload_n dX11_keepPast_17 rfl rfl (pc' := 18) rfl ?_
    refine ax_iconst dX11_keepPast_18 (by decide) (pc' := 19) rfl ?_
    refine ax_icmp_ge (tgt := 42) dX11_keepPast_19 (by decide) (pc' := 22) rfl (fun h19 => ?_) (fun h19 => ?_)
    · exfalso
      omega
    · refine ax_aload_n dX11_keepPast_22 rfl rfl (pc' := 23) rfl ?_
      refine ax_getr (v := 92) dX11_keepPast_23 flX11_90 rfl sh_0 rfl (pc' := 26) rfl ?_
      refine ax_iload_n dX11_keepPast_26 rfl rfl (pc' := 27) rfl ?_
      refine ax_iconst dX11_keepPast_27 (by decide) (pc' := 28) rfl ?_
      refine ax_isub dX11_keepPast_28 (by omega) (pc' := 29) rfl ?_
      refine ax_aload_n dX11_keepPast_29 rfl rfl (pc' := 30) rfl ?_
      refine ax_getr (v := 92) dX11_keepPast_30 flX11_90 rfl sh_0 rfl (pc' := 33) rfl ?_
      refine ax_iload_n dX11_keepPast_33 rfl rfl (pc' := 34) rfl ?_
      refine ax_aald (v := (M 92) 1) dX11_keepPast_34 sh_92 (by decide) (by omega) (by omega) ((f_av_p _ (by omega)).trans ((congrFun rfl 1).trans rfl)) (pc' := 35) rfl ?_
      refine ax_aast dX11_keepPast_35 sh_92 (by decide) (f_wp_pw (hg2.2.1.1 1 (by omega) (by omega))).1 rfl (by omega) (by omega) rfl (by unfold ax_can; omega) (pc' := 36) rfl ?_
      refine ax_iinc dX11_keepPast_36 rfl (by decide) (by omega) (ls' := [some (.inr 0), some (.inr ((M 92) 0)), some (.inl 2)]) rfl (pc' := 39) rfl ?_
      refine ax_goto dX11_keepPast_39 (pc' := 17) (by decide) ?_
      refine ax_iload_n dX11_keepPast_17 rfl rfl (pc' := 18) rfl ?_
      refine ax_iconst dX11_keepPast_18 (by decide) (pc' := 19) rfl ?_
      refine ax_icmp_ge (tgt := 42) dX11_keepPast_19 (by decide) (pc' := 22) rfl (fun h19 => ?_) (fun h19 => ?_)
      · exfalso
        omega
      · refine ax_aload_n dX11_keepPast_22 rfl rfl (pc' := 23) rfl ?_
        refine ax_getr (v := 92) dX11_keepPast_23 flX11_90 rfl sh_0 rfl (pc' := 26) rfl ?_
        refine ax_iload_n dX11_keepPast_26 rfl rfl (pc' := 27) rfl ?_
        refine ax_iconst dX11_keepPast_27 (by decide) (pc' := 28) rfl ?_
        refine ax_isub dX11_keepPast_28 (by omega) (pc' := 29) rfl ?_
        refine ax_aload_n dX11_keepPast_29 rfl rfl (pc' := 30) rfl ?_
        refine ax_getr (v := 92) dX11_keepPast_30 flX11_90 rfl sh_0 rfl (pc' := 33) rfl ?_
        refine ax_iload_n dX11_keepPast_33 rfl rfl (pc' := 34) rfl ?_
        refine ax_aald (v := (M 92) 2) dX11_keepPast_34 sh_92 (by decide) (by omega) (by omega) ((f_av_p _ (by omega)).trans ((congrFun (ax_up_rowhit rfl) 2).trans (f_up_ne (by decide) rfl))) (pc' := 35) rfl ?_
        refine ax_aast dX11_keepPast_35 sh_92 (by decide) (f_wp_pw (hg2.2.1.1 2 (by omega) (by omega))).1 rfl (by omega) (by omega) rfl (by unfold ax_can; omega) (pc' := 36) rfl ?_
        refine ax_iinc dX11_keepPast_36 rfl (by decide) (by omega) (ls' := [some (.inr 0), some (.inr ((M 92) 0)), some (.inl 3)]) rfl (pc' := 39) rfl ?_
        refine ax_goto dX11_keepPast_39 (pc' := 17) (by decide) ?_
        refine ax_iload_n dX11_keepPast_17 rfl rfl (pc' := 18) rfl ?_
        refine ax_iconst dX11_keepPast_18 (by decide) (pc' := 19) rfl ?_
        refine ax_icmp_ge (tgt := 42) dX11_keepPast_19 (by decide) (pc' := 22) rfl (fun h19 => ?_) (fun h19 => ?_)
        · exfalso
          omega
        · refine ax_aload_n dX11_keepPast_22 rfl rfl (pc' := 23) rfl ?_
          refine ax_getr (v := 92) dX11_keepPast_23 flX11_90 rfl sh_0 rfl (pc' := 26) rfl ?_
          refine ax_iload_n dX11_keepPast_26 rfl rfl (pc' := 27) rfl ?_
          refine ax_iconst dX11_keepPast_27 (by decide) (pc' := 28) rfl ?_
          refine ax_isub dX11_keepPast_28 (by omega) (pc' := 29) rfl ?_
          refine ax_aload_n dX11_keepPast_29 rfl rfl (pc' := 30) rfl ?_
          refine ax_getr (v := 92) dX11_keepPast_30 flX11_90 rfl sh_0 rfl (pc' := 33) rfl ?_
          refine ax_iload_n dX11_keepPast_33 rfl rfl (pc' := 34) rfl ?_
          refine ax_aald (v := (M 92) 3) dX11_keepPast_34 sh_92 (by decide) (by omega) (by omega) ((f_av_p _ (by omega)).trans ((congrFun (ax_up_rowhit (ax_up_rowhit rfl)) 3).trans (f_up_ne (by decide) (f_up_ne (by decide) rfl)))) (pc' := 35) rfl ?_
          refine ax_aast dX11_keepPast_35 sh_92 (by decide) (f_wp_pw (hg2.2.1.1 3 (by omega) (by omega))).1 rfl (by omega) (by omega) rfl (by unfold ax_can; omega) (pc' := 36) rfl ?_
          refine ax_iinc dX11_keepPast_36 rfl (by decide) (by omega) (ls' := [some (.inr 0), some (.inr ((M 92) 0)), some (.inl 4)]) rfl (pc' := 39) rfl ?_
          refine ax_goto dX11_keepPast_39 (pc' := 17) (by decide) ?_
          refine ax_iload_n dX11_keepPast_17 rfl rfl (pc' := 18) rfl ?_
          refine ax_iconst dX11_keepPast_18 (by decide) (pc' := 19) rfl ?_
          refine ax_icmp_ge (tgt := 42) dX11_keepPast_19 (by decide) (pc' := 22) rfl (fun h19 => ?_) (fun h19 => ?_)
          · exfalso
            omega
          · refine ax_aload_n dX11_keepPast_22 rfl rfl (pc' := 23) rfl ?_
            refine ax_getr (v := 92) dX11_keepPast_23 flX11_90 rfl sh_0 rfl (pc' := 26) rfl ?_
            refine ax_iload_n dX11_keepPast_26 rfl rfl (pc' := 27) rfl ?_
            refine ax_iconst dX11_keepPast_27 (by decide) (pc' := 28) rfl ?_
            refine ax_isub dX11_keepPast_28 (by omega) (pc' := 29) rfl ?_
            refine ax_aload_n dX11_keepPast_29 rfl rfl (pc' := 30) rfl ?_
            refine ax_getr (v := 92) dX11_keepPast_30 flX11_90 rfl sh_0 rfl (pc' := 33) rfl ?_
            refine ax_iload_n dX11_keepPast_33 rfl rfl (pc' := 34) rfl ?_
            refine ax_aald (v := (M 92) 4) dX11_keepPast_34 sh_92 (by decide) (by omega) (by omega) ((f_av_p _ (by omega)).trans ((congrFun (ax_up_rowhit (ax_up_rowhit (ax_up_rowhit rfl))) 4).trans (f_up_ne (by decide) (f_up_ne (by decide) (f_up_ne (by decide) rfl))))) (pc' := 35) rfl ?_
            refine ax_aast dX11_keepPast_35 sh_92 (by decide) (f_wp_pw (hg2.2.1.1 4 (by omega) (by omega))).1 rfl (by omega) (by omega) rfl (by unfold ax_can; omega) (pc' := 36) rfl ?_
            refine ax_iinc dX11_keepPast_36 rfl (by decide) (by omega) (ls' := [some (.inr 0), some (.inr ((M 92) 0)), some (.inl 5)]) rfl (pc' := 39) rfl ?_
            refine ax_goto dX11_keepPast_39 (pc' := 17) (by decide) ?_
            refine ax_iload_n dX11_keepPast_17 rfl rfl (pc' := 18) rfl ?_
            refine ax_iconst dX11_keepPast_18 (by decide) (pc' := 19) rfl ?_
            refine ax_icmp_ge (tgt := 42) dX11_keepPast_19 (by decide) (pc' := 22) rfl (fun h19 => ?_) (fun h19 => ?_)
            · refine ax_aload_n dX11_keepPast_42 rfl rfl (pc' := 43) rfl ?_
              refine ax_getr (v := 92) dX11_keepPast_43 flX11_90 rfl sh_0 rfl (pc' := 46) rfl ?_
              refine ax_iconst dX11_keepPast_46 (by decide) (pc' := 47) rfl ?_
              refine ax_aload_n dX11_keepPast_47 rfl rfl (pc' := 48) rfl ?_
              refine ax_aast dX11_keepPast_48 sh_92 (by decide) (f_wp_pw (hg2.2.1.1 0 (by omega) (by omega))).1 rfl (by omega) (by omega) rfl (by unfold ax_can; omega) (pc' := 49) rfl ?_
              refine ax_aload_n dX11_keepPast_49 rfl rfl (pc' := 50) rfl ?_
              refine ax_iconst dX11_keepPast_50 (by decide) (pc' := 51) rfl ?_
              refine ax_puti dX11_keepPast_51 flX11_107 (Or.inl rfl) sh_0 rfl (pc' := 54) rfl ?_
              refine ax_aload_n dX11_keepPast_54 rfl rfl (pc' := 55) rfl ?_
              refine ax_getr (v := 92) dX11_keepPast_55 flX11_90 rfl sh_0 rfl (pc' := 58) rfl ?_
              refine ax_aload_n dX11_keepPast_58 rfl rfl (pc' := 59) rfl ?_
              refine ax_geti (v := 4) dX11_keepPast_59 flX11_107 rfl sh_0 (show (ax_up (ax_up (ax_up (ax_up (ax_up (ax_up M 92 0 ((M 92) 1)) 92 1 ((M 92) 2)) 92 2 ((M 92) 3)) 92 3 ((M 92) 4)) 92 4 ((M 92) 0)) 0 12 4) 0 12 = 4 from (ax_up_hit _ _ _ _)) rfl (pc' := 62) rfl ?_
              refine ax_aald (v := (M 92) 0) dX11_keepPast_62 sh_92 (by decide) (by omega) (by omega) ((f_av_p _ (by omega)).trans ((congrFun (ax_up_rowmiss (by decide) (ax_up_rowhit (ax_up_rowhit (ax_up_rowhit (ax_up_rowhit (ax_up_rowhit rfl)))))) 4).trans (f_up_same _ _ _))) (pc' := 63) rfl ?_
              refine ax_aload_n dX11_keepPast_63 rfl rfl (pc' := 64) rfl ?_
              refine ax_getr (v := 1) dX11_keepPast_64 flX11_10 rfl sh_0 rfl (pc' := 67) rfl ?_
              refine ax_invG [.inr 1] [] dX11_keepPast_67 mlX11_380 (f_wp_pw (hg2.2.1.1 0 (by omega) (by omega))).1 rfl rfl rfl (Nat.le_of_ble_eq_true rfl) (s_X9_copyFrom E l _ (by omega) _ ((M 92) 0) 1 w (f_wp_pw (hg2.2.1.1 _ (by omega) (by omega))) f_wp_1 (by omega) (f_wm_fr (M := M) (fun x0 i0 x1 x2 => (ax_up_miss (by omega) (ax_up_miss (by omega) (ax_up_miss (by omega) (ax_up_miss (by omega) (ax_up_miss (by omega) (ax_up_miss (by omega) rfl))))))) hg0.1) hg1) (pc' := 70) rfl (fun vv M_67 hq co67 hcm67 => ?_)
              obtain ⟨rfl, frM_67, fa67_0⟩ := hq
              refine ax_reS (st2 := []) rfl ?_
              refine ax_aload_n dX11_keepPast_70 rfl rfl (pc' := 71) rfl ?_
              refine ax_dup dX11_keepPast_71 (pc' := 72) rfl ?_
              refine ax_geti (v := 4) dX11_keepPast_72 flX11_107 rfl sh_0 (show M_67 0 12 = 4 from ((frM_67 0 12 (by omega)).trans (ax_up_hit _ _ _ _))) rfl (pc' := 75) rfl ?_
              refine ax_iconst dX11_keepPast_75 (by decide) (pc' := 76) rfl ?_
              refine ax_iadd dX11_keepPast_76 (by omega) (pc' := 77) rfl ?_
              refine ax_puti dX11_keepPast_77 flX11_107 (Or.inl rfl) sh_0 rfl (pc' := 80) rfl ?_
              refine ax_vret dX11_keepPast_80 rfl ?_
              refine ⟨rfl, rfl, ?_, ?_⟩
              · intro x0 i0 hai
                exact (ax_up_miss (fun h => hai (Or.inr h)) ((frM_67 x0 i0 (by omega)).trans (ax_up_miss (fun h => hai (Or.inr h)) (ax_up_miss (fun h => hai (Or.inl (by rw [h.1]; decide))) (ax_up_miss (fun h => hai (Or.inl (by rw [h.1]; decide))) (ax_up_miss (fun h => hai (Or.inl (by rw [h.1]; decide))) (ax_up_miss (fun h => hai (Or.inl (by rw [h.1]; decide))) (ax_up_miss (fun h => hai (Or.inl (by rw [h.1]; decide))) rfl))))))))
              · show f_pr (ax_up M_67 0 12 (4 + 1)) (f_keep bk w m) (f_keepN m) w
                have q92 : (ax_up M_67 0 12 (4 + 1)) 92 = f_up (f_up (f_up (f_up (f_up (M 92) 0 ((M 92) 1)) 1 ((M 92) 2)) 2 ((M 92) 3)) 3 ((M 92) 4)) 4 ((M 92) 0) := (ax_up_rowmiss (by decide) ((funext fun i0 => frM_67 92 i0 (by omega)).trans (ax_up_rowmiss (by decide) (ax_up_rowhit (ax_up_rowhit (ax_up_rowhit (ax_up_rowhit (ax_up_rowhit rfl))))))))
                have qb := hg2.2.1.1 0 (by omega) (by omega)
                have qbr := f_pw_rg qb
                have qg : ∀ k, 0 ≤ k → k < 5 → (ax_up M_67 0 12 (4 + 1)) 92 k = if k = 4 then M 92 0 else M 92 (k + 1) := by
                  intro k k1 k2
                  rw [q92]
                  rcases (by omega : k = 0 ∨ k = 1 ∨ k = 2 ∨ k = 3 ∨ k = 4) with rfl | rfl | rfl | rfl | rfl <;> simp [f_up]
                have qm5 : m = 5 := by omega
                refine ⟨⟨Eq.trans (ax_up_hit _ _ _ _) (by unfold f_keepN; rw [if_pos qm5]; decide), ?_⟩, ⟨fun k k1 k2 => ?_, fun k l k1 k2 l1 l2 e => ?_⟩, fun k k1 k2 => ?_⟩
                · unfold f_keepN
                  rw [if_pos qm5]
                  decide
                · rw [qg k k1 k2]
                  split
                  · exact qb
                  · exact hg2.2.1.1 (k + 1) (by omega) (by omega)
                · rw [qg k k1 k2, qg l l1 l2] at e
                  split at e
                  · split at e
                    · omega
                    · have := hg2.2.1.2 0 (l + 1) (by omega) (by omega) (by omega) (by omega) e
                      omega
                  · split at e
                    · have := hg2.2.1.2 (k + 1) 0 (by omega) (by omega) (by omega) (by omega) e
                      omega
                    · have := hg2.2.1.2 (k + 1) (l + 1) (by omega) (by omega) (by omega) (by omega) e
                      omega
                · have k3 : k < 5 := by
                    unfold f_keepN at k2
                    rw [if_pos qm5] at k2
                    exact k2
                  rw [qg k k1 k3, qm5, f_bw_keep5 ⟨k1, k3⟩]
                  by_cases h4 : k = 4
                  · rw [if_pos h4, if_pos h4]
                    exact ⟨f_wm_fr (fun x0 i0 x1 x2 => (ax_up_miss (by omega) rfl)) fa67_0, hg1⟩
                  · rw [if_neg h4, if_neg h4]
                    have qc := hg2.2.1.1 (k + 1) (by omega) (by omega)
                    have qcr := f_pw_rg qc
                    have qne := f_pw_ne qb qc (fun e => by have := hg2.2.1.2 0 (k + 1) (by omega) (by omega) (by omega) (by omega) e; omega)
                    exact ⟨f_wm_fr (M := M) (fun x0 i0 x1 x2 => (ax_up_miss (by omega) ((frM_67 x0 i0 (by omega)).trans (ax_up_miss (by omega) (ax_up_miss (by omega) (ax_up_miss (by omega) (ax_up_miss (by omega) (ax_up_miss (by omega) (ax_up_miss (by omega) rfl))))))))) (hg2.2.2 (k + 1) (by omega) (by omega)).1, (hg2.2.2 (k + 1) (by omega) (by omega)).2⟩
            · exfalso
              omega
