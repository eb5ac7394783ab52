/-! A LOGIC OF ONE'S OWN OVER THE KIT'S W AND Met: the heap of class and reference as one flat memory of whole numbers. A cell is named by its place behind the base; what a cell is (an object of a class, a row of ints, a row of references) and what stands fast in it is told by a list; all else by M. -/
abbrev ax_V : Type := Int ⊕ Int
abbrev ax_Mem : Type := Int → Int → Int
/-- kind (0 .. 12 an object of vwCl, 13 a row of ints, 14 .. 16 a row of Rope, World, Law), length, what stands fast -/
abbrev ax_Cell : Type := Nat × Nat × List (Option Int)
/-- classes and slots; array classes; base; Strings' objects; Strings' bytes; the script: address, length, what it holds -/
abbrev ax_Env : Type := va_G × (Nat → ClassId) × Nat × (Nat → Nat) × (Nat → Nat) × Nat × Nat × (Nat → Int32) × Option Nat
abbrev ax_I : Type := MethodName × ByteArray × Nat × Option FieldType
abbrev ax_D (E : ax_Env) : va_G := E.1
abbrev ax_ac (E : ax_Env) : Nat → ClassId := E.2.1
abbrev ax_b (E : ax_Env) : Nat := E.2.2.1
abbrev ax_sk (E : ax_Env) : Nat → Nat := E.2.2.2.1
abbrev ax_sv (E : ax_Env) : Nat → Nat := E.2.2.2.2.1
abbrev ax_xb (E : ax_Env) : Nat := E.2.2.2.2.2.1
abbrev ax_xl (E : ax_Env) : Nat := E.2.2.2.2.2.2.1
abbrev ax_xs (E : ax_Env) : Nat → Int32 := E.2.2.2.2.2.2.2.1
abbrev ax_fm (E : ax_Env) : Option Nat := E.2.2.2.2.2.2.2.2
def ax_can (v : Int) : Prop := -2147483648 ≤ v ∧ v < 2147483648
/-- a reference: -1 null, -2 the script, -(3 + i) String i, -100 a formatter or null, -(1000 + i) the bytes of String i, else a cell of ours -/
def ax_ro (E : ax_Env) (v : Int) : Option Nat := if v = -1 then none else if v = -2 then some (ax_xb E) else if v = -100 then ax_fm E else if v ≤ -1000 then some (ax_sv E (-(v + 1000)).toNat) else if v < 0 then some (ax_sk E (-(v + 3)).toNat) else some (ax_b E + v.toNat)
def ax_rf (E : ax_Env) (v : Int) : Value := va_rf (ax_ro E v)
def ax_v (E : ax_Env) (v : ax_V) : Value := match v with
  | .inl i => .int (Int32.ofInt i)
  | .inr r => ax_rf E r
def ax_cv (v : ax_V) : Prop := match v with
  | .inl i => ax_can i
  | .inr _ => True
def ax_tyl : List (Nat → FieldType) := [tyX0, tyX1, tyX2, tyX3, tyX4, tyX5, tyX6, tyX7, tyX8, tyX9, tyX10, tyX11, tyX12]
def ax_ft (ci k : Nat) : FieldType := (ax_tyl.getD ci (fun _ => .int)) k
def ax_isR (t : FieldType) : Bool := match t with
  | .object _ => true
  | .array _ => true
  | _ => false
/-- what stands at slot k of a cell -/
def ax_val (c : ax_Cell) (f : Int → Int) (k : Nat) : Int := (c.2.2.getD k none).getD (f k)
def ax_fv (E : ax_Env) (t : FieldType) (v : Int) : Value := if ax_isR t then ax_rf E v else .int (Int32.ofInt v)
def ax_ce (E : ax_Env) (c : ax_Cell) (f : Int → Int) : va_E :=
  if c.1 < 13 then .inr (c.1, (List.range c.2.1).map fun k => ax_fv E (ax_ft c.1 k) (ax_val c f k))
  else if c.1 = 13 then .inl (ax_ac E 0, c.2.1, .inl fun j => Int32.ofInt (ax_val c f j))
  else .inl (ax_ac E (c.1 - 13), c.2.1, .inr (.inr (.inr (.inr fun j => ax_ro E (ax_val c f j)))))
def ax_ws (E : ax_Env) (S : List ax_Cell) (M : ax_Mem) : va_W := S.mapIdx fun k c => (ax_b E + k, ax_ce E c (M k))
def ax_up (M : ax_Mem) (a i v : Int) : ax_Mem := fun a' i' => if a' = a ∧ i' = i then v else M a' i'
def ax_cm (M : ax_Mem) : Prop := ∀ a i, ax_can (M a i)
def ax_R (E : ax_Env) (S : List ax_Cell) (M : ax_Mem) (H : Heap) : Prop := va_P (ax_D E) vwCl (ax_ws E S M) H ∧ ax_cm M
abbrev ax_A (E : ax_Env) : Nat → Prop := fun q => ax_b E ≤ q
def ax_tys (E : ax_Env) : List (ClassId × FieldType) := [(ax_ac E 0, .int), (ax_ac E 1, .object RX7), (ax_ac E 2, .object RX9), (ax_ac E 3, .object RX3)]
theorem ax_ws_get {E : ax_Env} {S : List ax_Cell} {M : ax_Mem} {k : Nat} {c : ax_Cell} (h : S[k]? = some c) : (ax_ws E S M)[k]? = some (ax_b E + k, ax_ce E c (M k)) := by
  simp [ax_ws, List.getElem?_mapIdx, h]
theorem ax_ws_D (E : ax_Env) (S : List ax_Cell) (M : ax_Mem) : va_D (ax_A E) (ax_ws E S M) := by
  refine ⟨fun i j p q hp hq h => ?_, fun k q hq => ?_⟩
  · simp only [ax_ws, List.getElem?_mapIdx, Option.map_eq_some_iff] at hp hq
    obtain ⟨_, _, rfl⟩ := hp
    obtain ⟨_, _, rfl⟩ := hq
    simpa using h
  · simp only [ax_ws, List.getElem?_mapIdx, Option.map_eq_some_iff] at hq
    obtain ⟨_, _, rfl⟩ := hq
    exact Nat.le_add_right _ _
theorem ax_ws_set {E : ax_Env} {S : List ax_Cell} {M M' : ax_Mem} {k : Nat} {c : ax_Cell} (h : S[k]? = some c) (ho : ∀ j : Nat, j ≠ k → M' j = M j) : (ax_ws E S M).set k (ax_b E + k, ax_ce E c (M' k)) = ax_ws E S M' := by
  apply List.ext_getElem?
  intro j
  rw [List.getElem?_set]
  by_cases hj : k = j
  · subst hj
    obtain ⟨hl, he⟩ := List.getElem?_eq_some_iff.mp h
    simp [ax_ws, List.getElem?_mapIdx, he, hl]
  · rw [if_neg hj]
    simp only [ax_ws, List.getElem?_mapIdx]
    rw [ho j (fun e => hj e.symm)]
theorem ax_up_row {M : ax_Mem} {a i v : Int} {j : Int} (h : j ≠ a) : ax_up M a i v j = M j := by
  funext x
  simp [ax_up, h]
theorem ax_up_cm {M : ax_Mem} {a i v : Int} (h : ax_cm M) (hv : ax_can v) : ax_cm (ax_up M a i v) := by
  intro a' i'
  unfold ax_up
  split
  · exact hv
  · exact h a' i'
theorem ax_ofInt {v : Int} (h : ax_can v) : (Int32.ofInt v).toInt = v := Int32.toInt_ofInt_of_le h.1 h.2
theorem ax_inj {v w : Int} (h : ax_can v) (h' : ax_can w) : Int32.ofInt v = Int32.ofInt w ↔ v = w := by
  constructor
  · intro e
    have := congrArg Int32.toInt e
    rwa [ax_ofInt h, ax_ofInt h'] at this
  · intro e
    rw [e]
theorem ax_lt {v w : Int} (h : ax_can v) (h' : ax_can w) : Int32.ofInt v < Int32.ofInt w ↔ v < w := by
  rw [Int32.lt_iff_toInt_lt, ax_ofInt h, ax_ofInt h']
theorem ax_le {v w : Int} (h : ax_can v) (h' : ax_can w) : Int32.ofInt v ≤ Int32.ofInt w ↔ v ≤ w := by
  rw [Int32.le_iff_toInt_le, ax_ofInt h, ax_ofInt h']
def ax_wr (x : Int) : Int := (x + 2147483648) % 4294967296 - 2147483648
theorem ax_wr_can (x : Int) : ax_can (ax_wr x) := by
  unfold ax_can ax_wr
  omega
theorem ax_wr_of (x : Int) : Int32.ofInt (ax_wr x) = Int32.ofInt x := by
  apply Int32.toInt_inj.mp
  rw [Int32.toInt_ofInt, Int32.toInt_ofInt]
  show Int.bmod (ax_wr x) (2 ^ 32) = Int.bmod x (2 ^ 32)
  have e : ax_wr x = x + ((2 ^ 32 : Nat) : Int) * (-((x + 2147483648) / 4294967296)) := by
    unfold ax_wr
    omega
  rw [e, Int.add_mul_bmod_self_left]
theorem ax_wr_id {x : Int} (h : ax_can x) : ax_wr x = x := by
  unfold ax_can at h
  unfold ax_wr
  omega
theorem ax_can_toInt (x : Int32) : ax_can x.toInt := ⟨Int32.le_toInt x, Int32.toInt_lt x⟩
theorem ax_in {i : Int} {n : Nat} (h : ax_can i) (h0 : 0 ≤ i) (hn : i < n) : vp_in (Int32.ofInt i) n := by
  rw [vp_in_iff, ax_ofInt h]
  exact ⟨h0, hn⟩
theorem ax_clamp {i : Int} (h : ax_can i) : (Int32.ofInt i).toNatClampNeg = i.toNat := by
  rw [Int32.toNatClampNeg, ax_ofInt h]
theorem ax_v_cat (E : ax_Env) (v : ax_V) : (ax_v E v).category = 1 := by
  cases v with
  | inl i => rfl
  | inr r =>
    show (va_rf (ax_ro E r)).category = 1
    cases ax_ro E r <;> rfl
def ax_str : List (String × Nat × String) := [("RopeMind", 206, "tie when or and not habit age place knot tight wet beside ties"), ("RopeMind", 208, "forget when or and not habit age place knot tight wet"), ("RopeMind", 210, "hold when or and not tied tight cross years place length wet habits"), ("RopeMind$Tokens", 64, ";+-*/()<=>"), ("RopeMind", 231, "tie at untie pull wet rest again"), ("RopeMindModel", 154, "tie"), ("RopeMindModel", 173, "untie"), ("RopeMindModel", 175, "pull"), ("RopeMindModel", 152, "wet"), ("RopeMindModel", 177, "rest"), ("RopeMindModel", 179, "again"), ("RopeMindModel", 181, "at"), ("RopeMindModel", 188, "when"), ("RopeMindModel", 190, "or"), ("RopeMindModel", 192, "and"), ("RopeMindModel", 194, "not"), ("RopeMindModel", 156, "beside"), ("RopeMindModel", 158, "ties"), ("RopeMindModel", 138, "habit"), ("RopeMindModel", 144, "age"), ("RopeMindModel", 146, "place"), ("RopeMindModel", 148, "knot"), ("RopeMindModel", 150, "tight"), ("RopeMindModel", 163, "hold"), ("RopeMindModel", 165, "tied"), ("RopeMindModel", 167, "cross"), ("RopeMindModel", 169, "years"), ("RopeMindModel", 171, "length"), ("RopeMindModel", 172, "habits"), ("RopeMindModel", 202, "forget")]
def ax_slen (i : Nat) : Nat := ((ax_str.getD i ("", 0, "")).2.2).length
def ax_sbyt : List (List Int32) := [[116, 105, 101, 32, 119, 104, 101, 110, 32, 111, 114, 32, 97, 110, 100, 32, 110, 111, 116, 32, 104, 97, 98, 105, 116, 32, 97, 103, 101, 32, 112, 108, 97, 99, 101, 32, 107, 110, 111, 116, 32, 116, 105, 103, 104, 116, 32, 119, 101, 116, 32, 98, 101, 115, 105, 100, 101, 32, 116, 105, 101, 115], [102, 111, 114, 103, 101, 116, 32, 119, 104, 101, 110, 32, 111, 114, 32, 97, 110, 100, 32, 110, 111, 116, 32, 104, 97, 98, 105, 116, 32, 97, 103, 101, 32, 112, 108, 97, 99, 101, 32, 107, 110, 111, 116, 32, 116, 105, 103, 104, 116, 32, 119, 101, 116], [104, 111, 108, 100, 32, 119, 104, 101, 110, 32, 111, 114, 32, 97, 110, 100, 32, 110, 111, 116, 32, 116, 105, 101, 100, 32, 116, 105, 103, 104, 116, 32, 99, 114, 111, 115, 115, 32, 121, 101, 97, 114, 115, 32, 112, 108, 97, 99, 101, 32, 108, 101, 110, 103, 116, 104, 32, 119, 101, 116, 32, 104, 97, 98, 105, 116, 115], [59, 43, 45, 42, 47, 40, 41, 60, 61, 62], [116, 105, 101, 32, 97, 116, 32, 117, 110, 116, 105, 101, 32, 112, 117, 108, 108, 32, 119, 101, 116, 32, 114, 101, 115, 116, 32, 97, 103, 97, 105, 110], [116, 105, 101], [117, 110, 116, 105, 101], [112, 117, 108, 108], [119, 101, 116], [114, 101, 115, 116], [97, 103, 97, 105, 110], [97, 116], [119, 104, 101, 110], [111, 114], [97, 110, 100], [110, 111, 116], [98, 101, 115, 105, 100, 101], [116, 105, 101, 115], [104, 97, 98, 105, 116], [97, 103, 101], [112, 108, 97, 99, 101], [107, 110, 111, 116], [116, 105, 103, 104, 116], [104, 111, 108, 100], [116, 105, 101, 100], [99, 114, 111, 115, 115], [121, 101, 97, 114, 115], [108, 101, 110, 103, 116, 104], [104, 97, 98, 105, 116, 115], [102, 111, 114, 103, 101, 116]]
def ax_nest : List (String × Nat × MethodName × String) := [("RopeMind$World", 30, ⟨"RopeMind$Rope", "<init>", "()V"⟩, "RopeMind"), ("RopeMind", 18, ⟨"RopeMind$Book", "<init>", "()V"⟩, "RopeMind"), ("RopeMind$Lore", 19, ⟨"RopeMind$Drill", "<init>", "()V"⟩, "RopeMind"), ("RopeMind$Lore", 40, ⟨"RopeMind$Law", "<init>", "()V"⟩, "RopeMind"), ("RopeMind", 32, ⟨"RopeMind$Tokens", "<init>", "()V"⟩, "RopeMind"), ("RopeMind", 39, ⟨"RopeMind$Law", "<init>", "()V"⟩, "RopeMind"), ("RopeMind", 46, ⟨"RopeMind$Drill", "<init>", "()V"⟩, "RopeMind"), ("RopeMind", 71, ⟨"RopeMind$Rope", "<init>", "()V"⟩, "RopeMind"), ("RopeMind", 78, ⟨"RopeMind$YardPlan", "<init>", "()V"⟩, "RopeMind"), ("RopeMind", 85, ⟨"RopeMind$MoveSearch", "<init>", "()V"⟩, "RopeMind"), ("RopeMind$World", 58, ⟨"RopeMind", "isIn", "(II)Z"⟩, "RopeMind"), ("RopeMind$Judge", 76, ⟨"RopeMind", "isIn", "(II)Z"⟩, "RopeMind"), ("RopeMind$MoveSearch", 21, ⟨"RopeMind", "isIn", "(II)Z"⟩, "RopeMind")]
def ax_good : List Cond := lw_tbl.filter goodWord
theorem ax_gd {w : Cond} (h : w ∈ lw_tbl) (hg : goodWord w = true) : w ∈ ax_good := List.mem_filter.mpr ⟨h, hg⟩
theorem ax_gd_in : GoodIn ax_good ax_good := fun w hw => ⟨hw, good_of_word (List.mem_filter.mp hw).2⟩
/-- what a state says of the tables, of the Strings and of the script -/
def ax_K (E : ax_Env) (U : State) (H : Heap) : Prop := va_K (ax_D E) vwCl (ax_tys E) U ∧ (∀ q ∈ ax_nest, va_Nw (.methodLinkNest q.1 q.2.1 q.2.2.1 q.2.2.2) U) ∧ (∀ C ∈ [RX7, RX9, RX3], va_AO C U) ∧
  (∀ (i : Nat) (q : String × Nat × String), ax_str[i]? = some q → vk_R q.1 q.2.1 q.2.2 (ax_sk E i) U ∧ va_O "java/lang/String" (ax_sk E i) (ax_A E) U H ∧ va_OF "java/lang/String" "coder" "B" (.int 0) (ax_sk E i) (ax_A E) U H ∧ va_OF "java/lang/String" "value" "[B" (.ref (ax_sv E i)) (ax_sk E i) (ax_A E) U H ∧ va_T .byte (ax_sv E i) ((ax_sbyt.getD i []).length) (fun j => .int ((ax_sbyt.getD i []).getD j 0)) (ax_A E) U H) ∧
  va_X (ax_xb E) (ax_xl E) (ax_xs E) U H ∧ ax_xb E < ax_b E ∧ ax_b E ≤ H.size ∧ va_Z "java/lang/String" "COMPACT_STRINGS" "Z" (.int 1) (ax_A E) U H ∧ va_Z "jdk/internal/util/Preconditions" "SIOOBE_FORMATTER" "Ljava/util/function/BiFunction;" (va_rf (ax_fm E)) (ax_A E) U H
theorem ax_K.go {E : ax_Env} {s U : State} {H H1 : Heap} (h : ax_K E s H) (hW : s.WarmedH U.vm) (hz : H.size ≤ H1.size) (hk : ∀ q : Nat, q < H.size → ¬ ax_A E q → H1[q]? = H[q]?) : ax_K E U H1 := by
  obtain ⟨h1, h2, h3, h4, h5, h6, h7, h8, h9⟩ := h
  refine ⟨va_K.moved hW.alike h1, fun q hq => va_Nw.warmM hW (h2 q hq), fun C hC => va_AO.moved hW.alike (h3 C hC), fun i q hq => ?_, ?_, h6, Nat.le_trans h7 hz, va_Z.moved hW.alike (h8.kept hk), va_Z.moved hW.alike (h9.kept hk)⟩
  · obtain ⟨g1, g2, g3, g4, g5⟩ := h4 i q hq
    exact ⟨vk_R.warm hW g1, va_O.moved hW.alike (g2.kept hk), va_OF.moved hW.alike (g3.kept hk), va_OF.moved hW.alike (g4.kept hk), va_T.moved hW.alike (g5.kept hk)⟩
  · exact va_X.moved hW.alike (h5.kept (hk _ (Nat.lt_of_lt_of_le h6 h7) (Nat.not_le.mpr h6)))
def ax_X (E : ax_Env) (I : ax_I) (p : Program) (s : State) (m : MethodId) (args : Array Value) (meth : Method) (c : Code) : Prop :=
  p.tables.exec = Jvm.exec ∧ c.code = I.2.1 ∧ c.maxLocals = I.2.2.1 ∧ meth.sig.returnType = I.2.2.2 ∧ s.vm.findClass I.1.cls = some m.cls ∧ (∀ w ∈ ax_good, w.before args s = true) ∧ meth.locks = false ∧ meth.name = I.1.name ∧ ax_K E s s.heap
/-- a value may be what a method of that kind answers -/
def ax_rt (ret : Option FieldType) (v : Option ax_V) : Prop := match v with
  | none => ret = none
  | some (.inl x) => ret = some .int ∨ (ret = some .boolean ∧ (x = 0 ∨ x = 1)) ∨ (ret = some .char ∧ 0 ≤ x ∧ x < 65536) ∨ (ret = some .byte ∧ -128 ≤ x ∧ x < 128)
  | some (.inr _) => ∃ n, ret = some (.object n)
def ax_rd (cc : ByteArray) (pc : Nat) (v : Option ax_V) : Prop := match v with
  | none => decode cc pc = .ok (.return_, 1)
  | some (.inl _) => decode cc pc = .ok (.ireturn, 1)
  | some (.inr _) => decode cc pc = .ok (.areturn, 1)
def ax_co (v : Option ax_V) : Prop := ∀ x, v = some x → ax_cv x
abbrev ax_Post : Type := Option ax_V → List ax_Cell → ax_Mem → Prop
def ax_Ret (E : ax_Env) (Q : ax_Post) (I : ax_I) (p : Program) (l : Launch) (e : Env) (R : Room) (s : State) (m : MethodId) (args : Array Value) (below : List Frame) (meth : Method) (c : Code) (mc ms : Nat) (Z : State → Prop) : Prop :=
  ∀ (v : Option ax_V) (S : List ax_Cell) (M : ax_Mem) (H : Heap) (locs : List Loc) (slots pc : Nat) (ls : Array Slot), Q v S M → ax_co v → ax_R E S M H → va_S (ax_A E) s.heap H locs → s.heap.size + mc = ax_b E + S.length → slots ≤ ms → ax_rt I.2.2.2 v → ax_rd I.2.1 pc v → W p l e R s m args below meth c H locs mc slots Z (F0 m pc ls (v.toList.map (ax_v E)))
def ax_L (E : ax_Env) (ls : List (Option ax_V)) (nL : Nat) (lc : Array Slot) : Prop := lc.size = nL ∧ lv_wf lc ∧ ∀ (i : Nat) (v : ax_V), ls[i]? = some (some v) → lc[i]? = some (.val (ax_v E v))
def ax_cl (ls : List (Option ax_V)) : Prop := ∀ (i : Nat) (v : ax_V), ls[i]? = some (some v) → ax_cv v
def ax_cs (st : List ax_V) : Prop := ∀ v ∈ st, ax_cv v
/-- THE JUDGEMENT: from the frame at pc with locals ls and stack st, over the cells S and the memory M, the method comes to its end with Q; d calls deep at most; kc cells of ks slots may come -/
def ax_W (E : ax_Env) (l : Launch) (d kc ks : Nat) (I : ax_I) (pc : Nat) (ls : List (Option ax_V)) (st : List ax_V) (S : List ax_Cell) (M : ax_Mem) (Q : ax_Post) : Prop :=
  ∀ (p : Program) (e : Env) (R : Room) (s : State) (m : MethodId) (args : Array Value) (below : List Frame) (meth : Method) (c : Code) (mc ms : Nat) (Z : State → Prop) (H : Heap) (locs : List Loc) (cells slots : Nat) (lc : Array Slot),
    ax_X E I p s m args meth c → (d ≤ R.frames ∧ 60 * d ≤ R.locals ∧ mc ≤ R.cells ∧ ms ≤ R.slots) → ax_Ret E Q I p l e R s m args below meth c mc ms Z →
    ax_R E S M H → va_S (ax_A E) s.heap H locs → cells + kc = mc → slots + ks ≤ ms → s.heap.size + cells = ax_b E + S.length → ax_L E ls I.2.2.1 lc → ax_cl ls → ax_cs st → W p l e R s m args below meth c H locs cells slots Z (F0 m pc lc (st.map (ax_v E)))
def ax_rm (d kc ks : Nat) : Room := { frames := d, cells := kc, slots := ks, locals := 60 * d }
def ax_wd (I : ax_I) : List Cond := Cond.code I.1 I.2.1 I.2.2.1 I.2.2.2 :: ax_good
def ax_Pc (E : ax_Env) (av : List ax_V) (S : List ax_Cell) (M : ax_Mem) : Array Value → State → Prop := fun a U => a = (av.map (ax_v E)).toArray ∧ ax_R E S M U.heap ∧ ax_K E U U.heap ∧ U.heap.size = ax_b E + S.length
def ax_Qc (E : ax_Env) (n : Nat) (Q : ax_Post) (ret : Option FieldType) : Array Value → State → Outcome → State → Prop := fun _ st oc t => (∃ (v : Option ax_V) (S : List ax_Cell) (M : ax_Mem), oc = .returned (v.map (ax_v E)) ∧ Q v S M ∧ S.length = n ∧ ax_co v ∧ ax_rt ret v ∧ ax_R E S M t.heap) ∧ va_F (ax_A E) st t
/-- A METHOD'S CONTRACT -/
def ax_M (E : ax_Env) (l : Launch) (d kc ks : Nat) (I : ax_I) (av : List ax_V) (S : List ax_Cell) (M : ax_Mem) (Q : ax_Post) : Prop :=
  (∀ v ∈ av, ax_cv v) → Met l I.1 (ax_wd I) (ax_rm d kc ks) (ax_Pc E av S M) (ax_Qc E (S.length + kc) Q I.2.2.2) kc ks (ax_A E)
