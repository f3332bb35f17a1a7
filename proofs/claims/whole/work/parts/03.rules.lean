def nestL : List (String × Nat × MethodName) := [("GorgeWire", 9, yX4_init), ("GorgeWire$State", 11, yX10_init), ("GorgeWire$Wire", 23, yX11_within), ("GorgeWire$Reader", 89, yX11_within), ("GorgeWire$Reader", 56, yX11_held), ("GorgeWire$State", 101, yX11_within), ("GorgeWire$State", 147, yX11_held), ("GorgeWire$Row", 37, yX11_within), ("GorgeWire$Row", 43, yX11_held)]
def castL : List (String × String) := [("[I", "java/lang/Cloneable"), ("GorgeWire$Braked", "GorgeWire$Rolled"), ("GorgeWire$Late", "GorgeWire$Rolled"), ("GorgeWire$Greased", "GorgeWire$Hauled"), ("GorgeWire$Late", "GorgeWire$Braked"), ("GorgeWire$Rolled", "GorgeWire$Ride"), ("GorgeWire$Hauled", "GorgeWire$Ride"), ("GorgeWire$Braked", "GorgeWire$Ride"), ("GorgeWire$Windy", "GorgeWire$Ride"), ("GorgeWire$Late", "GorgeWire$Ride"), ("GorgeWire$Greased", "GorgeWire$Ride")]
def declL : List MethodName := [⟨"GorgeWire$Ride", "rubs", "(LGorgeWire$Wire;)I"⟩, ⟨"GorgeWire$Ride", "bears", "(I)I"⟩, ⟨"GorgeWire$Rolled", "rolls", "(I)I"⟩, ⟨"GorgeWire$Ride", "rolls", "(I)I"⟩, ⟨"GorgeWire$Ride", "wears", "(I)I"⟩, ⟨"GorgeWire$Ride", "hangs", "(I)I"⟩]
def ncL : List (String × String) := [("GorgeWire$Ride", "GorgeWire$Rolled"), ("GorgeWire$Ride", "GorgeWire$Hauled"), ("GorgeWire$Ride", "GorgeWire$Braked"), ("GorgeWire$Ride", "GorgeWire$Windy"), ("GorgeWire$Ride", "GorgeWire$Late"), ("GorgeWire$Ride", "GorgeWire$Greased"), ("GorgeWire$Rolled", "GorgeWire$Hauled"), ("GorgeWire$Rolled", "GorgeWire$Braked"), ("GorgeWire$Rolled", "GorgeWire$Windy"), ("GorgeWire$Rolled", "GorgeWire$Late"), ("GorgeWire$Rolled", "GorgeWire$Greased"), ("GorgeWire$Hauled", "GorgeWire$Rolled"), ("GorgeWire$Hauled", "GorgeWire$Braked"), ("GorgeWire$Hauled", "GorgeWire$Windy"), ("GorgeWire$Hauled", "GorgeWire$Late"), ("GorgeWire$Hauled", "GorgeWire$Greased"), ("GorgeWire$Braked", "GorgeWire$Hauled"), ("GorgeWire$Braked", "GorgeWire$Windy"), ("GorgeWire$Braked", "GorgeWire$Late"), ("GorgeWire$Braked", "GorgeWire$Greased"), ("GorgeWire$Windy", "GorgeWire$Rolled"), ("GorgeWire$Windy", "GorgeWire$Hauled"), ("GorgeWire$Windy", "GorgeWire$Braked"), ("GorgeWire$Windy", "GorgeWire$Late"), ("GorgeWire$Windy", "GorgeWire$Greased"), ("GorgeWire$Late", "GorgeWire$Hauled"), ("GorgeWire$Late", "GorgeWire$Windy"), ("GorgeWire$Late", "GorgeWire$Greased"), ("GorgeWire$Greased", "GorgeWire$Rolled"), ("GorgeWire$Greased", "GorgeWire$Braked"), ("GorgeWire$Greased", "GorgeWire$Windy"), ("GorgeWire$Greased", "GorgeWire$Late")]
def aoL : List String := ["GorgeWire$Ride", "GorgeWire$Row", "java/lang/String"]
def strL : List (String × Nat × String × Nat) := [("GorgeWire$Reader", 24, "", 0), ("GorgeWire$State", 82, "w/100+(p>100)", 3), ("GorgeWire$State", 88, "s*5>w", 4), ("GorgeWire$Reader", 41, "wps", 1), ("GorgeWire$Reader", 43, "wvst", 2), ("GorgeWireModel", 31, "wps", 1), ("GorgeWireModel", 33, "wvst", 2)]
def sLen : List Nat := [0, 3, 4, 13, 5]
def sByt : List (List Int32) := [[], [119, 112, 115], [119, 118, 115, 116], [119, 47, 49, 48, 48, 43, 40, 112, 62, 49, 48, 48, 41], [115, 42, 53, 62, 119]]
def leastL : List Int32 := [20, -99, 100, 1, -40, 100, 0, -20, 0]
def greatL : List Int32 := [400, 99, 9999, 99, 40, 99999, 99, 20, 999]
def firstL : List Int32 := [300, 10, 2000, 10, 0, 9000, 5, 0, 100]
def statL : List (String × Nat × List Int32) := [("LEAST", 10, leastL), ("GREATEST", 11, greatL), ("FIRST", 12, firstL)]
/-- a static int array that nobody writes -/
def xArr (Γ : GE) (t : Nat) (vs : List Int32) (U : State) : Prop := ∃ cell : Cell, (gH Γ)[t]? = some cell ∧ U.isArrayOf cell .int ∧ cell.vm ≠ .unknown ∧ cell.cls = gc Γ 0 ∧ cell.slots = (vs.map Value.int).toArray
theorem xArr.moved {Γ : GE} {t : Nat} {vs : List Int32} {u U : State} (hvm : u.vm.Alike U.vm) (h : xArr Γ t vs u) : xArr Γ t vs U := by
  obtain ⟨cell, h1, h2, h3⟩ := h
  exact ⟨cell, h1, State.isArrayOf_alike hvm h2, h3⟩
/-- what lies outside the world, and the words that don't ride along -/
def Kx (Γ : GE) (U : State) : Prop :=
  (∀ q ∈ nestL, va_Nw (.methodLinkNest q.1 q.2.1 q.2.2 "GorgeWire") U)
  ∧ (∀ q ∈ castL, va_Nw (.castable q.1 q.2) U)
  ∧ (∀ x ∈ declL, va_Nw (.declares x) U)
  ∧ (∀ q ∈ ncL, va_Nc q.1 q.2 U)
  ∧ (∀ C ∈ aoL, va_AO C U)
  ∧ (∀ q ∈ strL, vk_R q.1 q.2.1 q.2.2.1 (gx Γ q.2.2.2) U)
  ∧ vk_S 5 sLen sByt (gx Γ) (fun i => gx Γ (5 + i)) (gA Γ) U (gH Γ)
  ∧ (∀ q ∈ statL, va_Z "GorgeWire$Wire" q.1 "[I" (.ref (gx Γ q.2.1)) (gA Γ) U (gH Γ) ∧ xArr Γ (gx Γ q.2.1) q.2.2 U)
  ∧ (va_X (gx Γ 13) (gn Γ) (gs Γ) U (gH Γ) ∧ gx Γ 13 < (gH Γ).size)
  ∧ va_Z "java/lang/String" "COMPACT_STRINGS" "Z" (.int 1) (gA Γ) U (gH Γ)
  ∧ ∃ v, (v = .null ∨ v = .ref 14) ∧ va_Z "jdk/internal/util/Preconditions" "SIOOBE_FORMATTER" "Ljava/util/function/BiFunction;" (cv Γ v) (gA Γ) U (gH Γ)
theorem Kx.moved {Γ : GE} {s U : State} (hW : s.WarmedH U.vm) (h : Kx Γ s) : Kx Γ U := by
  obtain ⟨h1, h2, h3, h4, h5, h6, h7, h8, h9, h10, v, hv, h11⟩ := h
  have ha := hW.alike
  exact ⟨fun q hq => (h1 q hq).warmM hW, fun q hq => (h2 q hq).warmC hW, fun x hx => (h3 x hx).warmD hW, fun q hq => (h4 q hq).moved ha, fun C hC => (h5 C hC).moved ha, fun q hq => (h6 q hq).warm hW, h7.moved ha, fun q hq => ⟨(h8 q hq).1.moved ha, (h8 q hq).2.moved ha⟩, ⟨h9.1.moved ha, h9.2⟩, h10.moved ha, v, hv, h11.moved ha⟩
def KE (Γ : GE) (U : State) : Prop := va_K (gD Γ) vwCl (tys Γ) U ∧ Kx Γ U
theorem KE.moved {Γ : GE} {s U : State} (hW : s.WarmedH U.vm) (h : KE Γ s) : KE Γ U := ⟨va_K.moved hW.alike h.1, h.2.moved hW⟩
/-- the words that ride along -/
def gtb : List Cond := lw_tbl.filter goodWord
theorem gt {w : Cond} (h : w ∈ lw_tbl) (hg : goodWord w = true) : w ∈ gtb := List.mem_filter.mpr ⟨h, hg⟩
theorem gtb_good {ws : List Cond} (h : ∀ w ∈ ws, w ∈ gtb) : GoodIn gtb ws := fun w hw => ⟨h w hw, good_of_word (List.mem_filter.mp (h w hw)).2⟩
/-- a method: its name, bytes, number of locals, what it returns -/
abbrev MD : Type := MethodName × ByteArray × Nat × Option FieldType
def wsOf (μ : MD) : List Cond := Cond.code μ.1 μ.2.1 μ.2.2.1 μ.2.2.2 :: gtb
def rmOf (d mc ms : Nat) : Room := { frames := d, cells := mc, slots := ms, locals := 64 * d }
def Cx (Γ : GE) (μ : MD) (d mc ms : Nat) (R : Room) (p : Program) (s : State) (m : MethodId) (args : Array Value) (meth : Method) (c : Code) : Prop :=
  p.tables.exec = Jvm.exec ∧ c.code = μ.2.1 ∧ c.maxLocals = μ.2.2.1 ∧ meth.sig.returnType = μ.2.2.2 ∧ meth.locks = false ∧ s.vm.findClass μ.1.cls = some m.cls ∧ (μ.1.name = "<init>" → meth.name = "<init>") ∧ (∀ w ∈ gtb, w.before args s = true) ∧ (d ≤ R.frames ∧ 64 * d ≤ R.locals ∧ R.cells = mc ∧ R.slots = ms) ∧ KE Γ s ∧ (gH Γ).size ≤ s.heap.size ∧ ∀ q : Nat, q < (gH Γ).size → s.heap[q]? = (gH Γ)[q]?
/-- a frame's place: from here, over any heap that holds the picture, the machine comes to QQ -/
def E (Γ : GE) (μ : MD) (d mc ms : Nat) (QQ : List Frame → Array Value → State → State → Prop) (rc rs pc : Nat) (lv : List (Option Value)) (st : List Value) (g : Sh) (P : HP) (I : HI) : Prop :=
  ∀ (p : Program) (e : Env) (R : Room) (s : State) (m : MethodId) (args : Array Value) (below : List Frame) (meth : Method) (c : Code), Cx Γ μ d mc ms R p s m args meth c →
  ∀ (H : Heap) (locs : List Loc) (cells slots : Nat) (ls : Array Slot), cells + rc ≤ mc → slots + rs ≤ ms → (∀ q ∈ locs, (gH Γ).size ≤ q.base) → lvOK Γ ls μ.2.2.1 lv → Wd Γ g P I H → s.heap.size ≤ H.size →
  W p (gl Γ) e R s m args below meth c H locs cells slots (QQ below args s) (F0 m pc ls (st.map (cv Γ)))
/-- what a method owes at its end -/
def QcF (Γ : GE) (Φ : Option Value → Sh → HP → HI → Prop) : Array Value → State → Outcome → State → Prop := fun _ st o t => ∃ (v : Option Value) (g : Sh) (P : HP) (I : HI), o = .returned (v.map (cv Γ)) ∧ Φ v g P I ∧ Wd Γ g P I t.heap ∧ st.heap.size ≤ t.heap.size
def PcF (Γ : GE) (av : List Value) (g : Sh) (P : HP) (I : HI) : Array Value → State → Prop := fun a U => a = (av.map (cv Γ)).toArray ∧ KE Γ U ∧ Wd Γ g P I U.heap
def MM (Γ : GE) (μ : MD) (d mc ms : Nat) (av : List Value) (g : Sh) (P : HP) (I : HI) (Φ : Option Value → Sh → HP → HI → Prop) : Prop := Met (gl Γ) μ.1 (wsOf μ) (rmOf d mc ms) (PcF Γ av g P I) (QcF Γ Φ) mc ms (gA Γ)
def QM (Γ : GE) (mc ms : Nat) (Φ : Option Value → Sh → HP → HI → Prop) : List Frame → Array Value → State → State → Prop := fun below a s => MQ below (QcF Γ Φ) a s mc ms (gA Γ)
section Rules
variable {Γ : GE} {μ : MD} {d mc ms rc rs pc : Nat} {QQ : List Frame → Array Value → State → State → Prop} {lv : List (Option Value)} {st : List Value} {g : Sh} {P : HP} {I : HI}
theorem Cx.S {R : Room} {p : Program} {s : State} {m : MethodId} {args : Array Value} {meth : Method} {c : Code} (C : Cx Γ μ d mc ms R p s m args meth c) {H : Heap} {locs : List Loc} (hl : ∀ q ∈ locs, (gH Γ).size ≤ q.base) (hw : Wd Γ g P I H) (hs : s.heap.size ≤ H.size) : va_S (gA Γ) s.heap H locs :=
  ⟨hs, fun q hq hA => by
    have h1 : q < (gH Γ).size := Nat.lt_of_not_le hA
    rw [hw.2.1 q h1]
    exact (C.2.2.2.2.2.2.2.2.2.2.2 q h1).symm, hl⟩
theorem E_iconst {n : Int} {v : Int32} (hd : decode μ.2.1 pc = .ok (.iconst n, 1)) (hv : Int32.ofInt n = v)
    (k : E Γ μ d mc ms QQ rc rs (pc + 1) lv (.int v :: st) g P I) : E Γ μ d mc ms QQ rc rs pc lv st g P I := by
  intro p e R s m args below meth c C H locs cells slots ls h1 h2 h3 hl hw hs
  exact lv_iconst C.1 C.2.1 hd hv (k p e R s m args below meth c C H locs cells slots ls h1 h2 h3 hl hw hs)
theorem E_bipush {n : Int} {v : Int32} (hd : decode μ.2.1 pc = .ok (.bipush n, 2)) (hv : (Int8.ofInt n).toInt32 = v)
    (k : E Γ μ d mc ms QQ rc rs (pc + 2) lv (.int v :: st) g P I) : E Γ μ d mc ms QQ rc rs pc lv st g P I := by
  intro p e R s m args below meth c C H locs cells slots ls h1 h2 h3 hl hw hs
  exact lv_bipush C.1 C.2.1 hd hv (k p e R s m args below meth c C H locs cells slots ls h1 h2 h3 hl hw hs)
theorem E_sipush {n : Int} {v : Int32} (hd : decode μ.2.1 pc = .ok (.sipush n, 3)) (hv : (Int16.ofInt n).toInt32 = v)
    (k : E Γ μ d mc ms QQ rc rs (pc + 3) lv (.int v :: st) g P I) : E Γ μ d mc ms QQ rc rs pc lv st g P I := by
  intro p e R s m args below meth c C H locs cells slots ls h1 h2 h3 hl hw hs
  exact lv_sipush C.1 C.2.1 hd hv (k p e R s m args below meth c C H locs cells slots ls h1 h2 h3 hl hw hs)
theorem E_null (hd : decode μ.2.1 pc = .ok (.aconst_null, 1))
    (k : E Γ μ d mc ms QQ rc rs (pc + 1) lv (.null :: st) g P I) : E Γ μ d mc ms QQ rc rs pc lv st g P I := by
  intro p e R s m args below meth c C H locs cells slots ls h1 h2 h3 hl hw hs
  exact lv_null C.1 C.2.1 hd (k p e R s m args below meth c C H locs cells slots ls h1 h2 h3 hl hw hs)
theorem E_iload_n {n : Fin 4} {i : Nat} {x : Int32} (hd : decode μ.2.1 pc = .ok (.iload_n n, 1)) (hi : (n : Nat) = i) (hx : lv[i]? = some (some (.int x)))
    (k : E Γ μ d mc ms QQ rc rs (pc + 1) lv (.int x :: st) g P I) : E Γ μ d mc ms QQ rc rs pc lv st g P I := by
  intro p e R s m args below meth c C H locs cells slots ls h1 h2 h3 hl hw hs
  exact lv_iload_n C.1 C.2.1 hd hi (hl.2.2 _ _ hx) (k p e R s m args below meth c C H locs cells slots ls h1 h2 h3 hl hw hs)
theorem E_iload {i : Nat} {x : Int32} (hd : decode μ.2.1 pc = .ok (.iload i, 2)) (hx : lv[i]? = some (some (.int x)))
    (k : E Γ μ d mc ms QQ rc rs (pc + 2) lv (.int x :: st) g P I) : E Γ μ d mc ms QQ rc rs pc lv st g P I := by
  intro p e R s m args below meth c C H locs cells slots ls h1 h2 h3 hl hw hs
  exact lv_iload C.1 C.2.1 hd (hl.2.2 _ _ hx) (k p e R s m args below meth c C H locs cells slots ls h1 h2 h3 hl hw hs)
theorem E_istore_n {n : Fin 4} {i : Nat} {x : Int32} (hd : decode μ.2.1 pc = .ok (.istore_n n, 1)) (hi : (n : Nat) = i) (hn : i < μ.2.2.1)
    (k : E Γ μ d mc ms QQ rc rs (pc + 1) (sto1 lv i (.int x)) st g P I) : E Γ μ d mc ms QQ rc rs pc lv (.int x :: st) g P I := by
  intro p e R s m args below meth c C H locs cells slots ls h1 h2 h3 hl hw hs
  exact lv_istore_n C.1 C.2.1 hd hi hl.has hn rfl (fun ls' hl' => k p e R s m args below meth c C H locs cells slots ls' h1 h2 h3 (lvOK_st1 rfl hl') hw hs)
theorem E_istore {i : Nat} {x : Int32} (hd : decode μ.2.1 pc = .ok (.istore i, 2)) (hn : i < μ.2.2.1)
    (k : E Γ μ d mc ms QQ rc rs (pc + 2) (sto1 lv i (.int x)) st g P I) : E Γ μ d mc ms QQ rc rs pc lv (.int x :: st) g P I := by
  intro p e R s m args below meth c C H locs cells slots ls h1 h2 h3 hl hw hs
  exact lv_istore C.1 C.2.1 hd hl.has hn rfl (fun ls' hl' => k p e R s m args below meth c C H locs cells slots ls' h1 h2 h3 (lvOK_st1 rfl hl') hw hs)
theorem E_lload_n {n : Fin 4} {i : Nat} {x : Int64} (hd : decode μ.2.1 pc = .ok (.lload_n n, 1)) (hi : (n : Nat) = i) (hx : lv[i]? = some (some (.long x)))
    (k : E Γ μ d mc ms QQ rc rs (pc + 1) lv (.long x :: st) g P I) : E Γ μ d mc ms QQ rc rs pc lv st g P I := by
  intro p e R s m args below meth c C H locs cells slots ls h1 h2 h3 hl hw hs
  exact lv_lload_n C.1 C.2.1 hd hi (hl.2.2 _ _ hx) (k p e R s m args below meth c C H locs cells slots ls h1 h2 h3 hl hw hs)
theorem E_lload {i : Nat} {x : Int64} (hd : decode μ.2.1 pc = .ok (.lload i, 2)) (hx : lv[i]? = some (some (.long x)))
    (k : E Γ μ d mc ms QQ rc rs (pc + 2) lv (.long x :: st) g P I) : E Γ μ d mc ms QQ rc rs pc lv st g P I := by
  intro p e R s m args below meth c C H locs cells slots ls h1 h2 h3 hl hw hs
  exact lv_lload C.1 C.2.1 hd (hl.2.2 _ _ hx) (k p e R s m args below meth c C H locs cells slots ls h1 h2 h3 hl hw hs)
theorem E_lstore_n {n : Fin 4} {i : Nat} {x : Int64} (hd : decode μ.2.1 pc = .ok (.lstore_n n, 1)) (hi : (n : Nat) = i) (hn : i + 1 < μ.2.2.1)
    (k : E Γ μ d mc ms QQ rc rs (pc + 1) (sto2 lv i (.long x)) st g P I) : E Γ μ d mc ms QQ rc rs pc lv (.long x :: st) g P I := by
  intro p e R s m args below meth c C H locs cells slots ls h1 h2 h3 hl hw hs
  exact lv_lstore_n C.1 C.2.1 hd hi hl.has hn rfl (fun ls' hl' => k p e R s m args below meth c C H locs cells slots ls' h1 h2 h3 (lvOK_st2 rfl hl') hw hs)
theorem E_lstore {i : Nat} {x : Int64} (hd : decode μ.2.1 pc = .ok (.lstore i, 2)) (hn : i + 1 < μ.2.2.1)
    (k : E Γ μ d mc ms QQ rc rs (pc + 2) (sto2 lv i (.long x)) st g P I) : E Γ μ d mc ms QQ rc rs pc lv (.long x :: st) g P I := by
  intro p e R s m args below meth c C H locs cells slots ls h1 h2 h3 hl hw hs
  exact lv_lstore C.1 C.2.1 hd hl.has hn rfl (fun ls' hl' => k p e R s m args below meth c C H locs cells slots ls' h1 h2 h3 (lvOK_st2 rfl hl') hw hs)
theorem E_aload_n {n : Fin 4} {i : Nat} {x : Nat} (hd : decode μ.2.1 pc = .ok (.aload_n n, 1)) (hi : (n : Nat) = i) (hx : lv[i]? = some (some (.ref x)))
    (k : E Γ μ d mc ms QQ rc rs (pc + 1) lv (.ref x :: st) g P I) : E Γ μ d mc ms QQ rc rs pc lv st g P I := by
  intro p e R s m args below meth c C H locs cells slots ls h1 h2 h3 hl hw hs
  exact lv_aload_n C.1 C.2.1 hd hi (hl.2.2 _ _ hx) (k p e R s m args below meth c C H locs cells slots ls h1 h2 h3 hl hw hs)
theorem E_aload {i : Nat} {x : Nat} (hd : decode μ.2.1 pc = .ok (.aload i, 2)) (hx : lv[i]? = some (some (.ref x)))
    (k : E Γ μ d mc ms QQ rc rs (pc + 2) lv (.ref x :: st) g P I) : E Γ μ d mc ms QQ rc rs pc lv st g P I := by
  intro p e R s m args below meth c C H locs cells slots ls h1 h2 h3 hl hw hs
  exact lv_aload C.1 C.2.1 hd (hl.2.2 _ _ hx) (k p e R s m args below meth c C H locs cells slots ls h1 h2 h3 hl hw hs)
theorem E_astore_n {n : Fin 4} {i : Nat} {x : Nat} (hd : decode μ.2.1 pc = .ok (.astore_n n, 1)) (hi : (n : Nat) = i) (hn : i < μ.2.2.1)
    (k : E Γ μ d mc ms QQ rc rs (pc + 1) (sto1 lv i (.ref x)) st g P I) : E Γ μ d mc ms QQ rc rs pc lv (.ref x :: st) g P I := by
  intro p e R s m args below meth c C H locs cells slots ls h1 h2 h3 hl hw hs
  exact lv_astore_n C.1 C.2.1 hd hi hl.has hn rfl (fun ls' hl' => k p e R s m args below meth c C H locs cells slots ls' h1 h2 h3 (lvOK_st1 rfl hl') hw hs)
theorem E_astore {i : Nat} {x : Nat} (hd : decode μ.2.1 pc = .ok (.astore i, 2)) (hn : i < μ.2.2.1)
    (k : E Γ μ d mc ms QQ rc rs (pc + 2) (sto1 lv i (.ref x)) st g P I) : E Γ μ d mc ms QQ rc rs pc lv (.ref x :: st) g P I := by
  intro p e R s m args below meth c C H locs cells slots ls h1 h2 h3 hl hw hs
  exact lv_astore C.1 C.2.1 hd hl.has hn rfl (fun ls' hl' => k p e R s m args below meth c C H locs cells slots ls' h1 h2 h3 (lvOK_st1 rfl hl') hw hs)
theorem E_aload_nN {n : Fin 4} {i : Nat} (hd : decode μ.2.1 pc = .ok (.aload_n n, 1)) (hi : (n : Nat) = i) (hx : lv[i]? = some (some .null))
    (k : E Γ μ d mc ms QQ rc rs (pc + 1) lv (.null :: st) g P I) : E Γ μ d mc ms QQ rc rs pc lv st g P I := by
  intro p e R s m args below meth c C H locs cells slots ls h1 h2 h3 hl hw hs
  exact lv_aload_nN C.1 C.2.1 hd hi (hl.2.2 _ _ hx) (k p e R s m args below meth c C H locs cells slots ls h1 h2 h3 hl hw hs)
theorem E_astore_nN {n : Fin 4} {i : Nat} (hd : decode μ.2.1 pc = .ok (.astore_n n, 1)) (hi : (n : Nat) = i) (hn : i < μ.2.2.1)
    (k : E Γ μ d mc ms QQ rc rs (pc + 1) (sto1 lv i .null) st g P I) : E Γ μ d mc ms QQ rc rs pc lv (.null :: st) g P I := by
  intro p e R s m args below meth c C H locs cells slots ls h1 h2 h3 hl hw hs
  exact lv_astore_nN C.1 C.2.1 hd hi hl.has hn rfl (fun ls' hl' => k p e R s m args below meth c C H locs cells slots ls' h1 h2 h3 (lvOK_st1 rfl hl') hw hs)
theorem E_iinc {i : Nat} {n : Int} {x v : Int32} (hd : decode μ.2.1 pc = .ok (.iinc i n, 3)) (hx : lv[i]? = some (some (.int x))) (hv : x + Int32.ofInt n = v) (hn : i < μ.2.2.1)
    (k : E Γ μ d mc ms QQ rc rs (pc + 3) (sto1 lv i (.int v)) st g P I) : E Γ μ d mc ms QQ rc rs pc lv st g P I := by
  intro p e R s m args below meth c C H locs cells slots ls h1 h2 h3 hl hw hs
  obtain ⟨j, hj⟩ := List.getElem?_of_mem (lvL_mem (Γ := Γ) (q := (i, .int x)).mpr ⟨.int x, hx, rfl⟩)
  exact lv_iinc C.1 C.2.1 hd hl.has hj hv hn rfl (fun ls' hl' => k p e R s m args below meth c C H locs cells slots ls' h1 h2 h3 (lvOK_st1 rfl hl') hw hs)
theorem E_iadd {x y : Int32} (hd : decode μ.2.1 pc = .ok (.iadd, 1))
    (k : E Γ μ d mc ms QQ rc rs (pc + 1) lv (.int (x + y) :: st) g P I) : E Γ μ d mc ms QQ rc rs pc lv (.int y :: .int x :: st) g P I := by
  intro p e R s m args below meth c C H locs cells slots ls h1 h2 h3 hl hw hs
  exact lv_iadd C.1 C.2.1 hd (k p e R s m args below meth c C H locs cells slots ls h1 h2 h3 hl hw hs)
theorem E_isub {x y : Int32} (hd : decode μ.2.1 pc = .ok (.isub, 1))
    (k : E Γ μ d mc ms QQ rc rs (pc + 1) lv (.int (x - y) :: st) g P I) : E Γ μ d mc ms QQ rc rs pc lv (.int y :: .int x :: st) g P I := by
  intro p e R s m args below meth c C H locs cells slots ls h1 h2 h3 hl hw hs
  exact lv_isub C.1 C.2.1 hd (k p e R s m args below meth c C H locs cells slots ls h1 h2 h3 hl hw hs)
theorem E_imul {x y : Int32} (hd : decode μ.2.1 pc = .ok (.imul, 1))
    (k : E Γ μ d mc ms QQ rc rs (pc + 1) lv (.int (x * y) :: st) g P I) : E Γ μ d mc ms QQ rc rs pc lv (.int y :: .int x :: st) g P I := by
  intro p e R s m args below meth c C H locs cells slots ls h1 h2 h3 hl hw hs
  exact lv_imul C.1 C.2.1 hd (k p e R s m args below meth c C H locs cells slots ls h1 h2 h3 hl hw hs)
theorem E_iand {x y : Int32} (hd : decode μ.2.1 pc = .ok (.iand, 1))
    (k : E Γ μ d mc ms QQ rc rs (pc + 1) lv (.int (x &&& y) :: st) g P I) : E Γ μ d mc ms QQ rc rs pc lv (.int y :: .int x :: st) g P I := by
  intro p e R s m args below meth c C H locs cells slots ls h1 h2 h3 hl hw hs
  exact lv_iand C.1 C.2.1 hd (k p e R s m args below meth c C H locs cells slots ls h1 h2 h3 hl hw hs)
theorem E_ior {x y : Int32} (hd : decode μ.2.1 pc = .ok (.ior, 1))
    (k : E Γ μ d mc ms QQ rc rs (pc + 1) lv (.int (x ||| y) :: st) g P I) : E Γ μ d mc ms QQ rc rs pc lv (.int y :: .int x :: st) g P I := by
  intro p e R s m args below meth c C H locs cells slots ls h1 h2 h3 hl hw hs
  exact lv_ior C.1 C.2.1 hd (k p e R s m args below meth c C H locs cells slots ls h1 h2 h3 hl hw hs)
theorem E_ixor {x y : Int32} (hd : decode μ.2.1 pc = .ok (.ixor, 1))
    (k : E Γ μ d mc ms QQ rc rs (pc + 1) lv (.int (x ^^^ y) :: st) g P I) : E Γ μ d mc ms QQ rc rs pc lv (.int y :: .int x :: st) g P I := by
  intro p e R s m args below meth c C H locs cells slots ls h1 h2 h3 hl hw hs
  exact lv_ixor C.1 C.2.1 hd (k p e R s m args below meth c C H locs cells slots ls h1 h2 h3 hl hw hs)
theorem E_ishl {x y : Int32} (hd : decode μ.2.1 pc = .ok (.ishl, 1))
    (k : E Γ μ d mc ms QQ rc rs (pc + 1) lv (.int (x <<< (y &&& 31)) :: st) g P I) : E Γ μ d mc ms QQ rc rs pc lv (.int y :: .int x :: st) g P I := by
  intro p e R s m args below meth c C H locs cells slots ls h1 h2 h3 hl hw hs
  exact lv_ishl C.1 C.2.1 hd (k p e R s m args below meth c C H locs cells slots ls h1 h2 h3 hl hw hs)
theorem E_ishr {x y : Int32} (hd : decode μ.2.1 pc = .ok (.ishr, 1))
    (k : E Γ μ d mc ms QQ rc rs (pc + 1) lv (.int (x >>> (y &&& 31)) :: st) g P I) : E Γ μ d mc ms QQ rc rs pc lv (.int y :: .int x :: st) g P I := by
  intro p e R s m args below meth c C H locs cells slots ls h1 h2 h3 hl hw hs
  exact lv_ishr C.1 C.2.1 hd (k p e R s m args below meth c C H locs cells slots ls h1 h2 h3 hl hw hs)
theorem E_idiv {x y : Int32} (hd : decode μ.2.1 pc = .ok (.idiv, 1)) (hne : ¬ y = 0)
    (k : E Γ μ d mc ms QQ rc rs (pc + 1) lv (.int (x / y) :: st) g P I) : E Γ μ d mc ms QQ rc rs pc lv (.int y :: .int x :: st) g P I := by
  intro p e R s m args below meth c C H locs cells slots ls h1 h2 h3 hl hw hs
  exact lv_idiv C.1 C.2.1 hd hne (k p e R s m args below meth c C H locs cells slots ls h1 h2 h3 hl hw hs)
theorem E_irem {x y : Int32} (hd : decode μ.2.1 pc = .ok (.irem, 1)) (hne : ¬ y = 0)
    (k : E Γ μ d mc ms QQ rc rs (pc + 1) lv (.int (x - x / y * y) :: st) g P I) : E Γ μ d mc ms QQ rc rs pc lv (.int y :: .int x :: st) g P I := by
  intro p e R s m args below meth c C H locs cells slots ls h1 h2 h3 hl hw hs
  exact lv_irem C.1 C.2.1 hd hne (k p e R s m args below meth c C H locs cells slots ls h1 h2 h3 hl hw hs)
theorem E_ineg {x : Int32} (hd : decode μ.2.1 pc = .ok (.ineg, 1))
    (k : E Γ μ d mc ms QQ rc rs (pc + 1) lv (.int (-x) :: st) g P I) : E Γ μ d mc ms QQ rc rs pc lv (.int x :: st) g P I := by
  intro p e R s m args below meth c C H locs cells slots ls h1 h2 h3 hl hw hs
  exact lv_ineg C.1 C.2.1 hd (k p e R s m args below meth c C H locs cells slots ls h1 h2 h3 hl hw hs)
theorem E_iushr {x y : Int32} (hd : decode μ.2.1 pc = .ok (.iushr, 1))
    (k : E Γ μ d mc ms QQ rc rs (pc + 1) lv (.int (x.toUInt32 >>> (y.toUInt32 &&& Int32.toUInt32 31)).toInt32 :: st) g P I) : E Γ μ d mc ms QQ rc rs pc lv (.int y :: .int x :: st) g P I := by
  intro p e R s m args below meth c C H locs cells slots ls h1 h2 h3 hl hw hs
  exact lv_iushr C.1 C.2.1 hd rfl (k p e R s m args below meth c C H locs cells slots ls h1 h2 h3 hl hw hs)
theorem E_ladd {x y : Int64} (hd : decode μ.2.1 pc = .ok (.ladd, 1))
    (k : E Γ μ d mc ms QQ rc rs (pc + 1) lv (.long (x + y) :: st) g P I) : E Γ μ d mc ms QQ rc rs pc lv (.long y :: .long x :: st) g P I := by
  intro p e R s m args below meth c C H locs cells slots ls h1 h2 h3 hl hw hs
  exact lv_ladd C.1 C.2.1 hd (k p e R s m args below meth c C H locs cells slots ls h1 h2 h3 hl hw hs)
theorem E_lsub {x y : Int64} (hd : decode μ.2.1 pc = .ok (.lsub, 1))
    (k : E Γ μ d mc ms QQ rc rs (pc + 1) lv (.long (x - y) :: st) g P I) : E Γ μ d mc ms QQ rc rs pc lv (.long y :: .long x :: st) g P I := by
  intro p e R s m args below meth c C H locs cells slots ls h1 h2 h3 hl hw hs
  exact lv_lsub C.1 C.2.1 hd (k p e R s m args below meth c C H locs cells slots ls h1 h2 h3 hl hw hs)
theorem E_lmul {x y : Int64} (hd : decode μ.2.1 pc = .ok (.lmul, 1))
    (k : E Γ μ d mc ms QQ rc rs (pc + 1) lv (.long (x * y) :: st) g P I) : E Γ μ d mc ms QQ rc rs pc lv (.long y :: .long x :: st) g P I := by
  intro p e R s m args below meth c C H locs cells slots ls h1 h2 h3 hl hw hs
  exact lv_lmul C.1 C.2.1 hd (k p e R s m args below meth c C H locs cells slots ls h1 h2 h3 hl hw hs)
theorem E_land {x y : Int64} (hd : decode μ.2.1 pc = .ok (.land, 1))
    (k : E Γ μ d mc ms QQ rc rs (pc + 1) lv (.long (x &&& y) :: st) g P I) : E Γ μ d mc ms QQ rc rs pc lv (.long y :: .long x :: st) g P I := by
  intro p e R s m args below meth c C H locs cells slots ls h1 h2 h3 hl hw hs
  exact lv_land C.1 C.2.1 hd (k p e R s m args below meth c C H locs cells slots ls h1 h2 h3 hl hw hs)
theorem E_lor {x y : Int64} (hd : decode μ.2.1 pc = .ok (.lor, 1))
    (k : E Γ μ d mc ms QQ rc rs (pc + 1) lv (.long (x ||| y) :: st) g P I) : E Γ μ d mc ms QQ rc rs pc lv (.long y :: .long x :: st) g P I := by
  intro p e R s m args below meth c C H locs cells slots ls h1 h2 h3 hl hw hs
  exact lv_lor C.1 C.2.1 hd (k p e R s m args below meth c C H locs cells slots ls h1 h2 h3 hl hw hs)
theorem E_ldiv {x y : Int64} (hd : decode μ.2.1 pc = .ok (.ldiv, 1)) (hne : ¬ y = 0)
    (k : E Γ μ d mc ms QQ rc rs (pc + 1) lv (.long (x / y) :: st) g P I) : E Γ μ d mc ms QQ rc rs pc lv (.long y :: .long x :: st) g P I := by
  intro p e R s m args below meth c C H locs cells slots ls h1 h2 h3 hl hw hs
  exact lv_ldiv C.1 C.2.1 hd hne (k p e R s m args below meth c C H locs cells slots ls h1 h2 h3 hl hw hs)
theorem E_lcmp {x y : Int64} (hd : decode μ.2.1 pc = .ok (.lcmp, 1))
    (k : E Γ μ d mc ms QQ rc rs (pc + 1) lv (.int (lg_cmp x y) :: st) g P I) : E Γ μ d mc ms QQ rc rs pc lv (.long y :: .long x :: st) g P I := by
  intro p e R s m args below meth c C H locs cells slots ls h1 h2 h3 hl hw hs
  exact W.lcmp C.1 C.2.1 hd (k p e R s m args below meth c C H locs cells slots ls h1 h2 h3 hl hw hs)
theorem E_lushr {x : Int64} {y : Int32} (hd : decode μ.2.1 pc = .ok (.lushr, 1))
    (k : E Γ μ d mc ms QQ rc rs (pc + 1) lv (.long ((x.toUInt64 >>> (y.toInt64.toUInt64 &&& Int64.toUInt64 63)).toInt64) :: st) g P I) : E Γ μ d mc ms QQ rc rs pc lv (.int y :: .long x :: st) g P I := by
  intro p e R s m args below meth c C H locs cells slots ls h1 h2 h3 hl hw hs
  exact lv_lushr C.1 C.2.1 hd rfl (k p e R s m args below meth c C H locs cells slots ls h1 h2 h3 hl hw hs)
theorem E_lshl {x : Int64} {y : Int32} (hd : decode μ.2.1 pc = .ok (.lshl, 1))
    (k : E Γ μ d mc ms QQ rc rs (pc + 1) lv (.long (x <<< (y.toInt64 &&& 63)) :: st) g P I) : E Γ μ d mc ms QQ rc rs pc lv (.int y :: .long x :: st) g P I := by
  intro p e R s m args below meth c C H locs cells slots ls h1 h2 h3 hl hw hs
  exact lv_lshl C.1 C.2.1 hd rfl (k p e R s m args below meth c C H locs cells slots ls h1 h2 h3 hl hw hs)
theorem E_lshr {x : Int64} {y : Int32} (hd : decode μ.2.1 pc = .ok (.lshr, 1))
    (k : E Γ μ d mc ms QQ rc rs (pc + 1) lv (.long (x >>> (y.toInt64 &&& 63)) :: st) g P I) : E Γ μ d mc ms QQ rc rs pc lv (.int y :: .long x :: st) g P I := by
  intro p e R s m args below meth c C H locs cells slots ls h1 h2 h3 hl hw hs
  exact lv_lshr C.1 C.2.1 hd rfl (k p e R s m args below meth c C H locs cells slots ls h1 h2 h3 hl hw hs)
theorem E_i2l {x : Int32} (hd : decode μ.2.1 pc = .ok (.i2l, 1))
    (k : E Γ μ d mc ms QQ rc rs (pc + 1) lv (.long (x.toInt64) :: st) g P I) : E Γ μ d mc ms QQ rc rs pc lv (.int x :: st) g P I := by
  intro p e R s m args below meth c C H locs cells slots ls h1 h2 h3 hl hw hs
  exact lv_i2l C.1 C.2.1 hd rfl (k p e R s m args below meth c C H locs cells slots ls h1 h2 h3 hl hw hs)
theorem E_l2i {x : Int64} (hd : decode μ.2.1 pc = .ok (.l2i, 1))
    (k : E Γ μ d mc ms QQ rc rs (pc + 1) lv (.int (x.toInt32) :: st) g P I) : E Γ μ d mc ms QQ rc rs pc lv (.long x :: st) g P I := by
  intro p e R s m args below meth c C H locs cells slots ls h1 h2 h3 hl hw hs
  exact lv_l2i C.1 C.2.1 hd rfl (k p e R s m args below meth c C H locs cells slots ls h1 h2 h3 hl hw hs)
theorem E_i2b {x : Int32} (hd : decode μ.2.1 pc = .ok (.i2b, 1))
    (k : E Γ μ d mc ms QQ rc rs (pc + 1) lv (.int (x.toInt8.toInt32) :: st) g P I) : E Γ μ d mc ms QQ rc rs pc lv (.int x :: st) g P I := by
  intro p e R s m args below meth c C H locs cells slots ls h1 h2 h3 hl hw hs
  exact lv_i2b C.1 C.2.1 hd rfl (k p e R s m args below meth c C H locs cells slots ls h1 h2 h3 hl hw hs)
theorem E_i2s {x : Int32} (hd : decode μ.2.1 pc = .ok (.i2s, 1))
    (k : E Γ μ d mc ms QQ rc rs (pc + 1) lv (.int (x.toInt16.toInt32) :: st) g P I) : E Γ μ d mc ms QQ rc rs pc lv (.int x :: st) g P I := by
  intro p e R s m args below meth c C H locs cells slots ls h1 h2 h3 hl hw hs
  exact lv_i2s C.1 C.2.1 hd rfl (k p e R s m args below meth c C H locs cells slots ls h1 h2 h3 hl hw hs)
theorem E_i2c {x : Int32} (hd : decode μ.2.1 pc = .ok (.i2c, 1))
    (k : E Γ μ d mc ms QQ rc rs (pc + 1) lv (.int ((x.toUInt32 % 65536).toInt32) :: st) g P I) : E Γ μ d mc ms QQ rc rs pc lv (.int x :: st) g P I := by
  intro p e R s m args below meth c C H locs cells slots ls h1 h2 h3 hl hw hs
  exact lv_i2c C.1 C.2.1 hd rfl (k p e R s m args below meth c C H locs cells slots ls h1 h2 h3 hl hw hs)
theorem E_dup {v : Value} (hd : decode μ.2.1 pc = .ok (.dup, 1)) (hc : v.category = 1)
    (k : E Γ μ d mc ms QQ rc rs (pc + 1) lv (v :: v :: st) g P I) : E Γ μ d mc ms QQ rc rs pc lv (v :: st) g P I := by
  intro p e R s m args below meth c C H locs cells slots ls h1 h2 h3 hl hw hs
  exact lv_dup C.1 C.2.1 hd ((cv_cat Γ v).trans hc) (k p e R s m args below meth c C H locs cells slots ls h1 h2 h3 hl hw hs)
theorem E_dup2 {v u : Value} (hd : decode μ.2.1 pc = .ok (.dup2, 1)) (hc : v.category = 1) (hc2 : u.category = 1)
    (k : E Γ μ d mc ms QQ rc rs (pc + 1) lv (v :: u :: v :: u :: st) g P I) : E Γ μ d mc ms QQ rc rs pc lv (v :: u :: st) g P I := by
  intro p e R s m args below meth c C H locs cells slots ls h1 h2 h3 hl hw hs
  exact lv_dup2_11 C.1 C.2.1 hd ((cv_cat Γ v).trans hc) ((cv_cat Γ u).trans hc2) (k p e R s m args below meth c C H locs cells slots ls h1 h2 h3 hl hw hs)
theorem E_pop {v : Value} (hd : decode μ.2.1 pc = .ok (.pop, 1)) (hc : v.category = 1)
    (k : E Γ μ d mc ms QQ rc rs (pc + 1) lv st g P I) : E Γ μ d mc ms QQ rc rs pc lv (v :: st) g P I := by
  intro p e R s m args below meth c C H locs cells slots ls h1 h2 h3 hl hw hs
  exact lv_pop C.1 C.2.1 hd ((cv_cat Γ v).trans hc) (k p e R s m args below meth c C H locs cells slots ls h1 h2 h3 hl hw hs)
theorem E_if_eq {x : Int32} {off : Int} {tgt : Nat} (hd : decode μ.2.1 pc = .ok (.ifCond .eq off, 3)) (ht : (pc : Int) + off = (tgt : Int))
    (kt : x = 0 → E Γ μ d mc ms QQ rc rs tgt lv st g P I) (kf : ¬ x = 0 → E Γ μ d mc ms QQ rc rs (pc + 3) lv st g P I) : E Γ μ d mc ms QQ rc rs pc lv (.int x :: st) g P I := by
  intro p e R s m args below meth c C H locs cells slots ls h1 h2 h3 hl hw hs
  exact lv_if_eq C.1 C.2.1 hd ht (fun q => kt q p e R s m args below meth c C H locs cells slots ls h1 h2 h3 hl hw hs) (fun q => kf q p e R s m args below meth c C H locs cells slots ls h1 h2 h3 hl hw hs)
theorem E_if_ne {x : Int32} {off : Int} {tgt : Nat} (hd : decode μ.2.1 pc = .ok (.ifCond .ne off, 3)) (ht : (pc : Int) + off = (tgt : Int))
    (kt : ¬ x = 0 → E Γ μ d mc ms QQ rc rs tgt lv st g P I) (kf : x = 0 → E Γ μ d mc ms QQ rc rs (pc + 3) lv st g P I) : E Γ μ d mc ms QQ rc rs pc lv (.int x :: st) g P I := by
  intro p e R s m args below meth c C H locs cells slots ls h1 h2 h3 hl hw hs
  exact lv_if_ne C.1 C.2.1 hd ht (fun q => kt q p e R s m args below meth c C H locs cells slots ls h1 h2 h3 hl hw hs) (fun q => kf q p e R s m args below meth c C H locs cells slots ls h1 h2 h3 hl hw hs)
theorem E_if_lt {x : Int32} {off : Int} {tgt : Nat} (hd : decode μ.2.1 pc = .ok (.ifCond .lt off, 3)) (ht : (pc : Int) + off = (tgt : Int))
    (kt : x < 0 → E Γ μ d mc ms QQ rc rs tgt lv st g P I) (kf : ¬ x < 0 → E Γ μ d mc ms QQ rc rs (pc + 3) lv st g P I) : E Γ μ d mc ms QQ rc rs pc lv (.int x :: st) g P I := by
  intro p e R s m args below meth c C H locs cells slots ls h1 h2 h3 hl hw hs
  exact lv_if_lt C.1 C.2.1 hd ht (fun q => kt q p e R s m args below meth c C H locs cells slots ls h1 h2 h3 hl hw hs) (fun q => kf q p e R s m args below meth c C H locs cells slots ls h1 h2 h3 hl hw hs)
theorem E_if_ge {x : Int32} {off : Int} {tgt : Nat} (hd : decode μ.2.1 pc = .ok (.ifCond .ge off, 3)) (ht : (pc : Int) + off = (tgt : Int))
    (kt : 0 ≤ x → E Γ μ d mc ms QQ rc rs tgt lv st g P I) (kf : ¬ 0 ≤ x → E Γ μ d mc ms QQ rc rs (pc + 3) lv st g P I) : E Γ μ d mc ms QQ rc rs pc lv (.int x :: st) g P I := by
  intro p e R s m args below meth c C H locs cells slots ls h1 h2 h3 hl hw hs
  exact lv_if_ge C.1 C.2.1 hd ht (fun q => kt q p e R s m args below meth c C H locs cells slots ls h1 h2 h3 hl hw hs) (fun q => kf q p e R s m args below meth c C H locs cells slots ls h1 h2 h3 hl hw hs)
theorem E_if_gt {x : Int32} {off : Int} {tgt : Nat} (hd : decode μ.2.1 pc = .ok (.ifCond .gt off, 3)) (ht : (pc : Int) + off = (tgt : Int))
    (kt : 0 < x → E Γ μ d mc ms QQ rc rs tgt lv st g P I) (kf : ¬ 0 < x → E Γ μ d mc ms QQ rc rs (pc + 3) lv st g P I) : E Γ μ d mc ms QQ rc rs pc lv (.int x :: st) g P I := by
  intro p e R s m args below meth c C H locs cells slots ls h1 h2 h3 hl hw hs
  exact lv_if_gt C.1 C.2.1 hd ht (fun q => kt q p e R s m args below meth c C H locs cells slots ls h1 h2 h3 hl hw hs) (fun q => kf q p e R s m args below meth c C H locs cells slots ls h1 h2 h3 hl hw hs)
theorem E_if_le {x : Int32} {off : Int} {tgt : Nat} (hd : decode μ.2.1 pc = .ok (.ifCond .le off, 3)) (ht : (pc : Int) + off = (tgt : Int))
    (kt : x ≤ 0 → E Γ μ d mc ms QQ rc rs tgt lv st g P I) (kf : ¬ x ≤ 0 → E Γ μ d mc ms QQ rc rs (pc + 3) lv st g P I) : E Γ μ d mc ms QQ rc rs pc lv (.int x :: st) g P I := by
  intro p e R s m args below meth c C H locs cells slots ls h1 h2 h3 hl hw hs
  exact lv_if_le C.1 C.2.1 hd ht (fun q => kt q p e R s m args below meth c C H locs cells slots ls h1 h2 h3 hl hw hs) (fun q => kf q p e R s m args below meth c C H locs cells slots ls h1 h2 h3 hl hw hs)
theorem E_icmp_eq {x y : Int32} {off : Int} {tgt : Nat} (hd : decode μ.2.1 pc = .ok (.if_icmp .eq off, 3)) (ht : (pc : Int) + off = (tgt : Int))
    (kt : x = y → E Γ μ d mc ms QQ rc rs tgt lv st g P I) (kf : ¬ x = y → E Γ μ d mc ms QQ rc rs (pc + 3) lv st g P I) : E Γ μ d mc ms QQ rc rs pc lv (.int y :: .int x :: st) g P I := by
  intro p e R s m args below meth c C H locs cells slots ls h1 h2 h3 hl hw hs
  exact lv_icmp_eq C.1 C.2.1 hd ht (fun q => kt q p e R s m args below meth c C H locs cells slots ls h1 h2 h3 hl hw hs) (fun q => kf q p e R s m args below meth c C H locs cells slots ls h1 h2 h3 hl hw hs)
theorem E_icmp_ne {x y : Int32} {off : Int} {tgt : Nat} (hd : decode μ.2.1 pc = .ok (.if_icmp .ne off, 3)) (ht : (pc : Int) + off = (tgt : Int))
    (kt : ¬ x = y → E Γ μ d mc ms QQ rc rs tgt lv st g P I) (kf : x = y → E Γ μ d mc ms QQ rc rs (pc + 3) lv st g P I) : E Γ μ d mc ms QQ rc rs pc lv (.int y :: .int x :: st) g P I := by
  intro p e R s m args below meth c C H locs cells slots ls h1 h2 h3 hl hw hs
  exact lv_icmp_ne C.1 C.2.1 hd ht (fun q => kt q p e R s m args below meth c C H locs cells slots ls h1 h2 h3 hl hw hs) (fun q => kf q p e R s m args below meth c C H locs cells slots ls h1 h2 h3 hl hw hs)
theorem E_icmp_lt {x y : Int32} {off : Int} {tgt : Nat} (hd : decode μ.2.1 pc = .ok (.if_icmp .lt off, 3)) (ht : (pc : Int) + off = (tgt : Int))
    (kt : x < y → E Γ μ d mc ms QQ rc rs tgt lv st g P I) (kf : ¬ x < y → E Γ μ d mc ms QQ rc rs (pc + 3) lv st g P I) : E Γ μ d mc ms QQ rc rs pc lv (.int y :: .int x :: st) g P I := by
  intro p e R s m args below meth c C H locs cells slots ls h1 h2 h3 hl hw hs
  exact lv_icmp_lt C.1 C.2.1 hd ht (fun q => kt q p e R s m args below meth c C H locs cells slots ls h1 h2 h3 hl hw hs) (fun q => kf q p e R s m args below meth c C H locs cells slots ls h1 h2 h3 hl hw hs)
theorem E_icmp_ge {x y : Int32} {off : Int} {tgt : Nat} (hd : decode μ.2.1 pc = .ok (.if_icmp .ge off, 3)) (ht : (pc : Int) + off = (tgt : Int))
    (kt : y ≤ x → E Γ μ d mc ms QQ rc rs tgt lv st g P I) (kf : ¬ y ≤ x → E Γ μ d mc ms QQ rc rs (pc + 3) lv st g P I) : E Γ μ d mc ms QQ rc rs pc lv (.int y :: .int x :: st) g P I := by
  intro p e R s m args below meth c C H locs cells slots ls h1 h2 h3 hl hw hs
  exact lv_icmp_ge C.1 C.2.1 hd ht (fun q => kt q p e R s m args below meth c C H locs cells slots ls h1 h2 h3 hl hw hs) (fun q => kf q p e R s m args below meth c C H locs cells slots ls h1 h2 h3 hl hw hs)
theorem E_icmp_gt {x y : Int32} {off : Int} {tgt : Nat} (hd : decode μ.2.1 pc = .ok (.if_icmp .gt off, 3)) (ht : (pc : Int) + off = (tgt : Int))
    (kt : y < x → E Γ μ d mc ms QQ rc rs tgt lv st g P I) (kf : ¬ y < x → E Γ μ d mc ms QQ rc rs (pc + 3) lv st g P I) : E Γ μ d mc ms QQ rc rs pc lv (.int y :: .int x :: st) g P I := by
  intro p e R s m args below meth c C H locs cells slots ls h1 h2 h3 hl hw hs
  exact lv_icmp_gt C.1 C.2.1 hd ht (fun q => kt q p e R s m args below meth c C H locs cells slots ls h1 h2 h3 hl hw hs) (fun q => kf q p e R s m args below meth c C H locs cells slots ls h1 h2 h3 hl hw hs)
theorem E_icmp_le {x y : Int32} {off : Int} {tgt : Nat} (hd : decode μ.2.1 pc = .ok (.if_icmp .le off, 3)) (ht : (pc : Int) + off = (tgt : Int))
    (kt : x ≤ y → E Γ μ d mc ms QQ rc rs tgt lv st g P I) (kf : ¬ x ≤ y → E Γ μ d mc ms QQ rc rs (pc + 3) lv st g P I) : E Γ μ d mc ms QQ rc rs pc lv (.int y :: .int x :: st) g P I := by
  intro p e R s m args below meth c C H locs cells slots ls h1 h2 h3 hl hw hs
  exact lv_icmp_le C.1 C.2.1 hd ht (fun q => kt q p e R s m args below meth c C H locs cells slots ls h1 h2 h3 hl hw hs) (fun q => kf q p e R s m args below meth c C H locs cells slots ls h1 h2 h3 hl hw hs)
theorem E_goto {off : Int} {tgt : Nat} (hd : decode μ.2.1 pc = .ok (.goto off, 3)) (ht : (pc : Int) + off = (tgt : Int))
    (k : E Γ μ d mc ms QQ rc rs tgt lv st g P I) : E Γ μ d mc ms QQ rc rs pc lv st g P I := by
  intro p e R s m args below meth c C H locs cells slots ls h1 h2 h3 hl hw hs
  exact lv_goto C.1 C.2.1 hd ht (k p e R s m args below meth c C H locs cells slots ls h1 h2 h3 hl hw hs)
theorem E_ifnull {x : Nat} {off : Int} (hd : decode μ.2.1 pc = .ok (.ifnull off, 3))
    (k : E Γ μ d mc ms QQ rc rs (pc + 3) lv st g P I) : E Γ μ d mc ms QQ rc rs pc lv (.ref x :: st) g P I := by
  intro p e R s m args below meth c C H locs cells slots ls h1 h2 h3 hl hw hs
  exact lv_ifnull C.1 C.2.1 hd (k p e R s m args below meth c C H locs cells slots ls h1 h2 h3 hl hw hs)
theorem E_ifnullN {off : Int} {tgt : Nat} (hd : decode μ.2.1 pc = .ok (.ifnull off, 3)) (ht : (pc : Int) + off = (tgt : Int))
    (k : E Γ μ d mc ms QQ rc rs tgt lv st g P I) : E Γ μ d mc ms QQ rc rs pc lv (.null :: st) g P I := by
  intro p e R s m args below meth c C H locs cells slots ls h1 h2 h3 hl hw hs
  exact lv_ifnullN C.1 C.2.1 hd ht (k p e R s m args below meth c C H locs cells slots ls h1 h2 h3 hl hw hs)
theorem E_ifnonnull {x : Nat} {off : Int} {tgt : Nat} (hd : decode μ.2.1 pc = .ok (.ifnonnull off, 3)) (ht : (pc : Int) + off = (tgt : Int))
    (k : E Γ μ d mc ms QQ rc rs tgt lv st g P I) : E Γ μ d mc ms QQ rc rs pc lv (.ref x :: st) g P I := by
  intro p e R s m args below meth c C H locs cells slots ls h1 h2 h3 hl hw hs
  exact lv_ifnonnull C.1 C.2.1 hd ht (k p e R s m args below meth c C H locs cells slots ls h1 h2 h3 hl hw hs)
theorem E_ifnonnullN {off : Int} (hd : decode μ.2.1 pc = .ok (.ifnonnull off, 3))
    (k : E Γ μ d mc ms QQ rc rs (pc + 3) lv st g P I) : E Γ μ d mc ms QQ rc rs pc lv (.null :: st) g P I := by
  intro p e R s m args below meth c C H locs cells slots ls h1 h2 h3 hl hw hs
  exact lv_ifnonnullN C.1 C.2.1 hd (k p e R s m args below meth c C H locs cells slots ls h1 h2 h3 hl hw hs)
theorem E_ldc {i : Nat} {v : Int32} (hd : decode μ.2.1 pc = .ok (.ldc i, 2)) (hc : Cond.constant μ.1.cls i v ∈ gtb)
    (k : E Γ μ d mc ms QQ rc rs (pc + 2) lv (.int v :: st) g P I) : E Γ μ d mc ms QQ rc rs pc lv st g P I := by
  intro p e R s m args below meth c C H locs cells slots ls h1 h2 h3 hl hw hs
  exact lv_ldc C.1 C.2.1 C.2.2.2.2.2.1 (C.2.2.2.2.2.2.2.1 _ hc) hd (k p e R s m args below meth c C H locs cells slots ls h1 h2 h3 hl hw hs)
theorem E_ldcw {i : Nat} {v : Int32} (hd : decode μ.2.1 pc = .ok (.ldc_w i, 3)) (hc : Cond.constant μ.1.cls i v ∈ gtb)
    (k : E Γ μ d mc ms QQ rc rs (pc + 3) lv (.int v :: st) g P I) : E Γ μ d mc ms QQ rc rs pc lv st g P I := by
  intro p e R s m args below meth c C H locs cells slots ls h1 h2 h3 hl hw hs
  exact lv_ldcw C.1 C.2.1 C.2.2.2.2.2.1 (C.2.2.2.2.2.2.2.1 _ hc) hd (k p e R s m args below meth c C H locs cells slots ls h1 h2 h3 hl hw hs)
theorem E_ldc2 {i : Nat} {v : Int64} (hd : decode μ.2.1 pc = .ok (.ldc2_w i, 3)) (hc : Cond.constantLong μ.1.cls i v ∈ gtb)
    (k : E Γ μ d mc ms QQ rc rs (pc + 3) lv (.long v :: st) g P I) : E Γ μ d mc ms QQ rc rs pc lv st g P I := by
  intro p e R s m args below meth c C H locs cells slots ls h1 h2 h3 hl hw hs
  exact lv_ldc2 C.1 C.2.1 C.2.2.2.2.2.1 (C.2.2.2.2.2.2.2.1 _ hc) hd (k p e R s m args below meth c C H locs cells slots ls h1 h2 h3 hl hw hs)
theorem E_ldcS {i j : Nat} {tx : String} (hd : decode μ.2.1 pc = .ok (.ldc i, 2)) (hc : (μ.1.cls, i, tx, j) ∈ strL) (hj : j < 16)
    (k : E Γ μ d mc ms QQ rc rs (pc + 2) lv (.ref j :: st) g P I) : E Γ μ d mc ms QQ rc rs pc lv st g P I := by
  intro p e R s m args below meth c C H locs cells slots ls h1 h2 h3 hl hw hs
  exact va_ldcS C.1 C.2.1 C.2.2.2.2.2.1 (C.2.2.2.2.2.2.2.2.2.1.2.2.2.2.2.2.1 _ hc) hd (by have := (k p e R s m args below meth c C H locs cells slots ls h1 h2 h3 hl hw hs); rw [List.map_cons, show cv Γ (.ref j) = .ref (gx Γ j) from congrArg Value.ref (if_pos hj)] at this; exact this)
theorem E_tswIn {x : Int32} {dflt lo hi : Int} {offs : Array Int} {len : Nat} {off : Int} {tgt : Nat} (hd : decode μ.2.1 pc = .ok (.tableswitch dflt lo hi offs, len)) (q1 : ¬ x.toInt < lo) (q2 : ¬ hi < x.toInt) (ho : offs[(x.toInt - lo).toNat]? = some off) (ht : (pc : Int) + off = (tgt : Int))
    (k : E Γ μ d mc ms QQ rc rs tgt lv st g P I) : E Γ μ d mc ms QQ rc rs pc lv (.int x :: st) g P I := by
  intro p e R s m args below meth c C H locs cells slots ls h1 h2 h3 hl hw hs
  exact lv_tableIn C.1 C.2.1 hd q1 q2 ho ht (k p e R s m args below meth c C H locs cells slots ls h1 h2 h3 hl hw hs)
theorem E_tswOut {x : Int32} {dflt lo hi : Int} {offs : Array Int} {len : Nat} {tgt : Nat} (hd : decode μ.2.1 pc = .ok (.tableswitch dflt lo hi offs, len)) (q : x.toInt < lo ∨ hi < x.toInt) (ht : (pc : Int) + dflt = (tgt : Int))
    (k : E Γ μ d mc ms QQ rc rs tgt lv st g P I) : E Γ μ d mc ms QQ rc rs pc lv (.int x :: st) g P I := by
  intro p e R s m args below meth c C H locs cells slots ls h1 h2 h3 hl hw hs
  exact lv_tableOut C.1 C.2.1 hd q ht (k p e R s m args below meth c C H locs cells slots ls h1 h2 h3 hl hw hs)
theorem E_lsw {x : Int32} {dflt : Int} {ps : Array (Int × Int)} {len : Nat} {off : Int} {tgt : Nat} (hd : decode μ.2.1 pc = .ok (.lookupswitch dflt ps, len)) (hp : (ps.toList.zip (ps.toList.drop 1)).all (fun (a, next) => a.1 < next.1) = true) (ho : Op.lookupswitch.offset ps.toList dflt x.toInt = off) (ht : (pc : Int) + off = (tgt : Int))
    (k : E Γ μ d mc ms QQ rc rs tgt lv st g P I) : E Γ μ d mc ms QQ rc rs pc lv (.int x :: st) g P I := by
  intro p e R s m args below meth c C H locs cells slots ls h1 h2 h3 hl hw hs
  exact lv_lookup C.1 C.2.1 hd hp ho ht (k p e R s m args below meth c C H locs cells slots ls h1 h2 h3 hl hw hs)
end Rules
