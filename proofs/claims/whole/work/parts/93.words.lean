/-! the words of the start, by their places -/
theorem tsub (ws : List Cond) (ps : List Nat) (h : ws = ps.filterMap (fun i => lw_tbl[i]?)) : ∀ w ∈ ws, w ∈ lw_tbl := by
  intro w hw
  rw [h] at hw
  obtain ⟨i, -, hi⟩ := List.mem_filterMap.mp hw
  exact List.mem_of_getElem? hi
def fnL : List Cond := flatC (Jvm.Cond.and given_1 narrow_1)
theorem fsub (ws : List Cond) (ps : List Nat) (h : ws = ps.filterMap (fun i => fnL[i]?)) : ∀ w ∈ ws, w ∈ fnL := by
  intro w hw
  rw [h] at hw
  obtain ⟨i, -, hi⟩ := List.mem_filterMap.mp hw
  exact List.mem_of_getElem? hi
theorem fran (f : Nat → Cond) (n : Nat) (ps : List Nat) (h : (List.range n).map f = ps.filterMap (fun i => fnL[i]?)) : ∀ i, i < n → f i ∈ fnL := fun i hi => fsub _ ps h _ (List.mem_map.mpr ⟨i, List.mem_range.mpr hi, rfl⟩)
theorem tmap {α : Type} (f : α → Cond) (l : List α) (ps : List Nat) (h : l.map f = ps.filterMap (fun i => lw_tbl[i]?)) : ∀ q ∈ l, f q ∈ lw_tbl := fun q hq => tsub _ ps h _ (List.mem_map.mpr ⟨q, hq, rfl⟩)
theorem fmap {α : Type} (f : α → Cond) (l : List α) (ps : List Nat) (h : l.map f = ps.filterMap (fun i => fnL[i]?)) : ∀ q ∈ l, f q ∈ fnL := fun q hq => fsub _ ps h _ (List.mem_map.mpr ⟨q, hq, rfl⟩)
def tmS (i : Nat) : Term := match i with
  | 0 => .string "GorgeWire$Reader" 24
  | 1 => .string "GorgeWire$Reader" 41
  | 2 => .string "GorgeWire$Reader" 43
  | 3 => .string "GorgeWire$State" 82
  | _ => .string "GorgeWire$State" 88
def prS : List (Nat × Nat) := [(0, 3), (0, 4), (3, 4), (0, 1), (3, 1), (4, 1), (0, 2), (3, 2), (4, 2), (1, 2)]
theorem prS_all : ∀ i, i < 5 → ∀ j, j < 5 → i ≠ j → (i, j) ∈ prS ∨ (j, i) ∈ prS := by
  intro i hi j hj h
  rcases (show i = 0 ∨ i = 1 ∨ i = 2 ∨ i = 3 ∨ i = 4 by omega) with rfl | rfl | rfl | rfl | rfl <;> rcases (show j = 0 ∨ j = 1 ∨ j = 2 ∨ j = 3 ∨ j = 4 by omega) with rfl | rfl | rfl | rfl | rfl <;> first | exact absurd rfl h | simp [prS]
theorem x_nest : ∀ q ∈ nestL, Cond.methodLinkNest q.1 q.2.1 q.2.2 "GorgeWire" ∈ lw_tbl := tmap (fun q => Cond.methodLinkNest q.1 q.2.1 q.2.2 "GorgeWire") nestL [101, 152, 351, 479, 554, 691, 816, 912, 1060] (by decide +kernel)
theorem x_cast : ∀ q ∈ castL, Cond.castable q.1 q.2 ∈ lw_tbl := tmap (fun q => Cond.castable q.1 q.2) castL [163, 1593, 1594, 1595, 1596, 1597, 1598, 1599, 1600, 1601, 1602] (by decide +kernel)
theorem x_decl : ∀ q ∈ declL, Cond.declares q ∈ lw_tbl := tmap (fun q => Cond.declares q) declL [750, 994, 1012, 1028, 1032, 1043] (by decide +kernel)
theorem x_nc : ∀ q ∈ ncL, Cond.not (.castable q.1 q.2) ∈ fnL := fmap (fun q => Cond.not (.castable q.1 q.2)) ncL [54, 65, 76, 88, 100, 112, 61, 72, 83, 95, 107, 51, 73, 84, 96, 108, 62, 85, 97, 109, 52, 63, 74, 98, 110, 64, 86, 111, 53, 75, 87, 99] (by decide +kernel)
theorem x_ao : ∀ q ∈ aoL, Cond.arrayOver (.object q) ∈ lw_tbl := tmap (fun q => Cond.arrayOver (.object q)) aoL [170, 303, 1116] (by decide +kernel)
theorem x_str : ∀ q ∈ strL, Cond.stringRef q.1 q.2.1 q.2.2.1 ∈ lw_tbl := tmap (fun q => Cond.stringRef q.1 q.2.1 q.2.2.1) strL [126, 173, 230, 449, 450, 1117, 1118] (by decide +kernel)
theorem x_ex : ∀ i, i < 5 → Cond.exactly (tmS i) "java/lang/String" ∈ fnL := fran (fun i => Cond.exactly (tmS i) "java/lang/String") 5 [175, 208, 218, 179, 197] (by decide +kernel)
theorem x_co : ∀ i, i < 5 → Cond.eq (.field (tmS i) "java/lang/String" "coder" "B") (.int 0) ∈ fnL := fran (fun i => Cond.eq (.field (tmS i) "java/lang/String" "coder" "B") (.int 0)) 5 [176, 209, 219, 180, 198] (by decide +kernel)
theorem x_ar : ∀ i, i < 5 → Cond.arrayOf (.field (tmS i) "java/lang/String" "value" "[B") .byte ∈ fnL := fran (fun i => Cond.arrayOf (.field (tmS i) "java/lang/String" "value" "[B") .byte) 5 [177, 210, 220, 181, 199] (by decide +kernel)
theorem x_le : ∀ i, i < 5 → Cond.eq (.length (.field (tmS i) "java/lang/String" "value" "[B")) (.int (Int32.ofNat (sLen.getD i 0))) ∈ fnL := fran (fun i => Cond.eq (.length (.field (tmS i) "java/lang/String" "value" "[B")) (.int (Int32.ofNat (sLen.getD i 0)))) 5 [178, 211, 221, 182, 200] (by decide +kernel)
theorem x_el0 : ∀ j, j < sLen.getD 0 0 → Cond.eq (.elem (.field (tmS 0) "java/lang/String" "value" "[B") (.int (Int32.ofNat j))) (.int ((sByt.getD 0 []).getD j 0)) ∈ fnL := fran (fun j => Cond.eq (.elem (.field (tmS 0) "java/lang/String" "value" "[B") (.int (Int32.ofNat j))) (.int ((sByt.getD 0 []).getD j 0))) (sLen.getD 0 0) [] (by decide +kernel)
theorem x_el1 : ∀ j, j < sLen.getD 1 0 → Cond.eq (.elem (.field (tmS 1) "java/lang/String" "value" "[B") (.int (Int32.ofNat j))) (.int ((sByt.getD 1 []).getD j 0)) ∈ fnL := fran (fun j => Cond.eq (.elem (.field (tmS 1) "java/lang/String" "value" "[B") (.int (Int32.ofNat j))) (.int ((sByt.getD 1 []).getD j 0))) (sLen.getD 1 0) [212, 213, 214] (by decide +kernel)
theorem x_el2 : ∀ j, j < sLen.getD 2 0 → Cond.eq (.elem (.field (tmS 2) "java/lang/String" "value" "[B") (.int (Int32.ofNat j))) (.int ((sByt.getD 2 []).getD j 0)) ∈ fnL := fran (fun j => Cond.eq (.elem (.field (tmS 2) "java/lang/String" "value" "[B") (.int (Int32.ofNat j))) (.int ((sByt.getD 2 []).getD j 0))) (sLen.getD 2 0) [222, 223, 224, 225] (by decide +kernel)
theorem x_el3 : ∀ j, j < sLen.getD 3 0 → Cond.eq (.elem (.field (tmS 3) "java/lang/String" "value" "[B") (.int (Int32.ofNat j))) (.int ((sByt.getD 3 []).getD j 0)) ∈ fnL := fran (fun j => Cond.eq (.elem (.field (tmS 3) "java/lang/String" "value" "[B") (.int (Int32.ofNat j))) (.int ((sByt.getD 3 []).getD j 0))) (sLen.getD 3 0) [183, 184, 185, 186, 187, 188, 189, 190, 191, 192, 193, 194, 195] (by decide +kernel)
theorem x_el4 : ∀ j, j < sLen.getD 4 0 → Cond.eq (.elem (.field (tmS 4) "java/lang/String" "value" "[B") (.int (Int32.ofNat j))) (.int ((sByt.getD 4 []).getD j 0)) ∈ fnL := fran (fun j => Cond.eq (.elem (.field (tmS 4) "java/lang/String" "value" "[B") (.int (Int32.ofNat j))) (.int ((sByt.getD 4 []).getD j 0))) (sLen.getD 4 0) [201, 202, 203, 204, 205] (by decide +kernel)
theorem x_ne : ∀ q ∈ prS, Cond.not (.eq (tmS q.1) (tmS q.2)) ∈ fnL := fmap (fun q => Cond.not (.eq (tmS q.1) (tmS q.2))) prS [196, 206, 207, 215, 216, 217, 226, 227, 228, 229] (by decide +kernel)
theorem x_eq : ∀ w ∈ [Cond.eq (tmS 1) (.string "GorgeWireModel" 31), Cond.eq (tmS 2) (.string "GorgeWireModel" 33), Cond.eq (.static "java/lang/String" "COMPACT_STRINGS" "Z") (.int 1), Cond.isRef (.static "jdk/internal/util/Preconditions" "SIOOBE_FORMATTER" "Ljava/util/function/BiFunction;")], w ∈ fnL := fsub _ [240, 254, 16, 17] (by decide +kernel)
theorem x_la : ∀ w ∈ [Cond.laysStatic "java/lang/String" "COMPACT_STRINGS" "Z", Cond.laysStatic "jdk/internal/util/Preconditions" "SIOOBE_FORMATTER" "Ljava/util/function/BiFunction;", Cond.initialized "GorgeWire$Wire", Cond.initialized "java/lang/String", Cond.initialized "jdk/internal/util/Preconditions"], w ∈ lw_tbl := tsub _ [187, 203, 76, 77, 79] (by decide +kernel)
theorem x_sl : ∀ q ∈ statL, Cond.laysStatic "GorgeWire$Wire" q.1 "[I" ∈ lw_tbl := tmap (fun q => Cond.laysStatic "GorgeWire$Wire" q.1 "[I") statL [355, 357, 157] (by decide +kernel)
theorem x_sa : ∀ q ∈ statL, Cond.arrayOf (.static "GorgeWire$Wire" q.1 "[I") .int ∈ fnL := fmap (fun q => Cond.arrayOf (.static "GorgeWire$Wire" q.1 "[I") .int) statL [22, 34, 5] (by decide +kernel)
theorem x_sn : ∀ q ∈ statL, Cond.eq (.length (.static "GorgeWire$Wire" q.1 "[I")) (.int 9) ∈ fnL := fmap (fun q => Cond.eq (.length (.static "GorgeWire$Wire" q.1 "[I")) (.int 9)) statL [23, 35, 6] (by decide +kernel)
theorem x_sx : ∀ q ∈ statL, Cond.exactly (.static "GorgeWire$Wire" q.1 "[I") "[I" ∈ fnL := fmap (fun q => Cond.exactly (.static "GorgeWire$Wire" q.1 "[I") "[I") statL [260, 261, 259] (by decide +kernel)
theorem x_se0 : ∀ j, j < 9 → Cond.eq (.elem (.static "GorgeWire$Wire" "LEAST" "[I") (.int (Int32.ofNat j))) (.int (leastL.getD j 0)) ∈ fnL := fran (fun j => Cond.eq (.elem (.static "GorgeWire$Wire" "LEAST" "[I") (.int (Int32.ofNat j))) (.int (leastL.getD j 0))) 9 [24, 25, 26, 27, 28, 29, 30, 31, 32] (by decide +kernel)
theorem x_se1 : ∀ j, j < 9 → Cond.eq (.elem (.static "GorgeWire$Wire" "GREATEST" "[I") (.int (Int32.ofNat j))) (.int (greatL.getD j 0)) ∈ fnL := fran (fun j => Cond.eq (.elem (.static "GorgeWire$Wire" "GREATEST" "[I") (.int (Int32.ofNat j))) (.int (greatL.getD j 0))) 9 [36, 37, 38, 39, 40, 41, 42, 43, 44] (by decide +kernel)
theorem x_se2 : ∀ j, j < 9 → Cond.eq (.elem (.static "GorgeWire$Wire" "FIRST" "[I") (.int (Int32.ofNat j))) (.int (firstL.getD j 0)) ∈ fnL := fran (fun j => Cond.eq (.elem (.static "GorgeWire$Wire" "FIRST" "[I") (.int (Int32.ofNat j))) (.int (firstL.getD j 0))) 9 [7, 8, 9, 10, 11, 12, 13, 14, 15] (by decide +kernel)
