/-! what lies there at the start -/
theorem tl_small {args : Array Value} {s : State} {t : Term} {v : Value} {a : Nat} {cell : Cell} (h : (Term.length t).eval args s none [] s = some v) (ht : t.eval args s none [] s = some (.ref a)) (hc : s.heap[a]? = some cell) : cell.slots.size < 2 ^ 31 := by
  obtain ⟨b, cell3, ht3, harr3, -⟩ := Term.length_spec h
  have hs : cell3.slots.size < 2 ^ 31 := by
    simp only [Term.eval, ht3, harr3, Option.bind_eq_bind, Option.bind_some] at h
    by_cases hlt : cell3.slots.size < 2147483648
    · exact hlt
    · simp [hlt] at h
  obtain ⟨hcell, -⟩ := State.arrayAt?_spec harr3
  rw [ht3] at ht
  cases ht
  rw [hcell] at hc
  cases hc
  exact hs
theorem x_el (i : Nat) (hi : i < 5) (j : Nat) (hj : j < sLen.getD i 0) : Cond.eq (.elem (.field (tmS i) "java/lang/String" "value" "[B") (.int (Int32.ofNat j))) (.int ((sByt.getD i []).getD j 0)) ∈ fnL := by
  match i, hi with
  | 0, _ => exact x_el0 j hj
  | 1, _ => exact x_el1 j hj
  | 2, _ => exact x_el2 j hj
  | 3, _ => exact x_el3 j hj
  | 4, _ => exact x_el4 j hj
/-- a static array of nine ints -/
theorem st_arr {args : Array Value} {s : State} {n : String} {vs : List Int32} {cI : ClassId} {A : Nat → Prop} (hv : vs.length = 9) (hl : (Cond.laysStatic "GorgeWire$Wire" n "[I").before args s = true) (hini : (Cond.initialized "GorgeWire$Wire").before args s = true) (harr : (Cond.arrayOf (.static "GorgeWire$Wire" n "[I") .int).before args s = true) (hlen : (Cond.eq (.length (.static "GorgeWire$Wire" n "[I")) (.int 9)).before args s = true) (hel : ∀ j : Nat, j < 9 → (Cond.eq (.elem (.static "GorgeWire$Wire" n "[I") (.int (Int32.ofNat j))) (.int (vs.getD j 0))).before args s = true) (hex : (Cond.exactly (.static "GorgeWire$Wire" n "[I") "[I").before args s = true) (hc : s.vm.findClass "[I" = some cI) (hA : ∀ a : Nat, a < s.heap.size → ¬ A a) : ∃ t : Nat, va_Z "GorgeWire$Wire" n "[I" (.ref t) A s s.heap ∧ ∃ cell : Cell, s.heap[t]? = some cell ∧ s.isArrayOf cell .int ∧ cell.vm ≠ .unknown ∧ cell.cls = cI ∧ cell.slots = (vs.map Value.int).toArray := by
  have hln := va_eqt hlen
  obtain ⟨t, ht, cell, h1, h2, h3, h4, h5, h6, h7⟩ := va_Tof (f := fun j => .int (vs.getD j 0)) (A := A) (N := 9) (by decide) harr hln (fun j hj => va_eqt (hel j hj)) hA
  obtain ⟨a, c, cell2, k, q1, q2, q3, q4, q5, q6, -⟩ := Cond.exactly_spec (args := args) (first := s) (o := none) (s := s) (idx := []) hex
  rw [ht] at q1
  cases q1
  rw [h1] at q3
  cases q3
  rw [hc] at q2
  cases q2
  have hsz : cell.slots.size = 9 := nI_inj (tl_small hln ht h1) (by decide) h5
  refine ⟨t, va_Zof hl hini ht hA, cell, h1, h2, h3, q6, ?_⟩
  apply Array.ext_getElem?
  intro i
  by_cases hi : i < 9
  · have e : vs[i]? = some (vs.getD i 0) := by
      rw [List.getD_eq_getElem?_getD, List.getElem?_eq_getElem (by omega)]
      rfl
    rw [h6 i hi, List.getElem?_toArray, List.getElem?_map, e]
    rfl
  · rw [Array.getElem?_eq_none (by omega), Array.getElem?_eq_none (by simp; omega)]
theorem st_S {N : Nat} {len : List Nat} {byt : List (List Int32)} {a1 a2 b1 b2 : Nat → Nat} {A : Nat → Prop} {U : State} {H : Heap} (h : vk_S N len byt a1 a2 A U H) (e1 : ∀ i, i < N → b1 i = a1 i) (e2 : ∀ i, i < N → b2 i = a2 i) : vk_S N len byt b1 b2 A U H := ⟨fun i hi => by rw [e1 i hi, e2 i hi]; exact h.1 i hi, fun i j hi hj e => h.2 i j hi hj (by rw [← e1 i hi, ← e1 j hj]; exact e)⟩
theorem st_kn {args : Array Value} {s : State} (hg : ∀ w ∈ gtb, w.before args s = true) {ci N : Nat} {C : String} {T : u_T} (h : CF ci C T N) : ∃ (cC : ClassId) (iS : Nat → Nat), u_Kn s C T N cC iS := u_known hg h.2.2.1 (hg _ h.2.2.2.2.2.1)
theorem st_D {args : Array Value} {s : State} (hg : ∀ w ∈ gtb, w.before args s = true) : ∃ D : va_G, ∀ (k : Nat) (q : vw_C), vwCl[k]? = some q → u_Kn s q.1 q.2.1 q.2.2 (D.1 k) (D.2 k) := by
  have h : ∀ k : Nat, ∃ z : ClassId × (Nat → Nat), ∀ q : vw_C, vwCl[k]? = some q → u_Kn s q.1 q.2.1 q.2.2 z.1 z.2 := by
    intro k
    match k with
    | 0 => obtain ⟨u, v, h⟩ := st_kn hg cf_0; exact ⟨(u, v), fun q hq => by cases hq; exact h⟩
    | 1 => obtain ⟨u, v, h⟩ := st_kn hg cf_1; exact ⟨(u, v), fun q hq => by cases hq; exact h⟩
    | 2 => obtain ⟨u, v, h⟩ := st_kn hg cf_2; exact ⟨(u, v), fun q hq => by cases hq; exact h⟩
    | 3 => obtain ⟨u, v, h⟩ := st_kn hg cf_3; exact ⟨(u, v), fun q hq => by cases hq; exact h⟩
    | 4 => obtain ⟨u, v, h⟩ := st_kn hg cf_4; exact ⟨(u, v), fun q hq => by cases hq; exact h⟩
    | 5 => obtain ⟨u, v, h⟩ := st_kn hg cf_5; exact ⟨(u, v), fun q hq => by cases hq; exact h⟩
    | 6 => obtain ⟨u, v, h⟩ := st_kn hg cf_6; exact ⟨(u, v), fun q hq => by cases hq; exact h⟩
    | 7 => obtain ⟨u, v, h⟩ := st_kn hg cf_7; exact ⟨(u, v), fun q hq => by cases hq; exact h⟩
    | 8 => obtain ⟨u, v, h⟩ := st_kn hg cf_8; exact ⟨(u, v), fun q hq => by cases hq; exact h⟩
    | 9 => obtain ⟨u, v, h⟩ := st_kn hg cf_9; exact ⟨(u, v), fun q hq => by cases hq; exact h⟩
    | 10 => obtain ⟨u, v, h⟩ := st_kn hg cf_10; exact ⟨(u, v), fun q hq => by cases hq; exact h⟩
    | 11 => obtain ⟨u, v, h⟩ := st_kn hg cf_11; exact ⟨(u, v), fun q hq => by cases hq; exact h⟩
    | 12 => obtain ⟨u, v, h⟩ := st_kn hg cf_12; exact ⟨(u, v), fun q hq => by cases hq; exact h⟩
    | k + 13 =>
      obtain ⟨u, v, h⟩ := st_kn hg cf_0
      exact ⟨(u, v), fun q hq => absurd (vwCl_lt hq) (by omega)⟩
  obtain ⟨f, hf⟩ := Classical.axiomOfChoice h
  exact ⟨(fun k => (f k).1, fun k => (f k).2), fun k q hq => hf k q hq⟩
theorem st_ci {args : Array Value} {s : State} {ty : FieldType} (h : (Cond.arrayClass ty).before args s = true) : ∃ cA : ClassId, ArrOfT s cA ty ∧ s.vm.findClass ("[" ++ ty.toString) = some cA := by
  obtain ⟨c, k, comp, h1, h2, h3⟩ := Cond.arrayClass_spec (args := args) (first := s) (o := none) (s := s) (idx := []) h
  exact ⟨c, fun n z => ⟨fun k h => (by cases h), k, h2, comp, h3⟩, h1⟩
theorem st_co {args : Array Value} {s : State} {C : String} (h : (Cond.arrayOver (.object C)).before args s = true) : ∃ cA : ClassId, ArrOfT s cA (.object C) ∧ va_RA s cA (.object C) := by
  obtain ⟨comp, c, k, h1, -, h3, h4, h5⟩ := Cond.arrayOver_spec (args := args) (first := s) (o := none) (s := s) (idx := []) h
  exact ⟨c, fun n z => ⟨fun k h => (by cases h), k, h3, comp, h4⟩, k, comp, h3, h4, h1, h5⟩
def gxOf (aK aV : Nat → Nat) (t10 t11 t12 b t14 : Nat) (i : Nat) : Nat := if i < 5 then aK i else if i < 10 then aV (i - 5) else if i = 10 then t10 else if i = 11 then t11 else if i = 12 then t12 else if i = 13 then b else t14
set_option maxRecDepth 100000 in
set_option maxHeartbeats 4000000 in
theorem st_all {p : Program} {s : State} {m : MethodId} {meth : Method} {c : Code} (l : Launch) {b L : Nat} {xs : Nat → Int32} (C0 : lw_At p s m meth c b L xs) : ∃ Γ : GE, gl Γ = l ∧ gH Γ = s.heap ∧ gn Γ = L ∧ gx Γ 13 = b ∧ KE Γ s := by
  obtain ⟨hx, hb, hr, hml, hown, hts, hX, hbl, hlocks, hgv⟩ := C0
  have hg : ∀ w ∈ gtb, w.before #[Value.ref b] s = true := fun w hw => hts w (List.mem_filter.mp hw).1
  have hf : ∀ w ∈ fnL, w.before #[Value.ref b] s = true := flat_of_before _ hgv
  have hA : ∀ a : Nat, a < s.heap.size → ¬ (fun q : Nat => s.heap.size ≤ q) a := fun a h => Nat.not_le.mpr h
  obtain ⟨D, hD⟩ := st_D hg
  obtain ⟨c0, hc0, hn0⟩ := st_ci (ty := .int) (hg _ w_125)
  obtain ⟨c1, hc1, hn1⟩ := st_ci (ty := .boolean) (hg _ w_300)
  obtain ⟨c2, hc2⟩ := st_co (C := "GorgeWire$Row") (hts _ (x_ao _ (by simp [aoL])))
  obtain ⟨c3, hc3⟩ := st_co (C := "GorgeWire$Ride") (hts _ (x_ao _ (by simp [aoL])))
  obtain ⟨c4, hc4⟩ := st_co (C := "java/lang/String") (hts _ (x_ao _ (by simp [aoL])))
  have hi := hts _ (x_la (Cond.initialized "GorgeWire$Wire") (by simp))
  have hcI : s.vm.findClass "[I" = some c0 := hn0
  obtain ⟨t10, z10, y10⟩ := st_arr (n := "LEAST") (vs := leastL) rfl (hts _ (x_sl ("LEAST", 10, leastL) (by simp [statL]))) hi (hf _ (x_sa ("LEAST", 10, leastL) (by simp [statL]))) (hf _ (x_sn ("LEAST", 10, leastL) (by simp [statL]))) (fun j hj => hf _ (x_se0 j hj)) (hf _ (x_sx ("LEAST", 10, leastL) (by simp [statL]))) hcI hA
  obtain ⟨t11, z11, y11⟩ := st_arr (n := "GREATEST") (vs := greatL) rfl (hts _ (x_sl ("GREATEST", 11, greatL) (by simp [statL]))) hi (hf _ (x_sa ("GREATEST", 11, greatL) (by simp [statL]))) (hf _ (x_sn ("GREATEST", 11, greatL) (by simp [statL]))) (fun j hj => hf _ (x_se1 j hj)) (hf _ (x_sx ("GREATEST", 11, greatL) (by simp [statL]))) hcI hA
  obtain ⟨t12, z12, y12⟩ := st_arr (n := "FIRST") (vs := firstL) rfl (hts _ (x_sl ("FIRST", 12, firstL) (by simp [statL]))) hi (hf _ (x_sa ("FIRST", 12, firstL) (by simp [statL]))) (hf _ (x_sn ("FIRST", 12, firstL) (by simp [statL]))) (fun j hj => hf _ (x_se2 j hj)) (hf _ (x_sx ("FIRST", 12, firstL) (by simp [statL]))) hcI hA
  obtain ⟨aK, aV, hS, hK⟩ := vk_Sof (args := #[Value.ref b]) (s := s) (N := 5) (tm := tmS) (len := sLen) (byt := sByt) (A := fun q : Nat => s.heap.size ≤ q) (by decide) (fun i hi => hf _ (x_ex i hi)) (fun i hi => hf _ (x_co i hi)) (fun i hi => hf _ (x_ar i hi)) (fun i hi => hf _ (x_le i hi)) (fun i hi j hj => hf _ (x_el i hi j hj)) (fun i j hi hj h => (prS_all i hi j hj h).imp (fun z => hf _ (x_ne _ z)) (fun z => hf _ (x_ne _ z))) hA
  have hq := va_Zqof (A := fun q : Nat => s.heap.size ≤ q) (hts _ (x_la (Cond.laysStatic "jdk/internal/util/Preconditions" "SIOOBE_FORMATTER" "Ljava/util/function/BiFunction;") (by simp))) (hts _ (x_la (Cond.initialized "jdk/internal/util/Preconditions") (by simp))) (hf _ (x_eq (Cond.isRef (.static "jdk/internal/util/Preconditions" "SIOOBE_FORMATTER" "Ljava/util/function/BiFunction;")) (by simp))) hA
  obtain ⟨t14, h14⟩ : ∃ t14 : Nat, va_Z "jdk/internal/util/Preconditions" "SIOOBE_FORMATTER" "Ljava/util/function/BiFunction;" .null (fun q : Nat => s.heap.size ≤ q) s s.heap ∨ va_Z "jdk/internal/util/Preconditions" "SIOOBE_FORMATTER" "Ljava/util/function/BiFunction;" (.ref t14) (fun q : Nat => s.heap.size ≤ q) s s.heap := by
    rcases hq with h | ⟨t, h⟩
    · exact ⟨0, Or.inl h⟩
    · exact ⟨t, Or.inr h⟩
  have hco := va_Zof (A := fun q : Nat => s.heap.size ≤ q) (hts _ (x_la (Cond.laysStatic "java/lang/String" "COMPACT_STRINGS" "Z") (by simp))) (hts _ (x_la (Cond.initialized "java/lang/String") (by simp))) (va_eqt (hf _ (x_eq (Cond.eq (.static "java/lang/String" "COMPACT_STRINGS" "Z") (.int 1)) (by simp)))) hA
  have m31 := va_eqR (hf _ (x_eq (Cond.eq (tmS 1) (.string "GorgeWireModel" 31)) (by simp))) (hK 1 (by decide))
  have m33 := va_eqR (hf _ (x_eq (Cond.eq (tmS 2) (.string "GorgeWireModel" 33)) (by simp))) (hK 2 (by decide))
  refine ⟨(l, D, (fun k => if k = 0 then c0 else if k = 1 then c1 else if k = 2 then c2 else if k = 3 then c3 else c4), gxOf aK aV t10 t11 t12 b t14, s.heap, xs, L), rfl, rfl, rfl, rfl, ⟨hD, ?_⟩, ?_⟩
  · intro k q hq
    match k, hq with
    | 0, hq => cases hq; exact ⟨hc0, hn0⟩
    | 1, hq => cases hq; exact ⟨hc1, hn1⟩
    | 2, hq => cases hq; exact hc2
    | 3, hq => cases hq; exact hc3
    | 4, hq => cases hq; exact hc4
    | k + 5, hq => simp [tys] at hq
  · refine ⟨fun q hq => va_Nw.of rfl (hts _ (x_nest q hq)), fun q hq => va_Nw.of rfl (hts _ (x_cast q hq)), fun q hq => va_Nw.of rfl (hts _ (x_decl q hq)), fun q hq => va_Nc.of (hf _ (x_nc q hq)), fun q hq => va_AO.of (hts _ (x_ao q hq)), ?_, st_S hS (fun i hi => ?_) (fun i hi => ?_), ?_, ⟨hX, hbl⟩, hco, ?_⟩
    · have hs := fun q hq => hts _ (x_str q hq)
      intro q hq
      have h1 := hs q hq
      simp only [strL, List.mem_cons, List.not_mem_nil, or_false] at hq
      rcases hq with rfl | rfl | rfl | rfl | rfl | rfl | rfl
      · exact vk_R.of h1 (hK 0 (by decide))
      · exact vk_R.of h1 (hK 3 (by decide))
      · exact vk_R.of h1 (hK 4 (by decide))
      · exact vk_R.of h1 (hK 1 (by decide))
      · exact vk_R.of h1 (hK 2 (by decide))
      · exact vk_R.of h1 m31
      · exact vk_R.of h1 m33
    · show gxOf aK aV t10 t11 t12 b t14 i = aK i
      unfold gxOf
      rw [if_pos hi]
    · show gxOf aK aV t10 t11 t12 b t14 (5 + i) = aV i
      unfold gxOf
      rw [if_neg (by omega), if_pos (by omega), Nat.add_sub_cancel_left]
    · intro q hq
      simp only [statL, List.mem_cons, List.not_mem_nil, or_false] at hq
      rcases hq with rfl | rfl | rfl
      · exact ⟨z10, y10⟩
      · exact ⟨z11, y11⟩
      · exact ⟨z12, y12⟩
    · rcases h14 with h | h
      · exact ⟨.null, Or.inl rfl, h⟩
      · exact ⟨.ref 14, Or.inr rfl, h⟩
