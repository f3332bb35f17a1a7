/-! numbers that both sides find in their own way -/
theorem taut_cg {w w' : Nat → Int32} (h : ∀ j, j < 9 → w j = w' j) : taut w = taut w' := by unfold taut; rw [h 2 (by decide), h 4 (by decide)]
theorem dep_cg {w w' : Nat → Int32} (h : ∀ j, j < 9 → w j = w' j) (x l : Int32) : dep w x l = dep w' x l := by unfold dep; rw [taut_cg h, h 0 (by decide), h 1 (by decide), h 3 (by decide)]
theorem stp_cg {w w' : Nat → Int32} (h : ∀ j, j < 9 → w j = w' j) (x l : Int32) : stp w x l = stp w' x l := by unfold stp; rw [h 0 (by decide), dep_cg h, dep_cg h]
theorem pul_cg {w w' : Nat → Int32} (h : ∀ j, j < 9 → w j = w' j) (x l : Int32) : pul w x l = pul w' x l := by unfold pul; rw [taut_cg h, h 0 (by decide)]
theorem nat_of {x : Int32} {n : Nat} (h0 : 0 ≤ x.toInt) (h1 : x.toInt ≤ n) : ∃ j, x = nI j ∧ j ≤ n := by
  refine ⟨x.toInt.toNat, ?_, by omega⟩
  have hb := x.toInt_lt
  apply Int32.toInt_inj.mp
  rw [nI_toInt (by omega)]
  omega
theorem pulv {w : Nat → Int32} {s x l : Nat} (hO : WOK w) (hs : w 0 = nI s) (hs4 : s ≤ 400) (hx : x ≤ s) (hl : l ≤ 300) : (pul w (nI x) (nI l)).toInt = (taut w).toInt + ((4 * l * x * (s - x) / (s * s) : Nat) : Int) ∧ (pulM w (nI x) (nI l)).toInt = (taut w).toInt + ((4 * l * x * (s - x) / (s * s) : Nat) : Int) := by
  have hs' : (w 0).toInt = s := by rw [hs, nI_toInt (by omega)]
  have hx' : (nI x).toInt = x := nI_toInt (by omega)
  have hl' : (nI l).toInt = l := nI_toInt (by omega)
  have c1 : ((4 * l : Nat) : Int) = 4 * (l : Int) := by omega
  have p1 : 4 * l * x ≤ 1200 * 400 := Nat.mul_le_mul (by omega) (by omega)
  have p2 : 4 * l * x * (s - x) ≤ (1200 * 400) * 400 := Nat.mul_le_mul p1 (by omega)
  have c2 : ((4 * l * x : Nat) : Int) = 4 * (l : Int) * (x : Int) := by rw [Int.natCast_mul, c1]
  have c3 : ((4 * l * x * (s - x) : Nat) : Int) = ((4 * l * x : Nat) : Int) * ((s - x : Nat) : Int) := Int.natCast_mul _ _
  have cs : ((s * s : Nat) : Int) = (s : Int) * (s : Int) := Int.natCast_mul _ _
  have t := taut_b hO
  have q : 4 * l * x * (s - x) / (s * s) ≤ 192000000 := Nat.le_trans (Nat.div_le_self _ _) p2
  obtain ⟨Q, hQ⟩ : ∃ Q : Nat, 4 * l * x * (s - x) / (s * s) = Q := ⟨_, rfl⟩
  rw [hQ] at q ⊢
  have x4 : (4 : Int32).toInt = 4 := rfl
  have b1 : (4 * nI l).toInt = ((4 * l : Nat) : Int) := by rw [mul32 (by rw [x4, hl']; omega) (by rw [x4, hl']; omega), x4, hl', c1]
  have b2 : (4 * nI l * nI x).toInt = ((4 * l * x : Nat) : Int) := by
    rw [mul32 (by rw [b1, hx', c1, ← c2]; omega) (by rw [b1, hx', c1, ← c2]; omega), b1, hx', c1, c2]
  have b0 : (w 0 - nI x).toInt = ((s - x : Nat) : Int) := by rw [sub32 (by rw [hs', hx']; omega) (by rw [hs', hx']; omega), hs', hx']; omega
  have b3 : (4 * nI l * nI x * (w 0 - nI x)).toInt = ((4 * l * x * (s - x) : Nat) : Int) := by
    rw [mul32 (by rw [b2, b0, ← c3]; omega) (by rw [b2, b0, ← c3]; omega), b2, b0, c3]
  have b4 : (w 0 * w 0).toInt = ((s * s : Nat) : Int) := by rw [(ss_mul hO).1, hs', cs]
  have b5 : (4 * nI l * nI x * (w 0 - nI x) / (w 0 * w 0)).toInt = (Q : Int) := by
    rw [Int32.toInt_div, b3, b4, ← Int.ofNat_tdiv, hQ, bm32 (by omega) (by omega)]
  have y4 : (4 : Int64).toInt = 4 := rfl
  have d1 : (4 * (nI l).toInt64).toInt = ((4 * l : Nat) : Int) := by rw [mul64 (by rw [y4, l32, hl']; omega) (by rw [y4, l32, hl']; omega), y4, l32, hl', c1]
  have d2 : (4 * (nI l).toInt64 * (nI x).toInt64).toInt = ((4 * l * x : Nat) : Int) := by
    rw [mul64 (by rw [d1, l32, hx', c1, ← c2]; omega) (by rw [d1, l32, hx', c1, ← c2]; omega), d1, l32, hx', c1, c2]
  have d3 : (4 * (nI l).toInt64 * (nI x).toInt64 * (w 0 - nI x).toInt64).toInt = ((4 * l * x * (s - x) : Nat) : Int) := by
    rw [mul64 (by rw [d2, l32, b0, ← c3]; omega) (by rw [d2, l32, b0, ← c3]; omega), d2, l32, b0, c3]
  have d4 : ((w 0).toInt64 * (w 0).toInt64).toInt = ((s * s : Nat) : Int) := by rw [ss64 hO, hs', cs]
  have d5 : (4 * (nI l).toInt64 * (nI x).toInt64 * (w 0 - nI x).toInt64 / ((w 0).toInt64 * (w 0).toInt64)).toInt = (Q : Int) := by
    rw [Int64.toInt_div, d3, d4, ← Int.ofNat_tdiv, hQ, bm64 (by omega) (by omega)]
  refine ⟨?_, ?_⟩
  · unfold pul
    rw [add32 (by rw [b5]; omega) (by rw [b5]; omega), b5]
  · unfold pulM
    rw [Int64.toInt_toInt32, add64 (by rw [l32, d5]; omega) (by rw [l32, d5]; omega), l32, d5, bm32 (by omega) (by omega)]
theorem pul_eq {w : Nat → Int32} {x l : Int32} (hO : WOK w) (h : onW w x l) : pulM w x l = pul w x l := by
  have hb := hO.b.1
  obtain ⟨s, hs, hs4⟩ := nat_of (x := w 0) (n := 400) (by omega) (by omega)
  have hsi : (w 0).toInt = s := by rw [hs, nI_toInt (by omega)]
  obtain ⟨a, ha, ha4⟩ := nat_of (x := x) (n := s) (i32_le.mp h.1.1) (by rw [← hsi]; exact i32_le.mp h.1.2)
  obtain ⟨c, hc, hc4⟩ := nat_of (x := l) (n := 300) (i32_le.mp h.2.1) (i32_le.mp h.2.2)
  subst ha; subst hc
  have hv := pulv hO hs hs4 ha4 hc4
  exact Int32.toInt_inj.mp (hv.2.trans hv.1.symm)
theorem half_most {x s : Nat} (hx : x ≤ s) : x * (s - x) ≤ s / 2 * (s - s / 2) := by
  have hm : s / 2 ≤ s := by omega
  by_cases h : x ≤ s / 2
  · obtain ⟨e, he⟩ := Nat.exists_eq_add_of_le h
    have h1 : s - x = s - s / 2 + e := by omega
    have h2 : x ≤ s - s / 2 := by omega
    rw [h1, he, Nat.mul_add, Nat.add_mul]
    have : x * e ≤ e * (s - x - e) := by rw [Nat.mul_comm]; exact Nat.mul_le_mul_left e (by omega)
    have h3 : s - (x + e) = s - x - e := by omega
    rw [h3]
    omega
  · obtain ⟨e, he⟩ := Nat.exists_eq_add_of_le (show s / 2 ≤ x by omega)
    have h1 : s - s / 2 = s - x + e := by omega
    rw [h1, Nat.mul_add, he, Nat.add_mul]
    have h3 : s - (s / 2 + e) = s - x := by omega
    have : e * (s - x) ≤ s / 2 * e := by rw [Nat.mul_comm]; exact Nat.mul_le_mul_right e (by omega)
    rw [h3]
    omega
theorem pC_pM {w : Nat → Int32} {s l : Nat} (hO : WOK w) (hs : w 0 = nI s) (hs4 : s ≤ 400) (hl : l ≤ 300) : pC w l ↔ pM w s l := by
  have h2 : w 0 / 2 = nI (s / 2) := by rw [hs]; exact pk_div (d := 2) (by omega) (by decide) (by decide)
  have hm := pulv hO hs hs4 (show s / 2 ≤ s by omega) hl
  unfold pC pM
  rw [h2, i32_le, hm.1]
  constructor
  · intro h x hx
    rw [i32_le, (pulv hO hs hs4 (show x ≤ s by omega) hl).2]
    have e : ∀ y : Nat, 4 * l * y * (s - y) = 4 * l * (y * (s - y)) := fun y => Nat.mul_assoc _ _ _
    have : 4 * l * x * (s - x) / (s * s) ≤ 4 * l * (s / 2) * (s - s / 2) / (s * s) := Nat.div_le_div_right (by rw [e, e]; exact Nat.mul_le_mul_left _ (half_most (by omega)))
    omega
  · intro h
    have := h (s / 2) (by omega)
    rw [i32_le, hm.2] at this
    exact this
theorem pC_cg {w w' : Nat → Int32} (h : ∀ j, j < 9 → w j = w' j) (l : Nat) : pC w l ↔ pC w' l := by
  unfold pC
  rw [pul_cg h, h 0 (by decide), h 5 (by decide)]
