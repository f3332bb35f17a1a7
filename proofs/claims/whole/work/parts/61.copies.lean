/-! what a State's copy holds -/
section
variable {I J : HI} {B C : Nat}
theorem cpR_1 {q : Nat} : cpR J B C q (B + q) 1 = J (C + q) 1 := by
  unfold cpR
  rw [ur_n _ _ (by omega), u2_s]
theorem cpR_n {q i : Nat} (h : i < (J (C + q) 1).toNatClampNeg) : cpR J B C q (B + q + 1) i = J (C + q + 1) i := by
  unfold cpR
  rw [ur_s, pk_cpy_in (Nat.zero_le _) (by omega), Nat.sub_zero, Nat.zero_add]
theorem cpS_o {a : Nat} (h : a < B ∨ B + 24 ≤ a) : cpS I B C a = I a := by
  unfold cpS
  rw [cpR_o (by omega) (by omega), cpR_o (by omega) (by omega), cpR_o (by omega) (by omega), cpR_o (by omega) (by omega), cpR_o (by omega) (by omega), cpR_o (by omega) (by omega), cpR_o (by omega) (by omega), cpR_o (by omega) (by omega), cpS2_o (by omega)]
theorem cpS_lo {a : Nat} (h : a < B + 8) : cpS I B C a = cpS2 I B C a := by
  unfold cpS
  rw [cpR_o (by omega) (by omega), cpR_o (by omega) (by omega), cpR_o (by omega) (by omega), cpR_o (by omega) (by omega), cpR_o (by omega) (by omega), cpR_o (by omega) (by omega), cpR_o (by omega) (by omega), cpR_o (by omega) (by omega)]
theorem cpS_7 : cpS I B C B 7 = I C 7 := by
  rw [cpS_lo (by omega)]
  unfold cpS2
  rw [u2_o (by omega), u2_o (by omega), u2_s]
theorem cpS_8 : cpS I B C B 8 = I C 8 := by
  rw [cpS_lo (by omega)]
  unfold cpS2
  rw [u2_o (by omega), u2_s]
theorem cpS_9 : cpS I B C B 9 = I C 9 := by
  rw [cpS_lo (by omega)]
  unfold cpS2
  rw [u2_s]
theorem cpS_w {j : Nat} (hj : j < 9) : cpS I B C (B + 2) j = I (C + 2) j := by
  rw [cpS_lo (by omega)]
  unfold cpS2 cpS1
  rw [u2_oth _ (by omega), u2_oth _ (by omega), u2_oth _ (by omega), cpRd_o (by omega)]
  unfold cpS0
  rw [ur_s, pk_cpy_in (Nat.zero_le _) (by omega), Nat.sub_zero, Nat.zero_add]
theorem cpS_r (hA : Apt B C) {i : Nat} (hi : i < 8) : cpS I B C (B + 4) i = I (C + 4) i ∧ cpS I B C (B + 5) i = I (C + 5) i ∧ cpS I B C (B + 6) i = I (C + 6) i ∧ cpS I B C (B + 7) i = I (C + 7) i := by
  have hA' : B + 24 ≤ C ∨ C + 24 ≤ B := hA
  rw [cpS_lo (by omega), cpS_lo (by omega), cpS_lo (by omega), cpS_lo (by omega)]
  unfold cpS2 cpS1
  rw [u2_oth _ (show B + 4 ≠ B by omega), u2_oth _ (show B + 4 ≠ B by omega), u2_oth _ (show B + 4 ≠ B by omega), u2_oth _ (show B + 5 ≠ B by omega), u2_oth _ (show B + 5 ≠ B by omega), u2_oth _ (show B + 5 ≠ B by omega), u2_oth _ (show B + 6 ≠ B by omega), u2_oth _ (show B + 6 ≠ B by omega), u2_oth _ (show B + 6 ≠ B by omega), u2_oth _ (show B + 7 ≠ B by omega), u2_oth _ (show B + 7 ≠ B by omega), u2_oth _ (show B + 7 ≠ B by omega), cpRd_4, cpRd_5, cpRd_6, cpRd_7]
  unfold cpk
  rw [if_pos hi, if_pos hi, if_pos hi, if_pos hi, cpS0_o (by omega), cpS0_o (by omega), cpS0_o (by omega), cpS0_o (by omega)]
  exact ⟨rfl, rfl, rfl, rfl⟩
theorem cpS_s8 (hA : Apt B C) : cpS I B C (B + 8) 1 = I (C + 8) 1 := by
  have hA' : B + 24 ≤ C ∨ C + 24 ≤ B := hA
  unfold cpS
  rw [cpR_o (by omega) (by omega), cpR_o (by omega) (by omega), cpR_o (by omega) (by omega), cpR_o (by omega) (by omega), cpR_o (by omega) (by omega), cpR_o (by omega) (by omega), cpR_o (by omega) (by omega), cpR_1, cpS2_o (by omega)]
theorem cpS_n8 (hA : Apt B C) {i : Nat} (hi : i < (I (C + 8) 1).toNatClampNeg) : cpS I B C (B + 9) i = I (C + 9) i := by
  have hA' : B + 24 ≤ C ∨ C + 24 ≤ B := hA
  unfold cpS
  rw [cpR_o (by omega) (by omega), cpR_o (by omega) (by omega), cpR_o (by omega) (by omega), cpR_o (by omega) (by omega), cpR_o (by omega) (by omega), cpR_o (by omega) (by omega), cpR_o (by omega) (by omega), cpR_n (by rw [cpS2_o (by omega)]; exact hi), cpS2_o (by omega)]
theorem cpS_s10 (hA : Apt B C) : cpS I B C (B + 10) 1 = I (C + 10) 1 := by
  have hA' : B + 24 ≤ C ∨ C + 24 ≤ B := hA
  unfold cpS
  rw [cpR_o (by omega) (by omega), cpR_o (by omega) (by omega), cpR_o (by omega) (by omega), cpR_o (by omega) (by omega), cpR_o (by omega) (by omega), cpR_o (by omega) (by omega), cpR_1, cpR_o (by omega) (by omega), cpS2_o (by omega)]
theorem cpS_n10 (hA : Apt B C) {i : Nat} (hi : i < (I (C + 10) 1).toNatClampNeg) : cpS I B C (B + 11) i = I (C + 11) i := by
  have hA' : B + 24 ≤ C ∨ C + 24 ≤ B := hA
  unfold cpS
  rw [cpR_o (by omega) (by omega), cpR_o (by omega) (by omega), cpR_o (by omega) (by omega), cpR_o (by omega) (by omega), cpR_o (by omega) (by omega), cpR_o (by omega) (by omega), cpR_n (by rw [cpR_o (by omega) (by omega), cpS2_o (by omega)]; exact hi), cpR_o (by omega) (by omega), cpS2_o (by omega)]
theorem cpS_s12 (hA : Apt B C) : cpS I B C (B + 12) 1 = I (C + 12) 1 := by
  have hA' : B + 24 ≤ C ∨ C + 24 ≤ B := hA
  unfold cpS
  rw [cpR_o (by omega) (by omega), cpR_o (by omega) (by omega), cpR_o (by omega) (by omega), cpR_o (by omega) (by omega), cpR_o (by omega) (by omega), cpR_1, cpR_o (by omega) (by omega), cpR_o (by omega) (by omega), cpS2_o (by omega)]
theorem cpS_n12 (hA : Apt B C) {i : Nat} (hi : i < (I (C + 12) 1).toNatClampNeg) : cpS I B C (B + 13) i = I (C + 13) i := by
  have hA' : B + 24 ≤ C ∨ C + 24 ≤ B := hA
  unfold cpS
  rw [cpR_o (by omega) (by omega), cpR_o (by omega) (by omega), cpR_o (by omega) (by omega), cpR_o (by omega) (by omega), cpR_o (by omega) (by omega), cpR_n (by rw [cpR_o (by omega) (by omega), cpR_o (by omega) (by omega), cpS2_o (by omega)]; exact hi), cpR_o (by omega) (by omega), cpR_o (by omega) (by omega), cpS2_o (by omega)]
theorem cpS_s14 (hA : Apt B C) : cpS I B C (B + 14) 1 = I (C + 14) 1 := by
  have hA' : B + 24 ≤ C ∨ C + 24 ≤ B := hA
  unfold cpS
  rw [cpR_o (by omega) (by omega), cpR_o (by omega) (by omega), cpR_o (by omega) (by omega), cpR_o (by omega) (by omega), cpR_1, cpR_o (by omega) (by omega), cpR_o (by omega) (by omega), cpR_o (by omega) (by omega), cpS2_o (by omega)]
theorem cpS_n14 (hA : Apt B C) {i : Nat} (hi : i < (I (C + 14) 1).toNatClampNeg) : cpS I B C (B + 15) i = I (C + 15) i := by
  have hA' : B + 24 ≤ C ∨ C + 24 ≤ B := hA
  unfold cpS
  rw [cpR_o (by omega) (by omega), cpR_o (by omega) (by omega), cpR_o (by omega) (by omega), cpR_o (by omega) (by omega), cpR_n (by rw [cpR_o (by omega) (by omega), cpR_o (by omega) (by omega), cpR_o (by omega) (by omega), cpS2_o (by omega)]; exact hi), cpR_o (by omega) (by omega), cpR_o (by omega) (by omega), cpR_o (by omega) (by omega), cpS2_o (by omega)]
theorem cpS_s16 (hA : Apt B C) : cpS I B C (B + 16) 1 = I (C + 16) 1 := by
  have hA' : B + 24 ≤ C ∨ C + 24 ≤ B := hA
  unfold cpS
  rw [cpR_o (by omega) (by omega), cpR_o (by omega) (by omega), cpR_o (by omega) (by omega), cpR_1, cpR_o (by omega) (by omega), cpR_o (by omega) (by omega), cpR_o (by omega) (by omega), cpR_o (by omega) (by omega), cpS2_o (by omega)]
theorem cpS_n16 (hA : Apt B C) {i : Nat} (hi : i < (I (C + 16) 1).toNatClampNeg) : cpS I B C (B + 17) i = I (C + 17) i := by
  have hA' : B + 24 ≤ C ∨ C + 24 ≤ B := hA
  unfold cpS
  rw [cpR_o (by omega) (by omega), cpR_o (by omega) (by omega), cpR_o (by omega) (by omega), cpR_n (by rw [cpR_o (by omega) (by omega), cpR_o (by omega) (by omega), cpR_o (by omega) (by omega), cpR_o (by omega) (by omega), cpS2_o (by omega)]; exact hi), cpR_o (by omega) (by omega), cpR_o (by omega) (by omega), cpR_o (by omega) (by omega), cpR_o (by omega) (by omega), cpS2_o (by omega)]
theorem cpS_s18 (hA : Apt B C) : cpS I B C (B + 18) 1 = I (C + 18) 1 := by
  have hA' : B + 24 ≤ C ∨ C + 24 ≤ B := hA
  unfold cpS
  rw [cpR_o (by omega) (by omega), cpR_o (by omega) (by omega), cpR_1, cpR_o (by omega) (by omega), cpR_o (by omega) (by omega), cpR_o (by omega) (by omega), cpR_o (by omega) (by omega), cpR_o (by omega) (by omega), cpS2_o (by omega)]
theorem cpS_n18 (hA : Apt B C) {i : Nat} (hi : i < (I (C + 18) 1).toNatClampNeg) : cpS I B C (B + 19) i = I (C + 19) i := by
  have hA' : B + 24 ≤ C ∨ C + 24 ≤ B := hA
  unfold cpS
  rw [cpR_o (by omega) (by omega), cpR_o (by omega) (by omega), cpR_n (by rw [cpR_o (by omega) (by omega), cpR_o (by omega) (by omega), cpR_o (by omega) (by omega), cpR_o (by omega) (by omega), cpR_o (by omega) (by omega), cpS2_o (by omega)]; exact hi), cpR_o (by omega) (by omega), cpR_o (by omega) (by omega), cpR_o (by omega) (by omega), cpR_o (by omega) (by omega), cpR_o (by omega) (by omega), cpS2_o (by omega)]
theorem cpS_s20 (hA : Apt B C) : cpS I B C (B + 20) 1 = I (C + 20) 1 := by
  have hA' : B + 24 ≤ C ∨ C + 24 ≤ B := hA
  unfold cpS
  rw [cpR_o (by omega) (by omega), cpR_1, cpR_o (by omega) (by omega), cpR_o (by omega) (by omega), cpR_o (by omega) (by omega), cpR_o (by omega) (by omega), cpR_o (by omega) (by omega), cpR_o (by omega) (by omega), cpS2_o (by omega)]
theorem cpS_n20 (hA : Apt B C) {i : Nat} (hi : i < (I (C + 20) 1).toNatClampNeg) : cpS I B C (B + 21) i = I (C + 21) i := by
  have hA' : B + 24 ≤ C ∨ C + 24 ≤ B := hA
  unfold cpS
  rw [cpR_o (by omega) (by omega), cpR_n (by rw [cpR_o (by omega) (by omega), cpR_o (by omega) (by omega), cpR_o (by omega) (by omega), cpR_o (by omega) (by omega), cpR_o (by omega) (by omega), cpR_o (by omega) (by omega), cpS2_o (by omega)]; exact hi), cpR_o (by omega) (by omega), cpR_o (by omega) (by omega), cpR_o (by omega) (by omega), cpR_o (by omega) (by omega), cpR_o (by omega) (by omega), cpR_o (by omega) (by omega), cpS2_o (by omega)]
theorem cpS_s22 (hA : Apt B C) : cpS I B C (B + 22) 1 = I (C + 22) 1 := by
  have hA' : B + 24 ≤ C ∨ C + 24 ≤ B := hA
  unfold cpS
  rw [cpR_1, cpR_o (by omega) (by omega), cpR_o (by omega) (by omega), cpR_o (by omega) (by omega), cpR_o (by omega) (by omega), cpR_o (by omega) (by omega), cpR_o (by omega) (by omega), cpR_o (by omega) (by omega), cpS2_o (by omega)]
theorem cpS_n22 (hA : Apt B C) {i : Nat} (hi : i < (I (C + 22) 1).toNatClampNeg) : cpS I B C (B + 23) i = I (C + 23) i := by
  have hA' : B + 24 ≤ C ∨ C + 24 ≤ B := hA
  unfold cpS
  rw [cpR_n (by rw [cpR_o (by omega) (by omega), cpR_o (by omega) (by omega), cpR_o (by omega) (by omega), cpR_o (by omega) (by omega), cpR_o (by omega) (by omega), cpR_o (by omega) (by omega), cpR_o (by omega) (by omega), cpS2_o (by omega)]; exact hi), cpR_o (by omega) (by omega), cpR_o (by omega) (by omega), cpR_o (by omega) (by omega), cpR_o (by omega) (by omega), cpR_o (by omega) (by omega), cpR_o (by omega) (by omega), cpR_o (by omega) (by omega), cpS2_o (by omega)]
/-- sizes of a State's rows, by places -/
theorem Sz.cp (hA : Apt B C) (hZ : Sz I C) : Sz (cpS I B C) B := by
  obtain ⟨⟨k, h1, h2⟩, h3⟩ := hZ
  refine ⟨⟨k, by rw [cpS_7]; exact h1, h2⟩, fun q hq => ?_⟩
  have h4 := h3 q hq
  simp only [sRow, List.mem_cons, List.not_mem_nil, or_false] at hq
  rcases hq with rfl | rfl | rfl | rfl | rfl | rfl | rfl | rfl
  · obtain ⟨k, a, b⟩ := h4
    exact ⟨k, by show cpS I B C (B + 8) 1 = _; rw [cpS_s8 hA]; exact a, b⟩
  · obtain ⟨k, a, b⟩ := h4
    exact ⟨k, by show cpS I B C (B + 10) 1 = _; rw [cpS_s10 hA]; exact a, b⟩
  · obtain ⟨k, a, b⟩ := h4
    exact ⟨k, by show cpS I B C (B + 12) 1 = _; rw [cpS_s12 hA]; exact a, b⟩
  · obtain ⟨k, a, b⟩ := h4
    exact ⟨k, by show cpS I B C (B + 14) 1 = _; rw [cpS_s14 hA]; exact a, b⟩
  · obtain ⟨k, a, b⟩ := h4
    exact ⟨k, by show cpS I B C (B + 16) 1 = _; rw [cpS_s16 hA]; exact a, b⟩
  · obtain ⟨k, a, b⟩ := h4
    exact ⟨k, by show cpS I B C (B + 18) 1 = _; rw [cpS_s18 hA]; exact a, b⟩
  · obtain ⟨k, a, b⟩ := h4
    exact ⟨k, by show cpS I B C (B + 20) 1 = _; rw [cpS_s20 hA]; exact a, b⟩
  · obtain ⟨k, a, b⟩ := h4
    exact ⟨k, by show cpS I B C (B + 22) 1 = _; rw [cpS_s22 hA]; exact a, b⟩
end
/-- pointers are the same but for the reader's and the rides' rows -/
def PG (P P' : HP) : Prop := (∀ a, a ≠ 17 → a ≠ 24 → a ≠ 48 → a ≠ 72 → P' a = P a) ∧ P' 17 0 = P 17 0
theorem PF.g {P P' : HP} (h : PF P P') : PG P P' := ⟨fun a a1 _ _ _ => h.1 a a1, h.2⟩
theorem PG.refl (P : HP) : PG P P := ⟨fun _ _ _ _ _ => rfl, rfl⟩
theorem PG.trans {P P' P'' : HP} (h : PG P P') (h2 : PG P' P'') : PG P P'' := ⟨fun a a1 a2 a3 a4 => (h2.1 a a1 a2 a3 a4).trans (h.1 a a1 a2 a3 a4), h2.2.trans h.2⟩
theorem PG_ur {P : HP} {B : Nat} (hB : B = 21 ∨ B = 45 ∨ B = 69) (f : Nat → Option Nat) : PG P (ur P (B + 3) f) := ⟨fun a a1 a2 a3 a4 => ur_n _ _ (by omega), by rw [ur_n _ _ (by omega)]⟩
theorem RS.pg {g : Sh} {P P' : HP} (hp : PG P P') {r q n : Nat} (hr : r ≠ 17) (h1 : r ≠ 24) (h2 : r ≠ 48) (h3 : r ≠ 72) (h : RS g P r q n) : RS g P' r q n := ⟨h.1, by rw [hp.1 r hr h1 h2 h3]; exact h.2.1, h.2.2.1, h.2.2.2⟩
theorem St.pg {g : Sh} {P P' : HP} (hp : PG P P') {B : Nat} (hB : B = 21 ∨ B = 45 ∨ B = 69) (h : St g P B) : St g P' B := by
  obtain ⟨h1, h2, h3, ⟨w1, w2, w3, w4⟩, h5, h6, h7, h8, h9, h10⟩ := h
  have e0 : P' B = P B := hp.1 B (by omega) (by omega) (by omega) (by omega)
  have e1 : P' (B + 1) = P (B + 1) := hp.1 (B + 1) (by omega) (by omega) (by omega) (by omega)
  refine ⟨h1, by rw [e0]; exact h2, by rw [e0]; exact h3, ⟨w1, by rw [e1]; exact w2, w3, w4⟩, by rw [e0]; exact h5, by rw [e0]; exact h6, by rw [e0]; exact h7, by rw [e0]; exact h8, by rw [e0]; exact h9, fun q hq => ?_⟩
  have hf := sRow_fact q hq
  exact ⟨by rw [e0]; exact (h10 q hq).1, RS.pg hp (by omega) (by omega) (by omega) (by omega) (h10 q hq).2⟩
theorem Ly.pg {g : Sh} {P P' : HP} (hp : PG P P') (h : Ly g P) : Ly g P' := by
  obtain ⟨⟨a1, a2, a3, a4, a5⟩, ⟨b1, b2, b3⟩, c, ⟨d1, d2⟩, e, f, i, j, k, l, ⟨m1, m2, m3⟩, n⟩ := h
  have e16 : P' 16 = P 16 := hp.1 16 (by decide) (by decide) (by decide) (by decide)
  have e96 : P' 96 = P 96 := hp.1 96 (by decide) (by decide) (by decide) (by decide)
  refine ⟨⟨a1, by rw [e16]; exact a2, by rw [e16]; exact a3, by rw [e16]; exact a4, by rw [e16]; exact a5⟩, ⟨b1.pg hp (Or.inl rfl), b2.pg hp (Or.inr (Or.inl rfl)), b3.pg hp (Or.inr (Or.inr rfl))⟩, by rw [e16]; exact c, ⟨by rw [e16]; exact d1, RS.pg hp (by decide) (by decide) (by decide) (by decide) d2⟩, by rw [e16]; exact e, by rw [e16]; exact f, by rw [e16]; exact i, by rw [e16]; exact j, by rw [e16]; exact k, fun q hq => ⟨by rw [e96]; exact (l q hq).1, RS.pg hp (by omega) (by omega) (by omega) (by omega) (l q hq).2⟩, ⟨m1, by rw [hp.2]; exact m2, m3⟩, n⟩
theorem Mo.pg {g : Sh} {P P' : HP} (hp : PG P P') (h : Mo g P) : Mo g P' := by
  obtain ⟨a, b, c1, c2, c3, c4, c5⟩ := h
  have e9 : P' 109 = P 109 := hp.1 109 (by decide) (by decide) (by decide) (by decide)
  have e6 : P' 116 = P 116 := hp.1 116 (by decide) (by decide) (by decide) (by decide)
  exact ⟨a, fun q hq => by rw [e9]; exact b q hq, by rw [e9]; exact c1, c2, c3, by rw [e6]; exact c4, by rw [e6]; exact c5⟩
/-- a copy's relation to the row -/
theorem RD.cp {I : HI} {B C k : Nat} {M : Nat → Int32} (hA : Apt B C) (hk : k ≤ 8) (h : RD I C k M) : RD (cpS I B C) B k M := by
  refine ⟨fun j hj => by rw [cpS_w hj]; exact h.1 j hj, fun i hi => ?_⟩
  obtain ⟨e4, e5, e6, e7⟩ := cpS_r (I := I) hA (show i < 8 by omega)
  rw [e4, e5, e6, e7]
  exact h.2 i hi
theorem cpP_3 {P : HP} {B C i : Nat} (hi : i < 8) : cpP P B C (B + 3) i = P (C + 3) i := by
  unfold cpP
  rw [ur_s]
  exact if_pos hi
theorem RR.cp {g : Sh} {P : HP} {I : HI} {B C k : Nat} {rd : Nat → Nat} {M : Nat → Int32} (hB : B + 24 ≤ 128) (hk : k ≤ 8) (h : RR g P I C k rd M) : RR g (cpP P B C) (cpS I B C) B k rd M := fun i hi => by
  obtain ⟨h1, h2, h3, h4, h5, h6, h7, h8⟩ := h i hi
  have e : cpS I B C (rd i) = I (rd i) := cpS_o (by omega)
  rw [e]
  exact ⟨by rw [cpP_3 (by omega)]; exact h1, h2, h3, by rw [show cpP P B C (rd i) = P (rd i) from ur_n _ _ (by omega)]; exact h4, h5, h6, h7, h8⟩
theorem TG.cp {I : HI} {B C : Nat} {nt : Nat → Nat} (hA : Apt B C) (h : TG I C nt) : TG (cpS I B C) B nt ∧ ∀ δ, TD I C nt δ → TD (cpS I B C) B nt δ := by
  have key : ∀ u, u ≤ 1 → cpS I B C (B + 10 + 2 * u) 1 = I (C + 10 + 2 * u) 1 ∧ ∀ i, i < nt u → cpS I B C (B + 11 + 2 * u) i = I (C + 11 + 2 * u) i := by
    intro u hu
    obtain ⟨h1, h2, -⟩ := h u hu
    have hc : (I (C + 10 + 2 * u) 1).toNatClampNeg = nt u := by rw [h1, nI_clamp (by omega)]
    match u, hu, hc with
    | 0, _, hc => exact ⟨cpS_s10 hA, fun i hi => cpS_n10 hA (by have hc' : (I (C + 10) 1).toNatClampNeg = nt 0 := hc; omega)⟩
    | 1, _, hc => exact ⟨cpS_s12 hA, fun i hi => cpS_n12 hA (by have hc' : (I (C + 12) 1).toNatClampNeg = nt 1 := hc; omega)⟩
  refine ⟨fun u hu => ?_, fun δ hd u hu => ?_⟩
  · obtain ⟨h1, h2, h3, h4, h5⟩ := h u hu
    obtain ⟨k1, k2⟩ := key u hu
    have e := rdT_cg k2 u
    exact ⟨by rw [k1]; exact h1, h2, fun i hi => by rw [k2 i hi]; exact h3 i hi, by rw [e]; exact h4, by rw [e]; exact h5⟩
  · rw [rdT_cg (key u hu).2 u]
    exact hd u hu
