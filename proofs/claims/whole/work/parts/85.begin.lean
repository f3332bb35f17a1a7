/-! both stand side by side behind their constructors -/
theorem rd_3 : rdT (sbt 3) 13 0 = (13, false, dfc 0) := by decide +kernel
theorem rd_4 : rdT (sbt 4) 5 1 = (5, false, dfc 1) := by decide +kernel
theorem by_3 : ∀ i, i < 13 → ∃ b, b < 256 ∧ sbt 3 i = nI b := by decide +kernel
theorem by_4 : ∀ i, i < 5 → ∃ b, b < 256 ∧ sbt 4 i = nI b := by decide +kernel
theorem hg_0 : hgt (dfc 0) (some 0) = some 1 ∧ (dfc 0).length ≤ 50 := by decide +kernel
theorem hg_1 : hgt (dfc 1) (some 0) = some 1 ∧ (dfc 1).length ≤ 50 := by decide +kernel
theorem wf_0 : ∀ j, j < 9 → firstL.getD j 0 = m0L.getD (7 + j) 0 ∧ lst j ≤ m0L.getD (7 + j) 0 ∧ m0L.getD (7 + j) 0 ≤ grt j := by decide +kernel
def nt0 (u : Nat) : Nat := if u = 0 then 13 else 5
section
variable {g : Sh} {P : HP} {J : HI}
theorem S0.sz {B : Nat} (h : S0 P J B) : Sz J B := by
  obtain ⟨h1, -, -, ⟨t, s1, s2, s3, s4, s5⟩, ⟨w1, -⟩, ⟨w2, -⟩, -⟩ := h
  exact ⟨⟨0, h1.1, by decide⟩, sRow_all ⟨0, t, by decide⟩ ⟨13, w1, by decide⟩ ⟨5, w2, by decide⟩ ⟨0, s1, by decide⟩ ⟨0, s2, by decide⟩ ⟨0, s3, by decide⟩ ⟨0, s4, by decide⟩ ⟨0, s5, by decide⟩⟩
theorem TG_0 (h : S0 P J 21) : TG J 21 nt0 := fun u hu => by
  obtain ⟨-, -, -, -, ⟨w1, w2⟩, ⟨w3, w4⟩, -⟩ := h
  match u, hu with
  | 0, _ =>
    have e : rdT (J (21 + 11 + 2 * 0)) (nt0 0) 0 = (13, false, dfc 0) := (rdT_cg (t' := sbt 3) (fun i hi => w2 i hi) 0).trans rd_3
    rw [e]
    exact ⟨w1, by decide, fun i hi => by rw [show J (21 + 11 + 2 * 0) i = sbt 3 i from w2 i hi]; exact by_3 i hi, rfl, rfl⟩
  | 1, _ =>
    have e : rdT (J (21 + 11 + 2 * 1)) (nt0 1) 1 = (5, false, dfc 1) := (rdT_cg (t' := sbt 4) (fun i hi => w4 i hi) 1).trans rd_4
    rw [e]
    exact ⟨w3, by decide, fun i hi => by rw [show J (21 + 11 + 2 * 1) i = sbt 4 i from w4 i hi]; exact by_4 i hi, rfl, rfl⟩
theorem TD_0 (h : S0 P J 21) : TD J 21 nt0 dfc := fun u hu => by
  obtain ⟨-, -, -, -, ⟨w1, w2⟩, ⟨w3, w4⟩, -⟩ := h
  match u, hu with
  | 0, _ =>
    have e : rdT (J (21 + 11 + 2 * 0)) (nt0 0) 0 = (13, false, dfc 0) := (rdT_cg (t' := sbt 3) (fun i hi => w2 i hi) 0).trans rd_3
    rw [e]
  | 1, _ =>
    have e : rdT (J (21 + 11 + 2 * 1)) (nt0 1) 1 = (5, false, dfc 1) := (rdT_cg (t' := sbt 4) (fun i hi => w4 i hi) 1).trans rd_4
    rw [e]
theorem IV_0 (hL : Ly g P) (hM : Mo g P) (hX : X0 P J) (hZ : Z0 J) : IV g P J := by
  obtain ⟨⟨x1, x2, x3⟩, ⟨y1, y2, y3, y4, y5, y6, y7⟩, y8⟩ := hX
  obtain ⟨z1, z2, z3, z4, z5, z6, z7, z8, z9⟩ := hZ
  refine ⟨⟨hL, hM⟩, ⟨0, fun _ => 0, nt0, dfc, 0, 0, 0, 0, ?_⟩, ⟨fun h => absurd y1 h, by rw [y1, z2]⟩, ⟨⟨x2.sz, x3.sz⟩, ⟨fun j _ => Or.inl (x1.2.2.2.2.2.2 j), fun j _ => Or.inl (x3.2.2.2.2.2.2 j)⟩, fun j _ => Or.inl (x1.2.2.1.2.2.2 j), fun j _ => Or.inl (x3.2.2.1.2.2.2 j)⟩, fun j _ => by rw [y2, z3], ⟨0, y3, z2 21, by decide, fun j hj => absurd hj (by omega)⟩, ⟨fun _ => 0, fun i hi => ⟨y8 i hi, Nat.zero_le _⟩, fun j _ => ⟨z9 j, Nat.zero_le _⟩, fun j _ => by rw [y4, z8], fun j _ i hi => absurd hi (Nat.not_lt_zero i)⟩, fun j hj => ⟨z4 j hj, z5 j hj⟩, funext fun j => by rw [y6, z6], funext fun j => by rw [y7, z7]⟩
  obtain ⟨⟨s1, s2, s3⟩, s4, -, ⟨q1, q2, q3, q4, q5, q6⟩, -⟩ := id x1
  refine ⟨⟨s1, by rw [s2, z1]; rfl, by rw [s3, z1]; rfl⟩, ⟨⟨by rw [z1]; rfl, by decide, fun j hj => ?_, fun r hr => absurd hr (by omega)⟩, ⟨fun j hj => ?_, fun i hi => absurd hi (by omega)⟩, fun i hi => absurd hi (by omega)⟩, ⟨TG_0 x1, TD_0 x1, fun u hu => ?_⟩, ⟨q2, q3, by rw [z1]; rfl, by decide, fun i hi => absurd hi (by omega)⟩, ⟨q4, q5, by rw [z1]; rfl, by decide, fun i hi => absurd hi (by omega)⟩, ⟨q1, by rw [z1]; rfl, by decide, fun i hi => absurd hi (by omega)⟩, ⟨q6, by rw [z1]; rfl, by decide, fun i hi => absurd hi (by omega)⟩⟩
  · show lst j ≤ J 110 (7 + j) ∧ J 110 (7 + j) ≤ grt j
    rw [z1]; exact (wf_0 j hj).2
  · rw [s4, z1]; exact (wf_0 j hj).1
  · match u, hu with
    | 0, _ => exact ⟨hg_0, Or.inl ⟨by rw [z1]; rfl, rfl⟩⟩
    | 1, _ => exact ⟨hg_1, Or.inl ⟨by rw [z1]; rfl, rfl⟩⟩
end
