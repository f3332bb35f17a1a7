/-! State.copyFrom -/
/-- rides' rows copied up to j -/
def cpRd (I : HI) (B C j : Nat) : HI := ur (ur (ur (ur I (B + 4) (cpk (I (C + 4)) (I (B + 4)) j)) (B + 5) (cpk (I (C + 5)) (I (B + 5)) j)) (B + 6) (cpk (I (C + 6)) (I (B + 6)) j)) (B + 7) (cpk (I (C + 7)) (I (B + 7)) j)
def cpo (f h : Nat → Option Nat) (k : Nat) : Nat → Option Nat := fun j => if j < k then f j else h j
theorem cpo_0 (f h : Nat → Option Nat) : cpo f h 0 = h := by funext j; simp [cpo]
theorem cpo_s (f h : Nat → Option Nat) (k : Nat) : ur (cpo f h k) k (f k) = cpo f h (k + 1) := by
  funext j
  unfold ur cpo
  by_cases e : j = k
  · subst e
    rw [if_pos rfl, if_pos (by omega)]
  · rw [if_neg e]
    by_cases h2 : j < k
    · rw [if_pos h2, if_pos (by omega)]
    · rw [if_neg h2, if_neg (by omega)]
theorem cpRd_0 (I : HI) (B C : Nat) : cpRd I B C 0 = I := by
  unfold cpRd
  simp only [cpk_0]
  funext a
  unfold ur
  by_cases h7 : a = B + 7
  · subst h7; simp
  · by_cases h6 : a = B + 6
    · subst h6; simp
    · by_cases h5 : a = B + 5
      · subst h5; simp
      · by_cases h4 : a = B + 4
        · subst h4; simp
        · simp [h4, h5, h6, h7]
theorem cpRd_o {I : HI} {B C j a : Nat} (h : a < B + 4 ∨ B + 7 < a) : cpRd I B C j a = I a := by
  unfold cpRd
  rw [ur_n _ _ (by omega), ur_n _ _ (by omega), ur_n _ _ (by omega), ur_n _ _ (by omega)]
theorem cpRd_4 (I : HI) (B C j : Nat) : cpRd I B C j (B + 4) = cpk (I (C + 4)) (I (B + 4)) j := by
  unfold cpRd
  rw [ur_n _ _ (by omega), ur_n _ _ (by omega), ur_n _ _ (by omega), ur_s]
theorem cpRd_5 (I : HI) (B C j : Nat) : cpRd I B C j (B + 5) = cpk (I (C + 5)) (I (B + 5)) j := by
  unfold cpRd
  rw [ur_n _ _ (by omega), ur_n _ _ (by omega), ur_s]
theorem cpRd_6 (I : HI) (B C j : Nat) : cpRd I B C j (B + 6) = cpk (I (C + 6)) (I (B + 6)) j := by
  unfold cpRd
  rw [ur_n _ _ (by omega), ur_s]
theorem cpRd_7 (I : HI) (B C j : Nat) : cpRd I B C j (B + 7) = cpk (I (C + 7)) (I (B + 7)) j := by
  unfold cpRd
  rw [ur_s]
theorem cpRd_s (I : HI) (B C j : Nat) : u2 (u2 (u2 (u2 (cpRd I B C j) (B + 4) j (I (C + 4) j)) (B + 5) j (I (C + 5) j)) (B + 6) j (I (C + 6) j)) (B + 7) j (I (C + 7) j) = cpRd I B C (j + 1) := by
  funext a
  by_cases h7 : a = B + 7
  · subst h7
    rw [u2_row, u2_oth _ (by omega), u2_oth _ (by omega), u2_oth _ (by omega), cpRd_7, cpk_s, cpRd_7]
  · by_cases h6 : a = B + 6
    · subst h6
      rw [u2_oth _ (by omega), u2_row, u2_oth _ (by omega), u2_oth _ (by omega), cpRd_6, cpk_s, cpRd_6]
    · by_cases h5 : a = B + 5
      · subst h5
        rw [u2_oth _ (by omega), u2_oth _ (by omega), u2_row, u2_oth _ (by omega), cpRd_5, cpk_s, cpRd_5]
      · by_cases h4 : a = B + 4
        · subst h4
          rw [u2_oth _ (by omega), u2_oth _ (by omega), u2_oth _ (by omega), u2_row, cpRd_4, cpk_s, cpRd_4]
        · rw [u2_oth _ h7, u2_oth _ h6, u2_oth _ h5, u2_oth _ h4, cpRd_o (by omega), cpRd_o (by omega)]
/-- a row copied -/
def cpR (J : HI) (B C o : Nat) : HI := ur (u2 J (B + o) 1 (J (C + o) 1)) (B + o + 1) (va_cpy (J (C + o + 1)) (J (B + o + 1)) 0 0 (J (C + o) 1).toNatClampNeg)
theorem cpR_o {J : HI} {B C o a : Nat} (h : a ≠ B + o) (h2 : a ≠ B + o + 1) : cpR J B C o a = J a := by
  unfold cpR
  rw [ur_n _ _ h2, u2_oth _ h]
def cpS0 (I : HI) (B C : Nat) : HI := ur I (B + 2) (va_cpy (I (C + 2)) (I (B + 2)) 0 0 9)
def cpS1 (I : HI) (B C : Nat) : HI := cpRd (cpS0 I B C) B C 8
def cpS2 (I : HI) (B C : Nat) : HI := u2 (u2 (u2 (cpS1 I B C) B 7 (I C 7)) B 8 (I C 8)) B 9 (I C 9)
def cpS (I : HI) (B C : Nat) : HI := cpR (cpR (cpR (cpR (cpR (cpR (cpR (cpR (cpS2 I B C) B C 8) B C 10) B C 12) B C 14) B C 16) B C 18) B C 20) B C 22
def cpP (P : HP) (B C : Nat) : HP := ur P (B + 3) (cpo (P (C + 3)) (P (B + 3)) 8)
theorem sRow_fact : ∀ q ∈ sRow, q.2.1 < 23 ∧ 8 ≤ q.2.1 ∧ q.2.2 ≤ 50 := by decide
/-- a State stays one where another's rides are written -/
theorem St_upd {g : Sh} {P : HP} {C X : Nat} {f : Nat → Option Nat} (h : St g P C) (hX : ∀ k, k < 24 → k ≠ 3 → C + k ≠ X) : St g (ur P X f) C := by
  obtain ⟨h1, h2, h3, ⟨w1, w2, w3, w4⟩, h5, h6, h7, h8, h9, h10⟩ := h
  have e0 : ur P X f C = P C := ur_n _ _ (hX 0 (by decide) (by decide))
  have e1 : ur P X f (C + 1) = P (C + 1) := ur_n _ _ (hX 1 (by decide) (by decide))
  refine ⟨h1, by rw [e0]; exact h2, by rw [e0]; exact h3, ⟨w1, by rw [e1]; exact w2, w3, w4⟩, by rw [e0]; exact h5, by rw [e0]; exact h6, by rw [e0]; exact h7, by rw [e0]; exact h8, by rw [e0]; exact h9, ?_⟩
  intro q hq
  obtain ⟨r1, r2, r3, r4, r5⟩ := h10 q hq
  have hq2 : q.2.1 < 24 ∧ q.2.1 ≠ 3 := by have := sRow_fact q hq; omega
  have e2 : ur P X f (C + q.2.1) = P (C + q.2.1) := ur_n _ _ (hX _ hq2.1 hq2.2)
  exact ⟨by rw [e0]; exact r1, r2, by rw [e2]; exact r3, r4, r5⟩
/-- the sizes of a State's rows -/
def Sz (I : HI) (C : Nat) : Prop := (∃ k, I C 7 = nI k ∧ k ≤ 8) ∧ ∀ q ∈ sRow, ∃ k, I (C + q.2.1) 1 = nI k ∧ k ≤ q.2.2
/-- two States' blocks are apart -/
def Apt (B C : Nat) : Prop := B + 24 ≤ C ∨ C + 24 ≤ B
section
variable {Γ : GE} {d : Nat} {g : Sh} {P : HP} {I : HI} {Φ : Option Value → Sh → HP → HI → Prop}
/-- a row of one State into another's, over any heap in which both rows stand with their sizes -/
theorem c_rowCopy {B C sl o n : Nat} {J : HI} (hd : 1 ≤ d) (hS : St g P B) (hC : St g P C) (hA : Apt B C) (hq : (sl, o, n) ∈ sRow) {k k' : Nat} (e1 : J (B + o) 1 = nI k) (l1 : k ≤ n) (e2 : J (C + o) 1 = nI k') (l2 : k' ≤ n) (hΦ : Φ none g P (cpR J B C o)) : MM Γ mX7_copyFrom d 0 0 [.ref (B + o), .ref (C + o)] g P J Φ := by
  have hf : o < 23 ∧ 8 ≤ o ∧ n ≤ 50 := sRow_fact _ hq
  have hn : n ≤ 1000 := by omega
  refine c_X7_copyFrom hd ((hS.row _ hq).2.w e1 l1 hn) ((hC.row _ hq).2.w e2 l2 hn) l2 (fun h => ?_) ?_
  · rcases hA with hA | hA <;> omega
  · unfold cpR at hΦ
    rw [e2, nI_clamp (by omega)] at hΦ
    exact hΦ
theorem cpS0_o {B C a : Nat} (h : a ≠ B + 2) : cpS0 I B C a = I a := ur_n _ _ h
theorem cpS1_o {B C a : Nat} (h : a ≤ B ∨ B + 7 < a) : cpS1 I B C a = I a := by
  unfold cpS1
  rw [cpRd_o (by omega), cpS0_o (by omega)]
theorem cpS2_o {B C a : Nat} (h : a < B ∨ B + 7 < a) : cpS2 I B C a = I a := by
  unfold cpS2
  rw [u2_oth _ (by omega), u2_oth _ (by omega), u2_oth _ (by omega), cpS1_o (by omega)]
/-- a place of the rides' row: nobody, or a ride -/
def RQ (g : Sh) (P : HP) (B j : Nat) : Prop := P (B + 3) j = none ∨ ∃ r ci, P (B + 3) j = some r ∧ Cel g r ci ∧ isR ci
theorem any_ride {r ci : Nat} (hr : Cel g r ci) (hi : isR ci) : anyOf Γ g P I "GorgeWire$Ride" r := by
  rcases hi with rfl | rfl | rfl | rfl | rfl | rfl | rfl
  · exact any_same (q := (RX5, TX5, 5)) rfl hr.1 hr.2.1 hr.2.2
  · exact any_cast (q := (RX6, TX6, 5)) rfl (by decide) hr.1 hr.2.1 hr.2.2
  · exact any_cast (q := (RX2, TX2, 5)) rfl (by decide) hr.1 hr.2.1 hr.2.2
  · exact any_cast (q := (RX0, TX0, 5)) rfl (by decide) hr.1 hr.2.1 hr.2.2
  · exact any_cast (q := (RX9, TX9, 5)) rfl (by decide) hr.1 hr.2.1 hr.2.2
  · exact any_cast (q := (RX3, TX3, 5)) rfl (by decide) hr.1 hr.2.1 hr.2.2
  · exact any_cast (q := (RX1, TX1, 5)) rfl (by decide) hr.1 hr.2.1 hr.2.2
theorem c_X8_copyFrom {B C : Nat} (hd : 2 ≤ d) (hS : St g P B) (hC : St g P C) (hA : Apt B C) (hB : Sz I B) (hZ : Sz I C) (hp : ∀ j, j < 8 → RQ g P C j) (hin : ∀ j, j < 8 → I (C + 7) j = 0 ∨ I (C + 7) j = 1) (hΦ : Φ none g (cpP P B C) (cpS I B C)) : MM Γ mX8_copyFrom d 0 0 [.ref B, .ref C] g P I Φ := by
  refine MM_entry [some _, some _, none] (by decide) (Nat.le_of_ble_eq_true rfl) rfl ?_
  have hA' : B + 24 ≤ C ∨ C + 24 ≤ B := hA
  have s1 := hS.c
  have z1 := hC.c
  have s2 := hS.wp
  have z2 := hC.wp
  have s3 := hS.wi
  have z3 := hC.wi
  have s4 := s3.1
  obtain ⟨k8, a8, b8⟩ : ∃ k, I (B + 8) 1 = nI k ∧ k ≤ 50 := hB.2 (10, 8, 50) (by decide)
  obtain ⟨m8, x8, y8⟩ : ∃ k, I (C + 8) 1 = nI k ∧ k ≤ 50 := hZ.2 (10, 8, 50) (by decide)
  obtain ⟨k10, a10, b10⟩ : ∃ k, I (B + 10) 1 = nI k ∧ k ≤ 50 := hB.2 (11, 10, 50) (by decide)
  obtain ⟨m10, x10, y10⟩ : ∃ k, I (C + 10) 1 = nI k ∧ k ≤ 50 := hZ.2 (11, 10, 50) (by decide)
  obtain ⟨k12, a12, b12⟩ : ∃ k, I (B + 12) 1 = nI k ∧ k ≤ 50 := hB.2 (12, 12, 50) (by decide)
  obtain ⟨m12, x12, y12⟩ : ∃ k, I (C + 12) 1 = nI k ∧ k ≤ 50 := hZ.2 (12, 12, 50) (by decide)
  obtain ⟨k14, a14, b14⟩ : ∃ k, I (B + 14) 1 = nI k ∧ k ≤ 8 := hB.2 (13, 14, 8) (by decide)
  obtain ⟨m14, x14, y14⟩ : ∃ k, I (C + 14) 1 = nI k ∧ k ≤ 8 := hZ.2 (13, 14, 8) (by decide)
  obtain ⟨k16, a16, b16⟩ : ∃ k, I (B + 16) 1 = nI k ∧ k ≤ 8 := hB.2 (14, 16, 8) (by decide)
  obtain ⟨m16, x16, y16⟩ : ∃ k, I (C + 16) 1 = nI k ∧ k ≤ 8 := hZ.2 (14, 16, 8) (by decide)
  obtain ⟨k18, a18, b18⟩ : ∃ k, I (B + 18) 1 = nI k ∧ k ≤ 5 := hB.2 (15, 18, 5) (by decide)
  obtain ⟨m18, x18, y18⟩ : ∃ k, I (C + 18) 1 = nI k ∧ k ≤ 5 := hZ.2 (15, 18, 5) (by decide)
  obtain ⟨k20, a20, b20⟩ : ∃ k, I (B + 20) 1 = nI k ∧ k ≤ 5 := hB.2 (16, 20, 5) (by decide)
  obtain ⟨m20, x20, y20⟩ : ∃ k, I (C + 20) 1 = nI k ∧ k ≤ 5 := hZ.2 (16, 20, 5) (by decide)
  obtain ⟨k22, a22, b22⟩ : ∃ k, I (B + 22) 1 = nI k ∧ k ≤ 20 := hB.2 (17, 22, 20) (by decide)
  obtain ⟨m22, x22, y22⟩ : ∃ k, I (C + 22) 1 = nI k ∧ k ≤ 20 := hZ.2 (17, 22, 20) (by decide)
  have hS2 : St g (cpP P B C) B := St_upd hS (fun k h1 h2 => by omega)
  have hC2 : St g (cpP P B C) C := St_upd hC (fun k h1 h2 => by omega)
  have tail : E Γ mX8_copyFrom d 0 0 (QM Γ 0 0 Φ) 0 0 31 [some (.ref B), some (.ref C), some (.int 8)] [] g (cpP P B C) (cpS1 I B C) := by
    have e7 : cpS1 I B C C 7 = I C 7 := by rw [cpS1_o (by omega)]
    have e8 : ∀ v, (u2 (cpS1 I B C) B 7 v) C 8 = I C 8 := fun v => by rw [u2_oth _ (by omega), cpS1_o (by omega)]
    have e9 : ∀ v v', (u2 (u2 (cpS1 I B C) B 7 v) B 8 v') C 9 = I C 9 := fun v v' => by rw [u2_oth _ (by omega), u2_oth _ (by omega), cpS1_o (by omega)]
    have hS2c := hS2.c
    refine E_aload_n (i := 0) dX8_copyFrom_31 rfl rfl ?_
    refine E_aload_n (i := 1) dX8_copyFrom_32 rfl rfl ?_
    refine E_gi dX8_copyFrom_33 gf_X8_38_8 rfl (by assumption) ?_
    rw [e7]
    refine E_pi dX8_copyFrom_36 gf_X8_38_8 rfl (by assumption) ?_
    refine E_aload_n (i := 0) dX8_copyFrom_39 rfl rfl ?_
    refine E_aload_n (i := 1) dX8_copyFrom_40 rfl rfl ?_
    refine E_gi dX8_copyFrom_41 gf_X8_42_8 rfl (by assumption) ?_
    rw [e8]
    refine E_pi dX8_copyFrom_44 gf_X8_42_8 rfl (by assumption) ?_
    refine E_aload_n (i := 0) dX8_copyFrom_47 rfl rfl ?_
    refine E_aload_n (i := 1) dX8_copyFrom_48 rfl rfl ?_
    refine E_gi dX8_copyFrom_49 gf_X8_45_8 rfl (by assumption) ?_
    rw [e9]
    show E Γ mX8_copyFrom d 0 0 (QM Γ 0 0 Φ) 0 0 52 [some (.ref B), some (.ref C), some (.int 8)] [.int (I C 9), .ref B] g (cpP P B C) (u2 (u2 (cpS1 I B C) B 7 (I C 7)) B 8 (I C 8))
    refine E_pi dX8_copyFrom_52 gf_X8_45_8 rfl (by assumption) ?_
    show E Γ mX8_copyFrom d 0 0 (QM Γ 0 0 Φ) 0 0 55 [some (.ref B), some (.ref C), some (.int 8)] [] g (cpP P B C) (cpS2 I B C)
    refine E_aload_n (i := 0) dX8_copyFrom_55 rfl rfl ?_
    refine E_gr dX8_copyFrom_56 gf_X8_53_8 rfl (by assumption) (hS2.tape).1 ?_
    refine E_aload_n (i := 1) dX8_copyFrom_59 rfl rfl ?_
    refine E_gr dX8_copyFrom_60 gf_X8_53_8 rfl (by assumption) (hC2.tape).1 ?_
    refine k_X8_copyFrom_63 (mc' := 0) (ms' := 0) (rc := 0) (rs := 0) (by omega) (Nat.le_of_ble_eq_true rfl) (hS2.tape).2.1 (c_rowCopy (sl := 10) (o := 8) (n := 50) (by omega) hS2 hC2 hA (by decide) (k := k8) (k' := m8) (by rw [cpS2_o (by omega)]; exact a8) b8 (by rw [cpS2_o (by omega)]; exact x8) y8 ?_)
    refine E_aload_n (i := 0) dX8_copyFrom_66 rfl rfl ?_
    refine E_gr dX8_copyFrom_67 gf_X8_57_8 rfl (by assumption) (hS2.wear).1 ?_
    refine E_aload_n (i := 1) dX8_copyFrom_70 rfl rfl ?_
    refine E_gr dX8_copyFrom_71 gf_X8_57_8 rfl (by assumption) (hC2.wear).1 ?_
    refine k_X8_copyFrom_74 (mc' := 0) (ms' := 0) (rc := 0) (rs := 0) (by omega) (Nat.le_of_ble_eq_true rfl) (hS2.wear).2.1 (c_rowCopy (sl := 11) (o := 10) (n := 50) (by omega) hS2 hC2 hA (by decide) (k := k10) (k' := m10) (by rw [cpR_o (by omega) (by omega), cpS2_o (by omega)]; exact a10) b10 (by rw [cpR_o (by omega) (by omega), cpS2_o (by omega)]; exact x10) y10 ?_)
    refine E_aload_n (i := 0) dX8_copyFrom_77 rfl rfl ?_
    refine E_gr dX8_copyFrom_78 gf_X8_60_8 rfl (by assumption) (hS2.goes).1 ?_
    refine E_aload_n (i := 1) dX8_copyFrom_81 rfl rfl ?_
    refine E_gr dX8_copyFrom_82 gf_X8_60_8 rfl (by assumption) (hC2.goes).1 ?_
    refine k_X8_copyFrom_85 (mc' := 0) (ms' := 0) (rc := 0) (rs := 0) (by omega) (Nat.le_of_ble_eq_true rfl) (hS2.goes).2.1 (c_rowCopy (sl := 12) (o := 12) (n := 50) (by omega) hS2 hC2 hA (by decide) (k := k12) (k' := m12) (by rw [cpR_o (by omega) (by omega), cpR_o (by omega) (by omega), cpS2_o (by omega)]; exact a12) b12 (by rw [cpR_o (by omega) (by omega), cpR_o (by omega) (by omega), cpS2_o (by omega)]; exact x12) y12 ?_)
    refine E_aload_n (i := 0) dX8_copyFrom_88 rfl rfl ?_
    refine E_gr dX8_copyFrom_89 gf_X8_63_8 rfl (by assumption) (hS2.str).1 ?_
    refine E_aload_n (i := 1) dX8_copyFrom_92 rfl rfl ?_
    refine E_gr dX8_copyFrom_93 gf_X8_63_8 rfl (by assumption) (hC2.str).1 ?_
    refine k_X8_copyFrom_96 (mc' := 0) (ms' := 0) (rc := 0) (rs := 0) (by omega) (Nat.le_of_ble_eq_true rfl) (hS2.str).2.1 (c_rowCopy (sl := 13) (o := 14) (n := 8) (by omega) hS2 hC2 hA (by decide) (k := k14) (k' := m14) (by rw [cpR_o (by omega) (by omega), cpR_o (by omega) (by omega), cpR_o (by omega) (by omega), cpS2_o (by omega)]; exact a14) b14 (by rw [cpR_o (by omega) (by omega), cpR_o (by omega) (by omega), cpR_o (by omega) (by omega), cpS2_o (by omega)]; exact x14) y14 ?_)
    refine E_aload_n (i := 0) dX8_copyFrom_99 rfl rfl ?_
    refine E_gr dX8_copyFrom_100 gf_X8_66_8 rfl (by assumption) (hS2.thi).1 ?_
    refine E_aload_n (i := 1) dX8_copyFrom_103 rfl rfl ?_
    refine E_gr dX8_copyFrom_104 gf_X8_66_8 rfl (by assumption) (hC2.thi).1 ?_
    refine k_X8_copyFrom_107 (mc' := 0) (ms' := 0) (rc := 0) (rs := 0) (by omega) (Nat.le_of_ble_eq_true rfl) (hS2.thi).2.1 (c_rowCopy (sl := 14) (o := 16) (n := 8) (by omega) hS2 hC2 hA (by decide) (k := k16) (k' := m16) (by rw [cpR_o (by omega) (by omega), cpR_o (by omega) (by omega), cpR_o (by omega) (by omega), cpR_o (by omega) (by omega), cpS2_o (by omega)]; exact a16) b16 (by rw [cpR_o (by omega) (by omega), cpR_o (by omega) (by omega), cpR_o (by omega) (by omega), cpR_o (by omega) (by omega), cpS2_o (by omega)]; exact x16) y16 ?_)
    refine E_aload_n (i := 0) dX8_copyFrom_110 rfl rfl ?_
    refine E_gr dX8_copyFrom_111 gf_X8_69_8 rfl (by assumption) (hS2.tim).1 ?_
    refine E_aload_n (i := 1) dX8_copyFrom_114 rfl rfl ?_
    refine E_gr dX8_copyFrom_115 gf_X8_69_8 rfl (by assumption) (hC2.tim).1 ?_
    refine k_X8_copyFrom_118 (mc' := 0) (ms' := 0) (rc := 0) (rs := 0) (by omega) (Nat.le_of_ble_eq_true rfl) (hS2.tim).2.1 (c_rowCopy (sl := 15) (o := 18) (n := 5) (by omega) hS2 hC2 hA (by decide) (k := k18) (k' := m18) (by rw [cpR_o (by omega) (by omega), cpR_o (by omega) (by omega), cpR_o (by omega) (by omega), cpR_o (by omega) (by omega), cpR_o (by omega) (by omega), cpS2_o (by omega)]; exact a18) b18 (by rw [cpR_o (by omega) (by omega), cpR_o (by omega) (by omega), cpR_o (by omega) (by omega), cpR_o (by omega) (by omega), cpR_o (by omega) (by omega), cpS2_o (by omega)]; exact x18) y18 ?_)
    refine E_aload_n (i := 0) dX8_copyFrom_121 rfl rfl ?_
    refine E_gr dX8_copyFrom_122 gf_X8_72_8 rfl (by assumption) (hS2.sid).1 ?_
    refine E_aload_n (i := 1) dX8_copyFrom_125 rfl rfl ?_
    refine E_gr dX8_copyFrom_126 gf_X8_72_8 rfl (by assumption) (hC2.sid).1 ?_
    refine k_X8_copyFrom_129 (mc' := 0) (ms' := 0) (rc := 0) (rs := 0) (by omega) (Nat.le_of_ble_eq_true rfl) (hS2.sid).2.1 (c_rowCopy (sl := 16) (o := 20) (n := 5) (by omega) hS2 hC2 hA (by decide) (k := k20) (k' := m20) (by rw [cpR_o (by omega) (by omega), cpR_o (by omega) (by omega), cpR_o (by omega) (by omega), cpR_o (by omega) (by omega), cpR_o (by omega) (by omega), cpR_o (by omega) (by omega), cpS2_o (by omega)]; exact a20) b20 (by rw [cpR_o (by omega) (by omega), cpR_o (by omega) (by omega), cpR_o (by omega) (by omega), cpR_o (by omega) (by omega), cpR_o (by omega) (by omega), cpR_o (by omega) (by omega), cpS2_o (by omega)]; exact x20) y20 ?_)
    refine E_aload_n (i := 0) dX8_copyFrom_132 rfl rfl ?_
    refine E_gr dX8_copyFrom_133 gf_X8_75_8 rfl (by assumption) (hS2.wai).1 ?_
    refine E_aload_n (i := 1) dX8_copyFrom_136 rfl rfl ?_
    refine E_gr dX8_copyFrom_137 gf_X8_75_8 rfl (by assumption) (hC2.wai).1 ?_
    refine k_X8_copyFrom_140 (mc' := 0) (ms' := 0) (rc := 0) (rs := 0) (by omega) (Nat.le_of_ble_eq_true rfl) (hS2.wai).2.1 (c_rowCopy (sl := 17) (o := 22) (n := 20) (by omega) hS2 hC2 hA (by decide) (k := k22) (k' := m22) (by rw [cpR_o (by omega) (by omega), cpR_o (by omega) (by omega), cpR_o (by omega) (by omega), cpR_o (by omega) (by omega), cpR_o (by omega) (by omega), cpR_o (by omega) (by omega), cpR_o (by omega) (by omega), cpS2_o (by omega)]; exact a22) b22 (by rw [cpR_o (by omega) (by omega), cpR_o (by omega) (by omega), cpR_o (by omega) (by omega), cpR_o (by omega) (by omega), cpR_o (by omega) (by omega), cpR_o (by omega) (by omega), cpR_o (by omega) (by omega), cpS2_o (by omega)]; exact x22) y22 ?_)
    refine E_vret dX8_copyFrom_143 rfl ?_
    exact hΦ
  have loop : ∀ (N j : Nat) (x : Int32) (Q : HP) (J : HI), 8 - j ≤ N → j ≤ 8 → x = nI j → Q = ur P (B + 3) (cpo (P (C + 3)) (P (B + 3)) j) → J = cpRd (cpS0 I B C) B C j → E Γ mX8_copyFrom d 0 0 (QM Γ 0 0 Φ) 0 0 13 [some (.ref B), some (.ref C), some (.int x)] [] g Q J := by
    intro N
    induction N with
    | zero =>
      intro j x Q J hN hj hx hQ hJ
      have : j = 8 := by omega
      subst this
      subst hx
      subst hQ
      subst hJ
      refine E_iload_n (i := 2) dX8_copyFrom_13 rfl rfl ?_
      refine E_bipush (v := 8) dX8_copyFrom_14 (by decide) ?_
      refine E_icmp_ge (tgt := 31) dX8_copyFrom_16 (by decide) (fun c_16 => ?_) (fun c_16 => absurd (by decide) c_16)
      exact tail
    | succ N ih =>
      intro j x Q J hN hj hx hQ hJ
      by_cases hjk : j = 8
      · subst hjk
        subst hx
        subst hQ
        subst hJ
        refine E_iload_n (i := 2) dX8_copyFrom_13 rfl rfl ?_
        refine E_bipush (v := 8) dX8_copyFrom_14 (by decide) ?_
        refine E_icmp_ge (tgt := 31) dX8_copyFrom_16 (by decide) (fun c_16 => ?_) (fun c_16 => absurd (by decide) c_16)
        exact tail
      · have hSq : St g Q B := by rw [hQ]; exact St_upd hS (fun k h1 h2 => by omega)
        have hCq : St g Q C := by rw [hQ]; exact St_upd hC (fun k h1 h2 => by omega)
        have q3 : Q (C + 3) = P (C + 3) := by rw [hQ]; exact ur_n _ _ (by omega)
        have hRP : RP Γ g Q J C j := by
          rcases hp j (by omega) with h | ⟨r, ci, h1, h2, h3⟩
          · exact Or.inl (by rw [q3]; exact h)
          · exact Or.inr ⟨r, by rw [q3]; exact h1, any_ride h2 h3⟩
        have jc : ∀ a, a < C + 24 → C ≤ a → J a = I a := fun a g1 g2 => by rw [hJ, cpRd_o (by omega), cpS0_o (by omega)]
        refine E_iload_n (i := 2) dX8_copyFrom_13 rfl rfl ?_
        refine E_bipush (v := 8) dX8_copyFrom_14 (by decide) ?_
        refine E_icmp_ge (tgt := 31) dX8_copyFrom_16 (by decide) (fun c_16 => absurd c_16 (by rw [hx]; exact nI_ge (b := 8) (by omega) (by omega))) (fun c_16 => ?_)
        refine E_aload_n (i := 0) dX8_copyFrom_19 rfl rfl ?_
        refine E_aload_n (i := 1) dX8_copyFrom_20 rfl rfl ?_
        refine E_iload_n (i := 2) dX8_copyFrom_21 rfl rfl ?_
        refine k_X8_copyFrom_22 (mc' := 0) (ms' := 0) (rc := 0) (rs := 0) (by omega) (Nat.le_of_ble_eq_true rfl) (by assumption) (c_X8_copyRide hSq hCq hx (by omega) hRP (by rw [jc _ (by omega) (by omega)]; exact hin j (by omega)) (fun a b g1 g2 => by omega) ?_)
        refine E_incC (c := 1) dX8_copyFrom_25 rfl (by decide) (by decide) rfl ?_
        refine E_lv (lv' := [_, _, _]) rfl ?_
        refine E_goto (tgt := 13) dX8_copyFrom_28 (by decide) ?_
        refine ih (j + 1) _ _ _ (by omega) (by omega) (by rw [hx, nI_1]) ?_ ?_
        · rw [q3, hQ]
          unfold u2
          rw [ur_s, cpo_s, ur_ur]
        · have k4 : J (C + 4) = cpS0 I B C (C + 4) := by rw [hJ, cpRd_o (by omega)]
          have k5 : J (C + 5) = cpS0 I B C (C + 5) := by rw [hJ, cpRd_o (by omega)]
          have k6 : J (C + 6) = cpS0 I B C (C + 6) := by rw [hJ, cpRd_o (by omega)]
          have k7 : J (C + 7) = cpS0 I B C (C + 7) := by rw [hJ, cpRd_o (by omega)]
          rw [k4, k5, k6, k7, hJ, cpRd_s]
  refine E_aload_n (i := 0) dX8_copyFrom_0 rfl rfl ?_
  refine E_gr dX8_copyFrom_1 gf_X8_12_8 rfl (by assumption) (by assumption) ?_
  refine E_aload_n (i := 1) dX8_copyFrom_4 rfl rfl ?_
  refine E_gr dX8_copyFrom_5 gf_X8_12_8 rfl (by assumption) (by assumption) ?_
  refine k_X8_copyFrom_8 (mc' := 0) (ms' := 0) (rc := 0) (rs := 0) (by omega) (Nat.le_of_ble_eq_true rfl) (by assumption) (c_X10_copyFrom (by omega) s3 z3 ?_)
  refine E_iconst (v := 0) dX8_copyFrom_11 (by decide) ?_
  refine E_istore_nC (i := 2) dX8_copyFrom_12 rfl (by decide) rfl ?_
  refine E_lv (lv' := [_, _, _]) rfl ?_
  exact loop 8 0 _ _ _ (by omega) (by omega) rfl (by rw [cpo_0, ur_id]) (by rw [cpRd_0]; rfl)
end
