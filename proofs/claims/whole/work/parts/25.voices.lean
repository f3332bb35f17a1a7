/-! voices of the class's rides -/
/-- a number more in the trace -/
def tadd (I : HI) (v : Int32) : HI := if (I 94 1).toNatClampNeg < 40 then u2 (u2 I 95 (I 94 1).toNatClampNeg v) 94 1 (I 94 1 + 1) else I
def tads (I : HI) (l : List Int32) : HI := l.foldl tadd I
def TrOK (I : HI) : Prop := ∃ k, I 94 1 = nI k ∧ k ≤ 40
theorem tadd_o {I : HI} {v : Int32} {a : Nat} (h : a ≠ 94) (h2 : a ≠ 95) : tadd I v a = I a := by
  unfold tadd
  split
  · rw [u2_oth _ h, u2_oth _ h2]
  · rfl
theorem tadd_ok {I : HI} {v : Int32} (h : TrOK I) : TrOK (tadd I v) := by
  obtain ⟨k, h1, h2⟩ := h
  unfold tadd
  rw [h1, nI_clamp (by omega)]
  split
  · exact ⟨k + 1, by rw [u2_s, nI_1], by omega⟩
  · exact ⟨k, h1, h2⟩
theorem tads_o {a : Nat} (h : a ≠ 94) (h2 : a ≠ 95) : ∀ (l : List Int32) (I : HI), tads I l a = I a
  | [], I => rfl
  | v :: l, I => by
    show tads (tadd I v) l a = I a
    rw [tads_o h h2 l (tadd I v), tadd_o h h2]
theorem tads_ok : ∀ (l : List Int32) {I : HI}, TrOK I → TrOK (tads I l)
  | [], I, h => h
  | v :: l, I, h => tads_ok l (I := tadd I v) (tadd_ok h)
theorem tads_app (I : HI) (l m : List Int32) : tads (tads I l) m = tads I (l ++ m) := by
  unfold tads
  rw [List.foldl_append]
theorem tads_1 (I : HI) (v : Int32) : tadd I v = tads I [v] := rfl
section
variable {Γ : GE} {d : Nat} {g : Sh} {P : HP} {I : HI} {Φ : Option Value → Sh → HP → HI → Prop}
theorem c_tadd {v : Int32} (hR : RS g P 94 95 40) (hT : TrOK I) (hΦ : Φ none g P (tads I [v])) : MM Γ mX7_add d 0 0 [.ref 94, .int v] g P I Φ := by
  obtain ⟨k, h1, h2⟩ := hT
  refine c_X7_add (hR.w h1 h2 (by omega)) ?_
  have e : tads I [v] = if k < 40 then u2 (u2 I 95 k v) 94 1 (nI (k + 1)) else I := by
    show tadd I v = _
    unfold tadd
    rw [h1, nI_clamp (by omega), nI_1]
  rw [← e]
  exact hΦ
/-- a ride's object -/
def Rd (g : Sh) (P : HP) (r ci : Nat) : Prop := Cel g r ci ∧ P r 4 = some 94 ∧ r ≠ 94 ∧ r ≠ 95 ∧ RS g P 94 95 40
theorem v_X5_hangs_5 {r : Nat} {x : Int32} (hd : 1 ≤ d) (hr : Rd g P r 5) (hT : TrOK I) (hΦ : Φ (some (.int (x + I r 1))) g P (tads I [10])) : MM Γ mX5_hangs d 0 0 [.ref r, .int x] g P I Φ := by
  refine MM_entry [some _, some _] (by decide) (Nat.le_of_ble_eq_true rfl) rfl ?_
  have hr0 := hr
  obtain ⟨r1, r2, r3, r4, r5⟩ := hr
  have r6 := r5.1
  refine E_aload_n (i := 0) dX5_hangs_0 rfl rfl ?_
  refine E_gr dX5_hangs_1 gf_X5_24_5 rfl (by assumption) (by assumption) ?_
  refine E_bipush (v := 10) dX5_hangs_4 (by decide) ?_
  refine k_X5_hangs_6 (mc' := 0) (ms' := 0) (rc := 0) (rs := 0) (by omega) (Nat.le_of_ble_eq_true rfl) (by assumption) (c_tadd r5 hT ?_)
  refine E_iload_n (i := 1) dX5_hangs_9 rfl rfl ?_
  refine E_aload_n (i := 0) dX5_hangs_10 rfl rfl ?_
  refine E_gi dX5_hangs_11 gf_X5_15_5 rfl (by assumption) ?_
  refine E_iadd dX5_hangs_14 ?_
  refine E_iret dX5_hangs_15 rfl ?_
  simp only [tads_app, tads_o r3 r4, List.cons_append, List.nil_append]
  exact hΦ
theorem v_X5_hangs_6 {r : Nat} {x : Int32} (hd : 1 ≤ d) (hr : Rd g P r 6) (hT : TrOK I) (hΦ : Φ (some (.int (x + I r 1))) g P (tads I [10])) : MM Γ mX5_hangs d 0 0 [.ref r, .int x] g P I Φ := by
  refine MM_entry [some _, some _] (by decide) (Nat.le_of_ble_eq_true rfl) rfl ?_
  have hr0 := hr
  obtain ⟨r1, r2, r3, r4, r5⟩ := hr
  have r6 := r5.1
  refine E_aload_n (i := 0) dX5_hangs_0 rfl rfl ?_
  refine E_gr dX5_hangs_1 gf_X5_24_6 rfl (by assumption) (by assumption) ?_
  refine E_bipush (v := 10) dX5_hangs_4 (by decide) ?_
  refine k_X5_hangs_6 (mc' := 0) (ms' := 0) (rc := 0) (rs := 0) (by omega) (Nat.le_of_ble_eq_true rfl) (by assumption) (c_tadd r5 hT ?_)
  refine E_iload_n (i := 1) dX5_hangs_9 rfl rfl ?_
  refine E_aload_n (i := 0) dX5_hangs_10 rfl rfl ?_
  refine E_gi dX5_hangs_11 gf_X5_15_6 rfl (by assumption) ?_
  refine E_iadd dX5_hangs_14 ?_
  refine E_iret dX5_hangs_15 rfl ?_
  simp only [tads_app, tads_o r3 r4, List.cons_append, List.nil_append]
  exact hΦ
theorem v_X5_hangs_2 {r : Nat} {x : Int32} (hd : 1 ≤ d) (hr : Rd g P r 2) (hT : TrOK I) (hΦ : Φ (some (.int (x + I r 1))) g P (tads I [10])) : MM Γ mX5_hangs d 0 0 [.ref r, .int x] g P I Φ := by
  refine MM_entry [some _, some _] (by decide) (Nat.le_of_ble_eq_true rfl) rfl ?_
  have hr0 := hr
  obtain ⟨r1, r2, r3, r4, r5⟩ := hr
  have r6 := r5.1
  refine E_aload_n (i := 0) dX5_hangs_0 rfl rfl ?_
  refine E_gr dX5_hangs_1 gf_X5_24_2 rfl (by assumption) (by assumption) ?_
  refine E_bipush (v := 10) dX5_hangs_4 (by decide) ?_
  refine k_X5_hangs_6 (mc' := 0) (ms' := 0) (rc := 0) (rs := 0) (by omega) (Nat.le_of_ble_eq_true rfl) (by assumption) (c_tadd r5 hT ?_)
  refine E_iload_n (i := 1) dX5_hangs_9 rfl rfl ?_
  refine E_aload_n (i := 0) dX5_hangs_10 rfl rfl ?_
  refine E_gi dX5_hangs_11 gf_X5_15_2 rfl (by assumption) ?_
  refine E_iadd dX5_hangs_14 ?_
  refine E_iret dX5_hangs_15 rfl ?_
  simp only [tads_app, tads_o r3 r4, List.cons_append, List.nil_append]
  exact hΦ
theorem v_X5_hangs_0 {r : Nat} {x : Int32} (hd : 1 ≤ d) (hr : Rd g P r 0) (hT : TrOK I) (hΦ : Φ (some (.int (x + I r 1))) g P (tads I [10])) : MM Γ mX5_hangs d 0 0 [.ref r, .int x] g P I Φ := by
  refine MM_entry [some _, some _] (by decide) (Nat.le_of_ble_eq_true rfl) rfl ?_
  have hr0 := hr
  obtain ⟨r1, r2, r3, r4, r5⟩ := hr
  have r6 := r5.1
  refine E_aload_n (i := 0) dX5_hangs_0 rfl rfl ?_
  refine E_gr dX5_hangs_1 gf_X5_24_0 rfl (by assumption) (by assumption) ?_
  refine E_bipush (v := 10) dX5_hangs_4 (by decide) ?_
  refine k_X5_hangs_6 (mc' := 0) (ms' := 0) (rc := 0) (rs := 0) (by omega) (Nat.le_of_ble_eq_true rfl) (by assumption) (c_tadd r5 hT ?_)
  refine E_iload_n (i := 1) dX5_hangs_9 rfl rfl ?_
  refine E_aload_n (i := 0) dX5_hangs_10 rfl rfl ?_
  refine E_gi dX5_hangs_11 gf_X5_15_0 rfl (by assumption) ?_
  refine E_iadd dX5_hangs_14 ?_
  refine E_iret dX5_hangs_15 rfl ?_
  simp only [tads_app, tads_o r3 r4, List.cons_append, List.nil_append]
  exact hΦ
theorem v_X5_hangs_9 {r : Nat} {x : Int32} (hd : 1 ≤ d) (hr : Rd g P r 9) (hT : TrOK I) (hΦ : Φ (some (.int (x + I r 1))) g P (tads I [10])) : MM Γ mX5_hangs d 0 0 [.ref r, .int x] g P I Φ := by
  refine MM_entry [some _, some _] (by decide) (Nat.le_of_ble_eq_true rfl) rfl ?_
  have hr0 := hr
  obtain ⟨r1, r2, r3, r4, r5⟩ := hr
  have r6 := r5.1
  refine E_aload_n (i := 0) dX5_hangs_0 rfl rfl ?_
  refine E_gr dX5_hangs_1 gf_X5_24_9 rfl (by assumption) (by assumption) ?_
  refine E_bipush (v := 10) dX5_hangs_4 (by decide) ?_
  refine k_X5_hangs_6 (mc' := 0) (ms' := 0) (rc := 0) (rs := 0) (by omega) (Nat.le_of_ble_eq_true rfl) (by assumption) (c_tadd r5 hT ?_)
  refine E_iload_n (i := 1) dX5_hangs_9 rfl rfl ?_
  refine E_aload_n (i := 0) dX5_hangs_10 rfl rfl ?_
  refine E_gi dX5_hangs_11 gf_X5_15_9 rfl (by assumption) ?_
  refine E_iadd dX5_hangs_14 ?_
  refine E_iret dX5_hangs_15 rfl ?_
  simp only [tads_app, tads_o r3 r4, List.cons_append, List.nil_append]
  exact hΦ
theorem v_X5_hangs_3 {r : Nat} {x : Int32} (hd : 1 ≤ d) (hr : Rd g P r 3) (hT : TrOK I) (hΦ : Φ (some (.int (x + I r 1))) g P (tads I [10])) : MM Γ mX5_hangs d 0 0 [.ref r, .int x] g P I Φ := by
  refine MM_entry [some _, some _] (by decide) (Nat.le_of_ble_eq_true rfl) rfl ?_
  have hr0 := hr
  obtain ⟨r1, r2, r3, r4, r5⟩ := hr
  have r6 := r5.1
  refine E_aload_n (i := 0) dX5_hangs_0 rfl rfl ?_
  refine E_gr dX5_hangs_1 gf_X5_24_3 rfl (by assumption) (by assumption) ?_
  refine E_bipush (v := 10) dX5_hangs_4 (by decide) ?_
  refine k_X5_hangs_6 (mc' := 0) (ms' := 0) (rc := 0) (rs := 0) (by omega) (Nat.le_of_ble_eq_true rfl) (by assumption) (c_tadd r5 hT ?_)
  refine E_iload_n (i := 1) dX5_hangs_9 rfl rfl ?_
  refine E_aload_n (i := 0) dX5_hangs_10 rfl rfl ?_
  refine E_gi dX5_hangs_11 gf_X5_15_3 rfl (by assumption) ?_
  refine E_iadd dX5_hangs_14 ?_
  refine E_iret dX5_hangs_15 rfl ?_
  simp only [tads_app, tads_o r3 r4, List.cons_append, List.nil_append]
  exact hΦ
theorem v_X5_hangs_1 {r : Nat} {x : Int32} (hd : 1 ≤ d) (hr : Rd g P r 1) (hT : TrOK I) (hΦ : Φ (some (.int (x + I r 1))) g P (tads I [10])) : MM Γ mX5_hangs d 0 0 [.ref r, .int x] g P I Φ := by
  refine MM_entry [some _, some _] (by decide) (Nat.le_of_ble_eq_true rfl) rfl ?_
  have hr0 := hr
  obtain ⟨r1, r2, r3, r4, r5⟩ := hr
  have r6 := r5.1
  refine E_aload_n (i := 0) dX5_hangs_0 rfl rfl ?_
  refine E_gr dX5_hangs_1 gf_X5_24_1 rfl (by assumption) (by assumption) ?_
  refine E_bipush (v := 10) dX5_hangs_4 (by decide) ?_
  refine k_X5_hangs_6 (mc' := 0) (ms' := 0) (rc := 0) (rs := 0) (by omega) (Nat.le_of_ble_eq_true rfl) (by assumption) (c_tadd r5 hT ?_)
  refine E_iload_n (i := 1) dX5_hangs_9 rfl rfl ?_
  refine E_aload_n (i := 0) dX5_hangs_10 rfl rfl ?_
  refine E_gi dX5_hangs_11 gf_X5_15_1 rfl (by assumption) ?_
  refine E_iadd dX5_hangs_14 ?_
  refine E_iret dX5_hangs_15 rfl ?_
  simp only [tads_app, tads_o r3 r4, List.cons_append, List.nil_append]
  exact hΦ
theorem v_X2_hangs_2 {r : Nat} {x : Int32} (hd : 2 ≤ d) (hr : Rd g P r 2) (hT : TrOK I) (hΦ : Φ (some (.int ((x + I r 1) * 3))) g P (tads I [30, 10])) : MM Γ mX2_hangs d 0 0 [.ref r, .int x] g P I Φ := by
  refine MM_entry [some _, some _] (by decide) (Nat.le_of_ble_eq_true rfl) rfl ?_
  have hr0 := hr
  obtain ⟨r1, r2, r3, r4, r5⟩ := hr
  have r6 := r5.1
  refine E_aload_n (i := 0) dX2_hangs_0 rfl rfl ?_
  refine E_gr dX2_hangs_1 gf_X2_13_2 rfl (by assumption) (by assumption) ?_
  refine E_bipush (v := 30) dX2_hangs_4 (by decide) ?_
  refine k_X2_hangs_6 (mc' := 0) (ms' := 0) (rc := 0) (rs := 0) (by omega) (Nat.le_of_ble_eq_true rfl) (by assumption) (c_tadd r5 hT ?_)
  refine E_aload_n (i := 0) dX2_hangs_9 rfl rfl ?_
  refine E_iload_n (i := 1) dX2_hangs_10 rfl rfl ?_
  refine k_X2_hangs_11_2 (mc' := 0) (ms' := 0) (rc := 0) (rs := 0) (by omega) (Nat.le_of_ble_eq_true rfl) (by assumption) (v_X5_hangs_2 (by omega) hr0 (tads_ok _ hT) ?_)
  refine E_iconst (v := 3) dX2_hangs_14 (by decide) ?_
  refine E_imul dX2_hangs_15 ?_
  refine E_iret dX2_hangs_16 rfl ?_
  simp only [tads_app, tads_o r3 r4, List.cons_append, List.nil_append]
  exact hΦ
theorem v_X2_hangs_1 {r : Nat} {x : Int32} (hd : 2 ≤ d) (hr : Rd g P r 1) (hT : TrOK I) (hΦ : Φ (some (.int ((x + I r 1) * 3))) g P (tads I [30, 10])) : MM Γ mX2_hangs d 0 0 [.ref r, .int x] g P I Φ := by
  refine MM_entry [some _, some _] (by decide) (Nat.le_of_ble_eq_true rfl) rfl ?_
  have hr0 := hr
  obtain ⟨r1, r2, r3, r4, r5⟩ := hr
  have r6 := r5.1
  refine E_aload_n (i := 0) dX2_hangs_0 rfl rfl ?_
  refine E_gr dX2_hangs_1 gf_X2_13_1 rfl (by assumption) (by assumption) ?_
  refine E_bipush (v := 30) dX2_hangs_4 (by decide) ?_
  refine k_X2_hangs_6 (mc' := 0) (ms' := 0) (rc := 0) (rs := 0) (by omega) (Nat.le_of_ble_eq_true rfl) (by assumption) (c_tadd r5 hT ?_)
  refine E_aload_n (i := 0) dX2_hangs_9 rfl rfl ?_
  refine E_iload_n (i := 1) dX2_hangs_10 rfl rfl ?_
  refine k_X2_hangs_11_1 (mc' := 0) (ms' := 0) (rc := 0) (rs := 0) (by omega) (Nat.le_of_ble_eq_true rfl) (by assumption) (v_X5_hangs_1 (by omega) hr0 (tads_ok _ hT) ?_)
  refine E_iconst (v := 3) dX2_hangs_14 (by decide) ?_
  refine E_imul dX2_hangs_15 ?_
  refine E_iret dX2_hangs_16 rfl ?_
  simp only [tads_app, tads_o r3 r4, List.cons_append, List.nil_append]
  exact hΦ
theorem v_X1_hangs_1 {r : Nat} {x : Int32} (hd : 3 ≤ d) (hr : Rd g P r 1) (hT : TrOK I) (hΦ : Φ (some (.int (((x + 1) + I r 1) * 3))) g P (tads I [70, 30, 10])) : MM Γ mX1_hangs d 0 0 [.ref r, .int x] g P I Φ := by
  refine MM_entry [some _, some _] (by decide) (Nat.le_of_ble_eq_true rfl) rfl ?_
  have hr0 := hr
  obtain ⟨r1, r2, r3, r4, r5⟩ := hr
  have r6 := r5.1
  refine E_aload_n (i := 0) dX1_hangs_0 rfl rfl ?_
  refine E_gr dX1_hangs_1 gf_X1_11_1 rfl (by assumption) (by assumption) ?_
  refine E_bipush (v := 70) dX1_hangs_4 (by decide) ?_
  refine k_X1_hangs_6 (mc' := 0) (ms' := 0) (rc := 0) (rs := 0) (by omega) (Nat.le_of_ble_eq_true rfl) (by assumption) (c_tadd r5 hT ?_)
  refine E_aload_n (i := 0) dX1_hangs_9 rfl rfl ?_
  refine E_iload_n (i := 1) dX1_hangs_10 rfl rfl ?_
  refine E_iconst (v := 1) dX1_hangs_11 (by decide) ?_
  refine E_iadd dX1_hangs_12 ?_
  refine k_X1_hangs_13_1 (mc' := 0) (ms' := 0) (rc := 0) (rs := 0) (by omega) (Nat.le_of_ble_eq_true rfl) (by assumption) (v_X2_hangs_1 (by omega) hr0 (tads_ok _ hT) ?_)
  refine E_iret dX1_hangs_16 rfl ?_
  simp only [tads_app, tads_o r3 r4, List.cons_append, List.nil_append]
  exact hΦ
theorem v_X5_bears_5 {r : Nat} {x : Int32} (hd : 1 ≤ d) (hr : Rd g P r 5) (hT : TrOK I) (hΦ : Φ (some (.int (x - I r 3))) g P (tads I [12])) : MM Γ mX5_bears d 0 0 [.ref r, .int x] g P I Φ := by
  refine MM_entry [some _, some _] (by decide) (Nat.le_of_ble_eq_true rfl) rfl ?_
  have hr0 := hr
  obtain ⟨r1, r2, r3, r4, r5⟩ := hr
  have r6 := r5.1
  refine E_aload_n (i := 0) dX5_bears_0 rfl rfl ?_
  refine E_gr dX5_bears_1 gf_X5_24_5 rfl (by assumption) (by assumption) ?_
  refine E_bipush (v := 12) dX5_bears_4 (by decide) ?_
  refine k_X5_bears_6 (mc' := 0) (ms' := 0) (rc := 0) (rs := 0) (by omega) (Nat.le_of_ble_eq_true rfl) (by assumption) (c_tadd r5 hT ?_)
  refine E_iload_n (i := 1) dX5_bears_9 rfl rfl ?_
  refine E_aload_n (i := 0) dX5_bears_10 rfl rfl ?_
  refine E_gi dX5_bears_11 gf_X5_21_5 rfl (by assumption) ?_
  refine E_isub dX5_bears_14 ?_
  refine E_iret dX5_bears_15 rfl ?_
  simp only [tads_app, tads_o r3 r4, List.cons_append, List.nil_append]
  exact hΦ
theorem v_X5_bears_6 {r : Nat} {x : Int32} (hd : 1 ≤ d) (hr : Rd g P r 6) (hT : TrOK I) (hΦ : Φ (some (.int (x - I r 3))) g P (tads I [12])) : MM Γ mX5_bears d 0 0 [.ref r, .int x] g P I Φ := by
  refine MM_entry [some _, some _] (by decide) (Nat.le_of_ble_eq_true rfl) rfl ?_
  have hr0 := hr
  obtain ⟨r1, r2, r3, r4, r5⟩ := hr
  have r6 := r5.1
  refine E_aload_n (i := 0) dX5_bears_0 rfl rfl ?_
  refine E_gr dX5_bears_1 gf_X5_24_6 rfl (by assumption) (by assumption) ?_
  refine E_bipush (v := 12) dX5_bears_4 (by decide) ?_
  refine k_X5_bears_6 (mc' := 0) (ms' := 0) (rc := 0) (rs := 0) (by omega) (Nat.le_of_ble_eq_true rfl) (by assumption) (c_tadd r5 hT ?_)
  refine E_iload_n (i := 1) dX5_bears_9 rfl rfl ?_
  refine E_aload_n (i := 0) dX5_bears_10 rfl rfl ?_
  refine E_gi dX5_bears_11 gf_X5_21_6 rfl (by assumption) ?_
  refine E_isub dX5_bears_14 ?_
  refine E_iret dX5_bears_15 rfl ?_
  simp only [tads_app, tads_o r3 r4, List.cons_append, List.nil_append]
  exact hΦ
theorem v_X5_bears_2 {r : Nat} {x : Int32} (hd : 1 ≤ d) (hr : Rd g P r 2) (hT : TrOK I) (hΦ : Φ (some (.int (x - I r 3))) g P (tads I [12])) : MM Γ mX5_bears d 0 0 [.ref r, .int x] g P I Φ := by
  refine MM_entry [some _, some _] (by decide) (Nat.le_of_ble_eq_true rfl) rfl ?_
  have hr0 := hr
  obtain ⟨r1, r2, r3, r4, r5⟩ := hr
  have r6 := r5.1
  refine E_aload_n (i := 0) dX5_bears_0 rfl rfl ?_
  refine E_gr dX5_bears_1 gf_X5_24_2 rfl (by assumption) (by assumption) ?_
  refine E_bipush (v := 12) dX5_bears_4 (by decide) ?_
  refine k_X5_bears_6 (mc' := 0) (ms' := 0) (rc := 0) (rs := 0) (by omega) (Nat.le_of_ble_eq_true rfl) (by assumption) (c_tadd r5 hT ?_)
  refine E_iload_n (i := 1) dX5_bears_9 rfl rfl ?_
  refine E_aload_n (i := 0) dX5_bears_10 rfl rfl ?_
  refine E_gi dX5_bears_11 gf_X5_21_2 rfl (by assumption) ?_
  refine E_isub dX5_bears_14 ?_
  refine E_iret dX5_bears_15 rfl ?_
  simp only [tads_app, tads_o r3 r4, List.cons_append, List.nil_append]
  exact hΦ
theorem v_X5_bears_0 {r : Nat} {x : Int32} (hd : 1 ≤ d) (hr : Rd g P r 0) (hT : TrOK I) (hΦ : Φ (some (.int (x - I r 3))) g P (tads I [12])) : MM Γ mX5_bears d 0 0 [.ref r, .int x] g P I Φ := by
  refine MM_entry [some _, some _] (by decide) (Nat.le_of_ble_eq_true rfl) rfl ?_
  have hr0 := hr
  obtain ⟨r1, r2, r3, r4, r5⟩ := hr
  have r6 := r5.1
  refine E_aload_n (i := 0) dX5_bears_0 rfl rfl ?_
  refine E_gr dX5_bears_1 gf_X5_24_0 rfl (by assumption) (by assumption) ?_
  refine E_bipush (v := 12) dX5_bears_4 (by decide) ?_
  refine k_X5_bears_6 (mc' := 0) (ms' := 0) (rc := 0) (rs := 0) (by omega) (Nat.le_of_ble_eq_true rfl) (by assumption) (c_tadd r5 hT ?_)
  refine E_iload_n (i := 1) dX5_bears_9 rfl rfl ?_
  refine E_aload_n (i := 0) dX5_bears_10 rfl rfl ?_
  refine E_gi dX5_bears_11 gf_X5_21_0 rfl (by assumption) ?_
  refine E_isub dX5_bears_14 ?_
  refine E_iret dX5_bears_15 rfl ?_
  simp only [tads_app, tads_o r3 r4, List.cons_append, List.nil_append]
  exact hΦ
theorem v_X5_bears_9 {r : Nat} {x : Int32} (hd : 1 ≤ d) (hr : Rd g P r 9) (hT : TrOK I) (hΦ : Φ (some (.int (x - I r 3))) g P (tads I [12])) : MM Γ mX5_bears d 0 0 [.ref r, .int x] g P I Φ := by
  refine MM_entry [some _, some _] (by decide) (Nat.le_of_ble_eq_true rfl) rfl ?_
  have hr0 := hr
  obtain ⟨r1, r2, r3, r4, r5⟩ := hr
  have r6 := r5.1
  refine E_aload_n (i := 0) dX5_bears_0 rfl rfl ?_
  refine E_gr dX5_bears_1 gf_X5_24_9 rfl (by assumption) (by assumption) ?_
  refine E_bipush (v := 12) dX5_bears_4 (by decide) ?_
  refine k_X5_bears_6 (mc' := 0) (ms' := 0) (rc := 0) (rs := 0) (by omega) (Nat.le_of_ble_eq_true rfl) (by assumption) (c_tadd r5 hT ?_)
  refine E_iload_n (i := 1) dX5_bears_9 rfl rfl ?_
  refine E_aload_n (i := 0) dX5_bears_10 rfl rfl ?_
  refine E_gi dX5_bears_11 gf_X5_21_9 rfl (by assumption) ?_
  refine E_isub dX5_bears_14 ?_
  refine E_iret dX5_bears_15 rfl ?_
  simp only [tads_app, tads_o r3 r4, List.cons_append, List.nil_append]
  exact hΦ
theorem v_X5_bears_3 {r : Nat} {x : Int32} (hd : 1 ≤ d) (hr : Rd g P r 3) (hT : TrOK I) (hΦ : Φ (some (.int (x - I r 3))) g P (tads I [12])) : MM Γ mX5_bears d 0 0 [.ref r, .int x] g P I Φ := by
  refine MM_entry [some _, some _] (by decide) (Nat.le_of_ble_eq_true rfl) rfl ?_
  have hr0 := hr
  obtain ⟨r1, r2, r3, r4, r5⟩ := hr
  have r6 := r5.1
  refine E_aload_n (i := 0) dX5_bears_0 rfl rfl ?_
  refine E_gr dX5_bears_1 gf_X5_24_3 rfl (by assumption) (by assumption) ?_
  refine E_bipush (v := 12) dX5_bears_4 (by decide) ?_
  refine k_X5_bears_6 (mc' := 0) (ms' := 0) (rc := 0) (rs := 0) (by omega) (Nat.le_of_ble_eq_true rfl) (by assumption) (c_tadd r5 hT ?_)
  refine E_iload_n (i := 1) dX5_bears_9 rfl rfl ?_
  refine E_aload_n (i := 0) dX5_bears_10 rfl rfl ?_
  refine E_gi dX5_bears_11 gf_X5_21_3 rfl (by assumption) ?_
  refine E_isub dX5_bears_14 ?_
  refine E_iret dX5_bears_15 rfl ?_
  simp only [tads_app, tads_o r3 r4, List.cons_append, List.nil_append]
  exact hΦ
theorem v_X5_bears_1 {r : Nat} {x : Int32} (hd : 1 ≤ d) (hr : Rd g P r 1) (hT : TrOK I) (hΦ : Φ (some (.int (x - I r 3))) g P (tads I [12])) : MM Γ mX5_bears d 0 0 [.ref r, .int x] g P I Φ := by
  refine MM_entry [some _, some _] (by decide) (Nat.le_of_ble_eq_true rfl) rfl ?_
  have hr0 := hr
  obtain ⟨r1, r2, r3, r4, r5⟩ := hr
  have r6 := r5.1
  refine E_aload_n (i := 0) dX5_bears_0 rfl rfl ?_
  refine E_gr dX5_bears_1 gf_X5_24_1 rfl (by assumption) (by assumption) ?_
  refine E_bipush (v := 12) dX5_bears_4 (by decide) ?_
  refine k_X5_bears_6 (mc' := 0) (ms' := 0) (rc := 0) (rs := 0) (by omega) (Nat.le_of_ble_eq_true rfl) (by assumption) (c_tadd r5 hT ?_)
  refine E_iload_n (i := 1) dX5_bears_9 rfl rfl ?_
  refine E_aload_n (i := 0) dX5_bears_10 rfl rfl ?_
  refine E_gi dX5_bears_11 gf_X5_21_1 rfl (by assumption) ?_
  refine E_isub dX5_bears_14 ?_
  refine E_iret dX5_bears_15 rfl ?_
  simp only [tads_app, tads_o r3 r4, List.cons_append, List.nil_append]
  exact hΦ
theorem v_X0_bears_0 {r : Nat} {x : Int32} (hd : 2 ≤ d) (hr : Rd g P r 0) (hT : TrOK I) (hΦ : Φ (some (.int (-(x - I r 3)))) g P (tads I [40, 12])) : MM Γ mX0_bears d 0 0 [.ref r, .int x] g P I Φ := by
  refine MM_entry [some _, some _] (by decide) (Nat.le_of_ble_eq_true rfl) rfl ?_
  have hr0 := hr
  obtain ⟨r1, r2, r3, r4, r5⟩ := hr
  have r6 := r5.1
  refine E_aload_n (i := 0) dX0_bears_0 rfl rfl ?_
  refine E_gr dX0_bears_1 gf_X0_21_0 rfl (by assumption) (by assumption) ?_
  refine E_bipush (v := 40) dX0_bears_4 (by decide) ?_
  refine k_X0_bears_6 (mc' := 0) (ms' := 0) (rc := 0) (rs := 0) (by omega) (Nat.le_of_ble_eq_true rfl) (by assumption) (c_tadd r5 hT ?_)
  refine E_aload_n (i := 0) dX0_bears_9 rfl rfl ?_
  refine E_iload_n (i := 1) dX0_bears_10 rfl rfl ?_
  refine k_X0_bears_11_0 (mc' := 0) (ms' := 0) (rc := 0) (rs := 0) (by omega) (Nat.le_of_ble_eq_true rfl) (by assumption) (v_X5_bears_0 (by omega) hr0 (tads_ok _ hT) ?_)
  refine E_ineg dX0_bears_14 ?_
  refine E_iret dX0_bears_15 rfl ?_
  simp only [tads_app, tads_o r3 r4, List.cons_append, List.nil_append]
  exact hΦ
theorem v_X0_bears_3 {r : Nat} {x : Int32} (hd : 2 ≤ d) (hr : Rd g P r 3) (hT : TrOK I) (hΦ : Φ (some (.int (-(x - I r 3)))) g P (tads I [40, 12])) : MM Γ mX0_bears d 0 0 [.ref r, .int x] g P I Φ := by
  refine MM_entry [some _, some _] (by decide) (Nat.le_of_ble_eq_true rfl) rfl ?_
  have hr0 := hr
  obtain ⟨r1, r2, r3, r4, r5⟩ := hr
  have r6 := r5.1
  refine E_aload_n (i := 0) dX0_bears_0 rfl rfl ?_
  refine E_gr dX0_bears_1 gf_X0_21_3 rfl (by assumption) (by assumption) ?_
  refine E_bipush (v := 40) dX0_bears_4 (by decide) ?_
  refine k_X0_bears_6 (mc' := 0) (ms' := 0) (rc := 0) (rs := 0) (by omega) (Nat.le_of_ble_eq_true rfl) (by assumption) (c_tadd r5 hT ?_)
  refine E_aload_n (i := 0) dX0_bears_9 rfl rfl ?_
  refine E_iload_n (i := 1) dX0_bears_10 rfl rfl ?_
  refine k_X0_bears_11_3 (mc' := 0) (ms' := 0) (rc := 0) (rs := 0) (by omega) (Nat.le_of_ble_eq_true rfl) (by assumption) (v_X5_bears_3 (by omega) hr0 (tads_ok _ hT) ?_)
  refine E_ineg dX0_bears_14 ?_
  refine E_iret dX0_bears_15 rfl ?_
  simp only [tads_app, tads_o r3 r4, List.cons_append, List.nil_append]
  exact hΦ
theorem v_X5_rolls_5 {r : Nat} {x : Int32} (hd : 4 ≤ d) (hr : Rd g P r 5) (hT : TrOK I) (hΦ : Φ (some (.int ((x + I r 1) * 2))) g P (tads I [11, 10])) : MM Γ mX5_rolls d 0 0 [.ref r, .int x] g P I Φ := by
  refine MM_entry [some _, some _] (by decide) (Nat.le_of_ble_eq_true rfl) rfl ?_
  have hr0 := hr
  obtain ⟨r1, r2, r3, r4, r5⟩ := hr
  have r6 := r5.1
  refine E_aload_n (i := 0) dX5_rolls_0 rfl rfl ?_
  refine E_gr dX5_rolls_1 gf_X5_24_5 rfl (by assumption) (by assumption) ?_
  refine E_bipush (v := 11) dX5_rolls_4 (by decide) ?_
  refine k_X5_rolls_6 (mc' := 0) (ms' := 0) (rc := 0) (rs := 0) (by omega) (Nat.le_of_ble_eq_true rfl) (by assumption) (c_tadd r5 hT ?_)
  refine E_aload_n (i := 0) dX5_rolls_9 rfl rfl ?_
  refine E_iload_n (i := 1) dX5_rolls_10 rfl rfl ?_
  refine k_X5_rolls_11_5 (mc' := 0) (ms' := 0) (rc := 0) (rs := 0) (by omega) (Nat.le_of_ble_eq_true rfl) (by assumption) (v_X5_hangs_5 (by omega) hr0 (tads_ok _ hT) ?_)
  refine E_iconst (v := 2) dX5_rolls_14 (by decide) ?_
  refine E_imul dX5_rolls_15 ?_
  refine E_iret dX5_rolls_16 rfl ?_
  simp only [tads_app, tads_o r3 r4, List.cons_append, List.nil_append]
  exact hΦ
theorem v_X5_rolls_6 {r : Nat} {x : Int32} (hd : 4 ≤ d) (hr : Rd g P r 6) (hT : TrOK I) (hΦ : Φ (some (.int ((x + I r 1) * 2))) g P (tads I [11, 10])) : MM Γ mX5_rolls d 0 0 [.ref r, .int x] g P I Φ := by
  refine MM_entry [some _, some _] (by decide) (Nat.le_of_ble_eq_true rfl) rfl ?_
  have hr0 := hr
  obtain ⟨r1, r2, r3, r4, r5⟩ := hr
  have r6 := r5.1
  refine E_aload_n (i := 0) dX5_rolls_0 rfl rfl ?_
  refine E_gr dX5_rolls_1 gf_X5_24_6 rfl (by assumption) (by assumption) ?_
  refine E_bipush (v := 11) dX5_rolls_4 (by decide) ?_
  refine k_X5_rolls_6 (mc' := 0) (ms' := 0) (rc := 0) (rs := 0) (by omega) (Nat.le_of_ble_eq_true rfl) (by assumption) (c_tadd r5 hT ?_)
  refine E_aload_n (i := 0) dX5_rolls_9 rfl rfl ?_
  refine E_iload_n (i := 1) dX5_rolls_10 rfl rfl ?_
  refine k_X5_rolls_11_6 (mc' := 0) (ms' := 0) (rc := 0) (rs := 0) (by omega) (Nat.le_of_ble_eq_true rfl) (by assumption) (v_X5_hangs_6 (by omega) hr0 (tads_ok _ hT) ?_)
  refine E_iconst (v := 2) dX5_rolls_14 (by decide) ?_
  refine E_imul dX5_rolls_15 ?_
  refine E_iret dX5_rolls_16 rfl ?_
  simp only [tads_app, tads_o r3 r4, List.cons_append, List.nil_append]
  exact hΦ
theorem v_X5_rolls_2 {r : Nat} {x : Int32} (hd : 4 ≤ d) (hr : Rd g P r 2) (hT : TrOK I) (hΦ : Φ (some (.int (((x + I r 1) * 3) * 2))) g P (tads I [11, 30, 10])) : MM Γ mX5_rolls d 0 0 [.ref r, .int x] g P I Φ := by
  refine MM_entry [some _, some _] (by decide) (Nat.le_of_ble_eq_true rfl) rfl ?_
  have hr0 := hr
  obtain ⟨r1, r2, r3, r4, r5⟩ := hr
  have r6 := r5.1
  refine E_aload_n (i := 0) dX5_rolls_0 rfl rfl ?_
  refine E_gr dX5_rolls_1 gf_X5_24_2 rfl (by assumption) (by assumption) ?_
  refine E_bipush (v := 11) dX5_rolls_4 (by decide) ?_
  refine k_X5_rolls_6 (mc' := 0) (ms' := 0) (rc := 0) (rs := 0) (by omega) (Nat.le_of_ble_eq_true rfl) (by assumption) (c_tadd r5 hT ?_)
  refine E_aload_n (i := 0) dX5_rolls_9 rfl rfl ?_
  refine E_iload_n (i := 1) dX5_rolls_10 rfl rfl ?_
  refine k_X5_rolls_11_2 (mc' := 0) (ms' := 0) (rc := 0) (rs := 0) (by omega) (Nat.le_of_ble_eq_true rfl) (by assumption) (v_X2_hangs_2 (by omega) hr0 (tads_ok _ hT) ?_)
  refine E_iconst (v := 2) dX5_rolls_14 (by decide) ?_
  refine E_imul dX5_rolls_15 ?_
  refine E_iret dX5_rolls_16 rfl ?_
  simp only [tads_app, tads_o r3 r4, List.cons_append, List.nil_append]
  exact hΦ
theorem v_X5_rolls_0 {r : Nat} {x : Int32} (hd : 4 ≤ d) (hr : Rd g P r 0) (hT : TrOK I) (hΦ : Φ (some (.int ((x + I r 1) * 2))) g P (tads I [11, 10])) : MM Γ mX5_rolls d 0 0 [.ref r, .int x] g P I Φ := by
  refine MM_entry [some _, some _] (by decide) (Nat.le_of_ble_eq_true rfl) rfl ?_
  have hr0 := hr
  obtain ⟨r1, r2, r3, r4, r5⟩ := hr
  have r6 := r5.1
  refine E_aload_n (i := 0) dX5_rolls_0 rfl rfl ?_
  refine E_gr dX5_rolls_1 gf_X5_24_0 rfl (by assumption) (by assumption) ?_
  refine E_bipush (v := 11) dX5_rolls_4 (by decide) ?_
  refine k_X5_rolls_6 (mc' := 0) (ms' := 0) (rc := 0) (rs := 0) (by omega) (Nat.le_of_ble_eq_true rfl) (by assumption) (c_tadd r5 hT ?_)
  refine E_aload_n (i := 0) dX5_rolls_9 rfl rfl ?_
  refine E_iload_n (i := 1) dX5_rolls_10 rfl rfl ?_
  refine k_X5_rolls_11_0 (mc' := 0) (ms' := 0) (rc := 0) (rs := 0) (by omega) (Nat.le_of_ble_eq_true rfl) (by assumption) (v_X5_hangs_0 (by omega) hr0 (tads_ok _ hT) ?_)
  refine E_iconst (v := 2) dX5_rolls_14 (by decide) ?_
  refine E_imul dX5_rolls_15 ?_
  refine E_iret dX5_rolls_16 rfl ?_
  simp only [tads_app, tads_o r3 r4, List.cons_append, List.nil_append]
  exact hΦ
theorem v_X5_rolls_9 {r : Nat} {x : Int32} (hd : 4 ≤ d) (hr : Rd g P r 9) (hT : TrOK I) (hΦ : Φ (some (.int ((x + I r 1) * 2))) g P (tads I [11, 10])) : MM Γ mX5_rolls d 0 0 [.ref r, .int x] g P I Φ := by
  refine MM_entry [some _, some _] (by decide) (Nat.le_of_ble_eq_true rfl) rfl ?_
  have hr0 := hr
  obtain ⟨r1, r2, r3, r4, r5⟩ := hr
  have r6 := r5.1
  refine E_aload_n (i := 0) dX5_rolls_0 rfl rfl ?_
  refine E_gr dX5_rolls_1 gf_X5_24_9 rfl (by assumption) (by assumption) ?_
  refine E_bipush (v := 11) dX5_rolls_4 (by decide) ?_
  refine k_X5_rolls_6 (mc' := 0) (ms' := 0) (rc := 0) (rs := 0) (by omega) (Nat.le_of_ble_eq_true rfl) (by assumption) (c_tadd r5 hT ?_)
  refine E_aload_n (i := 0) dX5_rolls_9 rfl rfl ?_
  refine E_iload_n (i := 1) dX5_rolls_10 rfl rfl ?_
  refine k_X5_rolls_11_9 (mc' := 0) (ms' := 0) (rc := 0) (rs := 0) (by omega) (Nat.le_of_ble_eq_true rfl) (by assumption) (v_X5_hangs_9 (by omega) hr0 (tads_ok _ hT) ?_)
  refine E_iconst (v := 2) dX5_rolls_14 (by decide) ?_
  refine E_imul dX5_rolls_15 ?_
  refine E_iret dX5_rolls_16 rfl ?_
  simp only [tads_app, tads_o r3 r4, List.cons_append, List.nil_append]
  exact hΦ
theorem v_X5_rolls_3 {r : Nat} {x : Int32} (hd : 4 ≤ d) (hr : Rd g P r 3) (hT : TrOK I) (hΦ : Φ (some (.int ((x + I r 1) * 2))) g P (tads I [11, 10])) : MM Γ mX5_rolls d 0 0 [.ref r, .int x] g P I Φ := by
  refine MM_entry [some _, some _] (by decide) (Nat.le_of_ble_eq_true rfl) rfl ?_
  have hr0 := hr
  obtain ⟨r1, r2, r3, r4, r5⟩ := hr
  have r6 := r5.1
  refine E_aload_n (i := 0) dX5_rolls_0 rfl rfl ?_
  refine E_gr dX5_rolls_1 gf_X5_24_3 rfl (by assumption) (by assumption) ?_
  refine E_bipush (v := 11) dX5_rolls_4 (by decide) ?_
  refine k_X5_rolls_6 (mc' := 0) (ms' := 0) (rc := 0) (rs := 0) (by omega) (Nat.le_of_ble_eq_true rfl) (by assumption) (c_tadd r5 hT ?_)
  refine E_aload_n (i := 0) dX5_rolls_9 rfl rfl ?_
  refine E_iload_n (i := 1) dX5_rolls_10 rfl rfl ?_
  refine k_X5_rolls_11_3 (mc' := 0) (ms' := 0) (rc := 0) (rs := 0) (by omega) (Nat.le_of_ble_eq_true rfl) (by assumption) (v_X5_hangs_3 (by omega) hr0 (tads_ok _ hT) ?_)
  refine E_iconst (v := 2) dX5_rolls_14 (by decide) ?_
  refine E_imul dX5_rolls_15 ?_
  refine E_iret dX5_rolls_16 rfl ?_
  simp only [tads_app, tads_o r3 r4, List.cons_append, List.nil_append]
  exact hΦ
theorem v_X5_rolls_1 {r : Nat} {x : Int32} (hd : 4 ≤ d) (hr : Rd g P r 1) (hT : TrOK I) (hΦ : Φ (some (.int ((((x + 1) + I r 1) * 3) * 2))) g P (tads I [11, 70, 30, 10])) : MM Γ mX5_rolls d 0 0 [.ref r, .int x] g P I Φ := by
  refine MM_entry [some _, some _] (by decide) (Nat.le_of_ble_eq_true rfl) rfl ?_
  have hr0 := hr
  obtain ⟨r1, r2, r3, r4, r5⟩ := hr
  have r6 := r5.1
  refine E_aload_n (i := 0) dX5_rolls_0 rfl rfl ?_
  refine E_gr dX5_rolls_1 gf_X5_24_1 rfl (by assumption) (by assumption) ?_
  refine E_bipush (v := 11) dX5_rolls_4 (by decide) ?_
  refine k_X5_rolls_6 (mc' := 0) (ms' := 0) (rc := 0) (rs := 0) (by omega) (Nat.le_of_ble_eq_true rfl) (by assumption) (c_tadd r5 hT ?_)
  refine E_aload_n (i := 0) dX5_rolls_9 rfl rfl ?_
  refine E_iload_n (i := 1) dX5_rolls_10 rfl rfl ?_
  refine k_X5_rolls_11_1 (mc' := 0) (ms' := 0) (rc := 0) (rs := 0) (by omega) (Nat.le_of_ble_eq_true rfl) (by assumption) (v_X1_hangs_1 (by omega) hr0 (tads_ok _ hT) ?_)
  refine E_iconst (v := 2) dX5_rolls_14 (by decide) ?_
  refine E_imul dX5_rolls_15 ?_
  refine E_iret dX5_rolls_16 rfl ?_
  simp only [tads_app, tads_o r3 r4, List.cons_append, List.nil_append]
  exact hΦ
theorem v_X6_rolls_6 {r : Nat} {x : Int32} (hd : 5 ≤ d) (hr : Rd g P r 6) (hT : TrOK I) (hΦ : Φ (some (.int (((x + I r 1) * 2) - (1 - I r 3)))) g P (tads I [20, 11, 10, 12])) : MM Γ mX6_rolls d 0 0 [.ref r, .int x] g P I Φ := by
  refine MM_entry [some _, some _] (by decide) (Nat.le_of_ble_eq_true rfl) rfl ?_
  have hr0 := hr
  obtain ⟨r1, r2, r3, r4, r5⟩ := hr
  have r6 := r5.1
  refine E_aload_n (i := 0) dX6_rolls_0 rfl rfl ?_
  refine E_gr dX6_rolls_1 gf_X6_15_6 rfl (by assumption) (by assumption) ?_
  refine E_bipush (v := 20) dX6_rolls_4 (by decide) ?_
  refine k_X6_rolls_6 (mc' := 0) (ms' := 0) (rc := 0) (rs := 0) (by omega) (Nat.le_of_ble_eq_true rfl) (by assumption) (c_tadd r5 hT ?_)
  refine E_aload_n (i := 0) dX6_rolls_9 rfl rfl ?_
  refine E_iload_n (i := 1) dX6_rolls_10 rfl rfl ?_
  refine k_X6_rolls_11_6 (mc' := 0) (ms' := 0) (rc := 0) (rs := 0) (by omega) (Nat.le_of_ble_eq_true rfl) (by assumption) (v_X5_rolls_6 (by omega) hr0 (tads_ok _ hT) ?_)
  refine E_aload_n (i := 0) dX6_rolls_14 rfl rfl ?_
  refine E_iconst (v := 1) dX6_rolls_15 (by decide) ?_
  refine k_X6_rolls_16_6 (mc' := 0) (ms' := 0) (rc := 0) (rs := 0) (by omega) (Nat.le_of_ble_eq_true rfl) (by assumption) (v_X5_bears_6 (by omega) hr0 (tads_ok _ (tads_ok _ hT)) ?_)
  refine E_isub dX6_rolls_19 ?_
  refine E_iret dX6_rolls_20 rfl ?_
  simp only [tads_app, tads_o r3 r4, List.cons_append, List.nil_append]
  exact hΦ
theorem v_X6_rolls_0 {r : Nat} {x : Int32} (hd : 5 ≤ d) (hr : Rd g P r 0) (hT : TrOK I) (hΦ : Φ (some (.int (((x + I r 1) * 2) - (-(1 - I r 3))))) g P (tads I [20, 11, 10, 40, 12])) : MM Γ mX6_rolls d 0 0 [.ref r, .int x] g P I Φ := by
  refine MM_entry [some _, some _] (by decide) (Nat.le_of_ble_eq_true rfl) rfl ?_
  have hr0 := hr
  obtain ⟨r1, r2, r3, r4, r5⟩ := hr
  have r6 := r5.1
  refine E_aload_n (i := 0) dX6_rolls_0 rfl rfl ?_
  refine E_gr dX6_rolls_1 gf_X6_15_0 rfl (by assumption) (by assumption) ?_
  refine E_bipush (v := 20) dX6_rolls_4 (by decide) ?_
  refine k_X6_rolls_6 (mc' := 0) (ms' := 0) (rc := 0) (rs := 0) (by omega) (Nat.le_of_ble_eq_true rfl) (by assumption) (c_tadd r5 hT ?_)
  refine E_aload_n (i := 0) dX6_rolls_9 rfl rfl ?_
  refine E_iload_n (i := 1) dX6_rolls_10 rfl rfl ?_
  refine k_X6_rolls_11_0 (mc' := 0) (ms' := 0) (rc := 0) (rs := 0) (by omega) (Nat.le_of_ble_eq_true rfl) (by assumption) (v_X5_rolls_0 (by omega) hr0 (tads_ok _ hT) ?_)
  refine E_aload_n (i := 0) dX6_rolls_14 rfl rfl ?_
  refine E_iconst (v := 1) dX6_rolls_15 (by decide) ?_
  refine k_X6_rolls_16_0 (mc' := 0) (ms' := 0) (rc := 0) (rs := 0) (by omega) (Nat.le_of_ble_eq_true rfl) (by assumption) (v_X0_bears_0 (by omega) hr0 (tads_ok _ (tads_ok _ hT)) ?_)
  refine E_isub dX6_rolls_19 ?_
  refine E_iret dX6_rolls_20 rfl ?_
  simp only [tads_app, tads_o r3 r4, List.cons_append, List.nil_append]
  exact hΦ
theorem v_X6_rolls_3 {r : Nat} {x : Int32} (hd : 5 ≤ d) (hr : Rd g P r 3) (hT : TrOK I) (hΦ : Φ (some (.int (((x + I r 1) * 2) - (-(1 - I r 3))))) g P (tads I [20, 11, 10, 40, 12])) : MM Γ mX6_rolls d 0 0 [.ref r, .int x] g P I Φ := by
  refine MM_entry [some _, some _] (by decide) (Nat.le_of_ble_eq_true rfl) rfl ?_
  have hr0 := hr
  obtain ⟨r1, r2, r3, r4, r5⟩ := hr
  have r6 := r5.1
  refine E_aload_n (i := 0) dX6_rolls_0 rfl rfl ?_
  refine E_gr dX6_rolls_1 gf_X6_15_3 rfl (by assumption) (by assumption) ?_
  refine E_bipush (v := 20) dX6_rolls_4 (by decide) ?_
  refine k_X6_rolls_6 (mc' := 0) (ms' := 0) (rc := 0) (rs := 0) (by omega) (Nat.le_of_ble_eq_true rfl) (by assumption) (c_tadd r5 hT ?_)
  refine E_aload_n (i := 0) dX6_rolls_9 rfl rfl ?_
  refine E_iload_n (i := 1) dX6_rolls_10 rfl rfl ?_
  refine k_X6_rolls_11_3 (mc' := 0) (ms' := 0) (rc := 0) (rs := 0) (by omega) (Nat.le_of_ble_eq_true rfl) (by assumption) (v_X5_rolls_3 (by omega) hr0 (tads_ok _ hT) ?_)
  refine E_aload_n (i := 0) dX6_rolls_14 rfl rfl ?_
  refine E_iconst (v := 1) dX6_rolls_15 (by decide) ?_
  refine k_X6_rolls_16_3 (mc' := 0) (ms' := 0) (rc := 0) (rs := 0) (by omega) (Nat.le_of_ble_eq_true rfl) (by assumption) (v_X0_bears_3 (by omega) hr0 (tads_ok _ (tads_ok _ hT)) ?_)
  refine E_isub dX6_rolls_19 ?_
  refine E_iret dX6_rolls_20 rfl ?_
  simp only [tads_app, tads_o r3 r4, List.cons_append, List.nil_append]
  exact hΦ
theorem v_X3_rolls_3 {r : Nat} {x : Int32} (hd : 6 ≤ d) (hr : Rd g P r 3) (hT : TrOK I) (hΦ : Φ (some (.int ((((x + I r 1) * 2) - (-(1 - I r 3))) ^^^ I r 1))) g P (tads I [60, 20, 11, 10, 40, 12])) : MM Γ mX3_rolls d 0 0 [.ref r, .int x] g P I Φ := by
  refine MM_entry [some _, some _] (by decide) (Nat.le_of_ble_eq_true rfl) rfl ?_
  have hr0 := hr
  obtain ⟨r1, r2, r3, r4, r5⟩ := hr
  have r6 := r5.1
  refine E_aload_n (i := 0) dX3_rolls_0 rfl rfl ?_
  refine E_gr dX3_rolls_1 gf_X3_15_3 rfl (by assumption) (by assumption) ?_
  refine E_bipush (v := 60) dX3_rolls_4 (by decide) ?_
  refine k_X3_rolls_6 (mc' := 0) (ms' := 0) (rc := 0) (rs := 0) (by omega) (Nat.le_of_ble_eq_true rfl) (by assumption) (c_tadd r5 hT ?_)
  refine E_aload_n (i := 0) dX3_rolls_9 rfl rfl ?_
  refine E_iload_n (i := 1) dX3_rolls_10 rfl rfl ?_
  refine k_X3_rolls_11_3 (mc' := 0) (ms' := 0) (rc := 0) (rs := 0) (by omega) (Nat.le_of_ble_eq_true rfl) (by assumption) (v_X6_rolls_3 (by omega) hr0 (tads_ok _ hT) ?_)
  refine E_aload_n (i := 0) dX3_rolls_14 rfl rfl ?_
  refine E_gi dX3_rolls_15 gf_X3_30_3 rfl (by assumption) ?_
  refine E_ixor dX3_rolls_18 ?_
  refine E_iret dX3_rolls_19 rfl ?_
  simp only [tads_app, tads_o r3 r4, List.cons_append, List.nil_append]
  exact hΦ
theorem v_X5_wears_5 {r : Nat} {x : Int32} (hd : 7 ≤ d) (hr : Rd g P r 5) (hT : TrOK I) (hΦ : Φ (some (.int (((x + I r 1) * 2) ^^^ (x - I r 3)))) g P (tads I [13, 11, 10, 12])) : MM Γ mX5_wears d 0 0 [.ref r, .int x] g P I Φ := by
  refine MM_entry [some _, some _] (by decide) (Nat.le_of_ble_eq_true rfl) rfl ?_
  have hr0 := hr
  obtain ⟨r1, r2, r3, r4, r5⟩ := hr
  have r6 := r5.1
  refine E_aload_n (i := 0) dX5_wears_0 rfl rfl ?_
  refine E_gr dX5_wears_1 gf_X5_24_5 rfl (by assumption) (by assumption) ?_
  refine E_bipush (v := 13) dX5_wears_4 (by decide) ?_
  refine k_X5_wears_6 (mc' := 0) (ms' := 0) (rc := 0) (rs := 0) (by omega) (Nat.le_of_ble_eq_true rfl) (by assumption) (c_tadd r5 hT ?_)
  refine E_aload_n (i := 0) dX5_wears_9 rfl rfl ?_
  refine E_iload_n (i := 1) dX5_wears_10 rfl rfl ?_
  refine k_X5_wears_11_5 (mc' := 0) (ms' := 0) (rc := 0) (rs := 0) (by omega) (Nat.le_of_ble_eq_true rfl) (by assumption) (v_X5_rolls_5 (by omega) hr0 (tads_ok _ hT) ?_)
  refine E_aload_n (i := 0) dX5_wears_14 rfl rfl ?_
  refine E_iload_n (i := 1) dX5_wears_15 rfl rfl ?_
  refine k_X5_wears_16_5 (mc' := 0) (ms' := 0) (rc := 0) (rs := 0) (by omega) (Nat.le_of_ble_eq_true rfl) (by assumption) (v_X5_bears_5 (by omega) hr0 (tads_ok _ (tads_ok _ hT)) ?_)
  refine E_ixor dX5_wears_19 ?_
  refine E_iret dX5_wears_20 rfl ?_
  simp only [tads_app, tads_o r3 r4, List.cons_append, List.nil_append]
  exact hΦ
theorem v_X5_wears_6 {r : Nat} {x : Int32} (hd : 7 ≤ d) (hr : Rd g P r 6) (hT : TrOK I) (hΦ : Φ (some (.int ((((x + I r 1) * 2) - (1 - I r 3)) ^^^ (x - I r 3)))) g P (tads I [13, 20, 11, 10, 12, 12])) : MM Γ mX5_wears d 0 0 [.ref r, .int x] g P I Φ := by
  refine MM_entry [some _, some _] (by decide) (Nat.le_of_ble_eq_true rfl) rfl ?_
  have hr0 := hr
  obtain ⟨r1, r2, r3, r4, r5⟩ := hr
  have r6 := r5.1
  refine E_aload_n (i := 0) dX5_wears_0 rfl rfl ?_
  refine E_gr dX5_wears_1 gf_X5_24_6 rfl (by assumption) (by assumption) ?_
  refine E_bipush (v := 13) dX5_wears_4 (by decide) ?_
  refine k_X5_wears_6 (mc' := 0) (ms' := 0) (rc := 0) (rs := 0) (by omega) (Nat.le_of_ble_eq_true rfl) (by assumption) (c_tadd r5 hT ?_)
  refine E_aload_n (i := 0) dX5_wears_9 rfl rfl ?_
  refine E_iload_n (i := 1) dX5_wears_10 rfl rfl ?_
  refine k_X5_wears_11_6 (mc' := 0) (ms' := 0) (rc := 0) (rs := 0) (by omega) (Nat.le_of_ble_eq_true rfl) (by assumption) (v_X6_rolls_6 (by omega) hr0 (tads_ok _ hT) ?_)
  refine E_aload_n (i := 0) dX5_wears_14 rfl rfl ?_
  refine E_iload_n (i := 1) dX5_wears_15 rfl rfl ?_
  refine k_X5_wears_16_6 (mc' := 0) (ms' := 0) (rc := 0) (rs := 0) (by omega) (Nat.le_of_ble_eq_true rfl) (by assumption) (v_X5_bears_6 (by omega) hr0 (tads_ok _ (tads_ok _ hT)) ?_)
  refine E_ixor dX5_wears_19 ?_
  refine E_iret dX5_wears_20 rfl ?_
  simp only [tads_app, tads_o r3 r4, List.cons_append, List.nil_append]
  exact hΦ
theorem v_X5_wears_2 {r : Nat} {x : Int32} (hd : 7 ≤ d) (hr : Rd g P r 2) (hT : TrOK I) (hΦ : Φ (some (.int ((((x + I r 1) * 3) * 2) ^^^ (x - I r 3)))) g P (tads I [13, 11, 30, 10, 12])) : MM Γ mX5_wears d 0 0 [.ref r, .int x] g P I Φ := by
  refine MM_entry [some _, some _] (by decide) (Nat.le_of_ble_eq_true rfl) rfl ?_
  have hr0 := hr
  obtain ⟨r1, r2, r3, r4, r5⟩ := hr
  have r6 := r5.1
  refine E_aload_n (i := 0) dX5_wears_0 rfl rfl ?_
  refine E_gr dX5_wears_1 gf_X5_24_2 rfl (by assumption) (by assumption) ?_
  refine E_bipush (v := 13) dX5_wears_4 (by decide) ?_
  refine k_X5_wears_6 (mc' := 0) (ms' := 0) (rc := 0) (rs := 0) (by omega) (Nat.le_of_ble_eq_true rfl) (by assumption) (c_tadd r5 hT ?_)
  refine E_aload_n (i := 0) dX5_wears_9 rfl rfl ?_
  refine E_iload_n (i := 1) dX5_wears_10 rfl rfl ?_
  refine k_X5_wears_11_2 (mc' := 0) (ms' := 0) (rc := 0) (rs := 0) (by omega) (Nat.le_of_ble_eq_true rfl) (by assumption) (v_X5_rolls_2 (by omega) hr0 (tads_ok _ hT) ?_)
  refine E_aload_n (i := 0) dX5_wears_14 rfl rfl ?_
  refine E_iload_n (i := 1) dX5_wears_15 rfl rfl ?_
  refine k_X5_wears_16_2 (mc' := 0) (ms' := 0) (rc := 0) (rs := 0) (by omega) (Nat.le_of_ble_eq_true rfl) (by assumption) (v_X5_bears_2 (by omega) hr0 (tads_ok _ (tads_ok _ hT)) ?_)
  refine E_ixor dX5_wears_19 ?_
  refine E_iret dX5_wears_20 rfl ?_
  simp only [tads_app, tads_o r3 r4, List.cons_append, List.nil_append]
  exact hΦ
theorem v_X5_wears_0 {r : Nat} {x : Int32} (hd : 7 ≤ d) (hr : Rd g P r 0) (hT : TrOK I) (hΦ : Φ (some (.int ((((x + I r 1) * 2) - (-(1 - I r 3))) ^^^ (-(x - I r 3))))) g P (tads I [13, 20, 11, 10, 40, 12, 40, 12])) : MM Γ mX5_wears d 0 0 [.ref r, .int x] g P I Φ := by
  refine MM_entry [some _, some _] (by decide) (Nat.le_of_ble_eq_true rfl) rfl ?_
  have hr0 := hr
  obtain ⟨r1, r2, r3, r4, r5⟩ := hr
  have r6 := r5.1
  refine E_aload_n (i := 0) dX5_wears_0 rfl rfl ?_
  refine E_gr dX5_wears_1 gf_X5_24_0 rfl (by assumption) (by assumption) ?_
  refine E_bipush (v := 13) dX5_wears_4 (by decide) ?_
  refine k_X5_wears_6 (mc' := 0) (ms' := 0) (rc := 0) (rs := 0) (by omega) (Nat.le_of_ble_eq_true rfl) (by assumption) (c_tadd r5 hT ?_)
  refine E_aload_n (i := 0) dX5_wears_9 rfl rfl ?_
  refine E_iload_n (i := 1) dX5_wears_10 rfl rfl ?_
  refine k_X5_wears_11_0 (mc' := 0) (ms' := 0) (rc := 0) (rs := 0) (by omega) (Nat.le_of_ble_eq_true rfl) (by assumption) (v_X6_rolls_0 (by omega) hr0 (tads_ok _ hT) ?_)
  refine E_aload_n (i := 0) dX5_wears_14 rfl rfl ?_
  refine E_iload_n (i := 1) dX5_wears_15 rfl rfl ?_
  refine k_X5_wears_16_0 (mc' := 0) (ms' := 0) (rc := 0) (rs := 0) (by omega) (Nat.le_of_ble_eq_true rfl) (by assumption) (v_X0_bears_0 (by omega) hr0 (tads_ok _ (tads_ok _ hT)) ?_)
  refine E_ixor dX5_wears_19 ?_
  refine E_iret dX5_wears_20 rfl ?_
  simp only [tads_app, tads_o r3 r4, List.cons_append, List.nil_append]
  exact hΦ
theorem v_X5_wears_9 {r : Nat} {x : Int32} (hd : 7 ≤ d) (hr : Rd g P r 9) (hT : TrOK I) (hΦ : Φ (some (.int (((x + I r 1) * 2) ^^^ (x - I r 3)))) g P (tads I [13, 11, 10, 12])) : MM Γ mX5_wears d 0 0 [.ref r, .int x] g P I Φ := by
  refine MM_entry [some _, some _] (by decide) (Nat.le_of_ble_eq_true rfl) rfl ?_
  have hr0 := hr
  obtain ⟨r1, r2, r3, r4, r5⟩ := hr
  have r6 := r5.1
  refine E_aload_n (i := 0) dX5_wears_0 rfl rfl ?_
  refine E_gr dX5_wears_1 gf_X5_24_9 rfl (by assumption) (by assumption) ?_
  refine E_bipush (v := 13) dX5_wears_4 (by decide) ?_
  refine k_X5_wears_6 (mc' := 0) (ms' := 0) (rc := 0) (rs := 0) (by omega) (Nat.le_of_ble_eq_true rfl) (by assumption) (c_tadd r5 hT ?_)
  refine E_aload_n (i := 0) dX5_wears_9 rfl rfl ?_
  refine E_iload_n (i := 1) dX5_wears_10 rfl rfl ?_
  refine k_X5_wears_11_9 (mc' := 0) (ms' := 0) (rc := 0) (rs := 0) (by omega) (Nat.le_of_ble_eq_true rfl) (by assumption) (v_X5_rolls_9 (by omega) hr0 (tads_ok _ hT) ?_)
  refine E_aload_n (i := 0) dX5_wears_14 rfl rfl ?_
  refine E_iload_n (i := 1) dX5_wears_15 rfl rfl ?_
  refine k_X5_wears_16_9 (mc' := 0) (ms' := 0) (rc := 0) (rs := 0) (by omega) (Nat.le_of_ble_eq_true rfl) (by assumption) (v_X5_bears_9 (by omega) hr0 (tads_ok _ (tads_ok _ hT)) ?_)
  refine E_ixor dX5_wears_19 ?_
  refine E_iret dX5_wears_20 rfl ?_
  simp only [tads_app, tads_o r3 r4, List.cons_append, List.nil_append]
  exact hΦ
theorem v_X5_wears_3 {r : Nat} {x : Int32} (hd : 7 ≤ d) (hr : Rd g P r 3) (hT : TrOK I) (hΦ : Φ (some (.int (((((x + I r 1) * 2) - (-(1 - I r 3))) ^^^ I r 1) ^^^ (-(x - I r 3))))) g P (tads I [13, 60, 20, 11, 10, 40, 12, 40, 12])) : MM Γ mX5_wears d 0 0 [.ref r, .int x] g P I Φ := by
  refine MM_entry [some _, some _] (by decide) (Nat.le_of_ble_eq_true rfl) rfl ?_
  have hr0 := hr
  obtain ⟨r1, r2, r3, r4, r5⟩ := hr
  have r6 := r5.1
  refine E_aload_n (i := 0) dX5_wears_0 rfl rfl ?_
  refine E_gr dX5_wears_1 gf_X5_24_3 rfl (by assumption) (by assumption) ?_
  refine E_bipush (v := 13) dX5_wears_4 (by decide) ?_
  refine k_X5_wears_6 (mc' := 0) (ms' := 0) (rc := 0) (rs := 0) (by omega) (Nat.le_of_ble_eq_true rfl) (by assumption) (c_tadd r5 hT ?_)
  refine E_aload_n (i := 0) dX5_wears_9 rfl rfl ?_
  refine E_iload_n (i := 1) dX5_wears_10 rfl rfl ?_
  refine k_X5_wears_11_3 (mc' := 0) (ms' := 0) (rc := 0) (rs := 0) (by omega) (Nat.le_of_ble_eq_true rfl) (by assumption) (v_X3_rolls_3 (by omega) hr0 (tads_ok _ hT) ?_)
  refine E_aload_n (i := 0) dX5_wears_14 rfl rfl ?_
  refine E_iload_n (i := 1) dX5_wears_15 rfl rfl ?_
  refine k_X5_wears_16_3 (mc' := 0) (ms' := 0) (rc := 0) (rs := 0) (by omega) (Nat.le_of_ble_eq_true rfl) (by assumption) (v_X0_bears_3 (by omega) hr0 (tads_ok _ (tads_ok _ hT)) ?_)
  refine E_ixor dX5_wears_19 ?_
  refine E_iret dX5_wears_20 rfl ?_
  simp only [tads_app, tads_o r3 r4, List.cons_append, List.nil_append]
  exact hΦ
theorem v_X5_wears_1 {r : Nat} {x : Int32} (hd : 7 ≤ d) (hr : Rd g P r 1) (hT : TrOK I) (hΦ : Φ (some (.int (((((x + 1) + I r 1) * 3) * 2) ^^^ (x - I r 3)))) g P (tads I [13, 11, 70, 30, 10, 12])) : MM Γ mX5_wears d 0 0 [.ref r, .int x] g P I Φ := by
  refine MM_entry [some _, some _] (by decide) (Nat.le_of_ble_eq_true rfl) rfl ?_
  have hr0 := hr
  obtain ⟨r1, r2, r3, r4, r5⟩ := hr
  have r6 := r5.1
  refine E_aload_n (i := 0) dX5_wears_0 rfl rfl ?_
  refine E_gr dX5_wears_1 gf_X5_24_1 rfl (by assumption) (by assumption) ?_
  refine E_bipush (v := 13) dX5_wears_4 (by decide) ?_
  refine k_X5_wears_6 (mc' := 0) (ms' := 0) (rc := 0) (rs := 0) (by omega) (Nat.le_of_ble_eq_true rfl) (by assumption) (c_tadd r5 hT ?_)
  refine E_aload_n (i := 0) dX5_wears_9 rfl rfl ?_
  refine E_iload_n (i := 1) dX5_wears_10 rfl rfl ?_
  refine k_X5_wears_11_1 (mc' := 0) (ms' := 0) (rc := 0) (rs := 0) (by omega) (Nat.le_of_ble_eq_true rfl) (by assumption) (v_X5_rolls_1 (by omega) hr0 (tads_ok _ hT) ?_)
  refine E_aload_n (i := 0) dX5_wears_14 rfl rfl ?_
  refine E_iload_n (i := 1) dX5_wears_15 rfl rfl ?_
  refine k_X5_wears_16_1 (mc' := 0) (ms' := 0) (rc := 0) (rs := 0) (by omega) (Nat.le_of_ble_eq_true rfl) (by assumption) (v_X5_bears_1 (by omega) hr0 (tads_ok _ (tads_ok _ hT)) ?_)
  refine E_ixor dX5_wears_19 ?_
  refine E_iret dX5_wears_20 rfl ?_
  simp only [tads_app, tads_o r3 r4, List.cons_append, List.nil_append]
  exact hΦ
theorem v_X9_wears_9 {r : Nat} {x : Int32} (hd : 8 ≤ d) (hr : Rd g P r 9) (hT : TrOK I) (hΦ : Φ (some (.int ((((x + I r 1) * 2) ^^^ (x - I r 3)) - (2 + I r 1)))) g P (tads I [50, 13, 11, 10, 12, 10])) : MM Γ mX9_wears d 0 0 [.ref r, .int x] g P I Φ := by
  refine MM_entry [some _, some _] (by decide) (Nat.le_of_ble_eq_true rfl) rfl ?_
  have hr0 := hr
  obtain ⟨r1, r2, r3, r4, r5⟩ := hr
  have r6 := r5.1
  refine E_aload_n (i := 0) dX9_wears_0 rfl rfl ?_
  refine E_gr dX9_wears_1 gf_X9_15_9 rfl (by assumption) (by assumption) ?_
  refine E_bipush (v := 50) dX9_wears_4 (by decide) ?_
  refine k_X9_wears_6 (mc' := 0) (ms' := 0) (rc := 0) (rs := 0) (by omega) (Nat.le_of_ble_eq_true rfl) (by assumption) (c_tadd r5 hT ?_)
  refine E_aload_n (i := 0) dX9_wears_9 rfl rfl ?_
  refine E_iload_n (i := 1) dX9_wears_10 rfl rfl ?_
  refine k_X9_wears_11_9 (mc' := 0) (ms' := 0) (rc := 0) (rs := 0) (by omega) (Nat.le_of_ble_eq_true rfl) (by assumption) (v_X5_wears_9 (by omega) hr0 (tads_ok _ hT) ?_)
  refine E_aload_n (i := 0) dX9_wears_14 rfl rfl ?_
  refine E_iconst (v := 2) dX9_wears_15 (by decide) ?_
  refine k_X9_wears_16 (mc' := 0) (ms' := 0) (rc := 0) (rs := 0) (by omega) (Nat.le_of_ble_eq_true rfl) (by assumption) (v_X5_hangs_9 (by omega) hr0 (tads_ok _ (tads_ok _ hT)) ?_)
  refine E_isub dX9_wears_19 ?_
  refine E_iret dX9_wears_20 rfl ?_
  simp only [tads_app, tads_o r3 r4, List.cons_append, List.nil_append]
  exact hΦ
theorem v_X1_wears_1 {r : Nat} {x : Int32} (hd : 8 ≤ d) (hr : Rd g P r 1) (hT : TrOK I) (hΦ : Φ (some (.int (((((x + 1) + I r 1) * 3) * 2) - (((((x + 1) + I r 1) * 3) * 2) ^^^ (x - I r 3))))) g P (tads I [71, 11, 70, 30, 10, 13, 11, 70, 30, 10, 12])) : MM Γ mX1_wears d 0 0 [.ref r, .int x] g P I Φ := by
  refine MM_entry [some _, some _] (by decide) (Nat.le_of_ble_eq_true rfl) rfl ?_
  have hr0 := hr
  obtain ⟨r1, r2, r3, r4, r5⟩ := hr
  have r6 := r5.1
  refine E_aload_n (i := 0) dX1_wears_0 rfl rfl ?_
  refine E_gr dX1_wears_1 gf_X1_11_1 rfl (by assumption) (by assumption) ?_
  refine E_bipush (v := 71) dX1_wears_4 (by decide) ?_
  refine k_X1_wears_6 (mc' := 0) (ms' := 0) (rc := 0) (rs := 0) (by omega) (Nat.le_of_ble_eq_true rfl) (by assumption) (c_tadd r5 hT ?_)
  refine E_aload_n (i := 0) dX1_wears_9 rfl rfl ?_
  refine E_iload_n (i := 1) dX1_wears_10 rfl rfl ?_
  refine k_X1_wears_11 (mc' := 0) (ms' := 0) (rc := 0) (rs := 0) (by omega) (Nat.le_of_ble_eq_true rfl) (by assumption) (v_X5_rolls_1 (by omega) hr0 (tads_ok _ hT) ?_)
  refine E_aload_n (i := 0) dX1_wears_14 rfl rfl ?_
  refine E_iload_n (i := 1) dX1_wears_15 rfl rfl ?_
  refine k_X1_wears_16_1 (mc' := 0) (ms' := 0) (rc := 0) (rs := 0) (by omega) (Nat.le_of_ble_eq_true rfl) (by assumption) (v_X5_wears_1 (by omega) hr0 (tads_ok _ (tads_ok _ hT)) ?_)
  refine E_isub dX1_wears_19 ?_
  refine E_iret dX1_wears_20 rfl ?_
  simp only [tads_app, tads_o r3 r4, List.cons_append, List.nil_append]
  exact hΦ
end
