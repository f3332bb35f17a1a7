/-! the wire, as the class has it -/
def lst (k : Nat) : Int32 := leastL.getD k 0
def grt (k : Nat) : Int32 := greatL.getD k 0
/-- the wire's numbers are as they may be -/
def WOK (w : Nat → Int32) : Prop := ∀ k, k < 9 → lst k ≤ w k ∧ w k ≤ grt k
theorem WOK.b {w : Nat → Int32} (h : WOK w) : (20 ≤ (w 0).toInt ∧ (w 0).toInt ≤ 400) ∧ (-99 ≤ (w 1).toInt ∧ (w 1).toInt ≤ 99) ∧ (100 ≤ (w 2).toInt ∧ (w 2).toInt ≤ 9999) ∧ (1 ≤ (w 3).toInt ∧ (w 3).toInt ≤ 99) ∧ (-40 ≤ (w 4).toInt ∧ (w 4).toInt ≤ 40) ∧ (100 ≤ (w 5).toInt ∧ (w 5).toInt ≤ 99999) ∧ (0 ≤ (w 6).toInt ∧ (w 6).toInt ≤ 99) ∧ (-20 ≤ (w 7).toInt ∧ (w 7).toInt ≤ 20) ∧ (0 ≤ (w 8).toInt ∧ (w 8).toInt ≤ 999) := by
  refine ⟨?_, ?_, ?_, ?_, ?_, ?_, ?_, ?_, ?_⟩
  · exact ⟨i32_le.mp (h 0 (by decide)).1, i32_le.mp (h 0 (by decide)).2⟩
  · exact ⟨i32_le.mp (h 1 (by decide)).1, i32_le.mp (h 1 (by decide)).2⟩
  · exact ⟨i32_le.mp (h 2 (by decide)).1, i32_le.mp (h 2 (by decide)).2⟩
  · exact ⟨i32_le.mp (h 3 (by decide)).1, i32_le.mp (h 3 (by decide)).2⟩
  · exact ⟨i32_le.mp (h 4 (by decide)).1, i32_le.mp (h 4 (by decide)).2⟩
  · exact ⟨i32_le.mp (h 5 (by decide)).1, i32_le.mp (h 5 (by decide)).2⟩
  · exact ⟨i32_le.mp (h 6 (by decide)).1, i32_le.mp (h 6 (by decide)).2⟩
  · exact ⟨i32_le.mp (h 7 (by decide)).1, i32_le.mp (h 7 (by decide)).2⟩
  · exact ⟨i32_le.mp (h 8 (by decide)).1, i32_le.mp (h 8 (by decide)).2⟩
/-! arithmetic without overflow -/
theorem bm32 {x : Int} (h : -2147483648 ≤ x) (h2 : x < 2147483648) : x.bmod (2 ^ 32) = x := Int.bmod_eq_of_le (by omega) (by omega)
theorem bm64 {x : Int} (h : -9223372036854775808 ≤ x) (h2 : x < 9223372036854775808) : x.bmod (2 ^ 64) = x := Int.bmod_eq_of_le (by omega) (by omega)
theorem add32 {a b : Int32} (h : -2147483648 ≤ a.toInt + b.toInt) (h2 : a.toInt + b.toInt < 2147483648) : (a + b).toInt = a.toInt + b.toInt := by rw [Int32.toInt_add, bm32 h h2]
theorem sub32 {a b : Int32} (h : -2147483648 ≤ a.toInt - b.toInt) (h2 : a.toInt - b.toInt < 2147483648) : (a - b).toInt = a.toInt - b.toInt := by rw [Int32.toInt_sub, bm32 h h2]
theorem mul32 {a b : Int32} (h : -2147483648 ≤ a.toInt * b.toInt) (h2 : a.toInt * b.toInt < 2147483648) : (a * b).toInt = a.toInt * b.toInt := by rw [Int32.toInt_mul, bm32 h h2]
theorem add64 {a b : Int64} (h : -9223372036854775808 ≤ a.toInt + b.toInt) (h2 : a.toInt + b.toInt < 9223372036854775808) : (a + b).toInt = a.toInt + b.toInt := by rw [Int64.toInt_add, bm64 h h2]
theorem sub64 {a b : Int64} (h : -9223372036854775808 ≤ a.toInt - b.toInt) (h2 : a.toInt - b.toInt < 9223372036854775808) : (a - b).toInt = a.toInt - b.toInt := by rw [Int64.toInt_sub, bm64 h h2]
theorem mul64 {a b : Int64} (h : -9223372036854775808 ≤ a.toInt * b.toInt) (h2 : a.toInt * b.toInt < 9223372036854775808) : (a * b).toInt = a.toInt * b.toInt := by rw [Int64.toInt_mul, bm64 h h2]
theorem l32 (a : Int32) : a.toInt64.toInt = a.toInt := Int32.toInt_toInt64 a
/-- TIGHT -/
def taut (w : Nat → Int32) : Int32 := if 100 ≤ w 2 - 10 * w 4 then w 2 - 10 * w 4 else 100
theorem taut_b {w : Nat → Int32} (h : WOK w) : 100 ≤ (taut w).toInt ∧ (taut w).toInt ≤ 10399 := by
  obtain ⟨-, -, h2, -, h4, -⟩ := h.b
  have e1 : (10 * w 4).toInt = 10 * (w 4).toInt := mul32 (by show _ ≤ 10 * _; omega) (by show 10 * _ < _; omega)
  have e2 : (w 2 - 10 * w 4).toInt = (w 2).toInt - 10 * (w 4).toInt := by rw [sub32 (by rw [e1]; omega) (by rw [e1]; omega), e1]
  unfold taut
  split
  · next hc => rw [i32_le] at hc; exact ⟨hc, by rw [e2]; omega⟩
  · exact ⟨by decide, by decide⟩
def dep (w : Nat → Int32) (x l : Int32) : Int32 := (1000 * (w 1).toInt64 * x.toInt64 / (w 0).toInt64 + 500 * (w 3).toInt64 * (x.toInt64 * ((w 0).toInt64 - x.toInt64)) / (taut w).toInt64 + 1000 * l.toInt64 * (x.toInt64 * ((w 0).toInt64 - x.toInt64)) / ((w 0).toInt64 * (taut w).toInt64)).toInt32
def stp (w : Nat → Int32) (x l : Int32) : Int32 := dep w ((if w 0 - 1 < x then w 0 - 1 else x) + 1) l - dep w (if w 0 - 1 < x then w 0 - 1 else x) l
def pul (w : Nat → Int32) (x l : Int32) : Int32 := taut w + 4 * l * x * (w 0 - x) / (w 0 * w 0)
theorem ne64 {a : Int64} (h : a.toInt ≠ 0) : ¬ a = 0 := fun e => h (by rw [e]; rfl)
theorem ne32 {a : Int32} (h : a.toInt ≠ 0) : ¬ a = 0 := fun e => h (by rw [e]; rfl)
theorem span_ne {w : Nat → Int32} (h : WOK w) : ¬ (w 0).toInt64 = 0 := ne64 (by rw [l32]; have := h.b.1; omega)
theorem taut_ne {w : Nat → Int32} (h : WOK w) : ¬ (taut w).toInt64 = 0 := ne64 (by rw [l32]; have := taut_b h; omega)
theorem st_mul {w : Nat → Int32} (h : WOK w) : ((w 0).toInt64 * (taut w).toInt64).toInt = (w 0).toInt * (taut w).toInt ∧ 2000 ≤ (w 0).toInt * (taut w).toInt := by
  have h1 := h.b.1
  have h2 := taut_b h
  have h3 : (w 0).toInt * (taut w).toInt ≤ 400 * 10399 := Int.mul_le_mul h1.2 h2.2 (by omega) (by omega)
  have h4 : 20 * 100 ≤ (w 0).toInt * (taut w).toInt := Int.mul_le_mul h1.1 h2.1 (by omega) (by omega)
  exact ⟨by rw [mul64 (by rw [l32, l32]; omega) (by rw [l32, l32]; omega), l32, l32], by omega⟩
theorem st_ne {w : Nat → Int32} (h : WOK w) : ¬ (w 0).toInt64 * (taut w).toInt64 = 0 := ne64 (by have := st_mul h; omega)
theorem ss_mul {w : Nat → Int32} (h : WOK w) : (w 0 * w 0).toInt = (w 0).toInt * (w 0).toInt ∧ 400 ≤ (w 0).toInt * (w 0).toInt ∧ (w 0).toInt * (w 0).toInt ≤ 160000 := by
  have h1 := h.b.1
  have h3 : (w 0).toInt * (w 0).toInt ≤ 400 * 400 := Int.mul_le_mul h1.2 h1.2 (by omega) (by omega)
  have h4 : 20 * 20 ≤ (w 0).toInt * (w 0).toInt := Int.mul_le_mul h1.1 h1.1 (by omega) (by omega)
  exact ⟨mul32 (by omega) (by omega), by omega, by omega⟩
/-- a Wire object and its row -/
def Wi (g : Sh) (P : HP) (a v : Nat) : Prop := Cel g a 10 ∧ P a 0 = some v ∧ Cel g v 13 ∧ g.2.2 v = 9
abbrev alw (what v : Int32) : Prop := (0 ≤ what ∧ what ≤ 8) ∧ (lst what.toNatClampNeg ≤ v ∧ v ≤ grt what.toNatClampNeg)
theorem in9 {x : Int32} (h : 0 ≤ x ∧ x ≤ 8) : vp_in x 9 := vp_of ⟨i32_le.mp h.1, by have := i32_le.mp h.2; rw [show (8 : Int32).toInt = 8 from rfl] at this; omega⟩
section Rules
variable {Γ : GE} {μ : MD} {d mc ms rc rs pc : Nat} {QQ : List Frame → Array Value → State → State → Prop} {lv : List (Option Value)} {st : List Value} {g : Sh} {P : HP} {I : HI}
theorem E_iaj {a : Nat} (j : Nat) {i : Int32} (hd : decode μ.2.1 pc = .ok (.iaload, 1)) (hc : Cel g a 13) (hj : i = nI j) (hj2 : j < 2 ^ 31) (hn : j < g.2.2 a)
    (kk : E Γ μ d mc ms QQ rc rs (pc + 1) lv (.int (I a j) :: st) g P I) : E Γ μ d mc ms QQ rc rs pc lv (.int i :: .ref a :: st) g P I := by
  subst hj
  refine E_ia hd hc ?_ ?_
  · unfold vp_in
    rw [nI_clamp hj2]
    exact fun h => h.elim (nI_pos hj2) (fun h => by omega)
  · rw [nI_clamp hj2]
    exact kk
theorem E_zaj {a : Nat} (j : Nat) {i : Int32} (hd : decode μ.2.1 pc = .ok (.baload, 1)) (hc : Cel g a 14) (hj : i = nI j) (hj2 : j < 2 ^ 31) (hn : j < g.2.2 a)
    (kk : E Γ μ d mc ms QQ rc rs (pc + 1) lv (.int (I a j) :: st) g P I) : E Γ μ d mc ms QQ rc rs pc lv (.int i :: .ref a :: st) g P I := by
  subst hj
  refine E_za hd hc ?_ ?_
  · unfold vp_in
    rw [nI_clamp hj2]
    exact fun h => h.elim (nI_pos hj2) (fun h => by omega)
  · rw [nI_clamp hj2]
    exact kk
theorem E_isj {a : Nat} (j : Nat) {i x : Int32} (hd : decode μ.2.1 pc = .ok (.iastore, 1)) (hc : Cel g a 13) (hj : i = nI j) (hj2 : j < 2 ^ 31) (hn : j < g.2.2 a)
    (kk : E Γ μ d mc ms QQ rc rs (pc + 1) lv st g P (u2 I a j x)) : E Γ μ d mc ms QQ rc rs pc lv (.int x :: .int i :: .ref a :: st) g P I := by
  subst hj
  refine E_is hd hc ?_ ?_
  · unfold vp_in
    rw [nI_clamp hj2]
    exact fun h => h.elim (nI_pos hj2) (fun h => by omega)
  · rw [nI_clamp hj2]
    exact kk
theorem E_zsj {a : Nat} (j : Nat) {i x : Int32} (hd : decode μ.2.1 pc = .ok (.bastore, 1)) (hc : Cel g a 14) (hj : i = nI j) (hj2 : j < 2 ^ 31) (hn : j < g.2.2 a) (hx : x = 0 ∨ x = 1)
    (kk : E Γ μ d mc ms QQ rc rs (pc + 1) lv st g P (u2 I a j x)) : E Γ μ d mc ms QQ rc rs pc lv (.int x :: .int i :: .ref a :: st) g P I := by
  subst hj
  refine E_zs hd hc ?_ hx ?_
  · unfold vp_in
    rw [nI_clamp hj2]
    exact fun h => h.elim (nI_pos hj2) (fun h => by omega)
  · rw [nI_clamp hj2]
    exact kk
end Rules
section
variable {Γ : GE} {d : Nat} {g : Sh} {P : HP} {I : HI} {Φ : Option Value → Sh → HP → HI → Prop}
theorem c_X10_allows {what v : Int32} (hd : 1 ≤ d) (hΦ : Φ (some (.int (bz (alw what v)))) g P I) : MM Γ mX10_allows d 0 0 [.int what, .int v] g P I Φ := by
  refine MM_entry [some _, some _] (by decide) (Nat.le_of_ble_eq_true rfl) rfl ?_
  by_cases hc : 0 ≤ what ∧ what ≤ 8
  · by_cases hc2 : lst what.toNatClampNeg ≤ v ∧ v ≤ grt what.toNatClampNeg
    · rw [bz_t (show alw what v from ⟨hc, hc2⟩)] at hΦ
      refine E_iload_n (i := 0) dX10_allows_0 rfl rfl ?_
      refine E_iconst (v := 0) dX10_allows_1 (by decide) ?_
      refine E_bipush (v := 8) dX10_allows_2 (by decide) ?_
      refine k_X10_allows_4 (mc' := 0) (ms' := 0) (rc := 0) (rs := 0) (by omega) (Nat.le_of_ble_eq_true rfl) (c_X11_within ?_)
      rw [bz_t hc]
      refine E_if_eq (tgt := 31) dX10_allows_7 (by decide) (fun c_7 => absurd c_7 (by decide)) (fun c_7 => ?_)
      refine E_iload_n (i := 1) dX10_allows_10 rfl rfl ?_
      refine E_getsA (q := ("LEAST", 10, leastL)) dX10_allows_11 (by decide) (by decide) w_354 ?_
      refine E_iload_n (i := 0) dX10_allows_14 rfl rfl ?_
      refine E_xald (idx := 0) (q := ("LEAST", 10, leastL)) dX10_allows_15 (by decide) (by decide) (in9 hc) rfl ?_
      refine E_getsA (q := ("GREATEST", 11, greatL)) dX10_allows_16 (by decide) (by decide) w_356 ?_
      refine E_iload_n (i := 0) dX10_allows_19 rfl rfl ?_
      refine E_xald (idx := 0) (q := ("GREATEST", 11, greatL)) dX10_allows_20 (by decide) (by decide) (in9 hc) rfl ?_
      refine k_X10_allows_21 (mc' := 0) (ms' := 0) (rc := 0) (rs := 0) (by omega) (Nat.le_of_ble_eq_true rfl) (c_X11_within ?_)
      rw [bz_t (show leastL.getD what.toNatClampNeg 0 ≤ v ∧ v ≤ greatL.getD what.toNatClampNeg 0 from hc2)]
      refine E_if_eq (tgt := 31) dX10_allows_24 (by decide) (fun c_24 => absurd c_24 (by decide)) (fun c_24 => ?_)
      refine E_iconst (v := 1) dX10_allows_27 (by decide) ?_
      refine E_goto (tgt := 32) dX10_allows_28 (by decide) ?_
      refine E_zret dX10_allows_32 rfl rfl ?_
      exact hΦ
    · rw [bz_f (show ¬ alw what v from fun h => hc2 h.2)] at hΦ
      refine E_iload_n (i := 0) dX10_allows_0 rfl rfl ?_
      refine E_iconst (v := 0) dX10_allows_1 (by decide) ?_
      refine E_bipush (v := 8) dX10_allows_2 (by decide) ?_
      refine k_X10_allows_4 (mc' := 0) (ms' := 0) (rc := 0) (rs := 0) (by omega) (Nat.le_of_ble_eq_true rfl) (c_X11_within ?_)
      rw [bz_t hc]
      refine E_if_eq (tgt := 31) dX10_allows_7 (by decide) (fun c_7 => absurd c_7 (by decide)) (fun c_7 => ?_)
      refine E_iload_n (i := 1) dX10_allows_10 rfl rfl ?_
      refine E_getsA (q := ("LEAST", 10, leastL)) dX10_allows_11 (by decide) (by decide) w_354 ?_
      refine E_iload_n (i := 0) dX10_allows_14 rfl rfl ?_
      refine E_xald (idx := 0) (q := ("LEAST", 10, leastL)) dX10_allows_15 (by decide) (by decide) (in9 hc) rfl ?_
      refine E_getsA (q := ("GREATEST", 11, greatL)) dX10_allows_16 (by decide) (by decide) w_356 ?_
      refine E_iload_n (i := 0) dX10_allows_19 rfl rfl ?_
      refine E_xald (idx := 0) (q := ("GREATEST", 11, greatL)) dX10_allows_20 (by decide) (by decide) (in9 hc) rfl ?_
      refine k_X10_allows_21 (mc' := 0) (ms' := 0) (rc := 0) (rs := 0) (by omega) (Nat.le_of_ble_eq_true rfl) (c_X11_within ?_)
      rw [bz_f (show ¬ (leastL.getD what.toNatClampNeg 0 ≤ v ∧ v ≤ greatL.getD what.toNatClampNeg 0) from hc2)]
      refine E_if_eq (tgt := 31) dX10_allows_24 (by decide) (fun c_24 => ?_) (fun c_24 => absurd (rfl) c_24)
      refine E_iconst (v := 0) dX10_allows_31 (by decide) ?_
      refine E_zret dX10_allows_32 rfl rfl ?_
      exact hΦ
  · rw [bz_f (show ¬ alw what v from fun h => hc h.1)] at hΦ
    refine E_iload_n (i := 0) dX10_allows_0 rfl rfl ?_
    refine E_iconst (v := 0) dX10_allows_1 (by decide) ?_
    refine E_bipush (v := 8) dX10_allows_2 (by decide) ?_
    refine k_X10_allows_4 (mc' := 0) (ms' := 0) (rc := 0) (rs := 0) (by omega) (Nat.le_of_ble_eq_true rfl) (c_X11_within ?_)
    rw [bz_f hc]
    refine E_if_eq (tgt := 31) dX10_allows_7 (by decide) (fun c_7 => ?_) (fun c_7 => absurd (rfl) c_7)
    refine E_iconst (v := 0) dX10_allows_31 (by decide) ?_
    refine E_zret dX10_allows_32 rfl rfl ?_
    exact hΦ
theorem c_X10_of {a v : Nat} {x : Int32} (hW : Wi g P a v) (hΦ : Φ (some (.int (if 0 ≤ x ∧ x ≤ 8 then I v x.toNatClampNeg else 0))) g P I) : MM Γ mX10_of d 0 0 [.ref a, .int x] g P I Φ := by
  refine MM_entry [some _, some _] (by decide) (Nat.le_of_ble_eq_true rfl) rfl ?_
  obtain ⟨h1, h2, h3, h4⟩ := hW
  by_cases hc : 0 ≤ x ∧ x ≤ 8
  · rw [if_pos hc] at hΦ
    refine E_iload_n (i := 1) dX10_of_0 rfl rfl ?_
    refine E_if_lt (tgt := 19) dX10_of_1 (by decide) (fun c_1 => absurd c_1 (Int32.not_lt.mpr hc.1)) (fun c_1 => ?_)
    refine E_iload_n (i := 1) dX10_of_4 rfl rfl ?_
    refine E_bipush (v := 8) dX10_of_5 (by decide) ?_
    refine E_icmp_gt (tgt := 19) dX10_of_7 (by decide) (fun c_7 => absurd c_7 (Int32.not_lt.mpr hc.2)) (fun c_7 => ?_)
    refine E_aload_n (i := 0) dX10_of_10 rfl rfl ?_
    refine E_gr dX10_of_11 gf_X10_20_10 rfl (by assumption) (by assumption) ?_
    refine E_iload_n (i := 1) dX10_of_14 rfl rfl ?_
    refine E_ia dX10_of_15 (by assumption) (by rw [h4]; exact in9 hc) ?_
    refine E_goto (tgt := 20) dX10_of_16 (by decide) ?_
    refine E_iret dX10_of_20 rfl ?_
    exact hΦ
  · rw [if_neg hc] at hΦ
    refine E_iload_n (i := 1) dX10_of_0 rfl rfl ?_
    refine E_if_lt (tgt := 19) dX10_of_1 (by decide) (fun c_1 => ?_) (fun c_1 => ?_)
    · refine E_iconst (v := 0) dX10_of_19 (by decide) ?_
      refine E_iret dX10_of_20 rfl ?_
      exact hΦ
    · refine E_iload_n (i := 1) dX10_of_4 rfl rfl ?_
      refine E_bipush (v := 8) dX10_of_5 (by decide) ?_
      refine E_icmp_gt (tgt := 19) dX10_of_7 (by decide) (fun c_7 => ?_) (fun c_7 => ?_)
      · refine E_iconst (v := 0) dX10_of_19 (by decide) ?_
        refine E_iret dX10_of_20 rfl ?_
        exact hΦ
      · exact absurd ⟨Int32.not_lt.mp c_1, Int32.not_lt.mp c_7⟩ hc
theorem c_X10_becomes {a v : Nat} {what x : Int32} (hd : 2 ≤ d) (hW : Wi g P a v) (hΦ : Φ none g P (if alw what x then u2 I v what.toNatClampNeg x else I)) : MM Γ mX10_becomes d 0 0 [.ref a, .int what, .int x] g P I Φ := by
  refine MM_entry [some _, some _, some _] (by decide) (Nat.le_of_ble_eq_true rfl) rfl ?_
  obtain ⟨w1, w2, w3, w4⟩ := hW
  by_cases hc : alw what x
  · rw [if_pos hc] at hΦ
    refine E_iload_n (i := 1) dX10_becomes_0 rfl rfl ?_
    refine E_iload_n (i := 2) dX10_becomes_1 rfl rfl ?_
    refine k_X10_becomes_2 (mc' := 0) (ms' := 0) (rc := 0) (rs := 0) (by omega) (Nat.le_of_ble_eq_true rfl) (c_X10_allows (by omega) ?_)
    rw [bz_t hc]
    refine E_if_eq (tgt := 15) dX10_becomes_5 (by decide) (fun c_5 => absurd c_5 (by decide)) (fun c_5 => ?_)
    refine E_aload_n (i := 0) dX10_becomes_8 rfl rfl ?_
    refine E_gr dX10_becomes_9 gf_X10_20_10 rfl (by assumption) (by assumption) ?_
    refine E_iload_n (i := 1) dX10_becomes_12 rfl rfl ?_
    refine E_iload_n (i := 2) dX10_becomes_13 rfl rfl ?_
    refine E_is dX10_becomes_14 (by assumption) (by rw [w4]; exact in9 hc.1) ?_
    refine E_vret dX10_becomes_15 rfl ?_
    exact hΦ
  · rw [if_neg hc] at hΦ
    refine E_iload_n (i := 1) dX10_becomes_0 rfl rfl ?_
    refine E_iload_n (i := 2) dX10_becomes_1 rfl rfl ?_
    refine k_X10_becomes_2 (mc' := 0) (ms' := 0) (rc := 0) (rs := 0) (by omega) (Nat.le_of_ble_eq_true rfl) (c_X10_allows (by omega) ?_)
    rw [bz_f hc]
    refine E_if_eq (tgt := 15) dX10_becomes_5 (by decide) (fun c_5 => ?_) (fun c_5 => absurd (rfl) c_5)
    refine E_vret dX10_becomes_15 rfl ?_
    exact hΦ
theorem c_X10_copyFrom {a v a' v' : Nat} (hd : 1 ≤ d) (hW : Wi g P a v) (hW' : Wi g P a' v') (hΦ : Φ none g P (ur I v (va_cpy (I v') (I v) 0 0 9))) : MM Γ mX10_copyFrom d 0 0 [.ref a, .ref a'] g P I Φ := by
  refine MM_entry [some _, some _] (by decide) (Nat.le_of_ble_eq_true rfl) rfl ?_
  obtain ⟨w1, w2, w3, w4⟩ := hW
  obtain ⟨j1, j2, j3, j4⟩ := hW'
  have c0 : (0 : Int32).toNatClampNeg = 0 := rfl
  have c9 : (nI 9).toNatClampNeg = 9 := rfl
  refine E_aload_n (i := 1) dX10_copyFrom_0 rfl rfl ?_
  refine E_gr dX10_copyFrom_1 gf_X10_20_10 rfl (by assumption) (by assumption) ?_
  refine E_iconst (v := 0) dX10_copyFrom_4 (by decide) ?_
  refine E_aload_n (i := 0) dX10_copyFrom_5 rfl rfl ?_
  refine E_gr dX10_copyFrom_6 gf_X10_20_10 rfl (by assumption) (by assumption) ?_
  refine E_iconst (v := 0) dX10_copyFrom_9 (by decide) ?_
  refine E_aload_n (i := 0) dX10_copyFrom_10 rfl rfl ?_
  refine E_gr dX10_copyFrom_11 gf_X10_20_10 rfl (by assumption) (by assumption) ?_
  refine E_il dX10_copyFrom_14 (by assumption) ?_
  rw [w4]
  refine E_copy dX10_copyFrom_15 w_853 w_790 w_789 w_90 (Nat.le_of_ble_eq_true rfl) (by omega) j3.1 j3.2.1 j3.2.2 w3.1 w3.2.1 w3.2.2 (by decide) (by decide) (by decide) (by rw [j4]; decide) (by rw [w4]; decide) ?_
  refine E_vret dX10_copyFrom_18 rfl ?_
  exact hΦ
theorem c_X10_end {a v : Nat} (hW : Wi g P a v) (hΦ : Φ (some (.int (10 * I v 0))) g P I) : MM Γ mX10_end d 0 0 [.ref a] g P I Φ := by
  refine MM_entry [some _] (by decide) (Nat.le_of_ble_eq_true rfl) rfl ?_
  obtain ⟨w1, w2, w3, w4⟩ := hW
  refine E_bipush (v := 10) dX10_end_0 (by decide) ?_
  refine E_aload_n (i := 0) dX10_end_2 rfl rfl ?_
  refine E_gr dX10_end_3 gf_X10_20_10 rfl (by assumption) (by assumption) ?_
  refine E_iconst (v := 0) dX10_end_6 (by decide) ?_
  refine E_iaj 0 dX10_end_7 (by assumption) rfl (by decide) (by rw [w4]; decide) ?_
  refine E_imul dX10_end_8 ?_
  refine E_iret dX10_end_9 rfl ?_
  exact hΦ
theorem c_X10_taut {a v : Nat} (hW : Wi g P a v) (hΦ : Φ (some (.int (taut (I v)))) g P I) : MM Γ mX10_taut d 0 0 [.ref a] g P I Φ := by
  refine MM_entry [some _, none] (by decide) (Nat.le_of_ble_eq_true rfl) rfl ?_
  obtain ⟨w1, w2, w3, w4⟩ := hW
  unfold taut at hΦ
  by_cases hc : 100 ≤ I v 2 - 10 * I v 4
  · rw [if_pos hc] at hΦ
    refine E_aload_n (i := 0) dX10_taut_0 rfl rfl ?_
    refine E_gr dX10_taut_1 gf_X10_20_10 rfl (by assumption) (by assumption) ?_
    refine E_iconst (v := 2) dX10_taut_4 (by decide) ?_
    refine E_iaj 2 dX10_taut_5 (by assumption) rfl (by decide) (by rw [w4]; decide) ?_
    refine E_bipush (v := 10) dX10_taut_6 (by decide) ?_
    refine E_aload_n (i := 0) dX10_taut_8 rfl rfl ?_
    refine E_gr dX10_taut_9 gf_X10_20_10 rfl (by assumption) (by assumption) ?_
    refine E_iconst (v := 4) dX10_taut_12 (by decide) ?_
    refine E_iaj 4 dX10_taut_13 (by assumption) rfl (by decide) (by rw [w4]; decide) ?_
    refine E_imul dX10_taut_14 ?_
    refine E_isub dX10_taut_15 ?_
    refine E_istore_nC (i := 1) dX10_taut_16 rfl (by decide) rfl ?_
    refine E_lv (lv' := [_, _]) rfl ?_
    refine E_iload_n (i := 1) dX10_taut_17 rfl rfl ?_
    refine E_bipush (v := 100) dX10_taut_18 (by decide) ?_
    refine E_icmp_ge (tgt := 28) dX10_taut_20 (by decide) (fun c_20 => ?_) (fun c_20 => absurd (hc) c_20)
    refine E_iload_n (i := 1) dX10_taut_28 rfl rfl ?_
    refine E_iret dX10_taut_29 rfl ?_
    exact hΦ
  · rw [if_neg hc] at hΦ
    refine E_aload_n (i := 0) dX10_taut_0 rfl rfl ?_
    refine E_gr dX10_taut_1 gf_X10_20_10 rfl (by assumption) (by assumption) ?_
    refine E_iconst (v := 2) dX10_taut_4 (by decide) ?_
    refine E_iaj 2 dX10_taut_5 (by assumption) rfl (by decide) (by rw [w4]; decide) ?_
    refine E_bipush (v := 10) dX10_taut_6 (by decide) ?_
    refine E_aload_n (i := 0) dX10_taut_8 rfl rfl ?_
    refine E_gr dX10_taut_9 gf_X10_20_10 rfl (by assumption) (by assumption) ?_
    refine E_iconst (v := 4) dX10_taut_12 (by decide) ?_
    refine E_iaj 4 dX10_taut_13 (by assumption) rfl (by decide) (by rw [w4]; decide) ?_
    refine E_imul dX10_taut_14 ?_
    refine E_isub dX10_taut_15 ?_
    refine E_istore_nC (i := 1) dX10_taut_16 rfl (by decide) rfl ?_
    refine E_lv (lv' := [_, _]) rfl ?_
    refine E_iload_n (i := 1) dX10_taut_17 rfl rfl ?_
    refine E_bipush (v := 100) dX10_taut_18 (by decide) ?_
    refine E_icmp_ge (tgt := 28) dX10_taut_20 (by decide) (fun c_20 => absurd c_20 (hc)) (fun c_20 => ?_)
    refine E_bipush (v := 100) dX10_taut_23 (by decide) ?_
    refine E_goto (tgt := 29) dX10_taut_25 (by decide) ?_
    refine E_iret dX10_taut_29 rfl ?_
    exact hΦ
theorem c_X10_spanBy {a v : Nat} (hd : 1 ≤ d) (hW : Wi g P a v) (hO : WOK (I v)) (hΦ : Φ (some (.int (I v 0))) g P I) : MM Γ mX10_spanBy d 0 0 [.ref a] g P I Φ := by
  refine MM_entry [some _] (by decide) (Nat.le_of_ble_eq_true rfl) rfl ?_
  have hs : (1 : Int32) ≤ I v 0 := i32_le.mpr (by have := hO.b.1; have e : (1 : Int32).toInt = 1 := rfl; omega)
  obtain ⟨w1, w2, w3, w4⟩ := hW
  refine E_aload_n (i := 0) dX10_spanBy_0 rfl rfl ?_
  refine E_gr dX10_spanBy_1 gf_X10_20_10 rfl (by assumption) (by assumption) ?_
  refine E_iconst (v := 0) dX10_spanBy_4 (by decide) ?_
  refine E_iaj 0 dX10_spanBy_5 (by assumption) rfl (by decide) (by rw [w4]; decide) ?_
  refine E_iconst (v := 1) dX10_spanBy_6 (by decide) ?_
  refine E_icmp_ge (tgt := 14) dX10_spanBy_7 (by decide) (fun c_7 => ?_) (fun c_7 => absurd (hs) c_7)
  refine E_aload_n (i := 0) dX10_spanBy_14 rfl rfl ?_
  refine E_gr dX10_spanBy_15 gf_X10_20_10 rfl (by assumption) (by assumption) ?_
  refine E_iconst (v := 0) dX10_spanBy_18 (by decide) ?_
  refine E_iaj 0 dX10_spanBy_19 (by assumption) rfl (by decide) (by rw [w4]; decide) ?_
  refine E_iret dX10_spanBy_20 rfl ?_
  exact hΦ
theorem c_X10_depthAt {a v : Nat} {x l : Int32} (hd : 2 ≤ d) (hW : Wi g P a v) (hO : WOK (I v)) (hΦ : Φ (some (.int (dep (I v) x l))) g P I) : MM Γ mX10_depthAt d 0 0 [.ref a, .int x, .int l] g P I Φ := by
  refine MM_entry [some _, some _, some _, none, none, none, none, none, none] (by decide) (Nat.le_of_ble_eq_true rfl) rfl ?_
  unfold dep at hΦ
  have hW0 := hW
  obtain ⟨w1, w2, w3, w4⟩ := hW
  refine E_aload_n (i := 0) dX10_depthAt_0 rfl rfl ?_
  refine k_X10_depthAt_1 (mc' := 0) (ms' := 0) (rc := 0) (rs := 0) (by omega) (Nat.le_of_ble_eq_true rfl) (by assumption) (c_X10_spanBy (by omega) hW0 hO ?_)
  refine E_i2l dX10_depthAt_4 ?_
  refine E_lstore_nC (i := 3) dX10_depthAt_5 rfl (by decide) rfl ?_
  refine E_lv (lv' := [_, _, _, _, _, _, _, _, _]) rfl ?_
  refine E_aload_n (i := 0) dX10_depthAt_6 rfl rfl ?_
  refine k_X10_depthAt_7 (mc' := 0) (ms' := 0) (rc := 0) (rs := 0) (by omega) (Nat.le_of_ble_eq_true rfl) (by assumption) (c_X10_taut hW0 ?_)
  refine E_i2l dX10_depthAt_10 ?_
  refine E_lstoreC dX10_depthAt_11 (by decide) rfl ?_
  refine E_lv (lv' := [_, _, _, _, _, _, _, _, _]) rfl ?_
  refine E_iload_n (i := 1) dX10_depthAt_13 rfl rfl ?_
  refine E_i2l dX10_depthAt_14 ?_
  refine E_lload_n (i := 3) dX10_depthAt_15 rfl rfl ?_
  refine E_iload_n (i := 1) dX10_depthAt_16 rfl rfl ?_
  refine E_i2l dX10_depthAt_17 ?_
  refine E_lsub dX10_depthAt_18 ?_
  refine E_lmul dX10_depthAt_19 ?_
  refine E_lstoreC dX10_depthAt_20 (by decide) rfl ?_
  refine E_lv (lv' := [_, _, _, _, _, _, _, _, _]) rfl ?_
  refine E_ldc2 (v := 1000) dX10_depthAt_22 w_404 ?_
  refine E_aload_n (i := 0) dX10_depthAt_25 rfl rfl ?_
  refine E_gr dX10_depthAt_26 gf_X10_20_10 rfl (by assumption) (by assumption) ?_
  refine E_iconst (v := 1) dX10_depthAt_29 (by decide) ?_
  refine E_iaj 1 dX10_depthAt_30 (by assumption) rfl (by decide) (by rw [w4]; decide) ?_
  refine E_i2l dX10_depthAt_31 ?_
  refine E_lmul dX10_depthAt_32 ?_
  refine E_iload_n (i := 1) dX10_depthAt_33 rfl rfl ?_
  refine E_i2l dX10_depthAt_34 ?_
  refine E_lmul dX10_depthAt_35 ?_
  refine E_lload_n (i := 3) dX10_depthAt_36 rfl rfl ?_
  refine E_ldiv dX10_depthAt_37 (span_ne hO) ?_
  refine E_ldc2 (v := 500) dX10_depthAt_38 w_405 ?_
  refine E_aload_n (i := 0) dX10_depthAt_41 rfl rfl ?_
  refine E_gr dX10_depthAt_42 gf_X10_20_10 rfl (by assumption) (by assumption) ?_
  refine E_iconst (v := 3) dX10_depthAt_45 (by decide) ?_
  refine E_iaj 3 dX10_depthAt_46 (by assumption) rfl (by decide) (by rw [w4]; decide) ?_
  refine E_i2l dX10_depthAt_47 ?_
  refine E_lmul dX10_depthAt_48 ?_
  refine E_lload dX10_depthAt_49 rfl ?_
  refine E_lmul dX10_depthAt_51 ?_
  refine E_lload dX10_depthAt_52 rfl ?_
  refine E_ldiv dX10_depthAt_54 (taut_ne hO) ?_
  refine E_ladd dX10_depthAt_55 ?_
  refine E_ldc2 (v := 1000) dX10_depthAt_56 w_404 ?_
  refine E_iload_n (i := 2) dX10_depthAt_59 rfl rfl ?_
  refine E_i2l dX10_depthAt_60 ?_
  refine E_lmul dX10_depthAt_61 ?_
  refine E_lload dX10_depthAt_62 rfl ?_
  refine E_lmul dX10_depthAt_64 ?_
  refine E_lload_n (i := 3) dX10_depthAt_65 rfl rfl ?_
  refine E_lload dX10_depthAt_66 rfl ?_
  refine E_lmul dX10_depthAt_68 ?_
  refine E_ldiv dX10_depthAt_69 (st_ne hO) ?_
  refine E_ladd dX10_depthAt_70 ?_
  refine E_l2i dX10_depthAt_71 ?_
  refine E_iret dX10_depthAt_72 rfl ?_
  exact hΦ
theorem c_X10_steepAt {a v : Nat} {x l : Int32} (hd : 3 ≤ d) (hW : Wi g P a v) (hO : WOK (I v)) (hΦ : Φ (some (.int (stp (I v) x l))) g P I) : MM Γ mX10_steepAt d 0 0 [.ref a, .int x, .int l] g P I Φ := by
  refine MM_entry [some _, some _, some _, none] (by decide) (Nat.le_of_ble_eq_true rfl) rfl ?_
  unfold stp at hΦ
  have hW0 := hW
  obtain ⟨w1, w2, w3, w4⟩ := hW
  refine E_iload_n (i := 1) dX10_steepAt_0 rfl rfl ?_
  refine E_aload_n (i := 0) dX10_steepAt_1 rfl rfl ?_
  refine E_gr dX10_steepAt_2 gf_X10_20_10 rfl (by assumption) (by assumption) ?_
  refine E_iconst (v := 0) dX10_steepAt_5 (by decide) ?_
  refine E_iaj 0 dX10_steepAt_6 (by assumption) rfl (by decide) (by rw [w4]; decide) ?_
  refine E_iconst (v := 1) dX10_steepAt_7 (by decide) ?_
  refine E_isub dX10_steepAt_8 ?_
  refine E_min dX10_steepAt_9 w_414 w_381 w_74 w_382 (Nat.le_of_ble_eq_true rfl) (by omega) ?_
  refine E_istore_nC (i := 3) dX10_steepAt_12 rfl (by decide) rfl ?_
  refine E_lv (lv' := [_, _, _, _]) rfl ?_
  refine E_aload_n (i := 0) dX10_steepAt_13 rfl rfl ?_
  refine E_iload_n (i := 3) dX10_steepAt_14 rfl rfl ?_
  refine E_iconst (v := 1) dX10_steepAt_15 (by decide) ?_
  refine E_iadd dX10_steepAt_16 ?_
  refine E_iload_n (i := 2) dX10_steepAt_17 rfl rfl ?_
  refine k_X10_steepAt_18 (mc' := 0) (ms' := 0) (rc := 0) (rs := 0) (by omega) (Nat.le_of_ble_eq_true rfl) (by assumption) (c_X10_depthAt (by omega) hW0 hO ?_)
  refine E_aload_n (i := 0) dX10_steepAt_21 rfl rfl ?_
  refine E_iload_n (i := 3) dX10_steepAt_22 rfl rfl ?_
  refine E_iload_n (i := 2) dX10_steepAt_23 rfl rfl ?_
  refine k_X10_steepAt_24 (mc' := 0) (ms' := 0) (rc := 0) (rs := 0) (by omega) (Nat.le_of_ble_eq_true rfl) (by assumption) (c_X10_depthAt (by omega) hW0 hO ?_)
  refine E_isub dX10_steepAt_27 ?_
  refine E_iret dX10_steepAt_28 rfl ?_
  exact hΦ
theorem c_X10_pulledAt {a v : Nat} {x l : Int32} (hd : 2 ≤ d) (hW : Wi g P a v) (hO : WOK (I v)) (hΦ : Φ (some (.int (pul (I v) x l))) g P I) : MM Γ mX10_pulledAt d 0 0 [.ref a, .int x, .int l] g P I Φ := by
  refine MM_entry [some _, some _, some _, none] (by decide) (Nat.le_of_ble_eq_true rfl) rfl ?_
  unfold pul at hΦ
  have hW0 := hW
  obtain ⟨w1, w2, w3, w4⟩ := hW
  refine E_aload_n (i := 0) dX10_pulledAt_0 rfl rfl ?_
  refine k_X10_pulledAt_1 (mc' := 0) (ms' := 0) (rc := 0) (rs := 0) (by omega) (Nat.le_of_ble_eq_true rfl) (by assumption) (c_X10_spanBy (by omega) hW0 hO ?_)
  refine E_istore_nC (i := 3) dX10_pulledAt_4 rfl (by decide) rfl ?_
  refine E_lv (lv' := [_, _, _, _]) rfl ?_
  refine E_aload_n (i := 0) dX10_pulledAt_5 rfl rfl ?_
  refine k_X10_pulledAt_6 (mc' := 0) (ms' := 0) (rc := 0) (rs := 0) (by omega) (Nat.le_of_ble_eq_true rfl) (by assumption) (c_X10_taut hW0 ?_)
  refine E_iconst (v := 4) dX10_pulledAt_9 (by decide) ?_
  refine E_iload_n (i := 2) dX10_pulledAt_10 rfl rfl ?_
  refine E_imul dX10_pulledAt_11 ?_
  refine E_iload_n (i := 1) dX10_pulledAt_12 rfl rfl ?_
  refine E_imul dX10_pulledAt_13 ?_
  refine E_iload_n (i := 3) dX10_pulledAt_14 rfl rfl ?_
  refine E_iload_n (i := 1) dX10_pulledAt_15 rfl rfl ?_
  refine E_isub dX10_pulledAt_16 ?_
  refine E_imul dX10_pulledAt_17 ?_
  refine E_iload_n (i := 3) dX10_pulledAt_18 rfl rfl ?_
  refine E_iload_n (i := 3) dX10_pulledAt_19 rfl rfl ?_
  refine E_imul dX10_pulledAt_20 ?_
  refine E_idiv dX10_pulledAt_21 (ne32 (by rw [(ss_mul hO).1]; have := (ss_mul hO).2; omega)) ?_
  refine E_iadd dX10_pulledAt_22 ?_
  refine E_iret dX10_pulledAt_23 rfl ?_
  exact hΦ
end
