/-! rides: what they gain, what they rub -/
def rl (w : Nat → Int32) : Int32 := if 0 < w 4 then 1 else 0
/-- what a kind (by its class's number) adds to the gain -/
def gkc (ci : Nat) (w : Nat → Int32) (m place pace : Int32) : Int32 :=
  if ci = 6 then rl w else if ci = 2 ∨ ci = 1 then m else if ci = 9 then w 7
  else if ci = 0 then (if m < pace then rl w - (pace - m) / 2 else rl w)
  else if ci = 3 then (if m < pace ∧ 8 * w 0 ≤ place then rl w - (pace - m) / 2 else rl w) else 0
def gnc (ci : Nat) (w : Nat → Int32) (weight m place pace : Int32) : Int32 := stp w (place / 10) weight / 50 + gkc ci w m place pace
def rbc (ci : Nat) (w : Nat → Int32) : Int32 := if ci = 1 then w 6 / 2 else w 6
def isR (ci : Nat) : Prop := ci = 5 ∨ ci = 6 ∨ ci = 2 ∨ ci = 0 ∨ ci = 9 ∨ ci = 3 ∨ ci = 1
section
variable {Γ : GE} {d : Nat} {g : Sh} {P : HP} {I : HI} {Φ : Option Value → Sh → HP → HI → Prop}
theorem c_X5_gainOfKind {r a : Nat} {p s : Int32} (hΦ : Φ (some (.int 0)) g P I) : MM Γ mX5_gainOfKind d 0 0 [.ref r, .ref a, .int p, .int s] g P I Φ := by
  refine MM_entry [some _, some _, some _, some _] (by decide) (Nat.le_of_ble_eq_true rfl) rfl ?_
  refine E_iconst (v := 0) dX5_gainOfKind_0 (by decide) ?_
  refine E_iret dX5_gainOfKind_1 rfl ?_
  exact hΦ
theorem c_X6_gainOfKind {r a v : Nat} {p s : Int32} (hd : 1 ≤ d) (hW : Wi g P a v) (hΦ : Φ (some (.int (rl (I v)))) g P I) : MM Γ mX6_gainOfKind d 0 0 [.ref r, .ref a, .int p, .int s] g P I Φ := by
  refine MM_entry [some _, some _, some _, some _] (by decide) (Nat.le_of_ble_eq_true rfl) rfl ?_
  have w1 := hW.1
  unfold rl at hΦ
  by_cases hc : 0 < I v 4
  · rw [if_pos hc] at hΦ
    refine E_aload_n (i := 1) dX6_gainOfKind_0 rfl rfl ?_
    refine E_iconst (v := 4) dX6_gainOfKind_1 (by decide) ?_
    refine k_X6_gainOfKind_2 (mc' := 0) (ms' := 0) (rc := 0) (rs := 0) (by omega) (Nat.le_of_ble_eq_true rfl) (by assumption) (c_X10_ofk (k := 4) rfl (by decide) hW ?_)
    refine E_if_le (tgt := 12) dX6_gainOfKind_5 (by decide) (fun c_5 => absurd c_5 (Int32.not_le.mpr hc)) (fun c_5 => ?_)
    refine E_iconst (v := 1) dX6_gainOfKind_8 (by decide) ?_
    refine E_goto (tgt := 13) dX6_gainOfKind_9 (by decide) ?_
    refine E_iret dX6_gainOfKind_13 rfl ?_
    exact hΦ
  · rw [if_neg hc] at hΦ
    refine E_aload_n (i := 1) dX6_gainOfKind_0 rfl rfl ?_
    refine E_iconst (v := 4) dX6_gainOfKind_1 (by decide) ?_
    refine k_X6_gainOfKind_2 (mc' := 0) (ms' := 0) (rc := 0) (rs := 0) (by omega) (Nat.le_of_ble_eq_true rfl) (by assumption) (c_X10_ofk (k := 4) rfl (by decide) hW ?_)
    refine E_if_le (tgt := 12) dX6_gainOfKind_5 (by decide) (fun c_5 => ?_) (fun c_5 => absurd (Int32.not_lt.mp hc) c_5)
    refine E_iconst (v := 0) dX6_gainOfKind_12 (by decide) ?_
    refine E_iret dX6_gainOfKind_13 rfl ?_
    exact hΦ
theorem c_X9_gainOfKind {r a v : Nat} {p s : Int32} (hd : 1 ≤ d) (hW : Wi g P a v) (hΦ : Φ (some (.int (I v 7))) g P I) : MM Γ mX9_gainOfKind d 0 0 [.ref r, .ref a, .int p, .int s] g P I Φ := by
  refine MM_entry [some _, some _, some _, some _] (by decide) (Nat.le_of_ble_eq_true rfl) rfl ?_
  have w1 := hW.1
  refine E_aload_n (i := 1) dX9_gainOfKind_0 rfl rfl ?_
  refine E_bipush (v := 7) dX9_gainOfKind_1 (by decide) ?_
  refine k_X9_gainOfKind_3 (mc' := 0) (ms' := 0) (rc := 0) (rs := 0) (by omega) (Nat.le_of_ble_eq_true rfl) (by assumption) (c_X10_ofk (k := 7) rfl (by decide) hW ?_)
  refine E_iret dX9_gainOfKind_6 rfl ?_
  exact hΦ
theorem c_X0_brakesAt {r a : Nat} {p : Int32} (hΦ : Φ (some (.int 1)) g P I) : MM Γ mX0_brakesAt d 0 0 [.ref r, .ref a, .int p] g P I Φ := by
  refine MM_entry [some _, some _, some _] (by decide) (Nat.le_of_ble_eq_true rfl) rfl ?_
  refine E_iconst (v := 1) dX0_brakesAt_0 (by decide) ?_
  refine E_zret dX0_brakesAt_1 rfl rfl ?_
  exact hΦ
theorem c_X3_brakesAt {r a v : Nat} {p : Int32} (hd : 1 ≤ d) (hW : Wi g P a v) (hΦ : Φ (some (.int (bz (8 * I v 0 ≤ p)))) g P I) : MM Γ mX3_brakesAt d 0 0 [.ref r, .ref a, .int p] g P I Φ := by
  refine MM_entry [some _, some _, some _] (by decide) (Nat.le_of_ble_eq_true rfl) rfl ?_
  have w1 := hW.1
  by_cases hc : 8 * I v 0 ≤ p
  · rw [bz_t hc] at hΦ
    refine E_iload_n (i := 2) dX3_brakesAt_0 rfl rfl ?_
    refine E_bipush (v := 8) dX3_brakesAt_1 (by decide) ?_
    refine E_aload_n (i := 1) dX3_brakesAt_3 rfl rfl ?_
    refine E_iconst (v := 0) dX3_brakesAt_4 (by decide) ?_
    refine k_X3_brakesAt_5 (mc' := 0) (ms' := 0) (rc := 0) (rs := 0) (by omega) (Nat.le_of_ble_eq_true rfl) (by assumption) (c_X10_ofk (k := 0) rfl (by decide) hW ?_)
    refine E_imul dX3_brakesAt_8 ?_
    refine E_icmp_lt (tgt := 16) dX3_brakesAt_9 (by decide) (fun c_9 => absurd c_9 (Int32.not_lt.mpr hc)) (fun c_9 => ?_)
    refine E_iconst (v := 1) dX3_brakesAt_12 (by decide) ?_
    refine E_goto (tgt := 17) dX3_brakesAt_13 (by decide) ?_
    refine E_zret dX3_brakesAt_17 rfl rfl ?_
    exact hΦ
  · rw [bz_f hc] at hΦ
    refine E_iload_n (i := 2) dX3_brakesAt_0 rfl rfl ?_
    refine E_bipush (v := 8) dX3_brakesAt_1 (by decide) ?_
    refine E_aload_n (i := 1) dX3_brakesAt_3 rfl rfl ?_
    refine E_iconst (v := 0) dX3_brakesAt_4 (by decide) ?_
    refine k_X3_brakesAt_5 (mc' := 0) (ms' := 0) (rc := 0) (rs := 0) (by omega) (Nat.le_of_ble_eq_true rfl) (by assumption) (c_X10_ofk (k := 0) rfl (by decide) hW ?_)
    refine E_imul dX3_brakesAt_8 ?_
    refine E_icmp_lt (tgt := 16) dX3_brakesAt_9 (by decide) (fun c_9 => ?_) (fun c_9 => absurd (Int32.not_le.mp hc) c_9)
    refine E_iconst (v := 0) dX3_brakesAt_16 (by decide) ?_
    refine E_zret dX3_brakesAt_17 rfl rfl ?_
    exact hΦ
theorem c_X2_gainOfKind_2 {r a : Nat} {p s : Int32} (hr : Cel g r 2) (hΦ : Φ (some (.int (I r 3))) g P I) : MM Γ mX2_gainOfKind d 0 0 [.ref r, .ref a, .int p, .int s] g P I Φ := by
  refine MM_entry [some _, some _, some _, some _] (by decide) (Nat.le_of_ble_eq_true rfl) rfl ?_
  refine E_aload_n (i := 0) dX2_gainOfKind_0 rfl rfl ?_
  refine E_gi dX2_gainOfKind_1 gf_X2_7_2 rfl (by assumption) ?_
  refine E_iret dX2_gainOfKind_4 rfl ?_
  exact hΦ
theorem c_X2_gainOfKind_1 {r a : Nat} {p s : Int32} (hr : Cel g r 1) (hΦ : Φ (some (.int (I r 3))) g P I) : MM Γ mX2_gainOfKind d 0 0 [.ref r, .ref a, .int p, .int s] g P I Φ := by
  refine MM_entry [some _, some _, some _, some _] (by decide) (Nat.le_of_ble_eq_true rfl) rfl ?_
  refine E_aload_n (i := 0) dX2_gainOfKind_0 rfl rfl ?_
  refine E_gi dX2_gainOfKind_1 gf_X2_7_1 rfl (by assumption) ?_
  refine E_iret dX2_gainOfKind_4 rfl ?_
  exact hΦ
theorem c_X0_gainOfKind_0 {r a v : Nat} {p s : Int32} (hd : 2 ≤ d) (hr : Cel g r 0) (hW : Wi g P a v) (hΦ : Φ (some (.int (if I r 3 < s then rl (I v) - (s - I r 3) / 2 else rl (I v)))) g P I) : MM Γ mX0_gainOfKind d 0 0 [.ref r, .ref a, .int p, .int s] g P I Φ := by
  refine MM_entry [some _, some _, some _, some _, none] (by decide) (Nat.le_of_ble_eq_true rfl) rfl ?_
  by_cases hc : I r 3 < s
  · rw [if_pos hc] at hΦ
    refine E_aload_n (i := 0) dX0_gainOfKind_0 rfl rfl ?_
    refine E_aload_n (i := 1) dX0_gainOfKind_1 rfl rfl ?_
    refine E_iload_n (i := 2) dX0_gainOfKind_2 rfl rfl ?_
    refine E_iload_n (i := 3) dX0_gainOfKind_3 rfl rfl ?_
    refine k_X0_gainOfKind_4_0 (mc' := 0) (ms' := 0) (rc := 0) (rs := 0) (by omega) (Nat.le_of_ble_eq_true rfl) (by assumption) (c_X6_gainOfKind (by omega) hW ?_)
    refine E_istoreC dX0_gainOfKind_7 (by decide) rfl ?_
    refine E_lv (lv' := [_, _, _, _, _]) rfl ?_
    refine E_iload_n (i := 3) dX0_gainOfKind_9 rfl rfl ?_
    refine E_aload_n (i := 0) dX0_gainOfKind_10 rfl rfl ?_
    refine E_gi dX0_gainOfKind_11 gf_X0_11_0 rfl (by assumption) ?_
    refine E_icmp_le (tgt := 40) dX0_gainOfKind_14 (by decide) (fun c_14 => absurd c_14 (Int32.not_le.mpr hc)) (fun c_14 => ?_)
    refine E_aload_n (i := 0) dX0_gainOfKind_17 rfl rfl ?_
    refine E_aload_n (i := 1) dX0_gainOfKind_18 rfl rfl ?_
    refine E_iload_n (i := 2) dX0_gainOfKind_19 rfl rfl ?_
    refine k_X0_gainOfKind_20_0 (mc' := 0) (ms' := 0) (rc := 0) (rs := 0) (by omega) (Nat.le_of_ble_eq_true rfl) (by assumption) (c_X0_brakesAt ?_)
    refine E_if_eq (tgt := 40) dX0_gainOfKind_23 (by decide) (fun c_23 => absurd c_23 (by decide)) (fun c_23 => ?_)
    refine E_iload dX0_gainOfKind_26 rfl ?_
    refine E_iload_n (i := 3) dX0_gainOfKind_28 rfl rfl ?_
    refine E_aload_n (i := 0) dX0_gainOfKind_29 rfl rfl ?_
    refine E_gi dX0_gainOfKind_30 gf_X0_11_0 rfl (by assumption) ?_
    refine E_isub dX0_gainOfKind_33 ?_
    refine E_iconst (v := 2) dX0_gainOfKind_34 (by decide) ?_
    refine E_idiv dX0_gainOfKind_35 (by decide) ?_
    refine E_isub dX0_gainOfKind_36 ?_
    refine E_goto (tgt := 42) dX0_gainOfKind_37 (by decide) ?_
    refine E_iret dX0_gainOfKind_42 rfl ?_
    exact hΦ
  · rw [if_neg hc] at hΦ
    refine E_aload_n (i := 0) dX0_gainOfKind_0 rfl rfl ?_
    refine E_aload_n (i := 1) dX0_gainOfKind_1 rfl rfl ?_
    refine E_iload_n (i := 2) dX0_gainOfKind_2 rfl rfl ?_
    refine E_iload_n (i := 3) dX0_gainOfKind_3 rfl rfl ?_
    refine k_X0_gainOfKind_4_0 (mc' := 0) (ms' := 0) (rc := 0) (rs := 0) (by omega) (Nat.le_of_ble_eq_true rfl) (by assumption) (c_X6_gainOfKind (by omega) hW ?_)
    refine E_istoreC dX0_gainOfKind_7 (by decide) rfl ?_
    refine E_lv (lv' := [_, _, _, _, _]) rfl ?_
    refine E_iload_n (i := 3) dX0_gainOfKind_9 rfl rfl ?_
    refine E_aload_n (i := 0) dX0_gainOfKind_10 rfl rfl ?_
    refine E_gi dX0_gainOfKind_11 gf_X0_11_0 rfl (by assumption) ?_
    refine E_icmp_le (tgt := 40) dX0_gainOfKind_14 (by decide) (fun c_14 => ?_) (fun c_14 => absurd (Int32.not_lt.mp hc) c_14)
    refine E_iload dX0_gainOfKind_40 rfl ?_
    refine E_iret dX0_gainOfKind_42 rfl ?_
    exact hΦ
theorem c_X0_gainOfKind_3 {r a v : Nat} {p s : Int32} (hd : 2 ≤ d) (hr : Cel g r 3) (hW : Wi g P a v) (hΦ : Φ (some (.int (if I r 3 < s ∧ 8 * I v 0 ≤ p then rl (I v) - (s - I r 3) / 2 else rl (I v)))) g P I) : MM Γ mX0_gainOfKind d 0 0 [.ref r, .ref a, .int p, .int s] g P I Φ := by
  refine MM_entry [some _, some _, some _, some _, none] (by decide) (Nat.le_of_ble_eq_true rfl) rfl ?_
  by_cases hc : I r 3 < s
  · by_cases hc2 : 8 * I v 0 ≤ p
    · rw [if_pos ⟨hc, hc2⟩] at hΦ
      refine E_aload_n (i := 0) dX0_gainOfKind_0 rfl rfl ?_
      refine E_aload_n (i := 1) dX0_gainOfKind_1 rfl rfl ?_
      refine E_iload_n (i := 2) dX0_gainOfKind_2 rfl rfl ?_
      refine E_iload_n (i := 3) dX0_gainOfKind_3 rfl rfl ?_
      refine k_X0_gainOfKind_4_3 (mc' := 0) (ms' := 0) (rc := 0) (rs := 0) (by omega) (Nat.le_of_ble_eq_true rfl) (by assumption) (c_X6_gainOfKind (by omega) hW ?_)
      refine E_istoreC dX0_gainOfKind_7 (by decide) rfl ?_
      refine E_lv (lv' := [_, _, _, _, _]) rfl ?_
      refine E_iload_n (i := 3) dX0_gainOfKind_9 rfl rfl ?_
      refine E_aload_n (i := 0) dX0_gainOfKind_10 rfl rfl ?_
      refine E_gi dX0_gainOfKind_11 gf_X0_11_3 rfl (by assumption) ?_
      refine E_icmp_le (tgt := 40) dX0_gainOfKind_14 (by decide) (fun c_14 => absurd c_14 (Int32.not_le.mpr hc)) (fun c_14 => ?_)
      refine E_aload_n (i := 0) dX0_gainOfKind_17 rfl rfl ?_
      refine E_aload_n (i := 1) dX0_gainOfKind_18 rfl rfl ?_
      refine E_iload_n (i := 2) dX0_gainOfKind_19 rfl rfl ?_
      refine k_X0_gainOfKind_20_3 (mc' := 0) (ms' := 0) (rc := 0) (rs := 0) (by omega) (Nat.le_of_ble_eq_true rfl) (by assumption) (c_X3_brakesAt (by omega) hW ?_)
      rw [bz_t hc2]
      refine E_if_eq (tgt := 40) dX0_gainOfKind_23 (by decide) (fun c_23 => absurd c_23 (by decide)) (fun c_23 => ?_)
      refine E_iload dX0_gainOfKind_26 rfl ?_
      refine E_iload_n (i := 3) dX0_gainOfKind_28 rfl rfl ?_
      refine E_aload_n (i := 0) dX0_gainOfKind_29 rfl rfl ?_
      refine E_gi dX0_gainOfKind_30 gf_X0_11_3 rfl (by assumption) ?_
      refine E_isub dX0_gainOfKind_33 ?_
      refine E_iconst (v := 2) dX0_gainOfKind_34 (by decide) ?_
      refine E_idiv dX0_gainOfKind_35 (by decide) ?_
      refine E_isub dX0_gainOfKind_36 ?_
      refine E_goto (tgt := 42) dX0_gainOfKind_37 (by decide) ?_
      refine E_iret dX0_gainOfKind_42 rfl ?_
      exact hΦ
    · rw [if_neg (fun h => hc2 h.2)] at hΦ
      refine E_aload_n (i := 0) dX0_gainOfKind_0 rfl rfl ?_
      refine E_aload_n (i := 1) dX0_gainOfKind_1 rfl rfl ?_
      refine E_iload_n (i := 2) dX0_gainOfKind_2 rfl rfl ?_
      refine E_iload_n (i := 3) dX0_gainOfKind_3 rfl rfl ?_
      refine k_X0_gainOfKind_4_3 (mc' := 0) (ms' := 0) (rc := 0) (rs := 0) (by omega) (Nat.le_of_ble_eq_true rfl) (by assumption) (c_X6_gainOfKind (by omega) hW ?_)
      refine E_istoreC dX0_gainOfKind_7 (by decide) rfl ?_
      refine E_lv (lv' := [_, _, _, _, _]) rfl ?_
      refine E_iload_n (i := 3) dX0_gainOfKind_9 rfl rfl ?_
      refine E_aload_n (i := 0) dX0_gainOfKind_10 rfl rfl ?_
      refine E_gi dX0_gainOfKind_11 gf_X0_11_3 rfl (by assumption) ?_
      refine E_icmp_le (tgt := 40) dX0_gainOfKind_14 (by decide) (fun c_14 => absurd c_14 (Int32.not_le.mpr hc)) (fun c_14 => ?_)
      refine E_aload_n (i := 0) dX0_gainOfKind_17 rfl rfl ?_
      refine E_aload_n (i := 1) dX0_gainOfKind_18 rfl rfl ?_
      refine E_iload_n (i := 2) dX0_gainOfKind_19 rfl rfl ?_
      refine k_X0_gainOfKind_20_3 (mc' := 0) (ms' := 0) (rc := 0) (rs := 0) (by omega) (Nat.le_of_ble_eq_true rfl) (by assumption) (c_X3_brakesAt (by omega) hW ?_)
      rw [bz_f hc2]
      refine E_if_eq (tgt := 40) dX0_gainOfKind_23 (by decide) (fun c_23 => ?_) (fun c_23 => absurd (rfl) c_23)
      refine E_iload dX0_gainOfKind_40 rfl ?_
      refine E_iret dX0_gainOfKind_42 rfl ?_
      exact hΦ
  · rw [if_neg (fun h => hc h.1)] at hΦ
    refine E_aload_n (i := 0) dX0_gainOfKind_0 rfl rfl ?_
    refine E_aload_n (i := 1) dX0_gainOfKind_1 rfl rfl ?_
    refine E_iload_n (i := 2) dX0_gainOfKind_2 rfl rfl ?_
    refine E_iload_n (i := 3) dX0_gainOfKind_3 rfl rfl ?_
    refine k_X0_gainOfKind_4_3 (mc' := 0) (ms' := 0) (rc := 0) (rs := 0) (by omega) (Nat.le_of_ble_eq_true rfl) (by assumption) (c_X6_gainOfKind (by omega) hW ?_)
    refine E_istoreC dX0_gainOfKind_7 (by decide) rfl ?_
    refine E_lv (lv' := [_, _, _, _, _]) rfl ?_
    refine E_iload_n (i := 3) dX0_gainOfKind_9 rfl rfl ?_
    refine E_aload_n (i := 0) dX0_gainOfKind_10 rfl rfl ?_
    refine E_gi dX0_gainOfKind_11 gf_X0_11_3 rfl (by assumption) ?_
    refine E_icmp_le (tgt := 40) dX0_gainOfKind_14 (by decide) (fun c_14 => ?_) (fun c_14 => absurd (Int32.not_lt.mp hc) c_14)
    refine E_iload dX0_gainOfKind_40 rfl ?_
    refine E_iret dX0_gainOfKind_42 rfl ?_
    exact hΦ
theorem c_X5_gain_5 {r a v : Nat} {p s : Int32} (hd : 4 ≤ d) (hr : Cel g r 5) (hW : Wi g P a v) (hO : WOK (I v)) (hΦ : Φ (some (.int (gnc 5 (I v) (I r 2) (I r 3) p s))) g P I) : MM Γ mX5_gain d 0 0 [.ref r, .ref a, .int p, .int s] g P I Φ := by
  refine MM_entry [some _, some _, some _, some _] (by decide) (Nat.le_of_ble_eq_true rfl) rfl ?_
  have w1 := hW.1
  have hΦ2 : Φ (some (.int (stp (I v) (p / 10) (I r 2) / 50 + 0))) g P I := by
    have e : gnc 5 (I v) (I r 2) (I r 3) p s = stp (I v) (p / 10) (I r 2) / 50 + 0 := by simp [gnc, gkc]
    rw [e] at hΦ
    exact hΦ
  refine E_aload_n (i := 1) dX5_gain_0 rfl rfl ?_
  refine E_iload_n (i := 2) dX5_gain_1 rfl rfl ?_
  refine E_bipush (v := 10) dX5_gain_2 (by decide) ?_
  refine E_idiv dX5_gain_4 (by decide) ?_
  refine E_aload_n (i := 0) dX5_gain_5 rfl rfl ?_
  refine E_gi dX5_gain_6 gf_X5_18_5 rfl (by assumption) ?_
  refine k_X5_gain_9 (mc' := 0) (ms' := 0) (rc := 0) (rs := 0) (by omega) (Nat.le_of_ble_eq_true rfl) (by assumption) (c_X10_steepAt (by omega) hW hO ?_)
  refine E_bipush (v := 50) dX5_gain_12 (by decide) ?_
  refine E_idiv dX5_gain_14 (by decide) ?_
  refine E_aload_n (i := 0) dX5_gain_15 rfl rfl ?_
  refine E_aload_n (i := 1) dX5_gain_16 rfl rfl ?_
  refine E_iload_n (i := 2) dX5_gain_17 rfl rfl ?_
  refine E_iload_n (i := 3) dX5_gain_18 rfl rfl ?_
  refine k_X5_gain_19_5 (mc' := 0) (ms' := 0) (rc := 0) (rs := 0) (by omega) (Nat.le_of_ble_eq_true rfl) (by assumption) (c_X5_gainOfKind ?_)
  refine E_iadd dX5_gain_22 ?_
  refine E_iret dX5_gain_23 rfl ?_
  exact hΦ2
theorem c_X5_gain_6 {r a v : Nat} {p s : Int32} (hd : 4 ≤ d) (hr : Cel g r 6) (hW : Wi g P a v) (hO : WOK (I v)) (hΦ : Φ (some (.int (gnc 6 (I v) (I r 2) (I r 3) p s))) g P I) : MM Γ mX5_gain d 0 0 [.ref r, .ref a, .int p, .int s] g P I Φ := by
  refine MM_entry [some _, some _, some _, some _] (by decide) (Nat.le_of_ble_eq_true rfl) rfl ?_
  have w1 := hW.1
  have hΦ2 : Φ (some (.int (stp (I v) (p / 10) (I r 2) / 50 + rl (I v)))) g P I := by
    have e : gnc 6 (I v) (I r 2) (I r 3) p s = stp (I v) (p / 10) (I r 2) / 50 + rl (I v) := by simp [gnc, gkc]
    rw [e] at hΦ
    exact hΦ
  refine E_aload_n (i := 1) dX5_gain_0 rfl rfl ?_
  refine E_iload_n (i := 2) dX5_gain_1 rfl rfl ?_
  refine E_bipush (v := 10) dX5_gain_2 (by decide) ?_
  refine E_idiv dX5_gain_4 (by decide) ?_
  refine E_aload_n (i := 0) dX5_gain_5 rfl rfl ?_
  refine E_gi dX5_gain_6 gf_X5_18_6 rfl (by assumption) ?_
  refine k_X5_gain_9 (mc' := 0) (ms' := 0) (rc := 0) (rs := 0) (by omega) (Nat.le_of_ble_eq_true rfl) (by assumption) (c_X10_steepAt (by omega) hW hO ?_)
  refine E_bipush (v := 50) dX5_gain_12 (by decide) ?_
  refine E_idiv dX5_gain_14 (by decide) ?_
  refine E_aload_n (i := 0) dX5_gain_15 rfl rfl ?_
  refine E_aload_n (i := 1) dX5_gain_16 rfl rfl ?_
  refine E_iload_n (i := 2) dX5_gain_17 rfl rfl ?_
  refine E_iload_n (i := 3) dX5_gain_18 rfl rfl ?_
  refine k_X5_gain_19_6 (mc' := 0) (ms' := 0) (rc := 0) (rs := 0) (by omega) (Nat.le_of_ble_eq_true rfl) (by assumption) (c_X6_gainOfKind (by omega) hW ?_)
  refine E_iadd dX5_gain_22 ?_
  refine E_iret dX5_gain_23 rfl ?_
  exact hΦ2
theorem c_X5_gain_2 {r a v : Nat} {p s : Int32} (hd : 4 ≤ d) (hr : Cel g r 2) (hW : Wi g P a v) (hO : WOK (I v)) (hΦ : Φ (some (.int (gnc 2 (I v) (I r 2) (I r 3) p s))) g P I) : MM Γ mX5_gain d 0 0 [.ref r, .ref a, .int p, .int s] g P I Φ := by
  refine MM_entry [some _, some _, some _, some _] (by decide) (Nat.le_of_ble_eq_true rfl) rfl ?_
  have w1 := hW.1
  have hΦ2 : Φ (some (.int (stp (I v) (p / 10) (I r 2) / 50 + I r 3))) g P I := by
    have e : gnc 2 (I v) (I r 2) (I r 3) p s = stp (I v) (p / 10) (I r 2) / 50 + I r 3 := by simp [gnc, gkc]
    rw [e] at hΦ
    exact hΦ
  refine E_aload_n (i := 1) dX5_gain_0 rfl rfl ?_
  refine E_iload_n (i := 2) dX5_gain_1 rfl rfl ?_
  refine E_bipush (v := 10) dX5_gain_2 (by decide) ?_
  refine E_idiv dX5_gain_4 (by decide) ?_
  refine E_aload_n (i := 0) dX5_gain_5 rfl rfl ?_
  refine E_gi dX5_gain_6 gf_X5_18_2 rfl (by assumption) ?_
  refine k_X5_gain_9 (mc' := 0) (ms' := 0) (rc := 0) (rs := 0) (by omega) (Nat.le_of_ble_eq_true rfl) (by assumption) (c_X10_steepAt (by omega) hW hO ?_)
  refine E_bipush (v := 50) dX5_gain_12 (by decide) ?_
  refine E_idiv dX5_gain_14 (by decide) ?_
  refine E_aload_n (i := 0) dX5_gain_15 rfl rfl ?_
  refine E_aload_n (i := 1) dX5_gain_16 rfl rfl ?_
  refine E_iload_n (i := 2) dX5_gain_17 rfl rfl ?_
  refine E_iload_n (i := 3) dX5_gain_18 rfl rfl ?_
  refine k_X5_gain_19_2 (mc' := 0) (ms' := 0) (rc := 0) (rs := 0) (by omega) (Nat.le_of_ble_eq_true rfl) (by assumption) (c_X2_gainOfKind_2 hr ?_)
  refine E_iadd dX5_gain_22 ?_
  refine E_iret dX5_gain_23 rfl ?_
  exact hΦ2
theorem c_X5_gain_0 {r a v : Nat} {p s : Int32} (hd : 4 ≤ d) (hr : Cel g r 0) (hW : Wi g P a v) (hO : WOK (I v)) (hΦ : Φ (some (.int (gnc 0 (I v) (I r 2) (I r 3) p s))) g P I) : MM Γ mX5_gain d 0 0 [.ref r, .ref a, .int p, .int s] g P I Φ := by
  refine MM_entry [some _, some _, some _, some _] (by decide) (Nat.le_of_ble_eq_true rfl) rfl ?_
  have w1 := hW.1
  have hΦ2 : Φ (some (.int (stp (I v) (p / 10) (I r 2) / 50 + (if I r 3 < s then rl (I v) - (s - I r 3) / 2 else rl (I v))))) g P I := by
    have e : gnc 0 (I v) (I r 2) (I r 3) p s = stp (I v) (p / 10) (I r 2) / 50 + (if I r 3 < s then rl (I v) - (s - I r 3) / 2 else rl (I v)) := by simp [gnc, gkc]
    rw [e] at hΦ
    exact hΦ
  refine E_aload_n (i := 1) dX5_gain_0 rfl rfl ?_
  refine E_iload_n (i := 2) dX5_gain_1 rfl rfl ?_
  refine E_bipush (v := 10) dX5_gain_2 (by decide) ?_
  refine E_idiv dX5_gain_4 (by decide) ?_
  refine E_aload_n (i := 0) dX5_gain_5 rfl rfl ?_
  refine E_gi dX5_gain_6 gf_X5_18_0 rfl (by assumption) ?_
  refine k_X5_gain_9 (mc' := 0) (ms' := 0) (rc := 0) (rs := 0) (by omega) (Nat.le_of_ble_eq_true rfl) (by assumption) (c_X10_steepAt (by omega) hW hO ?_)
  refine E_bipush (v := 50) dX5_gain_12 (by decide) ?_
  refine E_idiv dX5_gain_14 (by decide) ?_
  refine E_aload_n (i := 0) dX5_gain_15 rfl rfl ?_
  refine E_aload_n (i := 1) dX5_gain_16 rfl rfl ?_
  refine E_iload_n (i := 2) dX5_gain_17 rfl rfl ?_
  refine E_iload_n (i := 3) dX5_gain_18 rfl rfl ?_
  refine k_X5_gain_19_0 (mc' := 0) (ms' := 0) (rc := 0) (rs := 0) (by omega) (Nat.le_of_ble_eq_true rfl) (by assumption) (c_X0_gainOfKind_0 (by omega) hr hW ?_)
  refine E_iadd dX5_gain_22 ?_
  refine E_iret dX5_gain_23 rfl ?_
  exact hΦ2
theorem c_X5_gain_9 {r a v : Nat} {p s : Int32} (hd : 4 ≤ d) (hr : Cel g r 9) (hW : Wi g P a v) (hO : WOK (I v)) (hΦ : Φ (some (.int (gnc 9 (I v) (I r 2) (I r 3) p s))) g P I) : MM Γ mX5_gain d 0 0 [.ref r, .ref a, .int p, .int s] g P I Φ := by
  refine MM_entry [some _, some _, some _, some _] (by decide) (Nat.le_of_ble_eq_true rfl) rfl ?_
  have w1 := hW.1
  have hΦ2 : Φ (some (.int (stp (I v) (p / 10) (I r 2) / 50 + I v 7))) g P I := by
    have e : gnc 9 (I v) (I r 2) (I r 3) p s = stp (I v) (p / 10) (I r 2) / 50 + I v 7 := by simp [gnc, gkc]
    rw [e] at hΦ
    exact hΦ
  refine E_aload_n (i := 1) dX5_gain_0 rfl rfl ?_
  refine E_iload_n (i := 2) dX5_gain_1 rfl rfl ?_
  refine E_bipush (v := 10) dX5_gain_2 (by decide) ?_
  refine E_idiv dX5_gain_4 (by decide) ?_
  refine E_aload_n (i := 0) dX5_gain_5 rfl rfl ?_
  refine E_gi dX5_gain_6 gf_X5_18_9 rfl (by assumption) ?_
  refine k_X5_gain_9 (mc' := 0) (ms' := 0) (rc := 0) (rs := 0) (by omega) (Nat.le_of_ble_eq_true rfl) (by assumption) (c_X10_steepAt (by omega) hW hO ?_)
  refine E_bipush (v := 50) dX5_gain_12 (by decide) ?_
  refine E_idiv dX5_gain_14 (by decide) ?_
  refine E_aload_n (i := 0) dX5_gain_15 rfl rfl ?_
  refine E_aload_n (i := 1) dX5_gain_16 rfl rfl ?_
  refine E_iload_n (i := 2) dX5_gain_17 rfl rfl ?_
  refine E_iload_n (i := 3) dX5_gain_18 rfl rfl ?_
  refine k_X5_gain_19_9 (mc' := 0) (ms' := 0) (rc := 0) (rs := 0) (by omega) (Nat.le_of_ble_eq_true rfl) (by assumption) (c_X9_gainOfKind (by omega) hW ?_)
  refine E_iadd dX5_gain_22 ?_
  refine E_iret dX5_gain_23 rfl ?_
  exact hΦ2
theorem c_X5_gain_3 {r a v : Nat} {p s : Int32} (hd : 4 ≤ d) (hr : Cel g r 3) (hW : Wi g P a v) (hO : WOK (I v)) (hΦ : Φ (some (.int (gnc 3 (I v) (I r 2) (I r 3) p s))) g P I) : MM Γ mX5_gain d 0 0 [.ref r, .ref a, .int p, .int s] g P I Φ := by
  refine MM_entry [some _, some _, some _, some _] (by decide) (Nat.le_of_ble_eq_true rfl) rfl ?_
  have w1 := hW.1
  have hΦ2 : Φ (some (.int (stp (I v) (p / 10) (I r 2) / 50 + (if I r 3 < s ∧ 8 * I v 0 ≤ p then rl (I v) - (s - I r 3) / 2 else rl (I v))))) g P I := by
    have e : gnc 3 (I v) (I r 2) (I r 3) p s = stp (I v) (p / 10) (I r 2) / 50 + (if I r 3 < s ∧ 8 * I v 0 ≤ p then rl (I v) - (s - I r 3) / 2 else rl (I v)) := by simp [gnc, gkc]
    rw [e] at hΦ
    exact hΦ
  refine E_aload_n (i := 1) dX5_gain_0 rfl rfl ?_
  refine E_iload_n (i := 2) dX5_gain_1 rfl rfl ?_
  refine E_bipush (v := 10) dX5_gain_2 (by decide) ?_
  refine E_idiv dX5_gain_4 (by decide) ?_
  refine E_aload_n (i := 0) dX5_gain_5 rfl rfl ?_
  refine E_gi dX5_gain_6 gf_X5_18_3 rfl (by assumption) ?_
  refine k_X5_gain_9 (mc' := 0) (ms' := 0) (rc := 0) (rs := 0) (by omega) (Nat.le_of_ble_eq_true rfl) (by assumption) (c_X10_steepAt (by omega) hW hO ?_)
  refine E_bipush (v := 50) dX5_gain_12 (by decide) ?_
  refine E_idiv dX5_gain_14 (by decide) ?_
  refine E_aload_n (i := 0) dX5_gain_15 rfl rfl ?_
  refine E_aload_n (i := 1) dX5_gain_16 rfl rfl ?_
  refine E_iload_n (i := 2) dX5_gain_17 rfl rfl ?_
  refine E_iload_n (i := 3) dX5_gain_18 rfl rfl ?_
  refine k_X5_gain_19_3 (mc' := 0) (ms' := 0) (rc := 0) (rs := 0) (by omega) (Nat.le_of_ble_eq_true rfl) (by assumption) (c_X0_gainOfKind_3 (by omega) hr hW ?_)
  refine E_iadd dX5_gain_22 ?_
  refine E_iret dX5_gain_23 rfl ?_
  exact hΦ2
theorem c_X5_gain_1 {r a v : Nat} {p s : Int32} (hd : 4 ≤ d) (hr : Cel g r 1) (hW : Wi g P a v) (hO : WOK (I v)) (hΦ : Φ (some (.int (gnc 1 (I v) (I r 2) (I r 3) p s))) g P I) : MM Γ mX5_gain d 0 0 [.ref r, .ref a, .int p, .int s] g P I Φ := by
  refine MM_entry [some _, some _, some _, some _] (by decide) (Nat.le_of_ble_eq_true rfl) rfl ?_
  have w1 := hW.1
  have hΦ2 : Φ (some (.int (stp (I v) (p / 10) (I r 2) / 50 + I r 3))) g P I := by
    have e : gnc 1 (I v) (I r 2) (I r 3) p s = stp (I v) (p / 10) (I r 2) / 50 + I r 3 := by simp [gnc, gkc]
    rw [e] at hΦ
    exact hΦ
  refine E_aload_n (i := 1) dX5_gain_0 rfl rfl ?_
  refine E_iload_n (i := 2) dX5_gain_1 rfl rfl ?_
  refine E_bipush (v := 10) dX5_gain_2 (by decide) ?_
  refine E_idiv dX5_gain_4 (by decide) ?_
  refine E_aload_n (i := 0) dX5_gain_5 rfl rfl ?_
  refine E_gi dX5_gain_6 gf_X5_18_1 rfl (by assumption) ?_
  refine k_X5_gain_9 (mc' := 0) (ms' := 0) (rc := 0) (rs := 0) (by omega) (Nat.le_of_ble_eq_true rfl) (by assumption) (c_X10_steepAt (by omega) hW hO ?_)
  refine E_bipush (v := 50) dX5_gain_12 (by decide) ?_
  refine E_idiv dX5_gain_14 (by decide) ?_
  refine E_aload_n (i := 0) dX5_gain_15 rfl rfl ?_
  refine E_aload_n (i := 1) dX5_gain_16 rfl rfl ?_
  refine E_iload_n (i := 2) dX5_gain_17 rfl rfl ?_
  refine E_iload_n (i := 3) dX5_gain_18 rfl rfl ?_
  refine k_X5_gain_19_1 (mc' := 0) (ms' := 0) (rc := 0) (rs := 0) (by omega) (Nat.le_of_ble_eq_true rfl) (by assumption) (c_X2_gainOfKind_1 hr ?_)
  refine E_iadd dX5_gain_22 ?_
  refine E_iret dX5_gain_23 rfl ?_
  exact hΦ2
theorem c_X5_rubs {r a v : Nat} (hd : 1 ≤ d) (hW : Wi g P a v) (hΦ : Φ (some (.int (I v 6))) g P I) : MM Γ mX5_rubs d 0 0 [.ref r, .ref a] g P I Φ := by
  refine MM_entry [some _, some _] (by decide) (Nat.le_of_ble_eq_true rfl) rfl ?_
  have w1 := hW.1
  refine E_aload_n (i := 1) dX5_rubs_0 rfl rfl ?_
  refine E_bipush (v := 6) dX5_rubs_1 (by decide) ?_
  refine k_X5_rubs_3 (mc' := 0) (ms' := 0) (rc := 0) (rs := 0) (by omega) (Nat.le_of_ble_eq_true rfl) (by assumption) (c_X10_ofk (k := 6) rfl (by decide) hW ?_)
  refine E_iret dX5_rubs_6 rfl ?_
  exact hΦ
theorem c_X1_rubs {r a v : Nat} (hd : 2 ≤ d) (hr : Cel g r 1) (hW : Wi g P a v) (hΦ : Φ (some (.int (I v 6 / 2))) g P I) : MM Γ mX1_rubs d 0 0 [.ref r, .ref a] g P I Φ := by
  refine MM_entry [some _, some _] (by decide) (Nat.le_of_ble_eq_true rfl) rfl ?_
  refine E_aload_n (i := 0) dX1_rubs_0 rfl rfl ?_
  refine E_aload_n (i := 1) dX1_rubs_1 rfl rfl ?_
  refine k_X1_rubs_2_1 (mc' := 0) (ms' := 0) (rc := 0) (rs := 0) (by omega) (Nat.le_of_ble_eq_true rfl) (by assumption) (c_X5_rubs (by omega) hW ?_)
  refine E_iconst (v := 2) dX1_rubs_5 (by decide) ?_
  refine E_idiv dX1_rubs_6 (by decide) ?_
  refine E_iret dX1_rubs_7 rfl ?_
  exact hΦ
end
