/-! the model: what a ride gains -/
/-- the class of a kind -/
def kc : Nat → Nat
  | 0 => 5
  | 1 => 6
  | 2 => 2
  | 3 => 0
  | 4 => 9
  | 5 => 3
  | _ => 1
/-- what the model's row tells of a ride's gain -/
def gnM (kd : Nat) (M : Nat → Int32) (r : Nat) : Int32 :=
  let s := stp (wm M) (M (16 + 7 * r + 3) / 10) (M (16 + 7 * r + 1)) / 50
  if kd = 1 then s + rl (wm M) else if kd = 2 ∨ kd = 6 then s + M (16 + 7 * r + 2) else if kd = 4 then s + M 14
  else if kd = 3 then s + rl (wm M) - brM (M (16 + 7 * r + 4)) (M (16 + 7 * r + 2))
  else if kd = 5 then s + rl (wm M) - (if M (16 + 7 * r + 3) < 8 * M 7 then 0 else brM (M (16 + 7 * r + 4)) (M (16 + 7 * r + 2))) else s
theorem i_addsub (a b c : Int32) : a + (b - c) = a + b - c := by
  apply Int32.toBitVec_inj.mp
  rw [Int32.toBitVec_add, Int32.toBitVec_sub, Int32.toBitVec_sub, Int32.toBitVec_add]
  generalize a.toBitVec = x
  generalize b.toBitVec = y
  generalize c.toBitVec = z
  bv_omega
theorem i_sub0 (a : Int32) : a - 0 = a := by
  apply Int32.toBitVec_inj.mp
  rw [Int32.toBitVec_sub]
  generalize a.toBitVec = x
  show x - 0#32 = x
  bv_omega
theorem i_add0 (a : Int32) : a + 0 = a := by
  apply Int32.toBitVec_inj.mp
  rw [Int32.toBitVec_add]
  generalize a.toBitVec = x
  show x + 0#32 = x
  bv_omega
theorem brM_e {pa m : Int32} (h1 : -300 ≤ pa.toInt ∧ pa.toInt ≤ 300) (h2 : 0 ≤ m.toInt ∧ m.toInt ≤ 99) : (pa - m ≤ 0) ↔ ¬ m < pa := by
  rw [i32_le, i32_lt, sub32 (by omega) (by omega)]
  show pa.toInt - m.toInt ≤ 0 ↔ _
  omega
theorem gn_eq {kd : Nat} {M : Nat → Int32} {r : Nat} (hk : kd ≤ 6) (h1 : -300 ≤ (M (16 + 7 * r + 4)).toInt ∧ (M (16 + 7 * r + 4)).toInt ≤ 300) (h2 : 0 ≤ (M (16 + 7 * r + 2)).toInt ∧ (M (16 + 7 * r + 2)).toInt ≤ 99) : gnM kd M r = gnc (kc kd) (wm M) (M (16 + 7 * r + 1)) (M (16 + 7 * r + 2)) (M (16 + 7 * r + 3)) (M (16 + 7 * r + 4)) := by
  have hb := brM_e h1 h2
  unfold gnM gnc gkc
  dsimp only
  generalize stp (wm M) (M (16 + 7 * r + 3) / 10) (M (16 + 7 * r + 1)) / 50 = s
  rcases (show kd = 0 ∨ kd = 1 ∨ kd = 2 ∨ kd = 3 ∨ kd = 4 ∨ kd = 5 ∨ kd = 6 by omega) with rfl | rfl | rfl | rfl | rfl | rfl | rfl
  · simp [kc, i_add0]
  · simp [kc]
  · simp [kc]
  · simp only [kc, brM]
    by_cases hc : M (16 + 7 * r + 2) < M (16 + 7 * r + 4)
    · rw [if_neg (show ¬ (M (16 + 7 * r + 4) - M (16 + 7 * r + 2) ≤ 0) from fun h => (hb.mp h) hc)]
      simp [hc, i_addsub]
    · rw [if_pos (hb.mpr hc)]
      simp [hc, i_sub0]
  · simp [kc, wm]
  · simp only [kc, brM]
    by_cases hd : M (16 + 7 * r + 3) < 8 * M 7
    · have hd2 : ¬ 8 * wm M 0 ≤ M (16 + 7 * r + 3) := Int32.not_le.mpr hd
      simp [hd, hd2, i_sub0]
    · have hd2 : 8 * wm M 0 ≤ M (16 + 7 * r + 3) := Int32.not_lt.mp hd
      by_cases hc : M (16 + 7 * r + 2) < M (16 + 7 * r + 4)
      · rw [if_neg (show ¬ (M (16 + 7 * r + 4) - M (16 + 7 * r + 2) ≤ 0) from fun h => (hb.mp h) hc)]
        simp [hc, hd, hd2, i_addsub]
      · rw [if_pos (hb.mpr hc)]
        simp [hc, hd, i_sub0]
  · simp [kc]
section
variable {Γ : GE} {d : Nat} {g : Sh} {P : HP} {I : HI} {Φ : Option Value → Sh → HP → HI → Prop}
theorem c_gainOf_0 {r : Nat} {x : Int32} (hd : 4 ≤ d) (hM : Mo g P) (hO : WOK (wm (I 110))) (hx : x = nI r) (hr : r < 8) (hk : I 110 (16 + 7 * r + 0) = 0) (hp : 0 ≤ (I 110 (16 + 7 * r + 3) / 10).toInt) (hΦ : Φ (some (.int (gnM 0 (I 110) r))) g P I) : MM Γ mX12_gainOf d 0 0 [.ref 109, .int x] g P I Φ := by
  refine MM_entry [some _, some _, none, none] (by decide) (Nat.le_of_ble_eq_true rfl) rfl ?_
  obtain ⟨n1, n2, n3⟩ := hM.now
  have h0 := hM.1
  have e : gnM 0 (I 110) r = stp (wm (I 110)) (I 110 (16 + 7 * r + 3) / 10) (I 110 (16 + 7 * r + 1)) / 50 := by simp [gnM]
  rw [e] at hΦ
  have h4 : wm (I 110) 4 = I 110 11 := rfl
  by_cases hc : 0 < I 110 11
  · skip
    refine E_aload_n (i := 0) dX12_gainOf_0 rfl rfl ?_
    refine E_aload_n (i := 0) dX12_gainOf_1 rfl rfl ?_
    refine E_iload_n (i := 1) dX12_gainOf_2 rfl rfl ?_
    refine E_iconst (v := 3) dX12_gainOf_3 (by decide) ?_
    refine k_X12_gainOf_4 (mc' := 0) (ms' := 0) (rc := 0) (rs := 0) (by omega) (Nat.le_of_ble_eq_true rfl) (by assumption) (c_X12_of (f := 3) hM hx rfl hr (by decide) ?_)
    refine E_bipush (v := 10) dX12_gainOf_7 (by decide) ?_
    refine E_idiv dX12_gainOf_9 (by decide) ?_
    refine E_aload_n (i := 0) dX12_gainOf_10 rfl rfl ?_
    refine E_iload_n (i := 1) dX12_gainOf_11 rfl rfl ?_
    refine E_iconst (v := 1) dX12_gainOf_12 (by decide) ?_
    refine k_X12_gainOf_13 (mc' := 0) (ms' := 0) (rc := 0) (rs := 0) (by omega) (Nat.le_of_ble_eq_true rfl) (by assumption) (c_X12_of (f := 1) hM hx rfl hr (by decide) ?_)
    refine k_X12_gainOf_16 (mc' := 0) (ms' := 0) (rc := 0) (rs := 0) (by omega) (Nat.le_of_ble_eq_true rfl) (by assumption) (c_X12_steepOf (by omega) hM hO hp ?_)
    refine E_bipush (v := 50) dX12_gainOf_19 (by decide) ?_
    refine E_idiv dX12_gainOf_21 (by decide) ?_
    refine E_istore_nC (i := 2) dX12_gainOf_22 rfl (by decide) rfl ?_
    refine E_lv (lv' := [_, _, _, _]) rfl ?_
    refine E_aload_n (i := 0) dX12_gainOf_23 rfl rfl ?_
    refine E_gr dX12_gainOf_24 gf_X12_9_12 rfl (by assumption) (by assumption) ?_
    refine E_bipush (v := 11) dX12_gainOf_27 (by decide) ?_
    refine E_iaj 11 dX12_gainOf_29 (by assumption) rfl (by decide) (by rw [n3]; decide) ?_
    refine E_if_le (tgt := 37) dX12_gainOf_30 (by decide) (fun c_30 => absurd c_30 (Int32.not_le.mpr hc)) (fun c_30 => ?_)
    refine E_iconst (v := 1) dX12_gainOf_33 (by decide) ?_
    refine E_goto (tgt := 38) dX12_gainOf_34 (by decide) ?_
    refine E_istore_nC (i := 3) dX12_gainOf_38 rfl (by decide) rfl ?_
    refine E_lv (lv' := [_, _, _, _]) rfl ?_
    refine E_aload_n (i := 0) dX12_gainOf_39 rfl rfl ?_
    refine E_iload_n (i := 1) dX12_gainOf_40 rfl rfl ?_
    refine E_iconst (v := 0) dX12_gainOf_41 (by decide) ?_
    refine k_X12_gainOf_42 (mc' := 0) (ms' := 0) (rc := 0) (rs := 0) (by omega) (Nat.le_of_ble_eq_true rfl) (by assumption) (c_X12_of (f := 0) hM hx rfl hr (by decide) ?_)
    rw [hk]
    refine E_tswOut (tgt := 150) dX12_gainOf_45 (by decide) (by decide) ?_
    refine E_iload_n (i := 2) dX12_gainOf_150 rfl rfl ?_
    refine E_iret dX12_gainOf_151 rfl ?_
    exact hΦ
  · skip
    refine E_aload_n (i := 0) dX12_gainOf_0 rfl rfl ?_
    refine E_aload_n (i := 0) dX12_gainOf_1 rfl rfl ?_
    refine E_iload_n (i := 1) dX12_gainOf_2 rfl rfl ?_
    refine E_iconst (v := 3) dX12_gainOf_3 (by decide) ?_
    refine k_X12_gainOf_4 (mc' := 0) (ms' := 0) (rc := 0) (rs := 0) (by omega) (Nat.le_of_ble_eq_true rfl) (by assumption) (c_X12_of (f := 3) hM hx rfl hr (by decide) ?_)
    refine E_bipush (v := 10) dX12_gainOf_7 (by decide) ?_
    refine E_idiv dX12_gainOf_9 (by decide) ?_
    refine E_aload_n (i := 0) dX12_gainOf_10 rfl rfl ?_
    refine E_iload_n (i := 1) dX12_gainOf_11 rfl rfl ?_
    refine E_iconst (v := 1) dX12_gainOf_12 (by decide) ?_
    refine k_X12_gainOf_13 (mc' := 0) (ms' := 0) (rc := 0) (rs := 0) (by omega) (Nat.le_of_ble_eq_true rfl) (by assumption) (c_X12_of (f := 1) hM hx rfl hr (by decide) ?_)
    refine k_X12_gainOf_16 (mc' := 0) (ms' := 0) (rc := 0) (rs := 0) (by omega) (Nat.le_of_ble_eq_true rfl) (by assumption) (c_X12_steepOf (by omega) hM hO hp ?_)
    refine E_bipush (v := 50) dX12_gainOf_19 (by decide) ?_
    refine E_idiv dX12_gainOf_21 (by decide) ?_
    refine E_istore_nC (i := 2) dX12_gainOf_22 rfl (by decide) rfl ?_
    refine E_lv (lv' := [_, _, _, _]) rfl ?_
    refine E_aload_n (i := 0) dX12_gainOf_23 rfl rfl ?_
    refine E_gr dX12_gainOf_24 gf_X12_9_12 rfl (by assumption) (by assumption) ?_
    refine E_bipush (v := 11) dX12_gainOf_27 (by decide) ?_
    refine E_iaj 11 dX12_gainOf_29 (by assumption) rfl (by decide) (by rw [n3]; decide) ?_
    refine E_if_le (tgt := 37) dX12_gainOf_30 (by decide) (fun c_30 => ?_) (fun c_30 => absurd (Int32.not_lt.mp hc) c_30)
    refine E_iconst (v := 0) dX12_gainOf_37 (by decide) ?_
    refine E_istore_nC (i := 3) dX12_gainOf_38 rfl (by decide) rfl ?_
    refine E_lv (lv' := [_, _, _, _]) rfl ?_
    refine E_aload_n (i := 0) dX12_gainOf_39 rfl rfl ?_
    refine E_iload_n (i := 1) dX12_gainOf_40 rfl rfl ?_
    refine E_iconst (v := 0) dX12_gainOf_41 (by decide) ?_
    refine k_X12_gainOf_42 (mc' := 0) (ms' := 0) (rc := 0) (rs := 0) (by omega) (Nat.le_of_ble_eq_true rfl) (by assumption) (c_X12_of (f := 0) hM hx rfl hr (by decide) ?_)
    rw [hk]
    refine E_tswOut (tgt := 150) dX12_gainOf_45 (by decide) (by decide) ?_
    refine E_iload_n (i := 2) dX12_gainOf_150 rfl rfl ?_
    refine E_iret dX12_gainOf_151 rfl ?_
    exact hΦ
theorem c_gainOf_1 {r : Nat} {x : Int32} (hd : 4 ≤ d) (hM : Mo g P) (hO : WOK (wm (I 110))) (hx : x = nI r) (hr : r < 8) (hk : I 110 (16 + 7 * r + 0) = 1) (hp : 0 ≤ (I 110 (16 + 7 * r + 3) / 10).toInt) (hΦ : Φ (some (.int (gnM 1 (I 110) r))) g P I) : MM Γ mX12_gainOf d 0 0 [.ref 109, .int x] g P I Φ := by
  refine MM_entry [some _, some _, none, none] (by decide) (Nat.le_of_ble_eq_true rfl) rfl ?_
  obtain ⟨n1, n2, n3⟩ := hM.now
  have h0 := hM.1
  have e : gnM 1 (I 110) r = stp (wm (I 110)) (I 110 (16 + 7 * r + 3) / 10) (I 110 (16 + 7 * r + 1)) / 50 + rl (wm (I 110)) := by simp [gnM]
  rw [e] at hΦ
  unfold rl at hΦ
  have h4 : wm (I 110) 4 = I 110 11 := rfl
  rw [h4] at hΦ
  by_cases hc : 0 < I 110 11
  · rw [if_pos hc] at hΦ
    refine E_aload_n (i := 0) dX12_gainOf_0 rfl rfl ?_
    refine E_aload_n (i := 0) dX12_gainOf_1 rfl rfl ?_
    refine E_iload_n (i := 1) dX12_gainOf_2 rfl rfl ?_
    refine E_iconst (v := 3) dX12_gainOf_3 (by decide) ?_
    refine k_X12_gainOf_4 (mc' := 0) (ms' := 0) (rc := 0) (rs := 0) (by omega) (Nat.le_of_ble_eq_true rfl) (by assumption) (c_X12_of (f := 3) hM hx rfl hr (by decide) ?_)
    refine E_bipush (v := 10) dX12_gainOf_7 (by decide) ?_
    refine E_idiv dX12_gainOf_9 (by decide) ?_
    refine E_aload_n (i := 0) dX12_gainOf_10 rfl rfl ?_
    refine E_iload_n (i := 1) dX12_gainOf_11 rfl rfl ?_
    refine E_iconst (v := 1) dX12_gainOf_12 (by decide) ?_
    refine k_X12_gainOf_13 (mc' := 0) (ms' := 0) (rc := 0) (rs := 0) (by omega) (Nat.le_of_ble_eq_true rfl) (by assumption) (c_X12_of (f := 1) hM hx rfl hr (by decide) ?_)
    refine k_X12_gainOf_16 (mc' := 0) (ms' := 0) (rc := 0) (rs := 0) (by omega) (Nat.le_of_ble_eq_true rfl) (by assumption) (c_X12_steepOf (by omega) hM hO hp ?_)
    refine E_bipush (v := 50) dX12_gainOf_19 (by decide) ?_
    refine E_idiv dX12_gainOf_21 (by decide) ?_
    refine E_istore_nC (i := 2) dX12_gainOf_22 rfl (by decide) rfl ?_
    refine E_lv (lv' := [_, _, _, _]) rfl ?_
    refine E_aload_n (i := 0) dX12_gainOf_23 rfl rfl ?_
    refine E_gr dX12_gainOf_24 gf_X12_9_12 rfl (by assumption) (by assumption) ?_
    refine E_bipush (v := 11) dX12_gainOf_27 (by decide) ?_
    refine E_iaj 11 dX12_gainOf_29 (by assumption) rfl (by decide) (by rw [n3]; decide) ?_
    refine E_if_le (tgt := 37) dX12_gainOf_30 (by decide) (fun c_30 => absurd c_30 (Int32.not_le.mpr hc)) (fun c_30 => ?_)
    refine E_iconst (v := 1) dX12_gainOf_33 (by decide) ?_
    refine E_goto (tgt := 38) dX12_gainOf_34 (by decide) ?_
    refine E_istore_nC (i := 3) dX12_gainOf_38 rfl (by decide) rfl ?_
    refine E_lv (lv' := [_, _, _, _]) rfl ?_
    refine E_aload_n (i := 0) dX12_gainOf_39 rfl rfl ?_
    refine E_iload_n (i := 1) dX12_gainOf_40 rfl rfl ?_
    refine E_iconst (v := 0) dX12_gainOf_41 (by decide) ?_
    refine k_X12_gainOf_42 (mc' := 0) (ms' := 0) (rc := 0) (rs := 0) (by omega) (Nat.le_of_ble_eq_true rfl) (by assumption) (c_X12_of (f := 0) hM hx rfl hr (by decide) ?_)
    rw [hk]
    refine E_tswIn (tgt := 84) dX12_gainOf_45 (by decide) (by decide) rfl (by decide) ?_
    refine E_iload_n (i := 2) dX12_gainOf_84 rfl rfl ?_
    refine E_iload_n (i := 3) dX12_gainOf_85 rfl rfl ?_
    refine E_iadd dX12_gainOf_86 ?_
    refine E_iret dX12_gainOf_87 rfl ?_
    exact hΦ
  · rw [if_neg hc] at hΦ
    refine E_aload_n (i := 0) dX12_gainOf_0 rfl rfl ?_
    refine E_aload_n (i := 0) dX12_gainOf_1 rfl rfl ?_
    refine E_iload_n (i := 1) dX12_gainOf_2 rfl rfl ?_
    refine E_iconst (v := 3) dX12_gainOf_3 (by decide) ?_
    refine k_X12_gainOf_4 (mc' := 0) (ms' := 0) (rc := 0) (rs := 0) (by omega) (Nat.le_of_ble_eq_true rfl) (by assumption) (c_X12_of (f := 3) hM hx rfl hr (by decide) ?_)
    refine E_bipush (v := 10) dX12_gainOf_7 (by decide) ?_
    refine E_idiv dX12_gainOf_9 (by decide) ?_
    refine E_aload_n (i := 0) dX12_gainOf_10 rfl rfl ?_
    refine E_iload_n (i := 1) dX12_gainOf_11 rfl rfl ?_
    refine E_iconst (v := 1) dX12_gainOf_12 (by decide) ?_
    refine k_X12_gainOf_13 (mc' := 0) (ms' := 0) (rc := 0) (rs := 0) (by omega) (Nat.le_of_ble_eq_true rfl) (by assumption) (c_X12_of (f := 1) hM hx rfl hr (by decide) ?_)
    refine k_X12_gainOf_16 (mc' := 0) (ms' := 0) (rc := 0) (rs := 0) (by omega) (Nat.le_of_ble_eq_true rfl) (by assumption) (c_X12_steepOf (by omega) hM hO hp ?_)
    refine E_bipush (v := 50) dX12_gainOf_19 (by decide) ?_
    refine E_idiv dX12_gainOf_21 (by decide) ?_
    refine E_istore_nC (i := 2) dX12_gainOf_22 rfl (by decide) rfl ?_
    refine E_lv (lv' := [_, _, _, _]) rfl ?_
    refine E_aload_n (i := 0) dX12_gainOf_23 rfl rfl ?_
    refine E_gr dX12_gainOf_24 gf_X12_9_12 rfl (by assumption) (by assumption) ?_
    refine E_bipush (v := 11) dX12_gainOf_27 (by decide) ?_
    refine E_iaj 11 dX12_gainOf_29 (by assumption) rfl (by decide) (by rw [n3]; decide) ?_
    refine E_if_le (tgt := 37) dX12_gainOf_30 (by decide) (fun c_30 => ?_) (fun c_30 => absurd (Int32.not_lt.mp hc) c_30)
    refine E_iconst (v := 0) dX12_gainOf_37 (by decide) ?_
    refine E_istore_nC (i := 3) dX12_gainOf_38 rfl (by decide) rfl ?_
    refine E_lv (lv' := [_, _, _, _]) rfl ?_
    refine E_aload_n (i := 0) dX12_gainOf_39 rfl rfl ?_
    refine E_iload_n (i := 1) dX12_gainOf_40 rfl rfl ?_
    refine E_iconst (v := 0) dX12_gainOf_41 (by decide) ?_
    refine k_X12_gainOf_42 (mc' := 0) (ms' := 0) (rc := 0) (rs := 0) (by omega) (Nat.le_of_ble_eq_true rfl) (by assumption) (c_X12_of (f := 0) hM hx rfl hr (by decide) ?_)
    rw [hk]
    refine E_tswIn (tgt := 84) dX12_gainOf_45 (by decide) (by decide) rfl (by decide) ?_
    refine E_iload_n (i := 2) dX12_gainOf_84 rfl rfl ?_
    refine E_iload_n (i := 3) dX12_gainOf_85 rfl rfl ?_
    refine E_iadd dX12_gainOf_86 ?_
    refine E_iret dX12_gainOf_87 rfl ?_
    exact hΦ
theorem c_gainOf_2 {r : Nat} {x : Int32} (hd : 4 ≤ d) (hM : Mo g P) (hO : WOK (wm (I 110))) (hx : x = nI r) (hr : r < 8) (hk : I 110 (16 + 7 * r + 0) = 2) (hp : 0 ≤ (I 110 (16 + 7 * r + 3) / 10).toInt) (hΦ : Φ (some (.int (gnM 2 (I 110) r))) g P I) : MM Γ mX12_gainOf d 0 0 [.ref 109, .int x] g P I Φ := by
  refine MM_entry [some _, some _, none, none] (by decide) (Nat.le_of_ble_eq_true rfl) rfl ?_
  obtain ⟨n1, n2, n3⟩ := hM.now
  have h0 := hM.1
  have e : gnM 2 (I 110) r = stp (wm (I 110)) (I 110 (16 + 7 * r + 3) / 10) (I 110 (16 + 7 * r + 1)) / 50 + I 110 (16 + 7 * r + 2) := by simp [gnM]
  rw [e] at hΦ
  have h4 : wm (I 110) 4 = I 110 11 := rfl
  by_cases hc : 0 < I 110 11
  · skip
    refine E_aload_n (i := 0) dX12_gainOf_0 rfl rfl ?_
    refine E_aload_n (i := 0) dX12_gainOf_1 rfl rfl ?_
    refine E_iload_n (i := 1) dX12_gainOf_2 rfl rfl ?_
    refine E_iconst (v := 3) dX12_gainOf_3 (by decide) ?_
    refine k_X12_gainOf_4 (mc' := 0) (ms' := 0) (rc := 0) (rs := 0) (by omega) (Nat.le_of_ble_eq_true rfl) (by assumption) (c_X12_of (f := 3) hM hx rfl hr (by decide) ?_)
    refine E_bipush (v := 10) dX12_gainOf_7 (by decide) ?_
    refine E_idiv dX12_gainOf_9 (by decide) ?_
    refine E_aload_n (i := 0) dX12_gainOf_10 rfl rfl ?_
    refine E_iload_n (i := 1) dX12_gainOf_11 rfl rfl ?_
    refine E_iconst (v := 1) dX12_gainOf_12 (by decide) ?_
    refine k_X12_gainOf_13 (mc' := 0) (ms' := 0) (rc := 0) (rs := 0) (by omega) (Nat.le_of_ble_eq_true rfl) (by assumption) (c_X12_of (f := 1) hM hx rfl hr (by decide) ?_)
    refine k_X12_gainOf_16 (mc' := 0) (ms' := 0) (rc := 0) (rs := 0) (by omega) (Nat.le_of_ble_eq_true rfl) (by assumption) (c_X12_steepOf (by omega) hM hO hp ?_)
    refine E_bipush (v := 50) dX12_gainOf_19 (by decide) ?_
    refine E_idiv dX12_gainOf_21 (by decide) ?_
    refine E_istore_nC (i := 2) dX12_gainOf_22 rfl (by decide) rfl ?_
    refine E_lv (lv' := [_, _, _, _]) rfl ?_
    refine E_aload_n (i := 0) dX12_gainOf_23 rfl rfl ?_
    refine E_gr dX12_gainOf_24 gf_X12_9_12 rfl (by assumption) (by assumption) ?_
    refine E_bipush (v := 11) dX12_gainOf_27 (by decide) ?_
    refine E_iaj 11 dX12_gainOf_29 (by assumption) rfl (by decide) (by rw [n3]; decide) ?_
    refine E_if_le (tgt := 37) dX12_gainOf_30 (by decide) (fun c_30 => absurd c_30 (Int32.not_le.mpr hc)) (fun c_30 => ?_)
    refine E_iconst (v := 1) dX12_gainOf_33 (by decide) ?_
    refine E_goto (tgt := 38) dX12_gainOf_34 (by decide) ?_
    refine E_istore_nC (i := 3) dX12_gainOf_38 rfl (by decide) rfl ?_
    refine E_lv (lv' := [_, _, _, _]) rfl ?_
    refine E_aload_n (i := 0) dX12_gainOf_39 rfl rfl ?_
    refine E_iload_n (i := 1) dX12_gainOf_40 rfl rfl ?_
    refine E_iconst (v := 0) dX12_gainOf_41 (by decide) ?_
    refine k_X12_gainOf_42 (mc' := 0) (ms' := 0) (rc := 0) (rs := 0) (by omega) (Nat.le_of_ble_eq_true rfl) (by assumption) (c_X12_of (f := 0) hM hx rfl hr (by decide) ?_)
    rw [hk]
    refine E_tswIn (tgt := 88) dX12_gainOf_45 (by decide) (by decide) rfl (by decide) ?_
    refine E_iload_n (i := 2) dX12_gainOf_88 rfl rfl ?_
    refine E_aload_n (i := 0) dX12_gainOf_89 rfl rfl ?_
    refine E_iload_n (i := 1) dX12_gainOf_90 rfl rfl ?_
    refine E_iconst (v := 2) dX12_gainOf_91 (by decide) ?_
    refine k_X12_gainOf_92 (mc' := 0) (ms' := 0) (rc := 0) (rs := 0) (by omega) (Nat.le_of_ble_eq_true rfl) (by assumption) (c_X12_of (f := 2) hM hx rfl hr (by decide) ?_)
    refine E_iadd dX12_gainOf_95 ?_
    refine E_iret dX12_gainOf_96 rfl ?_
    exact hΦ
  · skip
    refine E_aload_n (i := 0) dX12_gainOf_0 rfl rfl ?_
    refine E_aload_n (i := 0) dX12_gainOf_1 rfl rfl ?_
    refine E_iload_n (i := 1) dX12_gainOf_2 rfl rfl ?_
    refine E_iconst (v := 3) dX12_gainOf_3 (by decide) ?_
    refine k_X12_gainOf_4 (mc' := 0) (ms' := 0) (rc := 0) (rs := 0) (by omega) (Nat.le_of_ble_eq_true rfl) (by assumption) (c_X12_of (f := 3) hM hx rfl hr (by decide) ?_)
    refine E_bipush (v := 10) dX12_gainOf_7 (by decide) ?_
    refine E_idiv dX12_gainOf_9 (by decide) ?_
    refine E_aload_n (i := 0) dX12_gainOf_10 rfl rfl ?_
    refine E_iload_n (i := 1) dX12_gainOf_11 rfl rfl ?_
    refine E_iconst (v := 1) dX12_gainOf_12 (by decide) ?_
    refine k_X12_gainOf_13 (mc' := 0) (ms' := 0) (rc := 0) (rs := 0) (by omega) (Nat.le_of_ble_eq_true rfl) (by assumption) (c_X12_of (f := 1) hM hx rfl hr (by decide) ?_)
    refine k_X12_gainOf_16 (mc' := 0) (ms' := 0) (rc := 0) (rs := 0) (by omega) (Nat.le_of_ble_eq_true rfl) (by assumption) (c_X12_steepOf (by omega) hM hO hp ?_)
    refine E_bipush (v := 50) dX12_gainOf_19 (by decide) ?_
    refine E_idiv dX12_gainOf_21 (by decide) ?_
    refine E_istore_nC (i := 2) dX12_gainOf_22 rfl (by decide) rfl ?_
    refine E_lv (lv' := [_, _, _, _]) rfl ?_
    refine E_aload_n (i := 0) dX12_gainOf_23 rfl rfl ?_
    refine E_gr dX12_gainOf_24 gf_X12_9_12 rfl (by assumption) (by assumption) ?_
    refine E_bipush (v := 11) dX12_gainOf_27 (by decide) ?_
    refine E_iaj 11 dX12_gainOf_29 (by assumption) rfl (by decide) (by rw [n3]; decide) ?_
    refine E_if_le (tgt := 37) dX12_gainOf_30 (by decide) (fun c_30 => ?_) (fun c_30 => absurd (Int32.not_lt.mp hc) c_30)
    refine E_iconst (v := 0) dX12_gainOf_37 (by decide) ?_
    refine E_istore_nC (i := 3) dX12_gainOf_38 rfl (by decide) rfl ?_
    refine E_lv (lv' := [_, _, _, _]) rfl ?_
    refine E_aload_n (i := 0) dX12_gainOf_39 rfl rfl ?_
    refine E_iload_n (i := 1) dX12_gainOf_40 rfl rfl ?_
    refine E_iconst (v := 0) dX12_gainOf_41 (by decide) ?_
    refine k_X12_gainOf_42 (mc' := 0) (ms' := 0) (rc := 0) (rs := 0) (by omega) (Nat.le_of_ble_eq_true rfl) (by assumption) (c_X12_of (f := 0) hM hx rfl hr (by decide) ?_)
    rw [hk]
    refine E_tswIn (tgt := 88) dX12_gainOf_45 (by decide) (by decide) rfl (by decide) ?_
    refine E_iload_n (i := 2) dX12_gainOf_88 rfl rfl ?_
    refine E_aload_n (i := 0) dX12_gainOf_89 rfl rfl ?_
    refine E_iload_n (i := 1) dX12_gainOf_90 rfl rfl ?_
    refine E_iconst (v := 2) dX12_gainOf_91 (by decide) ?_
    refine k_X12_gainOf_92 (mc' := 0) (ms' := 0) (rc := 0) (rs := 0) (by omega) (Nat.le_of_ble_eq_true rfl) (by assumption) (c_X12_of (f := 2) hM hx rfl hr (by decide) ?_)
    refine E_iadd dX12_gainOf_95 ?_
    refine E_iret dX12_gainOf_96 rfl ?_
    exact hΦ
theorem c_gainOf_3 {r : Nat} {x : Int32} (hd : 4 ≤ d) (hM : Mo g P) (hO : WOK (wm (I 110))) (hx : x = nI r) (hr : r < 8) (hk : I 110 (16 + 7 * r + 0) = 3) (hp : 0 ≤ (I 110 (16 + 7 * r + 3) / 10).toInt) (hΦ : Φ (some (.int (gnM 3 (I 110) r))) g P I) : MM Γ mX12_gainOf d 0 0 [.ref 109, .int x] g P I Φ := by
  refine MM_entry [some _, some _, none, none] (by decide) (Nat.le_of_ble_eq_true rfl) rfl ?_
  obtain ⟨n1, n2, n3⟩ := hM.now
  have h0 := hM.1
  have e : gnM 3 (I 110) r = stp (wm (I 110)) (I 110 (16 + 7 * r + 3) / 10) (I 110 (16 + 7 * r + 1)) / 50 + rl (wm (I 110)) - brM (I 110 (16 + 7 * r + 4)) (I 110 (16 + 7 * r + 2)) := by simp [gnM]
  rw [e] at hΦ
  unfold rl at hΦ
  have h4 : wm (I 110) 4 = I 110 11 := rfl
  rw [h4] at hΦ
  by_cases hc : 0 < I 110 11
  · rw [if_pos hc] at hΦ
    refine E_aload_n (i := 0) dX12_gainOf_0 rfl rfl ?_
    refine E_aload_n (i := 0) dX12_gainOf_1 rfl rfl ?_
    refine E_iload_n (i := 1) dX12_gainOf_2 rfl rfl ?_
    refine E_iconst (v := 3) dX12_gainOf_3 (by decide) ?_
    refine k_X12_gainOf_4 (mc' := 0) (ms' := 0) (rc := 0) (rs := 0) (by omega) (Nat.le_of_ble_eq_true rfl) (by assumption) (c_X12_of (f := 3) hM hx rfl hr (by decide) ?_)
    refine E_bipush (v := 10) dX12_gainOf_7 (by decide) ?_
    refine E_idiv dX12_gainOf_9 (by decide) ?_
    refine E_aload_n (i := 0) dX12_gainOf_10 rfl rfl ?_
    refine E_iload_n (i := 1) dX12_gainOf_11 rfl rfl ?_
    refine E_iconst (v := 1) dX12_gainOf_12 (by decide) ?_
    refine k_X12_gainOf_13 (mc' := 0) (ms' := 0) (rc := 0) (rs := 0) (by omega) (Nat.le_of_ble_eq_true rfl) (by assumption) (c_X12_of (f := 1) hM hx rfl hr (by decide) ?_)
    refine k_X12_gainOf_16 (mc' := 0) (ms' := 0) (rc := 0) (rs := 0) (by omega) (Nat.le_of_ble_eq_true rfl) (by assumption) (c_X12_steepOf (by omega) hM hO hp ?_)
    refine E_bipush (v := 50) dX12_gainOf_19 (by decide) ?_
    refine E_idiv dX12_gainOf_21 (by decide) ?_
    refine E_istore_nC (i := 2) dX12_gainOf_22 rfl (by decide) rfl ?_
    refine E_lv (lv' := [_, _, _, _]) rfl ?_
    refine E_aload_n (i := 0) dX12_gainOf_23 rfl rfl ?_
    refine E_gr dX12_gainOf_24 gf_X12_9_12 rfl (by assumption) (by assumption) ?_
    refine E_bipush (v := 11) dX12_gainOf_27 (by decide) ?_
    refine E_iaj 11 dX12_gainOf_29 (by assumption) rfl (by decide) (by rw [n3]; decide) ?_
    refine E_if_le (tgt := 37) dX12_gainOf_30 (by decide) (fun c_30 => absurd c_30 (Int32.not_le.mpr hc)) (fun c_30 => ?_)
    refine E_iconst (v := 1) dX12_gainOf_33 (by decide) ?_
    refine E_goto (tgt := 38) dX12_gainOf_34 (by decide) ?_
    refine E_istore_nC (i := 3) dX12_gainOf_38 rfl (by decide) rfl ?_
    refine E_lv (lv' := [_, _, _, _]) rfl ?_
    refine E_aload_n (i := 0) dX12_gainOf_39 rfl rfl ?_
    refine E_iload_n (i := 1) dX12_gainOf_40 rfl rfl ?_
    refine E_iconst (v := 0) dX12_gainOf_41 (by decide) ?_
    refine k_X12_gainOf_42 (mc' := 0) (ms' := 0) (rc := 0) (rs := 0) (by omega) (Nat.le_of_ble_eq_true rfl) (by assumption) (c_X12_of (f := 0) hM hx rfl hr (by decide) ?_)
    rw [hk]
    refine E_tswIn (tgt := 107) dX12_gainOf_45 (by decide) (by decide) rfl (by decide) ?_
    refine E_iload_n (i := 2) dX12_gainOf_107 rfl rfl ?_
    refine E_iload_n (i := 3) dX12_gainOf_108 rfl rfl ?_
    refine E_iadd dX12_gainOf_109 ?_
    refine E_aload_n (i := 0) dX12_gainOf_110 rfl rfl ?_
    refine E_iload_n (i := 1) dX12_gainOf_111 rfl rfl ?_
    refine k_X12_gainOf_112 (mc' := 0) (ms' := 0) (rc := 0) (rs := 0) (by omega) (Nat.le_of_ble_eq_true rfl) (by assumption) (c_X12_brakes (by omega) hM hx hr ?_)
    refine E_isub dX12_gainOf_115 ?_
    refine E_iret dX12_gainOf_116 rfl ?_
    exact hΦ
  · rw [if_neg hc] at hΦ
    refine E_aload_n (i := 0) dX12_gainOf_0 rfl rfl ?_
    refine E_aload_n (i := 0) dX12_gainOf_1 rfl rfl ?_
    refine E_iload_n (i := 1) dX12_gainOf_2 rfl rfl ?_
    refine E_iconst (v := 3) dX12_gainOf_3 (by decide) ?_
    refine k_X12_gainOf_4 (mc' := 0) (ms' := 0) (rc := 0) (rs := 0) (by omega) (Nat.le_of_ble_eq_true rfl) (by assumption) (c_X12_of (f := 3) hM hx rfl hr (by decide) ?_)
    refine E_bipush (v := 10) dX12_gainOf_7 (by decide) ?_
    refine E_idiv dX12_gainOf_9 (by decide) ?_
    refine E_aload_n (i := 0) dX12_gainOf_10 rfl rfl ?_
    refine E_iload_n (i := 1) dX12_gainOf_11 rfl rfl ?_
    refine E_iconst (v := 1) dX12_gainOf_12 (by decide) ?_
    refine k_X12_gainOf_13 (mc' := 0) (ms' := 0) (rc := 0) (rs := 0) (by omega) (Nat.le_of_ble_eq_true rfl) (by assumption) (c_X12_of (f := 1) hM hx rfl hr (by decide) ?_)
    refine k_X12_gainOf_16 (mc' := 0) (ms' := 0) (rc := 0) (rs := 0) (by omega) (Nat.le_of_ble_eq_true rfl) (by assumption) (c_X12_steepOf (by omega) hM hO hp ?_)
    refine E_bipush (v := 50) dX12_gainOf_19 (by decide) ?_
    refine E_idiv dX12_gainOf_21 (by decide) ?_
    refine E_istore_nC (i := 2) dX12_gainOf_22 rfl (by decide) rfl ?_
    refine E_lv (lv' := [_, _, _, _]) rfl ?_
    refine E_aload_n (i := 0) dX12_gainOf_23 rfl rfl ?_
    refine E_gr dX12_gainOf_24 gf_X12_9_12 rfl (by assumption) (by assumption) ?_
    refine E_bipush (v := 11) dX12_gainOf_27 (by decide) ?_
    refine E_iaj 11 dX12_gainOf_29 (by assumption) rfl (by decide) (by rw [n3]; decide) ?_
    refine E_if_le (tgt := 37) dX12_gainOf_30 (by decide) (fun c_30 => ?_) (fun c_30 => absurd (Int32.not_lt.mp hc) c_30)
    refine E_iconst (v := 0) dX12_gainOf_37 (by decide) ?_
    refine E_istore_nC (i := 3) dX12_gainOf_38 rfl (by decide) rfl ?_
    refine E_lv (lv' := [_, _, _, _]) rfl ?_
    refine E_aload_n (i := 0) dX12_gainOf_39 rfl rfl ?_
    refine E_iload_n (i := 1) dX12_gainOf_40 rfl rfl ?_
    refine E_iconst (v := 0) dX12_gainOf_41 (by decide) ?_
    refine k_X12_gainOf_42 (mc' := 0) (ms' := 0) (rc := 0) (rs := 0) (by omega) (Nat.le_of_ble_eq_true rfl) (by assumption) (c_X12_of (f := 0) hM hx rfl hr (by decide) ?_)
    rw [hk]
    refine E_tswIn (tgt := 107) dX12_gainOf_45 (by decide) (by decide) rfl (by decide) ?_
    refine E_iload_n (i := 2) dX12_gainOf_107 rfl rfl ?_
    refine E_iload_n (i := 3) dX12_gainOf_108 rfl rfl ?_
    refine E_iadd dX12_gainOf_109 ?_
    refine E_aload_n (i := 0) dX12_gainOf_110 rfl rfl ?_
    refine E_iload_n (i := 1) dX12_gainOf_111 rfl rfl ?_
    refine k_X12_gainOf_112 (mc' := 0) (ms' := 0) (rc := 0) (rs := 0) (by omega) (Nat.le_of_ble_eq_true rfl) (by assumption) (c_X12_brakes (by omega) hM hx hr ?_)
    refine E_isub dX12_gainOf_115 ?_
    refine E_iret dX12_gainOf_116 rfl ?_
    exact hΦ
theorem c_gainOf_4 {r : Nat} {x : Int32} (hd : 4 ≤ d) (hM : Mo g P) (hO : WOK (wm (I 110))) (hx : x = nI r) (hr : r < 8) (hk : I 110 (16 + 7 * r + 0) = 4) (hp : 0 ≤ (I 110 (16 + 7 * r + 3) / 10).toInt) (hΦ : Φ (some (.int (gnM 4 (I 110) r))) g P I) : MM Γ mX12_gainOf d 0 0 [.ref 109, .int x] g P I Φ := by
  refine MM_entry [some _, some _, none, none] (by decide) (Nat.le_of_ble_eq_true rfl) rfl ?_
  obtain ⟨n1, n2, n3⟩ := hM.now
  have h0 := hM.1
  have e : gnM 4 (I 110) r = stp (wm (I 110)) (I 110 (16 + 7 * r + 3) / 10) (I 110 (16 + 7 * r + 1)) / 50 + I 110 14 := by simp [gnM]
  rw [e] at hΦ
  have h4 : wm (I 110) 4 = I 110 11 := rfl
  by_cases hc : 0 < I 110 11
  · skip
    refine E_aload_n (i := 0) dX12_gainOf_0 rfl rfl ?_
    refine E_aload_n (i := 0) dX12_gainOf_1 rfl rfl ?_
    refine E_iload_n (i := 1) dX12_gainOf_2 rfl rfl ?_
    refine E_iconst (v := 3) dX12_gainOf_3 (by decide) ?_
    refine k_X12_gainOf_4 (mc' := 0) (ms' := 0) (rc := 0) (rs := 0) (by omega) (Nat.le_of_ble_eq_true rfl) (by assumption) (c_X12_of (f := 3) hM hx rfl hr (by decide) ?_)
    refine E_bipush (v := 10) dX12_gainOf_7 (by decide) ?_
    refine E_idiv dX12_gainOf_9 (by decide) ?_
    refine E_aload_n (i := 0) dX12_gainOf_10 rfl rfl ?_
    refine E_iload_n (i := 1) dX12_gainOf_11 rfl rfl ?_
    refine E_iconst (v := 1) dX12_gainOf_12 (by decide) ?_
    refine k_X12_gainOf_13 (mc' := 0) (ms' := 0) (rc := 0) (rs := 0) (by omega) (Nat.le_of_ble_eq_true rfl) (by assumption) (c_X12_of (f := 1) hM hx rfl hr (by decide) ?_)
    refine k_X12_gainOf_16 (mc' := 0) (ms' := 0) (rc := 0) (rs := 0) (by omega) (Nat.le_of_ble_eq_true rfl) (by assumption) (c_X12_steepOf (by omega) hM hO hp ?_)
    refine E_bipush (v := 50) dX12_gainOf_19 (by decide) ?_
    refine E_idiv dX12_gainOf_21 (by decide) ?_
    refine E_istore_nC (i := 2) dX12_gainOf_22 rfl (by decide) rfl ?_
    refine E_lv (lv' := [_, _, _, _]) rfl ?_
    refine E_aload_n (i := 0) dX12_gainOf_23 rfl rfl ?_
    refine E_gr dX12_gainOf_24 gf_X12_9_12 rfl (by assumption) (by assumption) ?_
    refine E_bipush (v := 11) dX12_gainOf_27 (by decide) ?_
    refine E_iaj 11 dX12_gainOf_29 (by assumption) rfl (by decide) (by rw [n3]; decide) ?_
    refine E_if_le (tgt := 37) dX12_gainOf_30 (by decide) (fun c_30 => absurd c_30 (Int32.not_le.mpr hc)) (fun c_30 => ?_)
    refine E_iconst (v := 1) dX12_gainOf_33 (by decide) ?_
    refine E_goto (tgt := 38) dX12_gainOf_34 (by decide) ?_
    refine E_istore_nC (i := 3) dX12_gainOf_38 rfl (by decide) rfl ?_
    refine E_lv (lv' := [_, _, _, _]) rfl ?_
    refine E_aload_n (i := 0) dX12_gainOf_39 rfl rfl ?_
    refine E_iload_n (i := 1) dX12_gainOf_40 rfl rfl ?_
    refine E_iconst (v := 0) dX12_gainOf_41 (by decide) ?_
    refine k_X12_gainOf_42 (mc' := 0) (ms' := 0) (rc := 0) (rs := 0) (by omega) (Nat.le_of_ble_eq_true rfl) (by assumption) (c_X12_of (f := 0) hM hx rfl hr (by decide) ?_)
    rw [hk]
    refine E_tswIn (tgt := 97) dX12_gainOf_45 (by decide) (by decide) rfl (by decide) ?_
    refine E_iload_n (i := 2) dX12_gainOf_97 rfl rfl ?_
    refine E_aload_n (i := 0) dX12_gainOf_98 rfl rfl ?_
    refine E_gr dX12_gainOf_99 gf_X12_9_12 rfl (by assumption) (by assumption) ?_
    refine E_bipush (v := 14) dX12_gainOf_102 (by decide) ?_
    refine E_iaj 14 dX12_gainOf_104 (by assumption) rfl (by decide) (by rw [n3]; decide) ?_
    refine E_iadd dX12_gainOf_105 ?_
    refine E_iret dX12_gainOf_106 rfl ?_
    exact hΦ
  · skip
    refine E_aload_n (i := 0) dX12_gainOf_0 rfl rfl ?_
    refine E_aload_n (i := 0) dX12_gainOf_1 rfl rfl ?_
    refine E_iload_n (i := 1) dX12_gainOf_2 rfl rfl ?_
    refine E_iconst (v := 3) dX12_gainOf_3 (by decide) ?_
    refine k_X12_gainOf_4 (mc' := 0) (ms' := 0) (rc := 0) (rs := 0) (by omega) (Nat.le_of_ble_eq_true rfl) (by assumption) (c_X12_of (f := 3) hM hx rfl hr (by decide) ?_)
    refine E_bipush (v := 10) dX12_gainOf_7 (by decide) ?_
    refine E_idiv dX12_gainOf_9 (by decide) ?_
    refine E_aload_n (i := 0) dX12_gainOf_10 rfl rfl ?_
    refine E_iload_n (i := 1) dX12_gainOf_11 rfl rfl ?_
    refine E_iconst (v := 1) dX12_gainOf_12 (by decide) ?_
    refine k_X12_gainOf_13 (mc' := 0) (ms' := 0) (rc := 0) (rs := 0) (by omega) (Nat.le_of_ble_eq_true rfl) (by assumption) (c_X12_of (f := 1) hM hx rfl hr (by decide) ?_)
    refine k_X12_gainOf_16 (mc' := 0) (ms' := 0) (rc := 0) (rs := 0) (by omega) (Nat.le_of_ble_eq_true rfl) (by assumption) (c_X12_steepOf (by omega) hM hO hp ?_)
    refine E_bipush (v := 50) dX12_gainOf_19 (by decide) ?_
    refine E_idiv dX12_gainOf_21 (by decide) ?_
    refine E_istore_nC (i := 2) dX12_gainOf_22 rfl (by decide) rfl ?_
    refine E_lv (lv' := [_, _, _, _]) rfl ?_
    refine E_aload_n (i := 0) dX12_gainOf_23 rfl rfl ?_
    refine E_gr dX12_gainOf_24 gf_X12_9_12 rfl (by assumption) (by assumption) ?_
    refine E_bipush (v := 11) dX12_gainOf_27 (by decide) ?_
    refine E_iaj 11 dX12_gainOf_29 (by assumption) rfl (by decide) (by rw [n3]; decide) ?_
    refine E_if_le (tgt := 37) dX12_gainOf_30 (by decide) (fun c_30 => ?_) (fun c_30 => absurd (Int32.not_lt.mp hc) c_30)
    refine E_iconst (v := 0) dX12_gainOf_37 (by decide) ?_
    refine E_istore_nC (i := 3) dX12_gainOf_38 rfl (by decide) rfl ?_
    refine E_lv (lv' := [_, _, _, _]) rfl ?_
    refine E_aload_n (i := 0) dX12_gainOf_39 rfl rfl ?_
    refine E_iload_n (i := 1) dX12_gainOf_40 rfl rfl ?_
    refine E_iconst (v := 0) dX12_gainOf_41 (by decide) ?_
    refine k_X12_gainOf_42 (mc' := 0) (ms' := 0) (rc := 0) (rs := 0) (by omega) (Nat.le_of_ble_eq_true rfl) (by assumption) (c_X12_of (f := 0) hM hx rfl hr (by decide) ?_)
    rw [hk]
    refine E_tswIn (tgt := 97) dX12_gainOf_45 (by decide) (by decide) rfl (by decide) ?_
    refine E_iload_n (i := 2) dX12_gainOf_97 rfl rfl ?_
    refine E_aload_n (i := 0) dX12_gainOf_98 rfl rfl ?_
    refine E_gr dX12_gainOf_99 gf_X12_9_12 rfl (by assumption) (by assumption) ?_
    refine E_bipush (v := 14) dX12_gainOf_102 (by decide) ?_
    refine E_iaj 14 dX12_gainOf_104 (by assumption) rfl (by decide) (by rw [n3]; decide) ?_
    refine E_iadd dX12_gainOf_105 ?_
    refine E_iret dX12_gainOf_106 rfl ?_
    exact hΦ
theorem c_gainOf_5 {r : Nat} {x : Int32} (hd : 4 ≤ d) (hM : Mo g P) (hO : WOK (wm (I 110))) (hx : x = nI r) (hr : r < 8) (hk : I 110 (16 + 7 * r + 0) = 5) (hp : 0 ≤ (I 110 (16 + 7 * r + 3) / 10).toInt) (hΦ : Φ (some (.int (gnM 5 (I 110) r))) g P I) : MM Γ mX12_gainOf d 0 0 [.ref 109, .int x] g P I Φ := by
  refine MM_entry [some _, some _, none, none] (by decide) (Nat.le_of_ble_eq_true rfl) rfl ?_
  obtain ⟨n1, n2, n3⟩ := hM.now
  have h0 := hM.1
  have e : gnM 5 (I 110) r = stp (wm (I 110)) (I 110 (16 + 7 * r + 3) / 10) (I 110 (16 + 7 * r + 1)) / 50 + rl (wm (I 110)) - (if I 110 (16 + 7 * r + 3) < 8 * I 110 7 then 0 else brM (I 110 (16 + 7 * r + 4)) (I 110 (16 + 7 * r + 2))) := by simp [gnM]
  rw [e] at hΦ
  unfold rl at hΦ
  have h4 : wm (I 110) 4 = I 110 11 := rfl
  rw [h4] at hΦ
  by_cases hc : 0 < I 110 11
  · rw [if_pos hc] at hΦ
    by_cases hc5 : I 110 (16 + 7 * r + 3) < 8 * I 110 7
    · rw [if_pos hc5] at hΦ
      refine E_aload_n (i := 0) dX12_gainOf_0 rfl rfl ?_
      refine E_aload_n (i := 0) dX12_gainOf_1 rfl rfl ?_
      refine E_iload_n (i := 1) dX12_gainOf_2 rfl rfl ?_
      refine E_iconst (v := 3) dX12_gainOf_3 (by decide) ?_
      refine k_X12_gainOf_4 (mc' := 0) (ms' := 0) (rc := 0) (rs := 0) (by omega) (Nat.le_of_ble_eq_true rfl) (by assumption) (c_X12_of (f := 3) hM hx rfl hr (by decide) ?_)
      refine E_bipush (v := 10) dX12_gainOf_7 (by decide) ?_
      refine E_idiv dX12_gainOf_9 (by decide) ?_
      refine E_aload_n (i := 0) dX12_gainOf_10 rfl rfl ?_
      refine E_iload_n (i := 1) dX12_gainOf_11 rfl rfl ?_
      refine E_iconst (v := 1) dX12_gainOf_12 (by decide) ?_
      refine k_X12_gainOf_13 (mc' := 0) (ms' := 0) (rc := 0) (rs := 0) (by omega) (Nat.le_of_ble_eq_true rfl) (by assumption) (c_X12_of (f := 1) hM hx rfl hr (by decide) ?_)
      refine k_X12_gainOf_16 (mc' := 0) (ms' := 0) (rc := 0) (rs := 0) (by omega) (Nat.le_of_ble_eq_true rfl) (by assumption) (c_X12_steepOf (by omega) hM hO hp ?_)
      refine E_bipush (v := 50) dX12_gainOf_19 (by decide) ?_
      refine E_idiv dX12_gainOf_21 (by decide) ?_
      refine E_istore_nC (i := 2) dX12_gainOf_22 rfl (by decide) rfl ?_
      refine E_lv (lv' := [_, _, _, _]) rfl ?_
      refine E_aload_n (i := 0) dX12_gainOf_23 rfl rfl ?_
      refine E_gr dX12_gainOf_24 gf_X12_9_12 rfl (by assumption) (by assumption) ?_
      refine E_bipush (v := 11) dX12_gainOf_27 (by decide) ?_
      refine E_iaj 11 dX12_gainOf_29 (by assumption) rfl (by decide) (by rw [n3]; decide) ?_
      refine E_if_le (tgt := 37) dX12_gainOf_30 (by decide) (fun c_30 => absurd c_30 (Int32.not_le.mpr hc)) (fun c_30 => ?_)
      refine E_iconst (v := 1) dX12_gainOf_33 (by decide) ?_
      refine E_goto (tgt := 38) dX12_gainOf_34 (by decide) ?_
      refine E_istore_nC (i := 3) dX12_gainOf_38 rfl (by decide) rfl ?_
      refine E_lv (lv' := [_, _, _, _]) rfl ?_
      refine E_aload_n (i := 0) dX12_gainOf_39 rfl rfl ?_
      refine E_iload_n (i := 1) dX12_gainOf_40 rfl rfl ?_
      refine E_iconst (v := 0) dX12_gainOf_41 (by decide) ?_
      refine k_X12_gainOf_42 (mc' := 0) (ms' := 0) (rc := 0) (rs := 0) (by omega) (Nat.le_of_ble_eq_true rfl) (by assumption) (c_X12_of (f := 0) hM hx rfl hr (by decide) ?_)
      rw [hk]
      refine E_tswIn (tgt := 117) dX12_gainOf_45 (by decide) (by decide) rfl (by decide) ?_
      refine E_iload_n (i := 2) dX12_gainOf_117 rfl rfl ?_
      refine E_iload_n (i := 3) dX12_gainOf_118 rfl rfl ?_
      refine E_iadd dX12_gainOf_119 ?_
      refine E_aload_n (i := 0) dX12_gainOf_120 rfl rfl ?_
      refine E_iload_n (i := 1) dX12_gainOf_121 rfl rfl ?_
      refine E_iconst (v := 3) dX12_gainOf_122 (by decide) ?_
      refine k_X12_gainOf_123 (mc' := 0) (ms' := 0) (rc := 0) (rs := 0) (by omega) (Nat.le_of_ble_eq_true rfl) (by assumption) (c_X12_of (f := 3) hM hx rfl hr (by decide) ?_)
      refine E_bipush (v := 8) dX12_gainOf_126 (by decide) ?_
      refine E_aload_n (i := 0) dX12_gainOf_128 rfl rfl ?_
      refine E_gr dX12_gainOf_129 gf_X12_9_12 rfl (by assumption) (by assumption) ?_
      refine E_bipush (v := 7) dX12_gainOf_132 (by decide) ?_
      refine E_iaj 7 dX12_gainOf_134 (by assumption) rfl (by decide) (by rw [n3]; decide) ?_
      refine E_imul dX12_gainOf_135 ?_
      refine E_icmp_ge (tgt := 143) dX12_gainOf_136 (by decide) (fun c_136 => absurd c_136 (Int32.not_le.mpr hc5)) (fun c_136 => ?_)
      refine E_iconst (v := 0) dX12_gainOf_139 (by decide) ?_
      refine E_goto (tgt := 148) dX12_gainOf_140 (by decide) ?_
      refine E_isub dX12_gainOf_148 ?_
      refine E_iret dX12_gainOf_149 rfl ?_
      exact hΦ
    · rw [if_neg hc5] at hΦ
      refine E_aload_n (i := 0) dX12_gainOf_0 rfl rfl ?_
      refine E_aload_n (i := 0) dX12_gainOf_1 rfl rfl ?_
      refine E_iload_n (i := 1) dX12_gainOf_2 rfl rfl ?_
      refine E_iconst (v := 3) dX12_gainOf_3 (by decide) ?_
      refine k_X12_gainOf_4 (mc' := 0) (ms' := 0) (rc := 0) (rs := 0) (by omega) (Nat.le_of_ble_eq_true rfl) (by assumption) (c_X12_of (f := 3) hM hx rfl hr (by decide) ?_)
      refine E_bipush (v := 10) dX12_gainOf_7 (by decide) ?_
      refine E_idiv dX12_gainOf_9 (by decide) ?_
      refine E_aload_n (i := 0) dX12_gainOf_10 rfl rfl ?_
      refine E_iload_n (i := 1) dX12_gainOf_11 rfl rfl ?_
      refine E_iconst (v := 1) dX12_gainOf_12 (by decide) ?_
      refine k_X12_gainOf_13 (mc' := 0) (ms' := 0) (rc := 0) (rs := 0) (by omega) (Nat.le_of_ble_eq_true rfl) (by assumption) (c_X12_of (f := 1) hM hx rfl hr (by decide) ?_)
      refine k_X12_gainOf_16 (mc' := 0) (ms' := 0) (rc := 0) (rs := 0) (by omega) (Nat.le_of_ble_eq_true rfl) (by assumption) (c_X12_steepOf (by omega) hM hO hp ?_)
      refine E_bipush (v := 50) dX12_gainOf_19 (by decide) ?_
      refine E_idiv dX12_gainOf_21 (by decide) ?_
      refine E_istore_nC (i := 2) dX12_gainOf_22 rfl (by decide) rfl ?_
      refine E_lv (lv' := [_, _, _, _]) rfl ?_
      refine E_aload_n (i := 0) dX12_gainOf_23 rfl rfl ?_
      refine E_gr dX12_gainOf_24 gf_X12_9_12 rfl (by assumption) (by assumption) ?_
      refine E_bipush (v := 11) dX12_gainOf_27 (by decide) ?_
      refine E_iaj 11 dX12_gainOf_29 (by assumption) rfl (by decide) (by rw [n3]; decide) ?_
      refine E_if_le (tgt := 37) dX12_gainOf_30 (by decide) (fun c_30 => absurd c_30 (Int32.not_le.mpr hc)) (fun c_30 => ?_)
      refine E_iconst (v := 1) dX12_gainOf_33 (by decide) ?_
      refine E_goto (tgt := 38) dX12_gainOf_34 (by decide) ?_
      refine E_istore_nC (i := 3) dX12_gainOf_38 rfl (by decide) rfl ?_
      refine E_lv (lv' := [_, _, _, _]) rfl ?_
      refine E_aload_n (i := 0) dX12_gainOf_39 rfl rfl ?_
      refine E_iload_n (i := 1) dX12_gainOf_40 rfl rfl ?_
      refine E_iconst (v := 0) dX12_gainOf_41 (by decide) ?_
      refine k_X12_gainOf_42 (mc' := 0) (ms' := 0) (rc := 0) (rs := 0) (by omega) (Nat.le_of_ble_eq_true rfl) (by assumption) (c_X12_of (f := 0) hM hx rfl hr (by decide) ?_)
      rw [hk]
      refine E_tswIn (tgt := 117) dX12_gainOf_45 (by decide) (by decide) rfl (by decide) ?_
      refine E_iload_n (i := 2) dX12_gainOf_117 rfl rfl ?_
      refine E_iload_n (i := 3) dX12_gainOf_118 rfl rfl ?_
      refine E_iadd dX12_gainOf_119 ?_
      refine E_aload_n (i := 0) dX12_gainOf_120 rfl rfl ?_
      refine E_iload_n (i := 1) dX12_gainOf_121 rfl rfl ?_
      refine E_iconst (v := 3) dX12_gainOf_122 (by decide) ?_
      refine k_X12_gainOf_123 (mc' := 0) (ms' := 0) (rc := 0) (rs := 0) (by omega) (Nat.le_of_ble_eq_true rfl) (by assumption) (c_X12_of (f := 3) hM hx rfl hr (by decide) ?_)
      refine E_bipush (v := 8) dX12_gainOf_126 (by decide) ?_
      refine E_aload_n (i := 0) dX12_gainOf_128 rfl rfl ?_
      refine E_gr dX12_gainOf_129 gf_X12_9_12 rfl (by assumption) (by assumption) ?_
      refine E_bipush (v := 7) dX12_gainOf_132 (by decide) ?_
      refine E_iaj 7 dX12_gainOf_134 (by assumption) rfl (by decide) (by rw [n3]; decide) ?_
      refine E_imul dX12_gainOf_135 ?_
      refine E_icmp_ge (tgt := 143) dX12_gainOf_136 (by decide) (fun c_136 => ?_) (fun c_136 => absurd (Int32.not_lt.mp hc5) c_136)
      refine E_aload_n (i := 0) dX12_gainOf_143 rfl rfl ?_
      refine E_iload_n (i := 1) dX12_gainOf_144 rfl rfl ?_
      refine k_X12_gainOf_145 (mc' := 0) (ms' := 0) (rc := 0) (rs := 0) (by omega) (Nat.le_of_ble_eq_true rfl) (by assumption) (c_X12_brakes (by omega) hM hx hr ?_)
      refine E_isub dX12_gainOf_148 ?_
      refine E_iret dX12_gainOf_149 rfl ?_
      exact hΦ
  · rw [if_neg hc] at hΦ
    by_cases hc5 : I 110 (16 + 7 * r + 3) < 8 * I 110 7
    · rw [if_pos hc5] at hΦ
      refine E_aload_n (i := 0) dX12_gainOf_0 rfl rfl ?_
      refine E_aload_n (i := 0) dX12_gainOf_1 rfl rfl ?_
      refine E_iload_n (i := 1) dX12_gainOf_2 rfl rfl ?_
      refine E_iconst (v := 3) dX12_gainOf_3 (by decide) ?_
      refine k_X12_gainOf_4 (mc' := 0) (ms' := 0) (rc := 0) (rs := 0) (by omega) (Nat.le_of_ble_eq_true rfl) (by assumption) (c_X12_of (f := 3) hM hx rfl hr (by decide) ?_)
      refine E_bipush (v := 10) dX12_gainOf_7 (by decide) ?_
      refine E_idiv dX12_gainOf_9 (by decide) ?_
      refine E_aload_n (i := 0) dX12_gainOf_10 rfl rfl ?_
      refine E_iload_n (i := 1) dX12_gainOf_11 rfl rfl ?_
      refine E_iconst (v := 1) dX12_gainOf_12 (by decide) ?_
      refine k_X12_gainOf_13 (mc' := 0) (ms' := 0) (rc := 0) (rs := 0) (by omega) (Nat.le_of_ble_eq_true rfl) (by assumption) (c_X12_of (f := 1) hM hx rfl hr (by decide) ?_)
      refine k_X12_gainOf_16 (mc' := 0) (ms' := 0) (rc := 0) (rs := 0) (by omega) (Nat.le_of_ble_eq_true rfl) (by assumption) (c_X12_steepOf (by omega) hM hO hp ?_)
      refine E_bipush (v := 50) dX12_gainOf_19 (by decide) ?_
      refine E_idiv dX12_gainOf_21 (by decide) ?_
      refine E_istore_nC (i := 2) dX12_gainOf_22 rfl (by decide) rfl ?_
      refine E_lv (lv' := [_, _, _, _]) rfl ?_
      refine E_aload_n (i := 0) dX12_gainOf_23 rfl rfl ?_
      refine E_gr dX12_gainOf_24 gf_X12_9_12 rfl (by assumption) (by assumption) ?_
      refine E_bipush (v := 11) dX12_gainOf_27 (by decide) ?_
      refine E_iaj 11 dX12_gainOf_29 (by assumption) rfl (by decide) (by rw [n3]; decide) ?_
      refine E_if_le (tgt := 37) dX12_gainOf_30 (by decide) (fun c_30 => ?_) (fun c_30 => absurd (Int32.not_lt.mp hc) c_30)
      refine E_iconst (v := 0) dX12_gainOf_37 (by decide) ?_
      refine E_istore_nC (i := 3) dX12_gainOf_38 rfl (by decide) rfl ?_
      refine E_lv (lv' := [_, _, _, _]) rfl ?_
      refine E_aload_n (i := 0) dX12_gainOf_39 rfl rfl ?_
      refine E_iload_n (i := 1) dX12_gainOf_40 rfl rfl ?_
      refine E_iconst (v := 0) dX12_gainOf_41 (by decide) ?_
      refine k_X12_gainOf_42 (mc' := 0) (ms' := 0) (rc := 0) (rs := 0) (by omega) (Nat.le_of_ble_eq_true rfl) (by assumption) (c_X12_of (f := 0) hM hx rfl hr (by decide) ?_)
      rw [hk]
      refine E_tswIn (tgt := 117) dX12_gainOf_45 (by decide) (by decide) rfl (by decide) ?_
      refine E_iload_n (i := 2) dX12_gainOf_117 rfl rfl ?_
      refine E_iload_n (i := 3) dX12_gainOf_118 rfl rfl ?_
      refine E_iadd dX12_gainOf_119 ?_
      refine E_aload_n (i := 0) dX12_gainOf_120 rfl rfl ?_
      refine E_iload_n (i := 1) dX12_gainOf_121 rfl rfl ?_
      refine E_iconst (v := 3) dX12_gainOf_122 (by decide) ?_
      refine k_X12_gainOf_123 (mc' := 0) (ms' := 0) (rc := 0) (rs := 0) (by omega) (Nat.le_of_ble_eq_true rfl) (by assumption) (c_X12_of (f := 3) hM hx rfl hr (by decide) ?_)
      refine E_bipush (v := 8) dX12_gainOf_126 (by decide) ?_
      refine E_aload_n (i := 0) dX12_gainOf_128 rfl rfl ?_
      refine E_gr dX12_gainOf_129 gf_X12_9_12 rfl (by assumption) (by assumption) ?_
      refine E_bipush (v := 7) dX12_gainOf_132 (by decide) ?_
      refine E_iaj 7 dX12_gainOf_134 (by assumption) rfl (by decide) (by rw [n3]; decide) ?_
      refine E_imul dX12_gainOf_135 ?_
      refine E_icmp_ge (tgt := 143) dX12_gainOf_136 (by decide) (fun c_136 => absurd c_136 (Int32.not_le.mpr hc5)) (fun c_136 => ?_)
      refine E_iconst (v := 0) dX12_gainOf_139 (by decide) ?_
      refine E_goto (tgt := 148) dX12_gainOf_140 (by decide) ?_
      refine E_isub dX12_gainOf_148 ?_
      refine E_iret dX12_gainOf_149 rfl ?_
      exact hΦ
    · rw [if_neg hc5] at hΦ
      refine E_aload_n (i := 0) dX12_gainOf_0 rfl rfl ?_
      refine E_aload_n (i := 0) dX12_gainOf_1 rfl rfl ?_
      refine E_iload_n (i := 1) dX12_gainOf_2 rfl rfl ?_
      refine E_iconst (v := 3) dX12_gainOf_3 (by decide) ?_
      refine k_X12_gainOf_4 (mc' := 0) (ms' := 0) (rc := 0) (rs := 0) (by omega) (Nat.le_of_ble_eq_true rfl) (by assumption) (c_X12_of (f := 3) hM hx rfl hr (by decide) ?_)
      refine E_bipush (v := 10) dX12_gainOf_7 (by decide) ?_
      refine E_idiv dX12_gainOf_9 (by decide) ?_
      refine E_aload_n (i := 0) dX12_gainOf_10 rfl rfl ?_
      refine E_iload_n (i := 1) dX12_gainOf_11 rfl rfl ?_
      refine E_iconst (v := 1) dX12_gainOf_12 (by decide) ?_
      refine k_X12_gainOf_13 (mc' := 0) (ms' := 0) (rc := 0) (rs := 0) (by omega) (Nat.le_of_ble_eq_true rfl) (by assumption) (c_X12_of (f := 1) hM hx rfl hr (by decide) ?_)
      refine k_X12_gainOf_16 (mc' := 0) (ms' := 0) (rc := 0) (rs := 0) (by omega) (Nat.le_of_ble_eq_true rfl) (by assumption) (c_X12_steepOf (by omega) hM hO hp ?_)
      refine E_bipush (v := 50) dX12_gainOf_19 (by decide) ?_
      refine E_idiv dX12_gainOf_21 (by decide) ?_
      refine E_istore_nC (i := 2) dX12_gainOf_22 rfl (by decide) rfl ?_
      refine E_lv (lv' := [_, _, _, _]) rfl ?_
      refine E_aload_n (i := 0) dX12_gainOf_23 rfl rfl ?_
      refine E_gr dX12_gainOf_24 gf_X12_9_12 rfl (by assumption) (by assumption) ?_
      refine E_bipush (v := 11) dX12_gainOf_27 (by decide) ?_
      refine E_iaj 11 dX12_gainOf_29 (by assumption) rfl (by decide) (by rw [n3]; decide) ?_
      refine E_if_le (tgt := 37) dX12_gainOf_30 (by decide) (fun c_30 => ?_) (fun c_30 => absurd (Int32.not_lt.mp hc) c_30)
      refine E_iconst (v := 0) dX12_gainOf_37 (by decide) ?_
      refine E_istore_nC (i := 3) dX12_gainOf_38 rfl (by decide) rfl ?_
      refine E_lv (lv' := [_, _, _, _]) rfl ?_
      refine E_aload_n (i := 0) dX12_gainOf_39 rfl rfl ?_
      refine E_iload_n (i := 1) dX12_gainOf_40 rfl rfl ?_
      refine E_iconst (v := 0) dX12_gainOf_41 (by decide) ?_
      refine k_X12_gainOf_42 (mc' := 0) (ms' := 0) (rc := 0) (rs := 0) (by omega) (Nat.le_of_ble_eq_true rfl) (by assumption) (c_X12_of (f := 0) hM hx rfl hr (by decide) ?_)
      rw [hk]
      refine E_tswIn (tgt := 117) dX12_gainOf_45 (by decide) (by decide) rfl (by decide) ?_
      refine E_iload_n (i := 2) dX12_gainOf_117 rfl rfl ?_
      refine E_iload_n (i := 3) dX12_gainOf_118 rfl rfl ?_
      refine E_iadd dX12_gainOf_119 ?_
      refine E_aload_n (i := 0) dX12_gainOf_120 rfl rfl ?_
      refine E_iload_n (i := 1) dX12_gainOf_121 rfl rfl ?_
      refine E_iconst (v := 3) dX12_gainOf_122 (by decide) ?_
      refine k_X12_gainOf_123 (mc' := 0) (ms' := 0) (rc := 0) (rs := 0) (by omega) (Nat.le_of_ble_eq_true rfl) (by assumption) (c_X12_of (f := 3) hM hx rfl hr (by decide) ?_)
      refine E_bipush (v := 8) dX12_gainOf_126 (by decide) ?_
      refine E_aload_n (i := 0) dX12_gainOf_128 rfl rfl ?_
      refine E_gr dX12_gainOf_129 gf_X12_9_12 rfl (by assumption) (by assumption) ?_
      refine E_bipush (v := 7) dX12_gainOf_132 (by decide) ?_
      refine E_iaj 7 dX12_gainOf_134 (by assumption) rfl (by decide) (by rw [n3]; decide) ?_
      refine E_imul dX12_gainOf_135 ?_
      refine E_icmp_ge (tgt := 143) dX12_gainOf_136 (by decide) (fun c_136 => ?_) (fun c_136 => absurd (Int32.not_lt.mp hc5) c_136)
      refine E_aload_n (i := 0) dX12_gainOf_143 rfl rfl ?_
      refine E_iload_n (i := 1) dX12_gainOf_144 rfl rfl ?_
      refine k_X12_gainOf_145 (mc' := 0) (ms' := 0) (rc := 0) (rs := 0) (by omega) (Nat.le_of_ble_eq_true rfl) (by assumption) (c_X12_brakes (by omega) hM hx hr ?_)
      refine E_isub dX12_gainOf_148 ?_
      refine E_iret dX12_gainOf_149 rfl ?_
      exact hΦ
theorem c_gainOf_6 {r : Nat} {x : Int32} (hd : 4 ≤ d) (hM : Mo g P) (hO : WOK (wm (I 110))) (hx : x = nI r) (hr : r < 8) (hk : I 110 (16 + 7 * r + 0) = 6) (hp : 0 ≤ (I 110 (16 + 7 * r + 3) / 10).toInt) (hΦ : Φ (some (.int (gnM 6 (I 110) r))) g P I) : MM Γ mX12_gainOf d 0 0 [.ref 109, .int x] g P I Φ := by
  refine MM_entry [some _, some _, none, none] (by decide) (Nat.le_of_ble_eq_true rfl) rfl ?_
  obtain ⟨n1, n2, n3⟩ := hM.now
  have h0 := hM.1
  have e : gnM 6 (I 110) r = stp (wm (I 110)) (I 110 (16 + 7 * r + 3) / 10) (I 110 (16 + 7 * r + 1)) / 50 + I 110 (16 + 7 * r + 2) := by simp [gnM]
  rw [e] at hΦ
  have h4 : wm (I 110) 4 = I 110 11 := rfl
  by_cases hc : 0 < I 110 11
  · skip
    refine E_aload_n (i := 0) dX12_gainOf_0 rfl rfl ?_
    refine E_aload_n (i := 0) dX12_gainOf_1 rfl rfl ?_
    refine E_iload_n (i := 1) dX12_gainOf_2 rfl rfl ?_
    refine E_iconst (v := 3) dX12_gainOf_3 (by decide) ?_
    refine k_X12_gainOf_4 (mc' := 0) (ms' := 0) (rc := 0) (rs := 0) (by omega) (Nat.le_of_ble_eq_true rfl) (by assumption) (c_X12_of (f := 3) hM hx rfl hr (by decide) ?_)
    refine E_bipush (v := 10) dX12_gainOf_7 (by decide) ?_
    refine E_idiv dX12_gainOf_9 (by decide) ?_
    refine E_aload_n (i := 0) dX12_gainOf_10 rfl rfl ?_
    refine E_iload_n (i := 1) dX12_gainOf_11 rfl rfl ?_
    refine E_iconst (v := 1) dX12_gainOf_12 (by decide) ?_
    refine k_X12_gainOf_13 (mc' := 0) (ms' := 0) (rc := 0) (rs := 0) (by omega) (Nat.le_of_ble_eq_true rfl) (by assumption) (c_X12_of (f := 1) hM hx rfl hr (by decide) ?_)
    refine k_X12_gainOf_16 (mc' := 0) (ms' := 0) (rc := 0) (rs := 0) (by omega) (Nat.le_of_ble_eq_true rfl) (by assumption) (c_X12_steepOf (by omega) hM hO hp ?_)
    refine E_bipush (v := 50) dX12_gainOf_19 (by decide) ?_
    refine E_idiv dX12_gainOf_21 (by decide) ?_
    refine E_istore_nC (i := 2) dX12_gainOf_22 rfl (by decide) rfl ?_
    refine E_lv (lv' := [_, _, _, _]) rfl ?_
    refine E_aload_n (i := 0) dX12_gainOf_23 rfl rfl ?_
    refine E_gr dX12_gainOf_24 gf_X12_9_12 rfl (by assumption) (by assumption) ?_
    refine E_bipush (v := 11) dX12_gainOf_27 (by decide) ?_
    refine E_iaj 11 dX12_gainOf_29 (by assumption) rfl (by decide) (by rw [n3]; decide) ?_
    refine E_if_le (tgt := 37) dX12_gainOf_30 (by decide) (fun c_30 => absurd c_30 (Int32.not_le.mpr hc)) (fun c_30 => ?_)
    refine E_iconst (v := 1) dX12_gainOf_33 (by decide) ?_
    refine E_goto (tgt := 38) dX12_gainOf_34 (by decide) ?_
    refine E_istore_nC (i := 3) dX12_gainOf_38 rfl (by decide) rfl ?_
    refine E_lv (lv' := [_, _, _, _]) rfl ?_
    refine E_aload_n (i := 0) dX12_gainOf_39 rfl rfl ?_
    refine E_iload_n (i := 1) dX12_gainOf_40 rfl rfl ?_
    refine E_iconst (v := 0) dX12_gainOf_41 (by decide) ?_
    refine k_X12_gainOf_42 (mc' := 0) (ms' := 0) (rc := 0) (rs := 0) (by omega) (Nat.le_of_ble_eq_true rfl) (by assumption) (c_X12_of (f := 0) hM hx rfl hr (by decide) ?_)
    rw [hk]
    refine E_tswIn (tgt := 88) dX12_gainOf_45 (by decide) (by decide) rfl (by decide) ?_
    refine E_iload_n (i := 2) dX12_gainOf_88 rfl rfl ?_
    refine E_aload_n (i := 0) dX12_gainOf_89 rfl rfl ?_
    refine E_iload_n (i := 1) dX12_gainOf_90 rfl rfl ?_
    refine E_iconst (v := 2) dX12_gainOf_91 (by decide) ?_
    refine k_X12_gainOf_92 (mc' := 0) (ms' := 0) (rc := 0) (rs := 0) (by omega) (Nat.le_of_ble_eq_true rfl) (by assumption) (c_X12_of (f := 2) hM hx rfl hr (by decide) ?_)
    refine E_iadd dX12_gainOf_95 ?_
    refine E_iret dX12_gainOf_96 rfl ?_
    exact hΦ
  · skip
    refine E_aload_n (i := 0) dX12_gainOf_0 rfl rfl ?_
    refine E_aload_n (i := 0) dX12_gainOf_1 rfl rfl ?_
    refine E_iload_n (i := 1) dX12_gainOf_2 rfl rfl ?_
    refine E_iconst (v := 3) dX12_gainOf_3 (by decide) ?_
    refine k_X12_gainOf_4 (mc' := 0) (ms' := 0) (rc := 0) (rs := 0) (by omega) (Nat.le_of_ble_eq_true rfl) (by assumption) (c_X12_of (f := 3) hM hx rfl hr (by decide) ?_)
    refine E_bipush (v := 10) dX12_gainOf_7 (by decide) ?_
    refine E_idiv dX12_gainOf_9 (by decide) ?_
    refine E_aload_n (i := 0) dX12_gainOf_10 rfl rfl ?_
    refine E_iload_n (i := 1) dX12_gainOf_11 rfl rfl ?_
    refine E_iconst (v := 1) dX12_gainOf_12 (by decide) ?_
    refine k_X12_gainOf_13 (mc' := 0) (ms' := 0) (rc := 0) (rs := 0) (by omega) (Nat.le_of_ble_eq_true rfl) (by assumption) (c_X12_of (f := 1) hM hx rfl hr (by decide) ?_)
    refine k_X12_gainOf_16 (mc' := 0) (ms' := 0) (rc := 0) (rs := 0) (by omega) (Nat.le_of_ble_eq_true rfl) (by assumption) (c_X12_steepOf (by omega) hM hO hp ?_)
    refine E_bipush (v := 50) dX12_gainOf_19 (by decide) ?_
    refine E_idiv dX12_gainOf_21 (by decide) ?_
    refine E_istore_nC (i := 2) dX12_gainOf_22 rfl (by decide) rfl ?_
    refine E_lv (lv' := [_, _, _, _]) rfl ?_
    refine E_aload_n (i := 0) dX12_gainOf_23 rfl rfl ?_
    refine E_gr dX12_gainOf_24 gf_X12_9_12 rfl (by assumption) (by assumption) ?_
    refine E_bipush (v := 11) dX12_gainOf_27 (by decide) ?_
    refine E_iaj 11 dX12_gainOf_29 (by assumption) rfl (by decide) (by rw [n3]; decide) ?_
    refine E_if_le (tgt := 37) dX12_gainOf_30 (by decide) (fun c_30 => ?_) (fun c_30 => absurd (Int32.not_lt.mp hc) c_30)
    refine E_iconst (v := 0) dX12_gainOf_37 (by decide) ?_
    refine E_istore_nC (i := 3) dX12_gainOf_38 rfl (by decide) rfl ?_
    refine E_lv (lv' := [_, _, _, _]) rfl ?_
    refine E_aload_n (i := 0) dX12_gainOf_39 rfl rfl ?_
    refine E_iload_n (i := 1) dX12_gainOf_40 rfl rfl ?_
    refine E_iconst (v := 0) dX12_gainOf_41 (by decide) ?_
    refine k_X12_gainOf_42 (mc' := 0) (ms' := 0) (rc := 0) (rs := 0) (by omega) (Nat.le_of_ble_eq_true rfl) (by assumption) (c_X12_of (f := 0) hM hx rfl hr (by decide) ?_)
    rw [hk]
    refine E_tswIn (tgt := 88) dX12_gainOf_45 (by decide) (by decide) rfl (by decide) ?_
    refine E_iload_n (i := 2) dX12_gainOf_88 rfl rfl ?_
    refine E_aload_n (i := 0) dX12_gainOf_89 rfl rfl ?_
    refine E_iload_n (i := 1) dX12_gainOf_90 rfl rfl ?_
    refine E_iconst (v := 2) dX12_gainOf_91 (by decide) ?_
    refine k_X12_gainOf_92 (mc' := 0) (ms' := 0) (rc := 0) (rs := 0) (by omega) (Nat.le_of_ble_eq_true rfl) (by assumption) (c_X12_of (f := 2) hM hx rfl hr (by decide) ?_)
    refine E_iadd dX12_gainOf_95 ?_
    refine E_iret dX12_gainOf_96 rfl ?_
    exact hΦ
theorem c_X12_gainOf {r kd : Nat} {x : Int32} (hd : 4 ≤ d) (hM : Mo g P) (hO : WOK (wm (I 110))) (hx : x = nI r) (hr : r < 8) (hkd : kd ≤ 6) (hk : I 110 (16 + 7 * r + 0) = nI kd) (hp : 0 ≤ (I 110 (16 + 7 * r + 3) / 10).toInt) (hΦ : Φ (some (.int (gnM kd (I 110) r))) g P I) : MM Γ mX12_gainOf d 0 0 [.ref 109, .int x] g P I Φ := by
  rcases (show kd = 0 ∨ kd = 1 ∨ kd = 2 ∨ kd = 3 ∨ kd = 4 ∨ kd = 5 ∨ kd = 6 by omega) with rfl | rfl | rfl | rfl | rfl | rfl | rfl
  · exact c_gainOf_0 hd hM hO hx hr hk hp hΦ
  · exact c_gainOf_1 hd hM hO hx hr hk hp hΦ
  · exact c_gainOf_2 hd hM hO hx hr hk hp hΦ
  · exact c_gainOf_3 hd hM hO hx hr hk hp hΦ
  · exact c_gainOf_4 hd hM hO hx hr hk hp hΦ
  · exact c_gainOf_5 hd hM hO hx hr hk hp hΦ
  · exact c_gainOf_6 hd hM hO hx hr hk hp hΦ
end
