/-! the model: rides, wire -/
theorem ix7 (r f : Nat) : (16 : Int32) + 7 * nI r + nI f = nI (16 + 7 * r + f) := by
  have e1 : (7 : Int32) * nI r = nI (7 * r) := pk_mul 7 r
  have e2 : (16 : Int32) + nI (7 * r) = nI (16 + 7 * r) := nI_add 16 (7 * r)
  rw [e1, e2, nI_add]
section
variable {Γ : GE} {d : Nat} {g : Sh} {P : HP} {I : HI} {Φ : Option Value → Sh → HP → HI → Prop}
theorem c_X12_of {r f : Nat} {x y : Int32} (hM : Mo g P) (hx : x = nI r) (hy : y = nI f) (hr : r < 8) (hf : f < 7) (hΦ : Φ (some (.int (I 110 (16 + 7 * r + f)))) g P I) : MM Γ mX12_of d 0 0 [.ref 109, .int x, .int y] g P I Φ := by
  refine MM_entry [some _, some _, some _] (by decide) (Nat.le_of_ble_eq_true rfl) rfl ?_
  obtain ⟨h1, h2, h3⟩ := hM.now
  have h0 := hM.1
  subst hx
  subst hy
  refine E_aload_n (i := 0) dX12_of_0 rfl rfl ?_
  refine E_gr dX12_of_1 gf_X12_9_12 rfl (by assumption) (by assumption) ?_
  refine E_bipush (v := 16) dX12_of_4 (by decide) ?_
  refine E_bipush (v := 7) dX12_of_6 (by decide) ?_
  refine E_iload_n (i := 1) dX12_of_8 rfl rfl ?_
  refine E_imul dX12_of_9 ?_
  refine E_iadd dX12_of_10 ?_
  refine E_iload_n (i := 2) dX12_of_11 rfl rfl ?_
  refine E_iadd dX12_of_12 ?_
  refine E_iaj (16 + 7 * r + f) dX12_of_13 (by assumption) (ix7 r f) (by omega) (by rw [h3]; omega) ?_
  refine E_iret dX12_of_14 rfl ?_
  exact hΦ
theorem c_X12_tells {r f : Nat} {x y v : Int32} (hM : Mo g P) (hx : x = nI r) (hy : y = nI f) (hr : r < 8) (hf : f < 7) (hΦ : Φ none g P (u2 I 110 (16 + 7 * r + f) v)) : MM Γ mX12_tells d 0 0 [.ref 109, .int x, .int y, .int v] g P I Φ := by
  refine MM_entry [some _, some _, some _, some _] (by decide) (Nat.le_of_ble_eq_true rfl) rfl ?_
  obtain ⟨h1, h2, h3⟩ := hM.now
  have h0 := hM.1
  subst hx
  subst hy
  refine E_aload_n (i := 0) dX12_tells_0 rfl rfl ?_
  refine E_gr dX12_tells_1 gf_X12_9_12 rfl (by assumption) (by assumption) ?_
  refine E_bipush (v := 16) dX12_tells_4 (by decide) ?_
  refine E_bipush (v := 7) dX12_tells_6 (by decide) ?_
  refine E_iload_n (i := 1) dX12_tells_8 rfl rfl ?_
  refine E_imul dX12_tells_9 ?_
  refine E_iadd dX12_tells_10 ?_
  refine E_iload_n (i := 2) dX12_tells_11 rfl rfl ?_
  refine E_iadd dX12_tells_12 ?_
  refine E_iload_n (i := 3) dX12_tells_13 rfl rfl ?_
  refine E_isj (16 + 7 * r + f) dX12_tells_14 (by assumption) (ix7 r f) (by first | decide | omega) (by rw [h3]; omega) ?_
  refine E_vret dX12_tells_15 rfl ?_
  exact hΦ
theorem c_X12_isIn {r : Nat} {x : Int32} (hd : 1 ≤ d) (hM : Mo g P) (hx : x = nI r) (hr : r < 8) (hΦ : Φ (some (.int (bz (I 110 (16 + 7 * r + 5) = 1)))) g P I) : MM Γ mX12_isIn d 0 0 [.ref 109, .int x] g P I Φ := by
  refine MM_entry [some _, some _] (by decide) (Nat.le_of_ble_eq_true rfl) rfl ?_
  have h0 := hM.1
  by_cases hc : I 110 (16 + 7 * r + 5) = 1
  · rw [bz_t hc] at hΦ
    refine E_aload_n (i := 0) dX12_isIn_0 rfl rfl ?_
    refine E_iload_n (i := 1) dX12_isIn_1 rfl rfl ?_
    refine E_iconst (v := 5) dX12_isIn_2 (by decide) ?_
    refine k_X12_isIn_3 (mc' := 0) (ms' := 0) (rc := 0) (rs := 0) (by omega) (Nat.le_of_ble_eq_true rfl) (by assumption) (c_X12_of (f := 5) hM hx rfl hr (by decide) ?_)
    refine E_iconst (v := 1) dX12_isIn_6 (by decide) ?_
    refine E_icmp_ne (tgt := 14) dX12_isIn_7 (by decide) (fun c_7 => absurd (hc) c_7) (fun c_7 => ?_)
    refine E_iconst (v := 1) dX12_isIn_10 (by decide) ?_
    refine E_goto (tgt := 15) dX12_isIn_11 (by decide) ?_
    refine E_zret dX12_isIn_15 rfl rfl ?_
    exact hΦ
  · rw [bz_f hc] at hΦ
    refine E_aload_n (i := 0) dX12_isIn_0 rfl rfl ?_
    refine E_iload_n (i := 1) dX12_isIn_1 rfl rfl ?_
    refine E_iconst (v := 5) dX12_isIn_2 (by decide) ?_
    refine k_X12_isIn_3 (mc' := 0) (ms' := 0) (rc := 0) (rs := 0) (by omega) (Nat.le_of_ble_eq_true rfl) (by assumption) (c_X12_of (f := 5) hM hx rfl hr (by decide) ?_)
    refine E_iconst (v := 1) dX12_isIn_6 (by decide) ?_
    refine E_icmp_ne (tgt := 14) dX12_isIn_7 (by decide) (fun c_7 => ?_) (fun c_7 => absurd c_7 (hc))
    refine E_iconst (v := 0) dX12_isIn_14 (by decide) ?_
    refine E_zret dX12_isIn_15 rfl rfl ?_
    exact hΦ
def brM (pa m : Int32) : Int32 := if pa - m ≤ 0 then 0 else (pa - m) / 2
theorem c_X12_brakes {r : Nat} {x : Int32} (hd : 1 ≤ d) (hM : Mo g P) (hx : x = nI r) (hr : r < 8) (hΦ : Φ (some (.int (brM (I 110 (16 + 7 * r + 4)) (I 110 (16 + 7 * r + 2))))) g P I) : MM Γ mX12_brakes d 0 0 [.ref 109, .int x] g P I Φ := by
  refine MM_entry [some _, some _, none] (by decide) (Nat.le_of_ble_eq_true rfl) rfl ?_
  have h0 := hM.1
  unfold brM at hΦ
  by_cases hc : I 110 (16 + 7 * r + 4) - I 110 (16 + 7 * r + 2) ≤ 0
  · rw [if_pos hc] at hΦ
    refine E_aload_n (i := 0) dX12_brakes_0 rfl rfl ?_
    refine E_iload_n (i := 1) dX12_brakes_1 rfl rfl ?_
    refine E_iconst (v := 4) dX12_brakes_2 (by decide) ?_
    refine k_X12_brakes_3 (mc' := 0) (ms' := 0) (rc := 0) (rs := 0) (by omega) (Nat.le_of_ble_eq_true rfl) (by assumption) (c_X12_of (f := 4) hM hx rfl hr (by decide) ?_)
    refine E_aload_n (i := 0) dX12_brakes_6 rfl rfl ?_
    refine E_iload_n (i := 1) dX12_brakes_7 rfl rfl ?_
    refine E_iconst (v := 2) dX12_brakes_8 (by decide) ?_
    refine k_X12_brakes_9 (mc' := 0) (ms' := 0) (rc := 0) (rs := 0) (by omega) (Nat.le_of_ble_eq_true rfl) (by assumption) (c_X12_of (f := 2) hM hx rfl hr (by decide) ?_)
    refine E_isub dX12_brakes_12 ?_
    refine E_istore_nC (i := 2) dX12_brakes_13 rfl (by decide) rfl ?_
    refine E_lv (lv' := [_, _, _]) rfl ?_
    refine E_iload_n (i := 2) dX12_brakes_14 rfl rfl ?_
    refine E_if_le (tgt := 24) dX12_brakes_15 (by decide) (fun c_15 => ?_) (fun c_15 => absurd (hc) c_15)
    refine E_iconst (v := 0) dX12_brakes_24 (by decide) ?_
    refine E_iret dX12_brakes_25 rfl ?_
    exact hΦ
  · rw [if_neg hc] at hΦ
    refine E_aload_n (i := 0) dX12_brakes_0 rfl rfl ?_
    refine E_iload_n (i := 1) dX12_brakes_1 rfl rfl ?_
    refine E_iconst (v := 4) dX12_brakes_2 (by decide) ?_
    refine k_X12_brakes_3 (mc' := 0) (ms' := 0) (rc := 0) (rs := 0) (by omega) (Nat.le_of_ble_eq_true rfl) (by assumption) (c_X12_of (f := 4) hM hx rfl hr (by decide) ?_)
    refine E_aload_n (i := 0) dX12_brakes_6 rfl rfl ?_
    refine E_iload_n (i := 1) dX12_brakes_7 rfl rfl ?_
    refine E_iconst (v := 2) dX12_brakes_8 (by decide) ?_
    refine k_X12_brakes_9 (mc' := 0) (ms' := 0) (rc := 0) (rs := 0) (by omega) (Nat.le_of_ble_eq_true rfl) (by assumption) (c_X12_of (f := 2) hM hx rfl hr (by decide) ?_)
    refine E_isub dX12_brakes_12 ?_
    refine E_istore_nC (i := 2) dX12_brakes_13 rfl (by decide) rfl ?_
    refine E_lv (lv' := [_, _, _]) rfl ?_
    refine E_iload_n (i := 2) dX12_brakes_14 rfl rfl ?_
    refine E_if_le (tgt := 24) dX12_brakes_15 (by decide) (fun c_15 => absurd c_15 (hc)) (fun c_15 => ?_)
    refine E_iload_n (i := 2) dX12_brakes_18 rfl rfl ?_
    refine E_iconst (v := 2) dX12_brakes_19 (by decide) ?_
    refine E_idiv dX12_brakes_20 (by decide) ?_
    refine E_goto (tgt := 25) dX12_brakes_21 (by decide) ?_
    refine E_iret dX12_brakes_25 rfl ?_
    exact hΦ
theorem c_X12_rubsOf {r : Nat} {x : Int32} (hd : 1 ≤ d) (hM : Mo g P) (hx : x = nI r) (hr : r < 8) (hΦ : Φ (some (.int (if I 110 (16 + 7 * r + 0) = 6 then I 110 13 / 2 else I 110 13))) g P I) : MM Γ mX12_rubsOf d 0 0 [.ref 109, .int x] g P I Φ := by
  refine MM_entry [some _, some _] (by decide) (Nat.le_of_ble_eq_true rfl) rfl ?_
  obtain ⟨h1, h2, h3⟩ := hM.now
  have h0 := hM.1
  by_cases hc : I 110 (16 + 7 * r + 0) = 6
  · rw [if_pos hc] at hΦ
    refine E_aload_n (i := 0) dX12_rubsOf_0 rfl rfl ?_
    refine E_iload_n (i := 1) dX12_rubsOf_1 rfl rfl ?_
    refine E_iconst (v := 0) dX12_rubsOf_2 (by decide) ?_
    refine k_X12_rubsOf_3 (mc' := 0) (ms' := 0) (rc := 0) (rs := 0) (by omega) (Nat.le_of_ble_eq_true rfl) (by assumption) (c_X12_of (f := 0) hM hx rfl hr (by decide) ?_)
    refine E_bipush (v := 6) dX12_rubsOf_6 (by decide) ?_
    refine E_icmp_ne (tgt := 23) dX12_rubsOf_8 (by decide) (fun c_8 => absurd (hc) c_8) (fun c_8 => ?_)
    refine E_aload_n (i := 0) dX12_rubsOf_11 rfl rfl ?_
    refine E_gr dX12_rubsOf_12 gf_X12_9_12 rfl (by assumption) (by assumption) ?_
    refine E_bipush (v := 13) dX12_rubsOf_15 (by decide) ?_
    refine E_iaj 13 dX12_rubsOf_17 (by assumption) rfl (by decide) (by rw [h3]; decide) ?_
    refine E_iconst (v := 2) dX12_rubsOf_18 (by decide) ?_
    refine E_idiv dX12_rubsOf_19 (by decide) ?_
    refine E_goto (tgt := 30) dX12_rubsOf_20 (by decide) ?_
    refine E_iret dX12_rubsOf_30 rfl ?_
    exact hΦ
  · rw [if_neg hc] at hΦ
    refine E_aload_n (i := 0) dX12_rubsOf_0 rfl rfl ?_
    refine E_iload_n (i := 1) dX12_rubsOf_1 rfl rfl ?_
    refine E_iconst (v := 0) dX12_rubsOf_2 (by decide) ?_
    refine k_X12_rubsOf_3 (mc' := 0) (ms' := 0) (rc := 0) (rs := 0) (by omega) (Nat.le_of_ble_eq_true rfl) (by assumption) (c_X12_of (f := 0) hM hx rfl hr (by decide) ?_)
    refine E_bipush (v := 6) dX12_rubsOf_6 (by decide) ?_
    refine E_icmp_ne (tgt := 23) dX12_rubsOf_8 (by decide) (fun c_8 => ?_) (fun c_8 => absurd c_8 (hc))
    refine E_aload_n (i := 0) dX12_rubsOf_23 rfl rfl ?_
    refine E_gr dX12_rubsOf_24 gf_X12_9_12 rfl (by assumption) (by assumption) ?_
    refine E_bipush (v := 13) dX12_rubsOf_27 (by decide) ?_
    refine E_iaj 13 dX12_rubsOf_29 (by assumption) rfl (by decide) (by rw [h3]; decide) ?_
    refine E_iret dX12_rubsOf_30 rfl ?_
    exact hΦ
theorem stp_b {w : Nat → Int32} (h : WOK w) {x : Int32} (h1 : 0 ≤ x.toInt) : let a := if w 0 - 1 < x then w 0 - 1 else x; 0 ≤ a.toInt ∧ a.toInt ≤ 399 ∧ (a + 1).toInt = a.toInt + 1 := by
  have hb := h.b.1
  have e : (w 0 - 1).toInt = (w 0).toInt - 1 := sub32 (by show _ ≤ _ - 1; omega) (by show _ - 1 < _; omega)
  intro a
  have ha : 0 ≤ a.toInt ∧ a.toInt ≤ 399 := by
    show 0 ≤ (if w 0 - 1 < x then w 0 - 1 else x).toInt ∧ (if w 0 - 1 < x then w 0 - 1 else x).toInt ≤ 399
    split
    · rw [e]; omega
    · next hc =>
      rw [i32_lt, e] at hc
      omega
  refine ⟨ha.1, ha.2, add32 (by show _ ≤ _ + 1; omega) (by show _ + 1 < _; omega)⟩
theorem c_X12_steepOf {x l : Int32} (hd : 3 ≤ d) (hM : Mo g P) (hO : WOK (wm (I 110))) (h5 : 0 ≤ x.toInt) (hΦ : Φ (some (.int (stp (wm (I 110)) x l))) g P I) : MM Γ mX12_steepOf d 0 0 [.ref 109, .int x, .int l] g P I Φ := by
  refine MM_entry [some _, some _, some _, none] (by decide) (Nat.le_of_ble_eq_true rfl) rfl ?_
  obtain ⟨h1, h2, h3⟩ := hM.now
  have h0 := hM.1
  have hb := stp_b hO h5
  unfold stp at hΦ
  rw [show wm (I 110) 0 = I 110 7 from rfl] at hΦ hb
  dsimp only at hb
  refine E_iload_n (i := 1) dX12_steepOf_0 rfl rfl ?_
  refine E_aload_n (i := 0) dX12_steepOf_1 rfl rfl ?_
  refine E_gr dX12_steepOf_2 gf_X12_9_12 rfl (by assumption) (by assumption) ?_
  refine E_bipush (v := 7) dX12_steepOf_5 (by decide) ?_
  refine E_iaj 7 dX12_steepOf_7 (by assumption) rfl (by decide) (by rw [h3]; decide) ?_
  refine E_iconst (v := 1) dX12_steepOf_8 (by decide) ?_
  refine E_isub dX12_steepOf_9 ?_
  refine E_min dX12_steepOf_10 w_1222 w_381 w_74 w_382 (Nat.le_of_ble_eq_true rfl) (by omega) ?_
  refine E_istore_nC (i := 3) dX12_steepOf_13 rfl (by decide) rfl ?_
  refine E_lv (lv' := [_, _, _, _]) rfl ?_
  refine E_aload_n (i := 0) dX12_steepOf_14 rfl rfl ?_
  refine E_iload_n (i := 3) dX12_steepOf_15 rfl rfl ?_
  refine E_iconst (v := 1) dX12_steepOf_16 (by decide) ?_
  refine E_iadd dX12_steepOf_17 ?_
  refine E_iload_n (i := 2) dX12_steepOf_18 rfl rfl ?_
  refine k_X12_steepOf_19 (mc' := 0) (ms' := 0) (rc := 0) (rs := 0) (by omega) (Nat.le_of_ble_eq_true rfl) (by assumption) (c_X12_depthOf (by omega) hM hO (by rw [hb.2.2]; omega) (by rw [hb.2.2]; omega) ?_)
  refine E_aload_n (i := 0) dX12_steepOf_22 rfl rfl ?_
  refine E_iload_n (i := 3) dX12_steepOf_23 rfl rfl ?_
  refine E_iload_n (i := 2) dX12_steepOf_24 rfl rfl ?_
  refine k_X12_steepOf_25 (mc' := 0) (ms' := 0) (rc := 0) (rs := 0) (by omega) (Nat.le_of_ble_eq_true rfl) (by assumption) (c_X12_depthOf (by omega) hM hO (by omega) (by omega) ?_)
  refine E_isub dX12_steepOf_28 ?_
  refine E_iret dX12_steepOf_29 rfl ?_
  exact hΦ
/-- the model's pull at a yard -/
def pulM (w : Nat → Int32) (x l : Int32) : Int32 := ((taut w).toInt64 + 4 * l.toInt64 * x.toInt64 * (w 0 - x).toInt64 / ((w 0).toInt64 * (w 0).toInt64)).toInt32
theorem ss64 {w : Nat → Int32} (h : WOK w) : ((w 0).toInt64 * (w 0).toInt64).toInt = (w 0).toInt * (w 0).toInt := by
  have := (ss_mul h).2
  rw [mul64 (by rw [l32]; omega) (by rw [l32]; omega), l32]
theorem c_X12_pulledAt_raw {x l : Int32} (hd : 2 ≤ d) (hM : Mo g P) (hO : WOK (wm (I 110))) (hΦ : Φ (some (.int (pulM (wm (I 110)) x l))) g P I) : MM Γ mX12_pulledAt d 0 0 [.ref 109, .int x, .int l] g P I Φ := by
  refine MM_entry [some _, some _, some _] (by decide) (Nat.le_of_ble_eq_true rfl) rfl ?_
  obtain ⟨h1, h2, h3⟩ := hM.now
  have h0 := hM.1
  have z : ¬ (I 110 7).toInt64 * (I 110 7).toInt64 = 0 := by
    have z1 := ss64 hO
    have z2 := (ss_mul hO).2
    rw [show wm (I 110) 0 = I 110 7 from rfl] at z1 z2
    exact ne64 (by rw [z1]; omega)
  unfold pulM at hΦ
  rw [show wm (I 110) 0 = I 110 7 from rfl] at hΦ
  refine E_aload_n (i := 0) dX12_pulledAt_0 rfl rfl ?_
  refine k_X12_pulledAt_1 (mc' := 0) (ms' := 0) (rc := 0) (rs := 0) (by omega) (Nat.le_of_ble_eq_true rfl) (by assumption) (c_X12_tightOf (by omega) hM ?_)
  refine E_i2l dX12_pulledAt_4 ?_
  refine E_ldc2 (v := 4) dX12_pulledAt_5 w_1266 ?_
  refine E_iload_n (i := 2) dX12_pulledAt_8 rfl rfl ?_
  refine E_i2l dX12_pulledAt_9 ?_
  refine E_lmul dX12_pulledAt_10 ?_
  refine E_iload_n (i := 1) dX12_pulledAt_11 rfl rfl ?_
  refine E_i2l dX12_pulledAt_12 ?_
  refine E_lmul dX12_pulledAt_13 ?_
  refine E_aload_n (i := 0) dX12_pulledAt_14 rfl rfl ?_
  refine E_gr dX12_pulledAt_15 gf_X12_9_12 rfl (by assumption) (by assumption) ?_
  refine E_bipush (v := 7) dX12_pulledAt_18 (by decide) ?_
  refine E_iaj 7 dX12_pulledAt_20 (by assumption) rfl (by decide) (by rw [h3]; decide) ?_
  refine E_iload_n (i := 1) dX12_pulledAt_21 rfl rfl ?_
  refine E_isub dX12_pulledAt_22 ?_
  refine E_i2l dX12_pulledAt_23 ?_
  refine E_lmul dX12_pulledAt_24 ?_
  refine E_aload_n (i := 0) dX12_pulledAt_25 rfl rfl ?_
  refine E_gr dX12_pulledAt_26 gf_X12_9_12 rfl (by assumption) (by assumption) ?_
  refine E_bipush (v := 7) dX12_pulledAt_29 (by decide) ?_
  refine E_iaj 7 dX12_pulledAt_31 (by assumption) rfl (by decide) (by rw [h3]; decide) ?_
  refine E_i2l dX12_pulledAt_32 ?_
  refine E_aload_n (i := 0) dX12_pulledAt_33 rfl rfl ?_
  refine E_gr dX12_pulledAt_34 gf_X12_9_12 rfl (by assumption) (by assumption) ?_
  refine E_bipush (v := 7) dX12_pulledAt_37 (by decide) ?_
  refine E_iaj 7 dX12_pulledAt_39 (by assumption) rfl (by decide) (by rw [h3]; decide) ?_
  refine E_i2l dX12_pulledAt_40 ?_
  refine E_lmul dX12_pulledAt_41 ?_
  refine E_ldiv dX12_pulledAt_42 z ?_
  refine E_ladd dX12_pulledAt_43 ?_
  refine E_l2i dX12_pulledAt_44 ?_
  refine E_iret dX12_pulledAt_45 rfl ?_
  exact hΦ
theorem c_X12_isOn {x l : Int32} (hd : 1 ≤ d) (hM : Mo g P) (hΦ : Φ (some (.int (bz (onW (wm (I 110)) x l)))) g P I) : MM Γ mX12_isOn d 0 0 [.ref 109, .int x, .int l] g P I Φ := by
  refine MM_entry [some _, some _, some _] (by decide) (Nat.le_of_ble_eq_true rfl) rfl ?_
  obtain ⟨n1, n2, n3⟩ := hM.now
  have h0 := hM.1
  by_cases hc : 0 ≤ x ∧ x ≤ I 110 7
  · by_cases hc2 : 0 ≤ l ∧ l ≤ 300
    · rw [bz_t (show onW (wm (I 110)) x l from ⟨hc, hc2⟩)] at hΦ
      refine E_iload_n (i := 1) dX12_isOn_0 rfl rfl ?_
      refine E_iconst (v := 0) dX12_isOn_1 (by decide) ?_
      refine E_aload_n (i := 0) dX12_isOn_2 rfl rfl ?_
      refine E_gr dX12_isOn_3 gf_X12_9_12 rfl (by assumption) (by assumption) ?_
      refine E_bipush (v := 7) dX12_isOn_6 (by decide) ?_
      refine E_iaj 7 dX12_isOn_8 (by assumption) rfl (by decide) (by rw [n3]; decide) ?_
      refine k_X12_isOn_9 (mc' := 0) (ms' := 0) (rc := 0) (rs := 0) (by omega) (Nat.le_of_ble_eq_true rfl) (c_X12_within ?_)
      rw [bz_t hc]
      refine E_if_eq (tgt := 30) dX12_isOn_12 (by decide) (fun c_12 => absurd c_12 (by decide)) (fun c_12 => ?_)
      refine E_iload_n (i := 2) dX12_isOn_15 rfl rfl ?_
      refine E_iconst (v := 0) dX12_isOn_16 (by decide) ?_
      refine E_sipush (v := 300) dX12_isOn_17 (by decide) ?_
      refine k_X12_isOn_20 (mc' := 0) (ms' := 0) (rc := 0) (rs := 0) (by omega) (Nat.le_of_ble_eq_true rfl) (c_X12_within ?_)
      rw [bz_t hc2]
      refine E_if_eq (tgt := 30) dX12_isOn_23 (by decide) (fun c_23 => absurd c_23 (by decide)) (fun c_23 => ?_)
      refine E_iconst (v := 1) dX12_isOn_26 (by decide) ?_
      refine E_goto (tgt := 31) dX12_isOn_27 (by decide) ?_
      refine E_zret dX12_isOn_31 rfl rfl ?_
      exact hΦ
    · rw [bz_f (show ¬ onW (wm (I 110)) x l from fun h => hc2 h.2)] at hΦ
      refine E_iload_n (i := 1) dX12_isOn_0 rfl rfl ?_
      refine E_iconst (v := 0) dX12_isOn_1 (by decide) ?_
      refine E_aload_n (i := 0) dX12_isOn_2 rfl rfl ?_
      refine E_gr dX12_isOn_3 gf_X12_9_12 rfl (by assumption) (by assumption) ?_
      refine E_bipush (v := 7) dX12_isOn_6 (by decide) ?_
      refine E_iaj 7 dX12_isOn_8 (by assumption) rfl (by decide) (by rw [n3]; decide) ?_
      refine k_X12_isOn_9 (mc' := 0) (ms' := 0) (rc := 0) (rs := 0) (by omega) (Nat.le_of_ble_eq_true rfl) (c_X12_within ?_)
      rw [bz_t hc]
      refine E_if_eq (tgt := 30) dX12_isOn_12 (by decide) (fun c_12 => absurd c_12 (by decide)) (fun c_12 => ?_)
      refine E_iload_n (i := 2) dX12_isOn_15 rfl rfl ?_
      refine E_iconst (v := 0) dX12_isOn_16 (by decide) ?_
      refine E_sipush (v := 300) dX12_isOn_17 (by decide) ?_
      refine k_X12_isOn_20 (mc' := 0) (ms' := 0) (rc := 0) (rs := 0) (by omega) (Nat.le_of_ble_eq_true rfl) (c_X12_within ?_)
      rw [bz_f hc2]
      refine E_if_eq (tgt := 30) dX12_isOn_23 (by decide) (fun c_23 => ?_) (fun c_23 => absurd (rfl) c_23)
      refine E_iconst (v := 0) dX12_isOn_30 (by decide) ?_
      refine E_zret dX12_isOn_31 rfl rfl ?_
      exact hΦ
  · rw [bz_f (show ¬ onW (wm (I 110)) x l from fun h => hc h.1)] at hΦ
    refine E_iload_n (i := 1) dX12_isOn_0 rfl rfl ?_
    refine E_iconst (v := 0) dX12_isOn_1 (by decide) ?_
    refine E_aload_n (i := 0) dX12_isOn_2 rfl rfl ?_
    refine E_gr dX12_isOn_3 gf_X12_9_12 rfl (by assumption) (by assumption) ?_
    refine E_bipush (v := 7) dX12_isOn_6 (by decide) ?_
    refine E_iaj 7 dX12_isOn_8 (by assumption) rfl (by decide) (by rw [n3]; decide) ?_
    refine k_X12_isOn_9 (mc' := 0) (ms' := 0) (rc := 0) (rs := 0) (by omega) (Nat.le_of_ble_eq_true rfl) (c_X12_within ?_)
    rw [bz_f hc]
    refine E_if_eq (tgt := 30) dX12_isOn_12 (by decide) (fun c_12 => ?_) (fun c_12 => absurd (rfl) c_12)
    refine E_iconst (v := 0) dX12_isOn_30 (by decide) ?_
    refine E_zret dX12_isOn_31 rfl rfl ?_
    exact hΦ
def flM (I : HI) (k : Nat) : HI := u2 I 113 k (I 113 k + 1)
theorem er_is {k : Nat} (h : 1 ≤ k) (h2 : k ≤ 5) : isErr (er k) k := ⟨rfl, h, h2⟩
theorem er1 : er 1 = -1000000001 := by decide
theorem er2 : er 2 = -1000000002 := by decide
theorem er3 : er 3 = -1000000003 := by decide
theorem er4 : er 4 = -1000000004 := by decide
theorem er5 : er 5 = -1000000005 := by decide
theorem c_find1 (hM : Mo g P) (hΦ : Φ (some (.int (er 1))) g P (flM I 1)) : MM Γ mX12_finding d 0 0 [.ref 109, .int (-1000000001)] g P I Φ := by
  rw [← er1]; exact c_X12_finding hM (er_is (by decide) (by decide)) hΦ
theorem c_find2 (hM : Mo g P) (hΦ : Φ (some (.int (er 2))) g P (flM I 2)) : MM Γ mX12_finding d 0 0 [.ref 109, .int (-1000000002)] g P I Φ := by
  rw [← er2]; exact c_X12_finding hM (er_is (by decide) (by decide)) hΦ
theorem c_find3 (hM : Mo g P) (hΦ : Φ (some (.int (er 3))) g P (flM I 3)) : MM Γ mX12_finding d 0 0 [.ref 109, .int (-1000000003)] g P I Φ := by
  rw [← er3]; exact c_X12_finding hM (er_is (by decide) (by decide)) hΦ
theorem c_find4 (hM : Mo g P) (hΦ : Φ (some (.int (er 4))) g P (flM I 4)) : MM Γ mX12_finding d 0 0 [.ref 109, .int (-1000000004)] g P I Φ := by
  rw [← er4]; exact c_X12_finding hM (er_is (by decide) (by decide)) hΦ
theorem c_find5 (hM : Mo g P) (hΦ : Φ (some (.int (er 5))) g P (flM I 5)) : MM Γ mX12_finding d 0 0 [.ref 109, .int (-1000000005)] g P I Φ := by
  rw [← er5]; exact c_X12_finding hM (er_is (by decide) (by decide)) hΦ
theorem c_X12_depth {x l : Int32} (hd : 4 ≤ d) (hM : Mo g P) (hO : WOK (wm (I 110))) (h1 : onW (wm (I 110)) x l → Φ (some (.int (dep (wm (I 110)) x l))) g P I) (h2 : ¬ onW (wm (I 110)) x l → Φ (some (.int (er 1))) g P (flM I 1)) : MM Γ mX12_depth d 0 0 [.ref 109, .int x, .int l] g P I Φ := by
  refine MM_entry [some _, some _, some _] (by decide) (Nat.le_of_ble_eq_true rfl) rfl ?_
  have h0 := hM.1
  by_cases hc : onW (wm (I 110)) x l
  · have hΦ := h1 hc
    have hx0 : 0 ≤ x.toInt := i32_le.mp hc.1.1
    have hx1 : -1000 ≤ x.toInt := by omega
    have hx2 : x.toInt ≤ 1000 := by have := i32_le.mp hc.1.2; have := hO.b.1; omega
    refine E_aload_n (i := 0) dX12_depth_0 rfl rfl ?_
    refine E_iload_n (i := 1) dX12_depth_1 rfl rfl ?_
    refine E_iload_n (i := 2) dX12_depth_2 rfl rfl ?_
    refine k_X12_depth_3 (mc' := 0) (ms' := 0) (rc := 0) (rs := 0) (by omega) (Nat.le_of_ble_eq_true rfl) (by assumption) (c_X12_isOn (by omega) hM ?_)
    rw [bz_t hc]
    refine E_if_eq (tgt := 18) dX12_depth_6 (by decide) (fun c_6 => absurd c_6 (by decide)) (fun c_6 => ?_)
    refine E_aload_n (i := 0) dX12_depth_9 rfl rfl ?_
    refine E_iload_n (i := 1) dX12_depth_10 rfl rfl ?_
    refine E_iload_n (i := 2) dX12_depth_11 rfl rfl ?_
    refine k_X12_depth_12 (mc' := 0) (ms' := 0) (rc := 0) (rs := 0) (by omega) (Nat.le_of_ble_eq_true rfl) (by assumption) (c_X12_depthOf (by omega) hM hO hx1 hx2 ?_)
    refine E_goto (tgt := 24) dX12_depth_15 (by decide) ?_
    refine E_iret dX12_depth_24 rfl ?_
    exact hΦ
  · have hΦ := h2 hc
    refine E_aload_n (i := 0) dX12_depth_0 rfl rfl ?_
    refine E_iload_n (i := 1) dX12_depth_1 rfl rfl ?_
    refine E_iload_n (i := 2) dX12_depth_2 rfl rfl ?_
    refine k_X12_depth_3 (mc' := 0) (ms' := 0) (rc := 0) (rs := 0) (by omega) (Nat.le_of_ble_eq_true rfl) (by assumption) (c_X12_isOn (by omega) hM ?_)
    rw [bz_f hc]
    refine E_if_eq (tgt := 18) dX12_depth_6 (by decide) (fun c_6 => ?_) (fun c_6 => absurd (rfl) c_6)
    refine E_aload_n (i := 0) dX12_depth_18 rfl rfl ?_
    refine E_ldc (v := -1000000001) dX12_depth_19 w_1208 ?_
    refine k_X12_depth_21 (mc' := 0) (ms' := 0) (rc := 0) (rs := 0) (by omega) (Nat.le_of_ble_eq_true rfl) (by assumption) (c_find1 hM ?_)
    refine E_iret dX12_depth_24 rfl ?_
    exact hΦ
theorem c_X12_steep {x l : Int32} (hd : 4 ≤ d) (hM : Mo g P) (hO : WOK (wm (I 110))) (h1 : onW (wm (I 110)) x l → Φ (some (.int (stp (wm (I 110)) x l))) g P I) (h2 : ¬ onW (wm (I 110)) x l → Φ (some (.int (er 1))) g P (flM I 1)) : MM Γ mX12_steep d 0 0 [.ref 109, .int x, .int l] g P I Φ := by
  refine MM_entry [some _, some _, some _] (by decide) (Nat.le_of_ble_eq_true rfl) rfl ?_
  have h0 := hM.1
  by_cases hc : onW (wm (I 110)) x l
  · have hΦ := h1 hc
    have hx0 : 0 ≤ x.toInt := i32_le.mp hc.1.1
    have hx1 : -1000 ≤ x.toInt := by omega
    have hx2 : x.toInt ≤ 1000 := by have := i32_le.mp hc.1.2; have := hO.b.1; omega
    refine E_aload_n (i := 0) dX12_steep_0 rfl rfl ?_
    refine E_iload_n (i := 1) dX12_steep_1 rfl rfl ?_
    refine E_iload_n (i := 2) dX12_steep_2 rfl rfl ?_
    refine k_X12_steep_3 (mc' := 0) (ms' := 0) (rc := 0) (rs := 0) (by omega) (Nat.le_of_ble_eq_true rfl) (by assumption) (c_X12_isOn (by omega) hM ?_)
    rw [bz_t hc]
    refine E_if_eq (tgt := 18) dX12_steep_6 (by decide) (fun c_6 => absurd c_6 (by decide)) (fun c_6 => ?_)
    refine E_aload_n (i := 0) dX12_steep_9 rfl rfl ?_
    refine E_iload_n (i := 1) dX12_steep_10 rfl rfl ?_
    refine E_iload_n (i := 2) dX12_steep_11 rfl rfl ?_
    refine k_X12_steep_12 (mc' := 0) (ms' := 0) (rc := 0) (rs := 0) (by omega) (Nat.le_of_ble_eq_true rfl) (by assumption) (c_X12_steepOf (by omega) hM hO hx0 ?_)
    refine E_goto (tgt := 24) dX12_steep_15 (by decide) ?_
    refine E_iret dX12_steep_24 rfl ?_
    exact hΦ
  · have hΦ := h2 hc
    refine E_aload_n (i := 0) dX12_steep_0 rfl rfl ?_
    refine E_iload_n (i := 1) dX12_steep_1 rfl rfl ?_
    refine E_iload_n (i := 2) dX12_steep_2 rfl rfl ?_
    refine k_X12_steep_3 (mc' := 0) (ms' := 0) (rc := 0) (rs := 0) (by omega) (Nat.le_of_ble_eq_true rfl) (by assumption) (c_X12_isOn (by omega) hM ?_)
    rw [bz_f hc]
    refine E_if_eq (tgt := 18) dX12_steep_6 (by decide) (fun c_6 => ?_) (fun c_6 => absurd (rfl) c_6)
    refine E_aload_n (i := 0) dX12_steep_18 rfl rfl ?_
    refine E_ldc (v := -1000000001) dX12_steep_19 w_1208 ?_
    refine k_X12_steep_21 (mc' := 0) (ms' := 0) (rc := 0) (rs := 0) (by omega) (Nat.le_of_ble_eq_true rfl) (by assumption) (c_find1 hM ?_)
    refine E_iret dX12_steep_24 rfl ?_
    exact hΦ
theorem c_X12_pulled {x l : Int32} (hd : 4 ≤ d) (hM : Mo g P) (hO : WOK (wm (I 110))) (h1 : onW (wm (I 110)) x l → Φ (some (.int (pulM (wm (I 110)) x l))) g P I) (h2 : ¬ onW (wm (I 110)) x l → Φ (some (.int (er 1))) g P (flM I 1)) : MM Γ mX12_pulled d 0 0 [.ref 109, .int x, .int l] g P I Φ := by
  refine MM_entry [some _, some _, some _] (by decide) (Nat.le_of_ble_eq_true rfl) rfl ?_
  have h0 := hM.1
  by_cases hc : onW (wm (I 110)) x l
  · have hΦ := h1 hc
    have hx0 : 0 ≤ x.toInt := i32_le.mp hc.1.1
    have hx1 : -1000 ≤ x.toInt := by omega
    have hx2 : x.toInt ≤ 1000 := by have := i32_le.mp hc.1.2; have := hO.b.1; omega
    refine E_aload_n (i := 0) dX12_pulled_0 rfl rfl ?_
    refine E_iload_n (i := 1) dX12_pulled_1 rfl rfl ?_
    refine E_iload_n (i := 2) dX12_pulled_2 rfl rfl ?_
    refine k_X12_pulled_3 (mc' := 0) (ms' := 0) (rc := 0) (rs := 0) (by omega) (Nat.le_of_ble_eq_true rfl) (by assumption) (c_X12_isOn (by omega) hM ?_)
    rw [bz_t hc]
    refine E_if_eq (tgt := 18) dX12_pulled_6 (by decide) (fun c_6 => absurd c_6 (by decide)) (fun c_6 => ?_)
    refine E_aload_n (i := 0) dX12_pulled_9 rfl rfl ?_
    refine E_iload_n (i := 1) dX12_pulled_10 rfl rfl ?_
    refine E_iload_n (i := 2) dX12_pulled_11 rfl rfl ?_
    refine k_X12_pulled_12 (mc' := 0) (ms' := 0) (rc := 0) (rs := 0) (by omega) (Nat.le_of_ble_eq_true rfl) (by assumption) (c_X12_pulledAt_raw (by omega) hM hO ?_)
    refine E_goto (tgt := 24) dX12_pulled_15 (by decide) ?_
    refine E_iret dX12_pulled_24 rfl ?_
    exact hΦ
  · have hΦ := h2 hc
    refine E_aload_n (i := 0) dX12_pulled_0 rfl rfl ?_
    refine E_iload_n (i := 1) dX12_pulled_1 rfl rfl ?_
    refine E_iload_n (i := 2) dX12_pulled_2 rfl rfl ?_
    refine k_X12_pulled_3 (mc' := 0) (ms' := 0) (rc := 0) (rs := 0) (by omega) (Nat.le_of_ble_eq_true rfl) (by assumption) (c_X12_isOn (by omega) hM ?_)
    rw [bz_f hc]
    refine E_if_eq (tgt := 18) dX12_pulled_6 (by decide) (fun c_6 => ?_) (fun c_6 => absurd (rfl) c_6)
    refine E_aload_n (i := 0) dX12_pulled_18 rfl rfl ?_
    refine E_ldc (v := -1000000001) dX12_pulled_19 w_1208 ?_
    refine k_X12_pulled_21 (mc' := 0) (ms' := 0) (rc := 0) (rs := 0) (by omega) (Nat.le_of_ble_eq_true rfl) (by assumption) (c_find1 hM ?_)
    refine E_iret dX12_pulled_24 rfl ?_
    exact hΦ
theorem c_X12_nearer {p r : Int32} (hd : 1 ≤ d) (hΦ : Φ (some (.int (rub p r))) g P I) : MM Γ mX12_nearer d 0 0 [.int p, .int r] g P I Φ := by
  refine MM_entry [some _, some _] (by decide) (Nat.le_of_ble_eq_true rfl) rfl ?_
  unfold rub at hΦ
  by_cases hc : 0 < p
  · rw [if_pos hc] at hΦ
    refine E_iload_n (i := 0) dX12_nearer_0 rfl rfl ?_
    refine E_if_le (tgt := 14) dX12_nearer_1 (by decide) (fun c_1 => absurd c_1 (Int32.not_le.mpr hc)) (fun c_1 => ?_)
    refine E_iconst (v := 0) dX12_nearer_4 (by decide) ?_
    refine E_iload_n (i := 0) dX12_nearer_5 rfl rfl ?_
    refine E_iload_n (i := 1) dX12_nearer_6 rfl rfl ?_
    refine E_isub dX12_nearer_7 ?_
    refine E_max dX12_nearer_8 w_1235 w_112 w_74 w_113 (Nat.le_of_ble_eq_true rfl) (by omega) ?_
    refine E_goto (tgt := 21) dX12_nearer_11 (by decide) ?_
    refine E_iret dX12_nearer_21 rfl ?_
    exact hΦ
  · rw [if_neg hc] at hΦ
    refine E_iload_n (i := 0) dX12_nearer_0 rfl rfl ?_
    refine E_if_le (tgt := 14) dX12_nearer_1 (by decide) (fun c_1 => ?_) (fun c_1 => absurd (Int32.not_lt.mp hc) c_1)
    refine E_iconst (v := 0) dX12_nearer_14 (by decide) ?_
    refine E_iload_n (i := 0) dX12_nearer_15 rfl rfl ?_
    refine E_iload_n (i := 1) dX12_nearer_16 rfl rfl ?_
    refine E_iadd dX12_nearer_17 ?_
    refine E_min dX12_nearer_18 w_1222 w_381 w_74 w_382 (Nat.le_of_ble_eq_true rfl) (by omega) ?_
    refine E_iret dX12_nearer_21 rfl ?_
    exact hΦ
theorem c_X12_seed {v : Int32} (hd : 1 ≤ d) (hM : Mo g P) (hΦ : Φ (some (.int (I 110 6))) g P (u2 I 110 6 v)) : MM Γ mX12_seed d 0 0 [.ref 109, .int v] g P I Φ := by
  refine MM_entry [some _, some _] (by decide) (Nat.le_of_ble_eq_true rfl) rfl ?_
  have h0 := hM.1
  refine E_aload_n (i := 0) dX12_seed_0 rfl rfl ?_
  refine E_bipush (v := 6) dX12_seed_1 (by decide) ?_
  refine E_iload_n (i := 1) dX12_seed_3 rfl rfl ?_
  refine k_X12_seed_4 (mc' := 0) (ms' := 0) (rc := 0) (rs := 0) (by omega) (Nat.le_of_ble_eq_true rfl) (by assumption) (c_X12_become (k := 6) hM rfl (by decide) ?_)
  refine E_iret dX12_seed_7 rfl ?_
  exact hΦ
theorem c_X12_unload (hd : 1 ≤ d) (hM : Mo g P) (hΦ : Φ (some (.int (I 110 3))) g P (u2 I 110 3 0)) : MM Γ mX12_unload d 0 0 [.ref 109] g P I Φ := by
  refine MM_entry [some _] (by decide) (Nat.le_of_ble_eq_true rfl) rfl ?_
  have h0 := hM.1
  refine E_aload_n (i := 0) dX12_unload_0 rfl rfl ?_
  refine E_iconst (v := 3) dX12_unload_1 (by decide) ?_
  refine E_iconst (v := 0) dX12_unload_2 (by decide) ?_
  refine k_X12_unload_3 (mc' := 0) (ms' := 0) (rc := 0) (rs := 0) (by omega) (Nat.le_of_ble_eq_true rfl) (by assumption) (c_X12_become (k := 3) hM rfl (by decide) ?_)
  refine E_iret dX12_unload_6 rfl ?_
  exact hΦ
end
