/-! the model: lines, loads, sheets, counts -/
theorem nI_2m (k : Nat) : (2 : Int32) * nI k = nI (2 * k) := pk_mul 2 k
theorem nI_inj {a b : Nat} (ha : a < 2 ^ 31) (hb : b < 2 ^ 31) (h : nI a = nI b) : a = b := by
  have := congrArg Int32.toInt h
  rw [nI_toInt (by omega), nI_toInt (by omega)] at this
  omega
theorem nI_ne {a b : Nat} (ha : a < 2 ^ 31) (hb : b < 2 ^ 31) (h : ¬ a = b) : ¬ nI a = nI b := fun e => h (nI_inj ha hb e)
theorem nI_ca (a k : Nat) : nI a + nI k = nI (a + k) := nI_add a k
section
variable {g : Sh} {P : HP}
theorem Mo.tr (h : Mo g P) : P 109 20 = some 123 ∧ Cel g 123 13 ∧ g.2.2 123 = 40 := h.2.1 (20, 123, 40) (by decide)
theorem Mo.wid (h : Mo g P) : P 109 23 = some 124 ∧ Cel g 124 13 ∧ g.2.2 124 = 4 := h.2.1 (23, 124, 4) (by decide)
theorem Mo.siz (h : Mo g P) : P 109 24 = some 125 ∧ Cel g 125 13 ∧ g.2.2 125 = 4 := h.2.1 (24, 125, 4) (by decide)
theorem Mo.num (h : Mo g P) : P 109 25 = some 126 ∧ Cel g 126 13 ∧ g.2.2 126 = 160 := h.2.1 (25, 126, 160) (by decide)
theorem Mo.car (h : Mo g P) : P 109 26 = some 127 ∧ Cel g 127 13 ∧ g.2.2 127 = 40 := h.2.1 (26, 127, 40) (by decide)
end
section
variable {Γ : GE} {d : Nat} {g : Sh} {P : HP} {I : HI} {Φ : Option Value → Sh → HP → HI → Prop}
theorem c_X12_isAsTold {s t : Int32} (hd : 1 ≤ d) (hΦ : Φ (some (.int (bz (okL s t)))) g P I) : MM Γ mX12_isAsTold d 0 0 [.int s, .int t] g P I Φ := by
  refine MM_entry [some _, some _] (by decide) (Nat.le_of_ble_eq_true rfl) rfl ?_
  by_cases hc : 1 ≤ s ∧ s ≤ 9999
  · by_cases hc2 : 1 ≤ t ∧ t ≤ 999
    · rw [bz_t (show okL s t from ⟨hc, hc2⟩)] at hΦ
      refine E_iload_n (i := 0) dX12_isAsTold_0 rfl rfl ?_
      refine E_iconst (v := 1) dX12_isAsTold_1 (by decide) ?_
      refine E_sipush (v := 9999) dX12_isAsTold_2 (by decide) ?_
      refine k_X12_isAsTold_5 (mc' := 0) (ms' := 0) (rc := 0) (rs := 0) (by omega) (Nat.le_of_ble_eq_true rfl) (c_X12_within ?_)
      rw [bz_t hc]
      refine E_if_eq (tgt := 26) dX12_isAsTold_8 (by decide) (fun c_8 => absurd c_8 (by decide)) (fun c_8 => ?_)
      refine E_iload_n (i := 1) dX12_isAsTold_11 rfl rfl ?_
      refine E_iconst (v := 1) dX12_isAsTold_12 (by decide) ?_
      refine E_sipush (v := 999) dX12_isAsTold_13 (by decide) ?_
      refine k_X12_isAsTold_16 (mc' := 0) (ms' := 0) (rc := 0) (rs := 0) (by omega) (Nat.le_of_ble_eq_true rfl) (c_X12_within ?_)
      rw [bz_t hc2]
      refine E_if_eq (tgt := 26) dX12_isAsTold_19 (by decide) (fun c_19 => absurd c_19 (by decide)) (fun c_19 => ?_)
      refine E_iconst (v := 1) dX12_isAsTold_22 (by decide) ?_
      refine E_goto (tgt := 27) dX12_isAsTold_23 (by decide) ?_
      refine E_zret dX12_isAsTold_27 rfl rfl ?_
      exact hΦ
    · rw [bz_f (show ¬ okL s t from fun h => hc2 h.2)] at hΦ
      refine E_iload_n (i := 0) dX12_isAsTold_0 rfl rfl ?_
      refine E_iconst (v := 1) dX12_isAsTold_1 (by decide) ?_
      refine E_sipush (v := 9999) dX12_isAsTold_2 (by decide) ?_
      refine k_X12_isAsTold_5 (mc' := 0) (ms' := 0) (rc := 0) (rs := 0) (by omega) (Nat.le_of_ble_eq_true rfl) (c_X12_within ?_)
      rw [bz_t hc]
      refine E_if_eq (tgt := 26) dX12_isAsTold_8 (by decide) (fun c_8 => absurd c_8 (by decide)) (fun c_8 => ?_)
      refine E_iload_n (i := 1) dX12_isAsTold_11 rfl rfl ?_
      refine E_iconst (v := 1) dX12_isAsTold_12 (by decide) ?_
      refine E_sipush (v := 999) dX12_isAsTold_13 (by decide) ?_
      refine k_X12_isAsTold_16 (mc' := 0) (ms' := 0) (rc := 0) (rs := 0) (by omega) (Nat.le_of_ble_eq_true rfl) (c_X12_within ?_)
      rw [bz_f hc2]
      refine E_if_eq (tgt := 26) dX12_isAsTold_19 (by decide) (fun c_19 => ?_) (fun c_19 => absurd (rfl) c_19)
      refine E_iconst (v := 0) dX12_isAsTold_26 (by decide) ?_
      refine E_zret dX12_isAsTold_27 rfl rfl ?_
      exact hΦ
  · rw [bz_f (show ¬ okL s t from fun h => hc h.1)] at hΦ
    refine E_iload_n (i := 0) dX12_isAsTold_0 rfl rfl ?_
    refine E_iconst (v := 1) dX12_isAsTold_1 (by decide) ?_
    refine E_sipush (v := 9999) dX12_isAsTold_2 (by decide) ?_
    refine k_X12_isAsTold_5 (mc' := 0) (ms' := 0) (rc := 0) (rs := 0) (by omega) (Nat.le_of_ble_eq_true rfl) (c_X12_within ?_)
    rw [bz_f hc]
    refine E_if_eq (tgt := 26) dX12_isAsTold_8 (by decide) (fun c_8 => ?_) (fun c_8 => absurd (rfl) c_8)
    refine E_iconst (v := 0) dX12_isAsTold_26 (by decide) ?_
    refine E_zret dX12_isAsTold_27 rfl rfl ?_
    exact hΦ
theorem c_X12_isSheet {x : Int32} (hd : 1 ≤ d) (hΦ : Φ (some (.int (bz (0 ≤ x ∧ x ≤ 3)))) g P I) : MM Γ mX12_isSheet d 0 0 [.int x] g P I Φ := by
  refine MM_entry [some _] (by decide) (Nat.le_of_ble_eq_true rfl) rfl ?_
  refine E_iload_n (i := 0) dX12_isSheet_0 rfl rfl ?_
  refine E_iconst (v := 0) dX12_isSheet_1 (by decide) ?_
  refine E_iconst (v := 3) dX12_isSheet_2 (by decide) ?_
  refine k_X12_isSheet_3 (mc' := 0) (ms' := 0) (rc := 0) (rs := 0) (by omega) (Nat.le_of_ble_eq_true rfl) (c_X12_within ?_)
  refine E_zret dX12_isSheet_6 rfl (bz_nz _) ?_
  exact hΦ
theorem c_X12_isAhead {x : Int32} (hd : 1 ≤ d) (hΦ : Φ (some (.int (bz (0 ≤ x ∧ x ≤ 200)))) g P I) : MM Γ mX12_isAhead d 0 0 [.int x] g P I Φ := by
  refine MM_entry [some _] (by decide) (Nat.le_of_ble_eq_true rfl) rfl ?_
  refine E_iload_n (i := 0) dX12_isAhead_0 rfl rfl ?_
  refine E_iconst (v := 0) dX12_isAhead_1 (by decide) ?_
  refine E_sipush (v := 200) dX12_isAhead_2 (by decide) ?_
  refine k_X12_isAhead_5 (mc' := 0) (ms' := 0) (rc := 0) (rs := 0) (by omega) (Nat.le_of_ble_eq_true rfl) (c_X12_within ?_)
  refine E_zret dX12_isAhead_8 rfl (bz_nz _) ?_
  exact hΦ
/-- two numbers more behind a count -/
def ad2M (M : Nat → Int32) (c b k : Nat) (s t : Int32) : Nat → Int32 := ur (ur (ur M (b + 2 * k) s) (b + 2 * k + 1) t) c (nI (k + 1))
theorem u2_ur {α : Type} (f : Nat → Nat → α) (a k : Nat) (v : α) : u2 f a k v = ur f a (ur (f a) k v) := rfl
theorem u2_2 {α : Type} (f : Nat → Nat → α) (a k j : Nat) (v w : α) : u2 (u2 f a k v) a j w = ur f a (ur (ur (f a) k v) j w) := by
  rw [u2_ur, u2_ur, ur_s, ur_ur]
theorem u2_3 {α : Type} (f : Nat → Nat → α) (a k j i : Nat) (v w x : α) : u2 (u2 (u2 f a k v) a j w) a i x = ur f a (ur (ur (ur (f a) k v) j w) i x) := by
  rw [u2_2, u2_ur, ur_s, ur_ur]
theorem c_X12_spins {s t : Int32} {k : Nat} (hM : Mo g P) (hk : I 110 2 = nI k) (hk8 : k < 8) (hΦ : Φ (some (.int (nI k))) g P (ur I 110 (ad2M (I 110) 2 72 k s t))) : MM Γ mX12_spins d 0 0 [.ref 109, .int s, .int t] g P I Φ := by
  refine MM_entry [some _, some _, some _, none] (by decide) (Nat.le_of_ble_eq_true rfl) rfl ?_
  obtain ⟨h1, h2, h3⟩ := hM.now
  have h0 := hM.1
  have e1 : (72 : Int32) + 2 * nI k = nI (72 + 2 * k) := by rw [nI_2m]; exact nI_add 72 (2 * k)
  have e2 : (72 : Int32) + 2 * nI k + 1 = nI (72 + 2 * k + 1) := by rw [e1, nI_1]
  refine E_aload_n (i := 0) dX12_spins_0 rfl rfl ?_
  refine E_gr dX12_spins_1 gf_X12_9_12 rfl (by assumption) (by assumption) ?_
  refine E_iconst (v := 2) dX12_spins_4 (by decide) ?_
  refine E_iaj 2 dX12_spins_5 (by assumption) rfl (by decide) (by rw [h3]; decide) ?_
  rw [hk]
  refine E_istore_nC (i := 3) dX12_spins_6 rfl (by decide) rfl ?_
  refine E_lv (lv' := [_, _, _, _]) rfl ?_
  refine E_aload_n (i := 0) dX12_spins_7 rfl rfl ?_
  refine E_gr dX12_spins_8 gf_X12_9_12 rfl (by assumption) (by assumption) ?_
  refine E_bipush (v := 72) dX12_spins_11 (by decide) ?_
  refine E_iconst (v := 2) dX12_spins_13 (by decide) ?_
  refine E_iload_n (i := 3) dX12_spins_14 rfl rfl ?_
  refine E_imul dX12_spins_15 ?_
  refine E_iadd dX12_spins_16 ?_
  refine E_iload_n (i := 1) dX12_spins_17 rfl rfl ?_
  refine E_isj (72 + 2 * k) dX12_spins_18 (by assumption) e1 (by first | decide | omega) (by rw [h3]; omega) ?_
  refine E_aload_n (i := 0) dX12_spins_19 rfl rfl ?_
  refine E_gr dX12_spins_20 gf_X12_9_12 rfl (by assumption) (by assumption) ?_
  refine E_bipush (v := 72) dX12_spins_23 (by decide) ?_
  refine E_iconst (v := 2) dX12_spins_25 (by decide) ?_
  refine E_iload_n (i := 3) dX12_spins_26 rfl rfl ?_
  refine E_imul dX12_spins_27 ?_
  refine E_iadd dX12_spins_28 ?_
  refine E_iconst (v := 1) dX12_spins_29 (by decide) ?_
  refine E_iadd dX12_spins_30 ?_
  refine E_iload_n (i := 2) dX12_spins_31 rfl rfl ?_
  refine E_isj (72 + 2 * k + 1) dX12_spins_32 (by assumption) e2 (by first | decide | omega) (by rw [h3]; omega) ?_
  refine E_aload_n (i := 0) dX12_spins_33 rfl rfl ?_
  refine E_gr dX12_spins_34 gf_X12_9_12 rfl (by assumption) (by assumption) ?_
  refine E_iconst (v := 2) dX12_spins_37 (by decide) ?_
  refine E_dup2 dX12_spins_38 rfl rfl ?_
  refine E_iaj 2 dX12_spins_39 (by assumption) rfl (by decide) (by rw [h3]; decide) ?_
  rw [u2_o (by omega), u2_o (by omega), hk]
  refine E_iconst (v := 1) dX12_spins_40 (by decide) ?_
  refine E_iadd dX12_spins_41 ?_
  refine E_isj 2 dX12_spins_42 (by assumption) rfl (by decide) (by rw [h3]; decide) ?_
  refine E_iload_n (i := 3) dX12_spins_43 rfl rfl ?_
  refine E_iret dX12_spins_44 rfl ?_
  unfold ad2M at hΦ
  rw [nI_1, u2_3]
  exact hΦ
theorem c_X12_line {s t : Int32} {k : Nat} (hd : 2 ≤ d) (hM : Mo g P) (hk : I 110 2 = nI k) (hk8 : k ≤ 8) (h1 : okL s t → k < 8 → Φ (some (.int (nI k))) g P (ur I 110 (ad2M (I 110) 2 72 k s t))) (h2 : ¬ okL s t → Φ (some (.int (er 1))) g P (flM I 1)) (h3 : okL s t → k = 8 → Φ (some (.int (er 4))) g P (flM I 4)) : MM Γ mX12_line d 0 0 [.ref 109, .int s, .int t] g P I Φ := by
  refine MM_entry [some _, some _, some _] (by decide) (Nat.le_of_ble_eq_true rfl) rfl ?_
  obtain ⟨n1, n2, n3⟩ := hM.now
  have h0 := hM.1
  by_cases hc : okL s t
  · by_cases hk8' : k = 8
    · have hΦ := h3 hc hk8'
      refine E_iload_n (i := 1) dX12_line_0 rfl rfl ?_
      refine E_iload_n (i := 2) dX12_line_1 rfl rfl ?_
      refine k_X12_line_2 (mc' := 0) (ms' := 0) (rc := 0) (rs := 0) (by omega) (Nat.le_of_ble_eq_true rfl) (c_X12_isAsTold (by omega) ?_)
      rw [bz_t hc]
      refine E_if_ne (tgt := 15) dX12_line_5 (by decide) (fun c_5 => ?_) (fun c_5 => absurd c_5 (by decide))
      refine E_aload_n (i := 0) dX12_line_15 rfl rfl ?_
      refine E_gr dX12_line_16 gf_X12_9_12 rfl (by assumption) (by assumption) ?_
      refine E_iconst (v := 2) dX12_line_19 (by decide) ?_
      refine E_iaj 2 dX12_line_20 (by assumption) rfl (by decide) (by rw [n3]; decide) ?_
      refine E_bipush (v := 8) dX12_line_21 (by decide) ?_
      refine E_icmp_ne (tgt := 35) dX12_line_23 (by decide) (fun c_23 => absurd (by rw [hk, hk8']; rfl) c_23) (fun c_23 => ?_)
      refine E_aload_n (i := 0) dX12_line_26 rfl rfl ?_
      refine E_ldc (v := -1000000004) dX12_line_27 w_1295 ?_
      refine k_X12_line_29 (mc' := 0) (ms' := 0) (rc := 0) (rs := 0) (by omega) (Nat.le_of_ble_eq_true rfl) (by assumption) (c_find4 hM ?_)
      refine E_goto (tgt := 41) dX12_line_32 (by decide) ?_
      refine E_iret dX12_line_41 rfl ?_
      exact hΦ
    · have hΦ := h1 hc (by omega)
      refine E_iload_n (i := 1) dX12_line_0 rfl rfl ?_
      refine E_iload_n (i := 2) dX12_line_1 rfl rfl ?_
      refine k_X12_line_2 (mc' := 0) (ms' := 0) (rc := 0) (rs := 0) (by omega) (Nat.le_of_ble_eq_true rfl) (c_X12_isAsTold (by omega) ?_)
      rw [bz_t hc]
      refine E_if_ne (tgt := 15) dX12_line_5 (by decide) (fun c_5 => ?_) (fun c_5 => absurd c_5 (by decide))
      refine E_aload_n (i := 0) dX12_line_15 rfl rfl ?_
      refine E_gr dX12_line_16 gf_X12_9_12 rfl (by assumption) (by assumption) ?_
      refine E_iconst (v := 2) dX12_line_19 (by decide) ?_
      refine E_iaj 2 dX12_line_20 (by assumption) rfl (by decide) (by rw [n3]; decide) ?_
      refine E_bipush (v := 8) dX12_line_21 (by decide) ?_
      refine E_icmp_ne (tgt := 35) dX12_line_23 (by decide) (fun c_23 => ?_) (fun c_23 => absurd c_23 (by rw [hk]; exact nI_ne (b := 8) (by omega) (by omega) hk8'))
      refine E_aload_n (i := 0) dX12_line_35 rfl rfl ?_
      refine E_iload_n (i := 1) dX12_line_36 rfl rfl ?_
      refine E_iload_n (i := 2) dX12_line_37 rfl rfl ?_
      refine k_X12_line_38 (mc' := 0) (ms' := 0) (rc := 0) (rs := 0) (by omega) (Nat.le_of_ble_eq_true rfl) (by assumption) (c_X12_spins hM hk (by omega) ?_)
      refine E_iret dX12_line_41 rfl ?_
      exact hΦ
  · have hΦ := h2 hc
    refine E_iload_n (i := 1) dX12_line_0 rfl rfl ?_
    refine E_iload_n (i := 2) dX12_line_1 rfl rfl ?_
    refine k_X12_line_2 (mc' := 0) (ms' := 0) (rc := 0) (rs := 0) (by omega) (Nat.le_of_ble_eq_true rfl) (c_X12_isAsTold (by omega) ?_)
    rw [bz_f hc]
    refine E_if_ne (tgt := 15) dX12_line_5 (by decide) (fun c_5 => absurd (rfl) c_5) (fun c_5 => ?_)
    refine E_aload_n (i := 0) dX12_line_8 rfl rfl ?_
    refine E_ldc (v := -1000000001) dX12_line_9 w_1208 ?_
    refine k_X12_line_11 (mc' := 0) (ms' := 0) (rc := 0) (rs := 0) (by omega) (Nat.le_of_ble_eq_true rfl) (by assumption) (c_find1 hM ?_)
    refine E_iret dX12_line_14 rfl ?_
    exact hΦ
theorem c_X12_load {s t : Int32} {k : Nat} (hd : 2 ≤ d) (hM : Mo g P) (hk : I 110 3 = nI k) (hk8 : k ≤ 5) (h1 : okD t s → k < 5 → Φ (some (.int (nI k))) g P (ur I 110 (ad2M (I 110) 3 88 k t s))) (h2 : ¬ okD t s → Φ (some (.int (er 1))) g P (flM I 1)) (h3 : okD t s → k = 5 → Φ (some (.int (er 4))) g P (flM I 4)) : MM Γ mX12_load d 0 0 [.ref 109, .int t, .int s] g P I Φ := by
  refine MM_entry [some _, some _, some _, none] (by decide) (Nat.le_of_ble_eq_true rfl) rfl ?_
  obtain ⟨n1, n2, n3⟩ := hM.now
  have h0 := hM.1
  have e1 : (88 : Int32) + 2 * nI k = nI (88 + 2 * k) := by rw [nI_2m]; exact nI_add 88 (2 * k)
  have e2 : (88 : Int32) + 2 * nI k + 1 = nI (88 + 2 * k + 1) := by rw [e1, nI_1]
  by_cases hc : 1 ≤ t ∧ t ≤ 99
  · by_cases hc2 : 0 ≤ s ∧ s ≤ 1
    · by_cases hk8' : k = 5
      · have hΦ := h3 ⟨hc, hc2⟩ hk8'
        refine E_iload_n (i := 1) dX12_load_0 rfl rfl ?_
        refine E_iconst (v := 1) dX12_load_1 (by decide) ?_
        refine E_bipush (v := 99) dX12_load_2 (by decide) ?_
        refine k_X12_load_4 (mc' := 0) (ms' := 0) (rc := 0) (rs := 0) (by omega) (Nat.le_of_ble_eq_true rfl) (c_X12_within ?_)
        rw [bz_t hc]
        refine E_if_eq (tgt := 19) dX12_load_7 (by decide) (fun c_7 => absurd c_7 (by decide)) (fun c_7 => ?_)
        refine E_iload_n (i := 2) dX12_load_10 rfl rfl ?_
        refine E_iconst (v := 0) dX12_load_11 (by decide) ?_
        refine E_iconst (v := 1) dX12_load_12 (by decide) ?_
        refine k_X12_load_13 (mc' := 0) (ms' := 0) (rc := 0) (rs := 0) (by omega) (Nat.le_of_ble_eq_true rfl) (c_X12_within ?_)
        rw [bz_t hc2]
        refine E_if_ne (tgt := 26) dX12_load_16 (by decide) (fun c_16 => ?_) (fun c_16 => absurd c_16 (by decide))
        refine E_aload_n (i := 0) dX12_load_26 rfl rfl ?_
        refine E_gr dX12_load_27 gf_X12_9_12 rfl (by assumption) (by assumption) ?_
        refine E_iconst (v := 3) dX12_load_30 (by decide) ?_
        refine E_iaj 3 dX12_load_31 (by assumption) rfl (by decide) (by rw [n3]; decide) ?_
        refine E_istore_nC (i := 3) dX12_load_32 rfl (by decide) rfl ?_
        refine E_lv (lv' := [_, _, _, _]) rfl ?_
        refine E_iload_n (i := 3) dX12_load_33 rfl rfl ?_
        refine E_iconst (v := 5) dX12_load_34 (by decide) ?_
        refine E_icmp_ne (tgt := 45) dX12_load_35 (by decide) (fun c_35 => absurd (by rw [hk, hk8']; rfl) c_35) (fun c_35 => ?_)
        refine E_aload_n (i := 0) dX12_load_38 rfl rfl ?_
        refine E_ldc (v := -1000000004) dX12_load_39 w_1295 ?_
        refine k_X12_load_41 (mc' := 0) (ms' := 0) (rc := 0) (rs := 0) (by omega) (Nat.le_of_ble_eq_true rfl) (by assumption) (c_find4 hM ?_)
        refine E_iret dX12_load_44 rfl ?_
        exact hΦ
      · have hΦ := h1 ⟨hc, hc2⟩ (by omega)
        unfold ad2M at hΦ
        refine E_iload_n (i := 1) dX12_load_0 rfl rfl ?_
        refine E_iconst (v := 1) dX12_load_1 (by decide) ?_
        refine E_bipush (v := 99) dX12_load_2 (by decide) ?_
        refine k_X12_load_4 (mc' := 0) (ms' := 0) (rc := 0) (rs := 0) (by omega) (Nat.le_of_ble_eq_true rfl) (c_X12_within ?_)
        rw [bz_t hc]
        refine E_if_eq (tgt := 19) dX12_load_7 (by decide) (fun c_7 => absurd c_7 (by decide)) (fun c_7 => ?_)
        refine E_iload_n (i := 2) dX12_load_10 rfl rfl ?_
        refine E_iconst (v := 0) dX12_load_11 (by decide) ?_
        refine E_iconst (v := 1) dX12_load_12 (by decide) ?_
        refine k_X12_load_13 (mc' := 0) (ms' := 0) (rc := 0) (rs := 0) (by omega) (Nat.le_of_ble_eq_true rfl) (c_X12_within ?_)
        rw [bz_t hc2]
        refine E_if_ne (tgt := 26) dX12_load_16 (by decide) (fun c_16 => ?_) (fun c_16 => absurd c_16 (by decide))
        refine E_aload_n (i := 0) dX12_load_26 rfl rfl ?_
        refine E_gr dX12_load_27 gf_X12_9_12 rfl (by assumption) (by assumption) ?_
        refine E_iconst (v := 3) dX12_load_30 (by decide) ?_
        refine E_iaj 3 dX12_load_31 (by assumption) rfl (by decide) (by rw [n3]; decide) ?_
        rw [hk]
        refine E_istore_nC (i := 3) dX12_load_32 rfl (by decide) rfl ?_
        refine E_lv (lv' := [_, _, _, _]) rfl ?_
        refine E_iload_n (i := 3) dX12_load_33 rfl rfl ?_
        refine E_iconst (v := 5) dX12_load_34 (by decide) ?_
        refine E_icmp_ne (tgt := 45) dX12_load_35 (by decide) (fun c_35 => ?_) (fun c_35 => absurd c_35 (nI_ne (b := 5) (by omega) (by omega) hk8'))
        refine E_aload_n (i := 0) dX12_load_45 rfl rfl ?_
        refine E_gr dX12_load_46 gf_X12_9_12 rfl (by assumption) (by assumption) ?_
        refine E_bipush (v := 88) dX12_load_49 (by decide) ?_
        refine E_iconst (v := 2) dX12_load_51 (by decide) ?_
        refine E_iload_n (i := 3) dX12_load_52 rfl rfl ?_
        refine E_imul dX12_load_53 ?_
        refine E_iadd dX12_load_54 ?_
        refine E_iload_n (i := 1) dX12_load_55 rfl rfl ?_
        refine E_isj (88 + 2 * k) dX12_load_56 (by assumption) e1 (by first | decide | omega) (by rw [n3]; omega) ?_
        refine E_aload_n (i := 0) dX12_load_57 rfl rfl ?_
        refine E_gr dX12_load_58 gf_X12_9_12 rfl (by assumption) (by assumption) ?_
        refine E_bipush (v := 88) dX12_load_61 (by decide) ?_
        refine E_iconst (v := 2) dX12_load_63 (by decide) ?_
        refine E_iload_n (i := 3) dX12_load_64 rfl rfl ?_
        refine E_imul dX12_load_65 ?_
        refine E_iadd dX12_load_66 ?_
        refine E_iconst (v := 1) dX12_load_67 (by decide) ?_
        refine E_iadd dX12_load_68 ?_
        refine E_iload_n (i := 2) dX12_load_69 rfl rfl ?_
        refine E_isj (88 + 2 * k + 1) dX12_load_70 (by assumption) e2 (by first | decide | omega) (by rw [n3]; omega) ?_
        refine E_aload_n (i := 0) dX12_load_71 rfl rfl ?_
        refine E_gr dX12_load_72 gf_X12_9_12 rfl (by assumption) (by assumption) ?_
        refine E_iconst (v := 3) dX12_load_75 (by decide) ?_
        refine E_dup2 dX12_load_76 rfl rfl ?_
        refine E_iaj 3 dX12_load_77 (by assumption) rfl (by decide) (by rw [n3]; decide) ?_
        rw [u2_o (by omega), u2_o (by omega), hk]
        refine E_iconst (v := 1) dX12_load_78 (by decide) ?_
        refine E_iadd dX12_load_79 ?_
        refine E_isj 3 dX12_load_80 (by assumption) rfl (by decide) (by rw [n3]; decide) ?_
        refine E_iload_n (i := 3) dX12_load_81 rfl rfl ?_
        refine E_iret dX12_load_82 rfl ?_
        rw [nI_1, u2_3]
        exact hΦ
    · have hΦ := h2 (fun h => hc2 h.2)
      refine E_iload_n (i := 1) dX12_load_0 rfl rfl ?_
      refine E_iconst (v := 1) dX12_load_1 (by decide) ?_
      refine E_bipush (v := 99) dX12_load_2 (by decide) ?_
      refine k_X12_load_4 (mc' := 0) (ms' := 0) (rc := 0) (rs := 0) (by omega) (Nat.le_of_ble_eq_true rfl) (c_X12_within ?_)
      rw [bz_t hc]
      refine E_if_eq (tgt := 19) dX12_load_7 (by decide) (fun c_7 => absurd c_7 (by decide)) (fun c_7 => ?_)
      refine E_iload_n (i := 2) dX12_load_10 rfl rfl ?_
      refine E_iconst (v := 0) dX12_load_11 (by decide) ?_
      refine E_iconst (v := 1) dX12_load_12 (by decide) ?_
      refine k_X12_load_13 (mc' := 0) (ms' := 0) (rc := 0) (rs := 0) (by omega) (Nat.le_of_ble_eq_true rfl) (c_X12_within ?_)
      rw [bz_f hc2]
      refine E_if_ne (tgt := 26) dX12_load_16 (by decide) (fun c_16 => absurd (rfl) c_16) (fun c_16 => ?_)
      refine E_aload_n (i := 0) dX12_load_19 rfl rfl ?_
      refine E_ldc (v := -1000000001) dX12_load_20 w_1208 ?_
      refine k_X12_load_22 (mc' := 0) (ms' := 0) (rc := 0) (rs := 0) (by omega) (Nat.le_of_ble_eq_true rfl) (by assumption) (c_find1 hM ?_)
      refine E_iret dX12_load_25 rfl ?_
      exact hΦ
  · have hΦ := h2 (fun h => hc h.1)
    refine E_iload_n (i := 1) dX12_load_0 rfl rfl ?_
    refine E_iconst (v := 1) dX12_load_1 (by decide) ?_
    refine E_bipush (v := 99) dX12_load_2 (by decide) ?_
    refine k_X12_load_4 (mc' := 0) (ms' := 0) (rc := 0) (rs := 0) (by omega) (Nat.le_of_ble_eq_true rfl) (c_X12_within ?_)
    rw [bz_f hc]
    refine E_if_eq (tgt := 19) dX12_load_7 (by decide) (fun c_7 => ?_) (fun c_7 => absurd (rfl) c_7)
    refine E_aload_n (i := 0) dX12_load_19 rfl rfl ?_
    refine E_ldc (v := -1000000001) dX12_load_20 w_1208 ?_
    refine k_X12_load_22 (mc' := 0) (ms' := 0) (rc := 0) (rs := 0) (by omega) (Nat.le_of_ble_eq_true rfl) (by assumption) (c_find1 hM ?_)
    refine E_iret dX12_load_25 rfl ?_
    exact hΦ
theorem c_X12_tell {v : Int32} {k : Nat} (hd : 1 ≤ d) (hM : Mo g P) (hk : I 110 5 = nI k) (hk20 : k ≤ 20) (h1 : k < 20 → Φ (some (.int (nI (k + 1)))) g P (u2 (u2 I 110 (148 + k) v) 110 5 (nI (k + 1)))) (h2 : k = 20 → Φ (some (.int (er 4))) g P (flM I 4)) : MM Γ mX12_tell d 0 0 [.ref 109, .int v] g P I Φ := by
  refine MM_entry [some _, some _] (by decide) (Nat.le_of_ble_eq_true rfl) rfl ?_
  obtain ⟨n1, n2, n3⟩ := hM.now
  have h0 := hM.1
  have e1 : (148 : Int32) + nI k = nI (148 + k) := nI_add 148 k
  by_cases hc : k = 20
  · have hΦ := h2 hc
    refine E_aload_n (i := 0) dX12_tell_0 rfl rfl ?_
    refine E_gr dX12_tell_1 gf_X12_9_12 rfl (by assumption) (by assumption) ?_
    refine E_iconst (v := 5) dX12_tell_4 (by decide) ?_
    refine E_iaj 5 dX12_tell_5 (by assumption) rfl (by decide) (by rw [n3]; decide) ?_
    refine E_bipush (v := 20) dX12_tell_6 (by decide) ?_
    refine E_icmp_ne (tgt := 18) dX12_tell_8 (by decide) (fun c_8 => absurd (by rw [hk, hc]; rfl) c_8) (fun c_8 => ?_)
    refine E_aload_n (i := 0) dX12_tell_11 rfl rfl ?_
    refine E_ldc (v := -1000000004) dX12_tell_12 w_1295 ?_
    refine k_X12_tell_14 (mc' := 0) (ms' := 0) (rc := 0) (rs := 0) (by omega) (Nat.le_of_ble_eq_true rfl) (by assumption) (c_find4 hM ?_)
    refine E_iret dX12_tell_17 rfl ?_
    exact hΦ
  · have hΦ := h1 (by omega)
    refine E_aload_n (i := 0) dX12_tell_0 rfl rfl ?_
    refine E_gr dX12_tell_1 gf_X12_9_12 rfl (by assumption) (by assumption) ?_
    refine E_iconst (v := 5) dX12_tell_4 (by decide) ?_
    refine E_iaj 5 dX12_tell_5 (by assumption) rfl (by decide) (by rw [n3]; decide) ?_
    refine E_bipush (v := 20) dX12_tell_6 (by decide) ?_
    refine E_icmp_ne (tgt := 18) dX12_tell_8 (by decide) (fun c_8 => ?_) (fun c_8 => absurd c_8 (by rw [hk]; exact nI_ne (b := 20) (by omega) (by omega) hc))
    refine E_aload_n (i := 0) dX12_tell_18 rfl rfl ?_
    refine E_gr dX12_tell_19 gf_X12_9_12 rfl (by assumption) (by assumption) ?_
    refine E_sipush (v := 148) dX12_tell_22 (by decide) ?_
    refine E_aload_n (i := 0) dX12_tell_25 rfl rfl ?_
    refine E_gr dX12_tell_26 gf_X12_9_12 rfl (by assumption) (by assumption) ?_
    refine E_iconst (v := 5) dX12_tell_29 (by decide) ?_
    refine E_iaj 5 dX12_tell_30 (by assumption) rfl (by decide) (by rw [n3]; decide) ?_
    rw [hk]
    refine E_iadd dX12_tell_31 ?_
    refine E_iload_n (i := 1) dX12_tell_32 rfl rfl ?_
    refine E_isj (148 + k) dX12_tell_33 (by assumption) e1 (by first | decide | omega) (by rw [n3]; omega) ?_
    refine E_aload_n (i := 0) dX12_tell_34 rfl rfl ?_
    refine E_gr dX12_tell_35 gf_X12_9_12 rfl (by assumption) (by assumption) ?_
    refine E_iconst (v := 5) dX12_tell_38 (by decide) ?_
    refine E_dup2 dX12_tell_39 rfl rfl ?_
    refine E_iaj 5 dX12_tell_40 (by assumption) rfl (by decide) (by rw [n3]; decide) ?_
    rw [u2_o (by omega), hk]
    refine E_iconst (v := 1) dX12_tell_41 (by decide) ?_
    refine E_iadd dX12_tell_42 ?_
    refine E_isj 5 dX12_tell_43 (by assumption) rfl (by decide) (by rw [n3]; decide) ?_
    refine E_aload_n (i := 0) dX12_tell_44 rfl rfl ?_
    refine E_gr dX12_tell_45 gf_X12_9_12 rfl (by assumption) (by assumption) ?_
    refine E_iconst (v := 5) dX12_tell_48 (by decide) ?_
    refine E_iaj 5 dX12_tell_49 (by assumption) rfl (by decide) (by rw [n3]; decide) ?_
    refine E_iret dX12_tell_50 rfl ?_
    rw [u2_s, nI_1]
    exact hΦ
theorem c_X12_trace {x : Int32} {k : Nat} (hd : 1 ≤ d) (hM : Mo g P) (hk : I 109 21 = nI k) (hk4 : k ≤ 40) (h1 : ∀ j, x = nI j → j < k → Φ (some (.int (I 123 j))) g P I) (h2 : ¬ (0 ≤ x ∧ x ≤ nI k - 1) → Φ (some (.int (er 2))) g P (flM I 2)) : MM Γ mX12_trace d 0 0 [.ref 109, .int x] g P I Φ := by
  refine MM_entry [some _, some _] (by decide) (Nat.le_of_ble_eq_true rfl) rfl ?_
  obtain ⟨n1, n2, n3⟩ := hM.tr
  have h0 := hM.1
  by_cases hc : 0 ≤ x ∧ x ≤ nI k - 1
  · obtain ⟨j, hx, hj⟩ := in_nat (by omega) hc
    have hΦ := h1 j hx hj
    refine E_iload_n (i := 1) dX12_trace_0 rfl rfl ?_
    refine E_iconst (v := 0) dX12_trace_1 (by decide) ?_
    refine E_aload_n (i := 0) dX12_trace_2 rfl rfl ?_
    refine E_gi dX12_trace_3 gf_X12_282_12 rfl (by assumption) ?_
    refine E_iconst (v := 1) dX12_trace_6 (by decide) ?_
    refine E_isub dX12_trace_7 ?_
    refine k_X12_trace_8 (mc' := 0) (ms' := 0) (rc := 0) (rs := 0) (by omega) (Nat.le_of_ble_eq_true rfl) (c_X12_within ?_)
    rw [hk, bz_t hc]
    refine E_if_eq (tgt := 23) dX12_trace_11 (by decide) (fun c_11 => absurd c_11 (by decide)) (fun c_11 => ?_)
    refine E_aload_n (i := 0) dX12_trace_14 rfl rfl ?_
    refine E_gr dX12_trace_15 gf_X12_57_12 rfl (by assumption) (by assumption) ?_
    refine E_iload_n (i := 1) dX12_trace_18 rfl rfl ?_
    refine E_iaj j dX12_trace_19 (by assumption) hx (by omega) (by rw [n3]; omega) ?_
    refine E_goto (tgt := 29) dX12_trace_20 (by decide) ?_
    refine E_iret dX12_trace_29 rfl ?_
    exact hΦ
  · have hΦ := h2 hc
    refine E_iload_n (i := 1) dX12_trace_0 rfl rfl ?_
    refine E_iconst (v := 0) dX12_trace_1 (by decide) ?_
    refine E_aload_n (i := 0) dX12_trace_2 rfl rfl ?_
    refine E_gi dX12_trace_3 gf_X12_282_12 rfl (by assumption) ?_
    refine E_iconst (v := 1) dX12_trace_6 (by decide) ?_
    refine E_isub dX12_trace_7 ?_
    refine k_X12_trace_8 (mc' := 0) (ms' := 0) (rc := 0) (rs := 0) (by omega) (Nat.le_of_ble_eq_true rfl) (c_X12_within ?_)
    rw [hk, bz_f hc]
    refine E_if_eq (tgt := 23) dX12_trace_11 (by decide) (fun c_11 => ?_) (fun c_11 => absurd (rfl) c_11)
    refine E_aload_n (i := 0) dX12_trace_23 rfl rfl ?_
    refine E_ldc (v := -1000000002) dX12_trace_24 w_1275 ?_
    refine k_X12_trace_26 (mc' := 0) (ms' := 0) (rc := 0) (rs := 0) (by omega) (Nat.le_of_ble_eq_true rfl) (by assumption) (c_find2 hM ?_)
    refine E_iret dX12_trace_29 rfl ?_
    exact hΦ
theorem c_X12_start {x pl pa : Int32} {k : Nat} (hd : 2 ≤ d) (hM : Mo g P) (hk : I 110 1 = nI k) (hk8 : k ≤ 8) (h1 : ∀ j, x = nI j → j < k → okS (wm (I 110)) pl pa → Φ (some (.int (I 110 (16 + 7 * j + 3)))) g P (u2 (u2 (u2 I 110 (16 + 7 * j + 3) pl) 110 (16 + 7 * j + 4) pa) 110 (16 + 7 * j + 5) 0)) (h2 : ¬ ((0 ≤ x ∧ x ≤ nI k - 1) ∧ okS (wm (I 110)) pl pa) → Φ (some (.int (er 1))) g P (flM I 1)) : MM Γ mX12_start d 0 0 [.ref 109, .int x, .int pl, .int pa] g P I Φ := by
  refine MM_entry [some _, some _, some _, some _, none] (by decide) (Nat.le_of_ble_eq_true rfl) rfl ?_
  obtain ⟨n1, n2, n3⟩ := hM.now
  have h0 := hM.1
  by_cases hc : 0 ≤ x ∧ x ≤ nI k - 1
  · obtain ⟨j, hx, hj⟩ := in_nat (by omega) hc
    by_cases hc2 : 0 ≤ pl ∧ pl ≤ 10 * I 110 7
    · by_cases hc3 : -300 ≤ pa ∧ pa ≤ 300
      · have hΦ := h1 j hx hj ⟨hc2, hc3⟩
        refine E_aload_n (i := 0) dX12_start_0 rfl rfl ?_
        refine E_iload_n (i := 1) dX12_start_1 rfl rfl ?_
        refine E_iconst (v := 1) dX12_start_2 (by decide) ?_
        refine k_X12_start_3 (mc' := 0) (ms' := 0) (rc := 0) (rs := 0) (by omega) (Nat.le_of_ble_eq_true rfl) (by assumption) (c_X12_is (k := 1) (by omega) hM rfl (by decide) ?_)
        rw [hk, bz_t hc]
        refine E_if_eq (tgt := 40) dX12_start_6 (by decide) (fun c_6 => absurd c_6 (by decide)) (fun c_6 => ?_)
        refine E_iload_n (i := 2) dX12_start_9 rfl rfl ?_
        refine E_iconst (v := 0) dX12_start_10 (by decide) ?_
        refine E_bipush (v := 10) dX12_start_11 (by decide) ?_
        refine E_aload_n (i := 0) dX12_start_13 rfl rfl ?_
        refine E_gr dX12_start_14 gf_X12_9_12 rfl (by assumption) (by assumption) ?_
        refine E_bipush (v := 7) dX12_start_17 (by decide) ?_
        refine E_iaj 7 dX12_start_19 (by assumption) rfl (by decide) (by rw [n3]; decide) ?_
        refine E_imul dX12_start_20 ?_
        refine k_X12_start_21 (mc' := 0) (ms' := 0) (rc := 0) (rs := 0) (by omega) (Nat.le_of_ble_eq_true rfl) (c_X12_within ?_)
        rw [bz_t hc2]
        refine E_if_eq (tgt := 40) dX12_start_24 (by decide) (fun c_24 => absurd c_24 (by decide)) (fun c_24 => ?_)
        refine E_iload_n (i := 3) dX12_start_27 rfl rfl ?_
        refine E_sipush (v := -300) dX12_start_28 (by decide) ?_
        refine E_sipush (v := 300) dX12_start_31 (by decide) ?_
        refine k_X12_start_34 (mc' := 0) (ms' := 0) (rc := 0) (rs := 0) (by omega) (Nat.le_of_ble_eq_true rfl) (c_X12_within ?_)
        rw [bz_t hc3]
        refine E_if_ne (tgt := 47) dX12_start_37 (by decide) (fun c_37 => ?_) (fun c_37 => absurd c_37 (by decide))
        refine E_aload_n (i := 0) dX12_start_47 rfl rfl ?_
        refine E_iload_n (i := 1) dX12_start_48 rfl rfl ?_
        refine E_iconst (v := 3) dX12_start_49 (by decide) ?_
        refine k_X12_start_50 (mc' := 0) (ms' := 0) (rc := 0) (rs := 0) (by omega) (Nat.le_of_ble_eq_true rfl) (by assumption) (c_X12_of (f := 3) hM hx rfl (by omega) (by decide) ?_)
        refine E_istoreC dX12_start_53 (by decide) rfl ?_
        refine E_lv (lv' := [_, _, _, _, _]) rfl ?_
        refine E_aload_n (i := 0) dX12_start_55 rfl rfl ?_
        refine E_iload_n (i := 1) dX12_start_56 rfl rfl ?_
        refine E_iconst (v := 3) dX12_start_57 (by decide) ?_
        refine E_iload_n (i := 2) dX12_start_58 rfl rfl ?_
        refine k_X12_start_59 (mc' := 0) (ms' := 0) (rc := 0) (rs := 0) (by omega) (Nat.le_of_ble_eq_true rfl) (by assumption) (c_X12_tells (f := 3) hM hx rfl (by omega) (by decide) ?_)
        refine E_aload_n (i := 0) dX12_start_62 rfl rfl ?_
        refine E_iload_n (i := 1) dX12_start_63 rfl rfl ?_
        refine E_iconst (v := 4) dX12_start_64 (by decide) ?_
        refine E_iload_n (i := 3) dX12_start_65 rfl rfl ?_
        refine k_X12_start_66 (mc' := 0) (ms' := 0) (rc := 0) (rs := 0) (by omega) (Nat.le_of_ble_eq_true rfl) (by assumption) (c_X12_tells (f := 4) hM hx rfl (by omega) (by decide) ?_)
        refine E_aload_n (i := 0) dX12_start_69 rfl rfl ?_
        refine E_iload_n (i := 1) dX12_start_70 rfl rfl ?_
        refine E_iconst (v := 5) dX12_start_71 (by decide) ?_
        refine E_iconst (v := 0) dX12_start_72 (by decide) ?_
        refine k_X12_start_73 (mc' := 0) (ms' := 0) (rc := 0) (rs := 0) (by omega) (Nat.le_of_ble_eq_true rfl) (by assumption) (c_X12_tells (f := 5) hM hx rfl (by omega) (by decide) ?_)
        refine E_iload dX12_start_76 rfl ?_
        refine E_iret dX12_start_78 rfl ?_
        exact hΦ
      · have hΦ := h2 (fun h => hc3 h.2.2)
        refine E_aload_n (i := 0) dX12_start_0 rfl rfl ?_
        refine E_iload_n (i := 1) dX12_start_1 rfl rfl ?_
        refine E_iconst (v := 1) dX12_start_2 (by decide) ?_
        refine k_X12_start_3 (mc' := 0) (ms' := 0) (rc := 0) (rs := 0) (by omega) (Nat.le_of_ble_eq_true rfl) (by assumption) (c_X12_is (k := 1) (by omega) hM rfl (by decide) ?_)
        rw [hk, bz_t hc]
        refine E_if_eq (tgt := 40) dX12_start_6 (by decide) (fun c_6 => absurd c_6 (by decide)) (fun c_6 => ?_)
        refine E_iload_n (i := 2) dX12_start_9 rfl rfl ?_
        refine E_iconst (v := 0) dX12_start_10 (by decide) ?_
        refine E_bipush (v := 10) dX12_start_11 (by decide) ?_
        refine E_aload_n (i := 0) dX12_start_13 rfl rfl ?_
        refine E_gr dX12_start_14 gf_X12_9_12 rfl (by assumption) (by assumption) ?_
        refine E_bipush (v := 7) dX12_start_17 (by decide) ?_
        refine E_iaj 7 dX12_start_19 (by assumption) rfl (by decide) (by rw [n3]; decide) ?_
        refine E_imul dX12_start_20 ?_
        refine k_X12_start_21 (mc' := 0) (ms' := 0) (rc := 0) (rs := 0) (by omega) (Nat.le_of_ble_eq_true rfl) (c_X12_within ?_)
        rw [bz_t hc2]
        refine E_if_eq (tgt := 40) dX12_start_24 (by decide) (fun c_24 => absurd c_24 (by decide)) (fun c_24 => ?_)
        refine E_iload_n (i := 3) dX12_start_27 rfl rfl ?_
        refine E_sipush (v := -300) dX12_start_28 (by decide) ?_
        refine E_sipush (v := 300) dX12_start_31 (by decide) ?_
        refine k_X12_start_34 (mc' := 0) (ms' := 0) (rc := 0) (rs := 0) (by omega) (Nat.le_of_ble_eq_true rfl) (c_X12_within ?_)
        rw [bz_f hc3]
        refine E_if_ne (tgt := 47) dX12_start_37 (by decide) (fun c_37 => absurd (rfl) c_37) (fun c_37 => ?_)
        refine E_aload_n (i := 0) dX12_start_40 rfl rfl ?_
        refine E_ldc (v := -1000000001) dX12_start_41 w_1208 ?_
        refine k_X12_start_43 (mc' := 0) (ms' := 0) (rc := 0) (rs := 0) (by omega) (Nat.le_of_ble_eq_true rfl) (by assumption) (c_find1 hM ?_)
        refine E_iret dX12_start_46 rfl ?_
        exact hΦ
    · have hΦ := h2 (fun h => hc2 h.2.1)
      refine E_aload_n (i := 0) dX12_start_0 rfl rfl ?_
      refine E_iload_n (i := 1) dX12_start_1 rfl rfl ?_
      refine E_iconst (v := 1) dX12_start_2 (by decide) ?_
      refine k_X12_start_3 (mc' := 0) (ms' := 0) (rc := 0) (rs := 0) (by omega) (Nat.le_of_ble_eq_true rfl) (by assumption) (c_X12_is (k := 1) (by omega) hM rfl (by decide) ?_)
      rw [hk, bz_t hc]
      refine E_if_eq (tgt := 40) dX12_start_6 (by decide) (fun c_6 => absurd c_6 (by decide)) (fun c_6 => ?_)
      refine E_iload_n (i := 2) dX12_start_9 rfl rfl ?_
      refine E_iconst (v := 0) dX12_start_10 (by decide) ?_
      refine E_bipush (v := 10) dX12_start_11 (by decide) ?_
      refine E_aload_n (i := 0) dX12_start_13 rfl rfl ?_
      refine E_gr dX12_start_14 gf_X12_9_12 rfl (by assumption) (by assumption) ?_
      refine E_bipush (v := 7) dX12_start_17 (by decide) ?_
      refine E_iaj 7 dX12_start_19 (by assumption) rfl (by decide) (by rw [n3]; decide) ?_
      refine E_imul dX12_start_20 ?_
      refine k_X12_start_21 (mc' := 0) (ms' := 0) (rc := 0) (rs := 0) (by omega) (Nat.le_of_ble_eq_true rfl) (c_X12_within ?_)
      rw [bz_f hc2]
      refine E_if_eq (tgt := 40) dX12_start_24 (by decide) (fun c_24 => ?_) (fun c_24 => absurd (rfl) c_24)
      refine E_aload_n (i := 0) dX12_start_40 rfl rfl ?_
      refine E_ldc (v := -1000000001) dX12_start_41 w_1208 ?_
      refine k_X12_start_43 (mc' := 0) (ms' := 0) (rc := 0) (rs := 0) (by omega) (Nat.le_of_ble_eq_true rfl) (by assumption) (c_find1 hM ?_)
      refine E_iret dX12_start_46 rfl ?_
      exact hΦ
  · have hΦ := h2 (fun h => hc h.1)
    refine E_aload_n (i := 0) dX12_start_0 rfl rfl ?_
    refine E_iload_n (i := 1) dX12_start_1 rfl rfl ?_
    refine E_iconst (v := 1) dX12_start_2 (by decide) ?_
    refine k_X12_start_3 (mc' := 0) (ms' := 0) (rc := 0) (rs := 0) (by omega) (Nat.le_of_ble_eq_true rfl) (by assumption) (c_X12_is (k := 1) (by omega) hM rfl (by decide) ?_)
    rw [hk, bz_f hc]
    refine E_if_eq (tgt := 40) dX12_start_6 (by decide) (fun c_6 => ?_) (fun c_6 => absurd (rfl) c_6)
    refine E_aload_n (i := 0) dX12_start_40 rfl rfl ?_
    refine E_ldc (v := -1000000001) dX12_start_41 w_1208 ?_
    refine k_X12_start_43 (mc' := 0) (ms' := 0) (rc := 0) (rs := 0) (by omega) (Nat.le_of_ble_eq_true rfl) (by assumption) (c_find1 hM ?_)
    refine E_iret dX12_start_46 rfl ?_
    exact hΦ
theorem c_X12_image (hd : 1 ≤ d) (hM : Mo g P) (hΦ : Φ (some (.int (I 109 3 + 1))) g P (u2 (ur I 111 (cpk (I 110) (I 111) 272)) 109 3 (I 109 3 + 1))) : MM Γ mX12_image d 0 0 [.ref 109] g P I Φ := by
  refine MM_entry [some _] (by decide) (Nat.le_of_ble_eq_true rfl) rfl ?_
  obtain ⟨n1, n2, n3⟩ := hM.now
  obtain ⟨k1, k2, k3⟩ := hM.kept
  have h0 := hM.1
  refine E_aload_n (i := 0) dX12_image_0 rfl rfl ?_
  refine E_gr dX12_image_1 gf_X12_9_12 rfl (by assumption) (by assumption) ?_
  refine E_aload_n (i := 0) dX12_image_4 rfl rfl ?_
  refine E_gr dX12_image_5 gf_X12_13_12 rfl (by assumption) (by assumption) ?_
  refine k_X12_image_8 (mc' := 0) (ms' := 0) (rc := 0) (rs := 0) (by omega) (Nat.le_of_ble_eq_true rfl) (c_X12_copy n2 n3 k2 k3 (by decide) ?_)
  refine E_aload_n (i := 0) dX12_image_11 rfl rfl ?_
  refine E_dup dX12_image_12 rfl ?_
  refine E_gi dX12_image_13 gf_X12_303_12 rfl (by assumption) ?_
  rw [ur_n _ _ (show (109 : Nat) ≠ 111 by decide)]
  refine E_iconst (v := 1) dX12_image_16 (by decide) ?_
  refine E_iadd dX12_image_17 ?_
  refine E_pi dX12_image_18 gf_X12_303_12 rfl (by assumption) ?_
  refine E_aload_n (i := 0) dX12_image_21 rfl rfl ?_
  refine E_gi dX12_image_22 gf_X12_303_12 rfl (by assumption) ?_
  refine E_iret dX12_image_25 rfl ?_
  rw [u2_s]
  exact hΦ
theorem c_X12_restore (hd : 1 ≤ d) (hM : Mo g P) (h1 : ¬ I 109 3 = 0 → Φ (some (.int (I 111 0))) g P (ur I 110 (cpk (I 111) (I 110) 272))) (h2 : I 109 3 = 0 → Φ (some (.int (er 2))) g P (flM I 2)) : MM Γ mX12_restore d 0 0 [.ref 109] g P I Φ := by
  refine MM_entry [some _] (by decide) (Nat.le_of_ble_eq_true rfl) rfl ?_
  obtain ⟨n1, n2, n3⟩ := hM.now
  obtain ⟨k1, k2, k3⟩ := hM.kept
  have h0 := hM.1
  by_cases hc : I 109 3 = 0
  · have hΦ := h2 hc
    refine E_aload_n (i := 0) dX12_restore_0 rfl rfl ?_
    refine E_gi dX12_restore_1 gf_X12_303_12 rfl (by assumption) ?_
    refine E_if_ne (tgt := 14) dX12_restore_4 (by decide) (fun c_4 => absurd (hc) c_4) (fun c_4 => ?_)
    refine E_aload_n (i := 0) dX12_restore_7 rfl rfl ?_
    refine E_ldc (v := -1000000002) dX12_restore_8 w_1275 ?_
    refine k_X12_restore_10 (mc' := 0) (ms' := 0) (rc := 0) (rs := 0) (by omega) (Nat.le_of_ble_eq_true rfl) (by assumption) (c_find2 hM ?_)
    refine E_iret dX12_restore_13 rfl ?_
    exact hΦ
  · have hΦ := h1 hc
    refine E_aload_n (i := 0) dX12_restore_0 rfl rfl ?_
    refine E_gi dX12_restore_1 gf_X12_303_12 rfl (by assumption) ?_
    refine E_if_ne (tgt := 14) dX12_restore_4 (by decide) (fun c_4 => ?_) (fun c_4 => absurd c_4 (hc))
    refine E_aload_n (i := 0) dX12_restore_14 rfl rfl ?_
    refine E_gr dX12_restore_15 gf_X12_13_12 rfl (by assumption) (by assumption) ?_
    refine E_aload_n (i := 0) dX12_restore_18 rfl rfl ?_
    refine E_gr dX12_restore_19 gf_X12_9_12 rfl (by assumption) (by assumption) ?_
    refine k_X12_restore_22 (mc' := 0) (ms' := 0) (rc := 0) (rs := 0) (by omega) (Nat.le_of_ble_eq_true rfl) (c_X12_copy k2 k3 n2 n3 (by decide) ?_)
    refine E_aload_n (i := 0) dX12_restore_25 rfl rfl ?_
    refine E_gr dX12_restore_26 gf_X12_9_12 rfl (by assumption) (by assumption) ?_
    refine E_iconst (v := 0) dX12_restore_29 (by decide) ?_
    refine E_iaj 0 dX12_restore_30 (by assumption) rfl (by decide) (by rw [n3]; decide) ?_
    refine E_iret dX12_restore_31 rfl ?_
    rw [ur_s]
    exact hΦ
theorem c_X12_told {k : Int32} (hd : 1 ≤ d) (hM : Mo g P) (h1 : ∀ j, k = nI j → 1 ≤ j → j ≤ 5 → Φ (some (.int (I 113 j))) g P I) (h2 : ¬ (1 ≤ k ∧ k ≤ 5) → Φ (some (.int (er 1))) g P (flM I 1)) : MM Γ mX12_told d 0 0 [.ref 109, .int k] g P I Φ := by
  refine MM_entry [some _, some _] (by decide) (Nat.le_of_ble_eq_true rfl) rfl ?_
  obtain ⟨n1, n2, n3⟩ := hM.err
  have h0 := hM.1
  by_cases hc : 1 ≤ k ∧ k ≤ 5
  · obtain ⟨j, e1, e2, e3⟩ := of1_5 hc
    have hΦ := h1 j e1 e2 e3
    refine E_iload_n (i := 1) dX12_told_0 rfl rfl ?_
    refine E_iconst (v := 1) dX12_told_1 (by decide) ?_
    refine E_iconst (v := 5) dX12_told_2 (by decide) ?_
    refine k_X12_told_3 (mc' := 0) (ms' := 0) (rc := 0) (rs := 0) (by omega) (Nat.le_of_ble_eq_true rfl) (c_X12_within ?_)
    rw [bz_t hc]
    refine E_if_eq (tgt := 18) dX12_told_6 (by decide) (fun c_6 => absurd c_6 (by decide)) (fun c_6 => ?_)
    refine E_aload_n (i := 0) dX12_told_9 rfl rfl ?_
    refine E_gr dX12_told_10 gf_X12_19_12 rfl (by assumption) (by assumption) ?_
    refine E_iload_n (i := 1) dX12_told_13 rfl rfl ?_
    refine E_iaj j dX12_told_14 (by assumption) e1 (by omega) (by rw [n3]; omega) ?_
    refine E_goto (tgt := 24) dX12_told_15 (by decide) ?_
    refine E_iret dX12_told_24 rfl ?_
    exact hΦ
  · have hΦ := h2 hc
    refine E_iload_n (i := 1) dX12_told_0 rfl rfl ?_
    refine E_iconst (v := 1) dX12_told_1 (by decide) ?_
    refine E_iconst (v := 5) dX12_told_2 (by decide) ?_
    refine k_X12_told_3 (mc' := 0) (ms' := 0) (rc := 0) (rs := 0) (by omega) (Nat.le_of_ble_eq_true rfl) (c_X12_within ?_)
    rw [bz_f hc]
    refine E_if_eq (tgt := 18) dX12_told_6 (by decide) (fun c_6 => ?_) (fun c_6 => absurd (rfl) c_6)
    refine E_aload_n (i := 0) dX12_told_18 rfl rfl ?_
    refine E_ldc (v := -1000000001) dX12_told_19 w_1208 ?_
    refine k_X12_told_21 (mc' := 0) (ms' := 0) (rc := 0) (rs := 0) (by omega) (Nat.le_of_ble_eq_true rfl) (by assumption) (c_find1 hM ?_)
    refine E_iret dX12_told_24 rfl ?_
    exact hΦ
theorem c_X12_bridge {c k : Int32} (hd : 1 ≤ d) (hM : Mo g P) (h1 : okB c k → Φ (some (.int ((c + k - 1) / k))) g P I) (h2 : ¬ okB c k → Φ (some (.int (er 1))) g P (flM I 1)) : MM Γ mX12_bridge d 0 0 [.ref 109, .int c, .int k] g P I Φ := by
  refine MM_entry [some _, some _, some _] (by decide) (Nat.le_of_ble_eq_true rfl) rfl ?_
  have h0 := hM.1
  by_cases hc : 1 ≤ c ∧ c ≤ 9999
  · by_cases hc2 : 1 ≤ k ∧ k ≤ 99
    · have hΦ := h1 ⟨hc, hc2⟩
      refine E_iload_n (i := 1) dX12_bridge_0 rfl rfl ?_
      refine E_iconst (v := 1) dX12_bridge_1 (by decide) ?_
      refine E_sipush (v := 9999) dX12_bridge_2 (by decide) ?_
      refine k_X12_bridge_5 (mc' := 0) (ms' := 0) (rc := 0) (rs := 0) (by omega) (Nat.le_of_ble_eq_true rfl) (c_X12_within ?_)
      rw [bz_t hc]
      refine E_if_eq (tgt := 31) dX12_bridge_8 (by decide) (fun c_8 => absurd c_8 (by decide)) (fun c_8 => ?_)
      refine E_iload_n (i := 2) dX12_bridge_11 rfl rfl ?_
      refine E_iconst (v := 1) dX12_bridge_12 (by decide) ?_
      refine E_bipush (v := 99) dX12_bridge_13 (by decide) ?_
      refine k_X12_bridge_15 (mc' := 0) (ms' := 0) (rc := 0) (rs := 0) (by omega) (Nat.le_of_ble_eq_true rfl) (c_X12_within ?_)
      rw [bz_t hc2]
      refine E_if_eq (tgt := 31) dX12_bridge_18 (by decide) (fun c_18 => absurd c_18 (by decide)) (fun c_18 => ?_)
      refine E_iload_n (i := 1) dX12_bridge_21 rfl rfl ?_
      refine E_iload_n (i := 2) dX12_bridge_22 rfl rfl ?_
      refine E_iadd dX12_bridge_23 ?_
      refine E_iconst (v := 1) dX12_bridge_24 (by decide) ?_
      refine E_isub dX12_bridge_25 ?_
      refine E_iload_n (i := 2) dX12_bridge_26 rfl rfl ?_
      refine E_idiv dX12_bridge_27 (ge1_ne hc2.1) ?_
      refine E_goto (tgt := 37) dX12_bridge_28 (by decide) ?_
      refine E_iret dX12_bridge_37 rfl ?_
      exact hΦ
    · have hΦ := h2 (fun h => hc2 h.2)
      refine E_iload_n (i := 1) dX12_bridge_0 rfl rfl ?_
      refine E_iconst (v := 1) dX12_bridge_1 (by decide) ?_
      refine E_sipush (v := 9999) dX12_bridge_2 (by decide) ?_
      refine k_X12_bridge_5 (mc' := 0) (ms' := 0) (rc := 0) (rs := 0) (by omega) (Nat.le_of_ble_eq_true rfl) (c_X12_within ?_)
      rw [bz_t hc]
      refine E_if_eq (tgt := 31) dX12_bridge_8 (by decide) (fun c_8 => absurd c_8 (by decide)) (fun c_8 => ?_)
      refine E_iload_n (i := 2) dX12_bridge_11 rfl rfl ?_
      refine E_iconst (v := 1) dX12_bridge_12 (by decide) ?_
      refine E_bipush (v := 99) dX12_bridge_13 (by decide) ?_
      refine k_X12_bridge_15 (mc' := 0) (ms' := 0) (rc := 0) (rs := 0) (by omega) (Nat.le_of_ble_eq_true rfl) (c_X12_within ?_)
      rw [bz_f hc2]
      refine E_if_eq (tgt := 31) dX12_bridge_18 (by decide) (fun c_18 => ?_) (fun c_18 => absurd (rfl) c_18)
      refine E_aload_n (i := 0) dX12_bridge_31 rfl rfl ?_
      refine E_ldc (v := -1000000001) dX12_bridge_32 w_1208 ?_
      refine k_X12_bridge_34 (mc' := 0) (ms' := 0) (rc := 0) (rs := 0) (by omega) (Nat.le_of_ble_eq_true rfl) (by assumption) (c_find1 hM ?_)
      refine E_iret dX12_bridge_37 rfl ?_
      exact hΦ
  · have hΦ := h2 (fun h => hc h.1)
    refine E_iload_n (i := 1) dX12_bridge_0 rfl rfl ?_
    refine E_iconst (v := 1) dX12_bridge_1 (by decide) ?_
    refine E_sipush (v := 9999) dX12_bridge_2 (by decide) ?_
    refine k_X12_bridge_5 (mc' := 0) (ms' := 0) (rc := 0) (rs := 0) (by omega) (Nat.le_of_ble_eq_true rfl) (c_X12_within ?_)
    rw [bz_f hc]
    refine E_if_eq (tgt := 31) dX12_bridge_8 (by decide) (fun c_8 => ?_) (fun c_8 => absurd (rfl) c_8)
    refine E_aload_n (i := 0) dX12_bridge_31 rfl rfl ?_
    refine E_ldc (v := -1000000001) dX12_bridge_32 w_1208 ?_
    refine k_X12_bridge_34 (mc' := 0) (ms' := 0) (rc := 0) (rs := 0) (by omega) (Nat.le_of_ble_eq_true rfl) (by assumption) (c_find1 hM ?_)
    refine E_iret dX12_bridge_37 rfl ?_
    exact hΦ
end
