/-! the class: lines, loads, what is told -/
abbrev okL (s t : Int32) : Prop := (1 ≤ s ∧ s ≤ 9999) ∧ (1 ≤ t ∧ t ≤ 999)
/-- one number more in two rows -/
def ad2 (I : HI) (r r' k : Nat) (s t : Int32) : HI := u2 (u2 (u2 (u2 I (r + 1) k s) r 1 (nI (k + 1))) (r' + 1) k t) r' 1 (nI (k + 1))
theorem nI_s1 (k : Nat) : nI (k + 1) - 1 = nI k := by
  have := nI_dec k
  have e : nI (k + 1) - 1 = nI (k + 1) + (-1) := Int32.sub_eq_add_neg _ _
  rw [e, this]
section
variable {Γ : GE} {d : Nat} {g : Sh} {P : HP} {I : HI} {Φ : Option Value → Sh → HP → HI → Prop}
theorem c_X11_isLine {s t : Int32} (hd : 1 ≤ d) (hΦ : Φ (some (.int (bz (okL s t)))) g P I) : MM Γ mX11_isLine d 0 0 [.int s, .int t] g P I Φ := by
  refine MM_entry [some _, some _] (by decide) (Nat.le_of_ble_eq_true rfl) rfl ?_
  by_cases hc : 1 ≤ s ∧ s ≤ 9999
  · by_cases hc2 : 1 ≤ t ∧ t ≤ 999
    · rw [bz_t (show okL s t from ⟨hc, hc2⟩)] at hΦ
      refine E_iload_n (i := 0) dX11_isLine_0 rfl rfl ?_
      refine E_iconst (v := 1) dX11_isLine_1 (by decide) ?_
      refine E_sipush (v := 9999) dX11_isLine_2 (by decide) ?_
      refine k_X11_isLine_5 (mc' := 0) (ms' := 0) (rc := 0) (rs := 0) (by omega) (Nat.le_of_ble_eq_true rfl) (c_X11_within ?_)
      rw [bz_t hc]
      refine E_if_eq (tgt := 26) dX11_isLine_8 (by decide) (fun c_8 => absurd c_8 (by decide)) (fun c_8 => ?_)
      refine E_iload_n (i := 1) dX11_isLine_11 rfl rfl ?_
      refine E_iconst (v := 1) dX11_isLine_12 (by decide) ?_
      refine E_sipush (v := 999) dX11_isLine_13 (by decide) ?_
      refine k_X11_isLine_16 (mc' := 0) (ms' := 0) (rc := 0) (rs := 0) (by omega) (Nat.le_of_ble_eq_true rfl) (c_X11_within ?_)
      rw [bz_t hc2]
      refine E_if_eq (tgt := 26) dX11_isLine_19 (by decide) (fun c_19 => absurd c_19 (by decide)) (fun c_19 => ?_)
      refine E_iconst (v := 1) dX11_isLine_22 (by decide) ?_
      refine E_goto (tgt := 27) dX11_isLine_23 (by decide) ?_
      refine E_zret dX11_isLine_27 rfl rfl ?_
      exact hΦ
    · rw [bz_f (show ¬ okL s t from fun h => hc2 h.2)] at hΦ
      refine E_iload_n (i := 0) dX11_isLine_0 rfl rfl ?_
      refine E_iconst (v := 1) dX11_isLine_1 (by decide) ?_
      refine E_sipush (v := 9999) dX11_isLine_2 (by decide) ?_
      refine k_X11_isLine_5 (mc' := 0) (ms' := 0) (rc := 0) (rs := 0) (by omega) (Nat.le_of_ble_eq_true rfl) (c_X11_within ?_)
      rw [bz_t hc]
      refine E_if_eq (tgt := 26) dX11_isLine_8 (by decide) (fun c_8 => absurd c_8 (by decide)) (fun c_8 => ?_)
      refine E_iload_n (i := 1) dX11_isLine_11 rfl rfl ?_
      refine E_iconst (v := 1) dX11_isLine_12 (by decide) ?_
      refine E_sipush (v := 999) dX11_isLine_13 (by decide) ?_
      refine k_X11_isLine_16 (mc' := 0) (ms' := 0) (rc := 0) (rs := 0) (by omega) (Nat.le_of_ble_eq_true rfl) (c_X11_within ?_)
      rw [bz_f hc2]
      refine E_if_eq (tgt := 26) dX11_isLine_19 (by decide) (fun c_19 => ?_) (fun c_19 => absurd (rfl) c_19)
      refine E_iconst (v := 0) dX11_isLine_26 (by decide) ?_
      refine E_zret dX11_isLine_27 rfl rfl ?_
      exact hΦ
  · rw [bz_f (show ¬ okL s t from fun h => hc h.1)] at hΦ
    refine E_iload_n (i := 0) dX11_isLine_0 rfl rfl ?_
    refine E_iconst (v := 1) dX11_isLine_1 (by decide) ?_
    refine E_sipush (v := 9999) dX11_isLine_2 (by decide) ?_
    refine k_X11_isLine_5 (mc' := 0) (ms' := 0) (rc := 0) (rs := 0) (by omega) (Nat.le_of_ble_eq_true rfl) (c_X11_within ?_)
    rw [bz_f hc]
    refine E_if_eq (tgt := 26) dX11_isLine_8 (by decide) (fun c_8 => ?_) (fun c_8 => absurd (rfl) c_8)
    refine E_iconst (v := 0) dX11_isLine_26 (by decide) ?_
    refine E_zret dX11_isLine_27 rfl rfl ?_
    exact hΦ
theorem c_X11_addLine {s t : Int32} {k : Nat} (hd : 1 ≤ d) (hL : Ly g P) (e1 : I 35 1 = nI k) (e2 : I 37 1 = nI k) (hk : k < 8) (hΦ : Φ (some (.int (nI k))) g P (ad2 I 35 37 k s t)) : MM Γ mX11_addLine d 0 0 [.ref 16, .int s, .int t] g P I Φ := by
  refine MM_entry [some _, some _, some _] (by decide) (Nat.le_of_ble_eq_true rfl) rfl ?_
  have h0 := hL.gw
  have l1 := hL.live
  have l2 := hL.s21.c
  obtain ⟨p1, p2⟩ : P 21 13 = some 35 ∧ RS g P 35 36 8 := hL.s21.str
  obtain ⟨q1, q2⟩ : P 21 14 = some 37 ∧ RS g P 37 38 8 := hL.s21.thi
  have p3 := p2.1
  have q3 := q2.1
  have r1 : Rw g P I 35 36 8 k := p2.w e1 (by omega) (by omega)
  have r2 : Rw g P (u2 (u2 I 36 k s) 35 1 (nI (k + 1))) 37 38 8 k := q2.w (by rw [u2_oth _ (by decide), u2_oth _ (by decide)]; exact e2) (by omega) (by omega)
  refine E_aload_n (i := 0) dX11_addLine_0 rfl rfl ?_
  refine E_gr dX11_addLine_1 gf_X11_21_11 rfl (by assumption) (by assumption) ?_
  refine E_gr dX11_addLine_4 gf_X11_213_8 rfl (by assumption) (by assumption) ?_
  refine E_iload_n (i := 1) dX11_addLine_7 rfl rfl ?_
  refine k_X11_addLine_8 (mc' := 0) (ms' := 0) (rc := 0) (rs := 0) (by omega) (Nat.le_of_ble_eq_true rfl) (by assumption) (c_X7_add r1 ?_)
  rw [if_pos hk]
  refine E_aload_n (i := 0) dX11_addLine_11 rfl rfl ?_
  refine E_gr dX11_addLine_12 gf_X11_21_11 rfl (by assumption) (by assumption) ?_
  refine E_gr dX11_addLine_15 gf_X11_320_8 rfl (by assumption) (by assumption) ?_
  refine E_iload_n (i := 2) dX11_addLine_18 rfl rfl ?_
  refine k_X11_addLine_19 (mc' := 0) (ms' := 0) (rc := 0) (rs := 0) (by omega) (Nat.le_of_ble_eq_true rfl) (by assumption) (c_X7_add r2 ?_)
  rw [if_pos hk]
  refine E_aload_n (i := 0) dX11_addLine_22 rfl rfl ?_
  refine E_gr dX11_addLine_23 gf_X11_21_11 rfl (by assumption) (by assumption) ?_
  refine E_gr dX11_addLine_26 gf_X11_213_8 rfl (by assumption) (by assumption) ?_
  refine E_gi dX11_addLine_29 gf_X11_159_7 rfl (by assumption) ?_
  rw [u2_oth _ (by decide), u2_oth _ (by decide), u2_s]
  refine E_iconst (v := 1) dX11_addLine_32 (by decide) ?_
  refine E_isub dX11_addLine_33 ?_
  refine E_iret dX11_addLine_34 rfl ?_
  rw [nI_s1]
  exact hΦ
theorem c_X11_line {s t : Int32} {k : Nat} (hd : 2 ≤ d) (hL : Ly g P) (e1 : I 35 1 = nI k) (e2 : I 37 1 = nI k) (hk : k ≤ 8) (h1 : okL s t → k < 8 → Φ (some (.int (nI k))) g P (ad2 I 35 37 k s t)) (h2 : ¬ okL s t → Φ (some (.int (er 1))) g P (fl I 1)) (h3 : okL s t → k = 8 → Φ (some (.int (er 4))) g P (fl I 4)) : MM Γ mX11_line d 0 0 [.ref 16, .int s, .int t] g P I Φ := by
  refine MM_entry [some _, some _, some _] (by decide) (Nat.le_of_ble_eq_true rfl) rfl ?_
  have h0 := hL.gw
  have l1 := hL.live
  have l2 := hL.s21.c
  obtain ⟨p1, p2⟩ : P 21 13 = some 35 ∧ RS g P 35 36 8 := hL.s21.str
  have p3 := p2.1
  have r1 : Rw g P I 35 36 8 k := p2.w e1 (by omega) (by omega)
  by_cases hc : okL s t
  · by_cases hk8 : 8 ≤ k
    · have hΦ := h3 hc (by omega)
      refine E_iload_n (i := 1) dX11_line_0 rfl rfl ?_
      refine E_iload_n (i := 2) dX11_line_1 rfl rfl ?_
      refine k_X11_line_2 (mc' := 0) (ms' := 0) (rc := 0) (rs := 0) (by omega) (Nat.le_of_ble_eq_true rfl) (c_X11_isLine (by omega) ?_)
      rw [bz_t hc]
      refine E_if_ne (tgt := 14) dX11_line_5 (by decide) (fun c_5 => ?_) (fun c_5 => absurd c_5 (by decide))
      refine E_aload_n (i := 0) dX11_line_14 rfl rfl ?_
      refine E_gr dX11_line_15 gf_X11_21_11 rfl (by assumption) (by assumption) ?_
      refine E_gr dX11_line_18 gf_X11_213_8 rfl (by assumption) (by assumption) ?_
      refine k_X11_line_21 (mc' := 0) (ms' := 0) (rc := 0) (rs := 0) (by omega) (Nat.le_of_ble_eq_true rfl) (by assumption) (c_X7_isFull r1 ?_)
      rw [bz_t hk8]
      refine E_if_eq (tgt := 33) dX11_line_24 (by decide) (fun c_24 => absurd c_24 (by decide)) (fun c_24 => ?_)
      refine E_aload_n (i := 0) dX11_line_27 rfl rfl ?_
      refine E_iconst (v := 4) dX11_line_28 (by decide) ?_
      refine k_X11_line_29 (mc' := 0) (ms' := 0) (rc := 0) (rs := 0) (by omega) (Nat.le_of_ble_eq_true rfl) (by assumption) (c_X11_fail (k := 4) hL rfl (by decide) (by decide) ?_)
      refine E_iret dX11_line_32 rfl ?_
      exact hΦ
    · have hΦ := h1 hc (by omega)
      refine E_iload_n (i := 1) dX11_line_0 rfl rfl ?_
      refine E_iload_n (i := 2) dX11_line_1 rfl rfl ?_
      refine k_X11_line_2 (mc' := 0) (ms' := 0) (rc := 0) (rs := 0) (by omega) (Nat.le_of_ble_eq_true rfl) (c_X11_isLine (by omega) ?_)
      rw [bz_t hc]
      refine E_if_ne (tgt := 14) dX11_line_5 (by decide) (fun c_5 => ?_) (fun c_5 => absurd c_5 (by decide))
      refine E_aload_n (i := 0) dX11_line_14 rfl rfl ?_
      refine E_gr dX11_line_15 gf_X11_21_11 rfl (by assumption) (by assumption) ?_
      refine E_gr dX11_line_18 gf_X11_213_8 rfl (by assumption) (by assumption) ?_
      refine k_X11_line_21 (mc' := 0) (ms' := 0) (rc := 0) (rs := 0) (by omega) (Nat.le_of_ble_eq_true rfl) (by assumption) (c_X7_isFull r1 ?_)
      rw [bz_f hk8]
      refine E_if_eq (tgt := 33) dX11_line_24 (by decide) (fun c_24 => ?_) (fun c_24 => absurd (rfl) c_24)
      refine E_aload_n (i := 0) dX11_line_33 rfl rfl ?_
      refine E_iload_n (i := 1) dX11_line_34 rfl rfl ?_
      refine E_iload_n (i := 2) dX11_line_35 rfl rfl ?_
      refine k_X11_line_36 (mc' := 0) (ms' := 0) (rc := 0) (rs := 0) (by omega) (Nat.le_of_ble_eq_true rfl) (by assumption) (c_X11_addLine (by omega) hL e1 e2 (by omega) ?_)
      refine E_iret dX11_line_39 rfl ?_
      exact hΦ
  · have hΦ := h2 hc
    refine E_iload_n (i := 1) dX11_line_0 rfl rfl ?_
    refine E_iload_n (i := 2) dX11_line_1 rfl rfl ?_
    refine k_X11_line_2 (mc' := 0) (ms' := 0) (rc := 0) (rs := 0) (by omega) (Nat.le_of_ble_eq_true rfl) (c_X11_isLine (by omega) ?_)
    rw [bz_f hc]
    refine E_if_ne (tgt := 14) dX11_line_5 (by decide) (fun c_5 => absurd (rfl) c_5) (fun c_5 => ?_)
    refine E_aload_n (i := 0) dX11_line_8 rfl rfl ?_
    refine E_iconst (v := 1) dX11_line_9 (by decide) ?_
    refine k_X11_line_10 (mc' := 0) (ms' := 0) (rc := 0) (rs := 0) (by omega) (Nat.le_of_ble_eq_true rfl) (by assumption) (c_X11_fail (k := 1) hL rfl (by decide) (by decide) ?_)
    refine E_iret dX11_line_13 rfl ?_
    exact hΦ
abbrev okD (t s : Int32) : Prop := (1 ≤ t ∧ t ≤ 99) ∧ (0 ≤ s ∧ s ≤ 1)
theorem c_X11_load {s t : Int32} {k : Nat} (hd : 2 ≤ d) (hL : Ly g P) (e1 : I 39 1 = nI k) (e2 : I 41 1 = nI k) (hk : k ≤ 5) (h1 : okD t s → k < 5 → Φ (some (.int (nI k))) g P (ad2 I 39 41 k t s)) (h2 : ¬ okD t s → Φ (some (.int (er 1))) g P (fl I 1)) (h3 : okD t s → k = 5 → Φ (some (.int (er 4))) g P (fl I 4)) : MM Γ mX11_load d 0 0 [.ref 16, .int t, .int s] g P I Φ := by
  refine MM_entry [some _, some _, some _] (by decide) (Nat.le_of_ble_eq_true rfl) rfl ?_
  have h0 := hL.gw
  have l1 := hL.live
  have l2 := hL.s21.c
  obtain ⟨p1, p2⟩ : P 21 15 = some 39 ∧ RS g P 39 40 5 := hL.s21.tim
  obtain ⟨q1, q2⟩ : P 21 16 = some 41 ∧ RS g P 41 42 5 := hL.s21.sid
  have p3 := p2.1
  have q3 := q2.1
  have r1 : Rw g P I 39 40 5 k := p2.w e1 (by omega) (by omega)
  have r2 : Rw g P (u2 (u2 I 40 k t) 39 1 (nI (k + 1))) 41 42 5 k := q2.w (by rw [u2_oth _ (by decide), u2_oth _ (by decide)]; exact e2) (by omega) (by omega)
  by_cases hc : 1 ≤ t ∧ t ≤ 99
  · by_cases hc2 : 0 ≤ s ∧ s ≤ 1
    · by_cases hk8 : 5 ≤ k
      · have hΦ := h3 ⟨hc, hc2⟩ (by omega)
        refine E_iload_n (i := 1) dX11_load_0 rfl rfl ?_
        refine E_iconst (v := 1) dX11_load_1 (by decide) ?_
        refine E_bipush (v := 99) dX11_load_2 (by decide) ?_
        refine k_X11_load_4 (mc' := 0) (ms' := 0) (rc := 0) (rs := 0) (by omega) (Nat.le_of_ble_eq_true rfl) (c_X11_within ?_)
        rw [bz_t hc]
        refine E_if_eq (tgt := 19) dX11_load_7 (by decide) (fun c_7 => absurd c_7 (by decide)) (fun c_7 => ?_)
        refine E_iload_n (i := 2) dX11_load_10 rfl rfl ?_
        refine E_iconst (v := 0) dX11_load_11 (by decide) ?_
        refine E_iconst (v := 1) dX11_load_12 (by decide) ?_
        refine k_X11_load_13 (mc' := 0) (ms' := 0) (rc := 0) (rs := 0) (by omega) (Nat.le_of_ble_eq_true rfl) (c_X11_within ?_)
        rw [bz_t hc2]
        refine E_if_ne (tgt := 25) dX11_load_16 (by decide) (fun c_16 => ?_) (fun c_16 => absurd c_16 (by decide))
        refine E_aload_n (i := 0) dX11_load_25 rfl rfl ?_
        refine E_gr dX11_load_26 gf_X11_21_11 rfl (by assumption) (by assumption) ?_
        refine E_gr dX11_load_29 gf_X11_232_8 rfl (by assumption) (by assumption) ?_
        refine k_X11_load_32 (mc' := 0) (ms' := 0) (rc := 0) (rs := 0) (by omega) (Nat.le_of_ble_eq_true rfl) (by assumption) (c_X7_isFull r1 ?_)
        rw [bz_t hk8]
        refine E_if_eq (tgt := 44) dX11_load_35 (by decide) (fun c_35 => absurd c_35 (by decide)) (fun c_35 => ?_)
        refine E_aload_n (i := 0) dX11_load_38 rfl rfl ?_
        refine E_iconst (v := 4) dX11_load_39 (by decide) ?_
        refine k_X11_load_40 (mc' := 0) (ms' := 0) (rc := 0) (rs := 0) (by omega) (Nat.le_of_ble_eq_true rfl) (by assumption) (c_X11_fail (k := 4) hL rfl (by decide) (by decide) ?_)
        refine E_iret dX11_load_43 rfl ?_
        exact hΦ
      · have hΦ := h1 ⟨hc, hc2⟩ (by omega)
        have hk5 : k < 5 := by omega
        refine E_iload_n (i := 1) dX11_load_0 rfl rfl ?_
        refine E_iconst (v := 1) dX11_load_1 (by decide) ?_
        refine E_bipush (v := 99) dX11_load_2 (by decide) ?_
        refine k_X11_load_4 (mc' := 0) (ms' := 0) (rc := 0) (rs := 0) (by omega) (Nat.le_of_ble_eq_true rfl) (c_X11_within ?_)
        rw [bz_t hc]
        refine E_if_eq (tgt := 19) dX11_load_7 (by decide) (fun c_7 => absurd c_7 (by decide)) (fun c_7 => ?_)
        refine E_iload_n (i := 2) dX11_load_10 rfl rfl ?_
        refine E_iconst (v := 0) dX11_load_11 (by decide) ?_
        refine E_iconst (v := 1) dX11_load_12 (by decide) ?_
        refine k_X11_load_13 (mc' := 0) (ms' := 0) (rc := 0) (rs := 0) (by omega) (Nat.le_of_ble_eq_true rfl) (c_X11_within ?_)
        rw [bz_t hc2]
        refine E_if_ne (tgt := 25) dX11_load_16 (by decide) (fun c_16 => ?_) (fun c_16 => absurd c_16 (by decide))
        refine E_aload_n (i := 0) dX11_load_25 rfl rfl ?_
        refine E_gr dX11_load_26 gf_X11_21_11 rfl (by assumption) (by assumption) ?_
        refine E_gr dX11_load_29 gf_X11_232_8 rfl (by assumption) (by assumption) ?_
        refine k_X11_load_32 (mc' := 0) (ms' := 0) (rc := 0) (rs := 0) (by omega) (Nat.le_of_ble_eq_true rfl) (by assumption) (c_X7_isFull r1 ?_)
        rw [bz_f hk8]
        refine E_if_eq (tgt := 44) dX11_load_35 (by decide) (fun c_35 => ?_) (fun c_35 => absurd (rfl) c_35)
        refine E_aload_n (i := 0) dX11_load_44 rfl rfl ?_
        refine E_gr dX11_load_45 gf_X11_21_11 rfl (by assumption) (by assumption) ?_
        refine E_gr dX11_load_48 gf_X11_232_8 rfl (by assumption) (by assumption) ?_
        refine E_iload_n (i := 1) dX11_load_51 rfl rfl ?_
        refine k_X11_load_52 (mc' := 0) (ms' := 0) (rc := 0) (rs := 0) (by omega) (Nat.le_of_ble_eq_true rfl) (by assumption) (c_X7_add r1 ?_)
        rw [if_pos hk5]
        refine E_aload_n (i := 0) dX11_load_55 rfl rfl ?_
        refine E_gr dX11_load_56 gf_X11_21_11 rfl (by assumption) (by assumption) ?_
        refine E_gr dX11_load_59 gf_X11_235_8 rfl (by assumption) (by assumption) ?_
        refine E_iload_n (i := 2) dX11_load_62 rfl rfl ?_
        refine k_X11_load_63 (mc' := 0) (ms' := 0) (rc := 0) (rs := 0) (by omega) (Nat.le_of_ble_eq_true rfl) (by assumption) (c_X7_add r2 ?_)
        rw [if_pos hk5]
        refine E_aload_n (i := 0) dX11_load_66 rfl rfl ?_
        refine E_gr dX11_load_67 gf_X11_21_11 rfl (by assumption) (by assumption) ?_
        refine E_gr dX11_load_70 gf_X11_232_8 rfl (by assumption) (by assumption) ?_
        refine E_gi dX11_load_73 gf_X11_159_7 rfl (by assumption) ?_
        rw [u2_oth _ (by decide), u2_oth _ (by decide), u2_s]
        refine E_iconst (v := 1) dX11_load_76 (by decide) ?_
        refine E_isub dX11_load_77 ?_
        refine E_iret dX11_load_78 rfl ?_
        rw [nI_s1]
        exact hΦ
    · have hΦ := h2 (fun h => hc2 h.2)
      refine E_iload_n (i := 1) dX11_load_0 rfl rfl ?_
      refine E_iconst (v := 1) dX11_load_1 (by decide) ?_
      refine E_bipush (v := 99) dX11_load_2 (by decide) ?_
      refine k_X11_load_4 (mc' := 0) (ms' := 0) (rc := 0) (rs := 0) (by omega) (Nat.le_of_ble_eq_true rfl) (c_X11_within ?_)
      rw [bz_t hc]
      refine E_if_eq (tgt := 19) dX11_load_7 (by decide) (fun c_7 => absurd c_7 (by decide)) (fun c_7 => ?_)
      refine E_iload_n (i := 2) dX11_load_10 rfl rfl ?_
      refine E_iconst (v := 0) dX11_load_11 (by decide) ?_
      refine E_iconst (v := 1) dX11_load_12 (by decide) ?_
      refine k_X11_load_13 (mc' := 0) (ms' := 0) (rc := 0) (rs := 0) (by omega) (Nat.le_of_ble_eq_true rfl) (c_X11_within ?_)
      rw [bz_f hc2]
      refine E_if_ne (tgt := 25) dX11_load_16 (by decide) (fun c_16 => absurd (rfl) c_16) (fun c_16 => ?_)
      refine E_aload_n (i := 0) dX11_load_19 rfl rfl ?_
      refine E_iconst (v := 1) dX11_load_20 (by decide) ?_
      refine k_X11_load_21 (mc' := 0) (ms' := 0) (rc := 0) (rs := 0) (by omega) (Nat.le_of_ble_eq_true rfl) (by assumption) (c_X11_fail (k := 1) hL rfl (by decide) (by decide) ?_)
      refine E_iret dX11_load_24 rfl ?_
      exact hΦ
  · have hΦ := h2 (fun h => hc h.1)
    refine E_iload_n (i := 1) dX11_load_0 rfl rfl ?_
    refine E_iconst (v := 1) dX11_load_1 (by decide) ?_
    refine E_bipush (v := 99) dX11_load_2 (by decide) ?_
    refine k_X11_load_4 (mc' := 0) (ms' := 0) (rc := 0) (rs := 0) (by omega) (Nat.le_of_ble_eq_true rfl) (c_X11_within ?_)
    rw [bz_f hc]
    refine E_if_eq (tgt := 19) dX11_load_7 (by decide) (fun c_7 => ?_) (fun c_7 => absurd (rfl) c_7)
    refine E_aload_n (i := 0) dX11_load_19 rfl rfl ?_
    refine E_iconst (v := 1) dX11_load_20 (by decide) ?_
    refine k_X11_load_21 (mc' := 0) (ms' := 0) (rc := 0) (rs := 0) (by omega) (Nat.le_of_ble_eq_true rfl) (by assumption) (c_X11_fail (k := 1) hL rfl (by decide) (by decide) ?_)
    refine E_iret dX11_load_24 rfl ?_
    exact hΦ
theorem c_X11_unload {k : Nat} (hd : 1 ≤ d) (hL : Ly g P) (e1 : I 39 1 = nI k) (e2 : I 41 1 = nI k) (hk : k ≤ 5) (hΦ : Φ (some (.int (nI k))) g P (u2 (u2 I 39 1 0) 41 1 0)) : MM Γ mX11_unload d 0 0 [.ref 16] g P I Φ := by
  refine MM_entry [some _, none] (by decide) (Nat.le_of_ble_eq_true rfl) rfl ?_
  have h0 := hL.gw
  have l1 := hL.live
  have l2 := hL.s21.c
  obtain ⟨p1, p2⟩ : P 21 15 = some 39 ∧ RS g P 39 40 5 := hL.s21.tim
  obtain ⟨q1, q2⟩ : P 21 16 = some 41 ∧ RS g P 41 42 5 := hL.s21.sid
  have p3 := p2.1
  have q3 := q2.1
  have r1 : Rw g P I 39 40 5 k := p2.w e1 (by omega) (by omega)
  have r2 : Rw g P (u2 I 39 1 0) 41 42 5 k := q2.w (by rw [u2_oth _ (by decide)]; exact e2) (by omega) (by omega)
  refine E_aload_n (i := 0) dX11_unload_0 rfl rfl ?_
  refine E_gr dX11_unload_1 gf_X11_21_11 rfl (by assumption) (by assumption) ?_
  refine E_gr dX11_unload_4 gf_X11_232_8 rfl (by assumption) (by assumption) ?_
  refine E_gi dX11_unload_7 gf_X11_159_7 rfl (by assumption) ?_
  rw [e1]
  refine E_istore_nC (i := 1) dX11_unload_10 rfl (by decide) rfl ?_
  refine E_lv (lv' := [_, _]) rfl ?_
  refine E_aload_n (i := 0) dX11_unload_11 rfl rfl ?_
  refine E_gr dX11_unload_12 gf_X11_21_11 rfl (by assumption) (by assumption) ?_
  refine E_gr dX11_unload_15 gf_X11_232_8 rfl (by assumption) (by assumption) ?_
  refine k_X11_unload_18 (mc' := 0) (ms' := 0) (rc := 0) (rs := 0) (by omega) (Nat.le_of_ble_eq_true rfl) (by assumption) (c_X7_clear r1 ?_)
  refine E_aload_n (i := 0) dX11_unload_21 rfl rfl ?_
  refine E_gr dX11_unload_22 gf_X11_21_11 rfl (by assumption) (by assumption) ?_
  refine E_gr dX11_unload_25 gf_X11_235_8 rfl (by assumption) (by assumption) ?_
  refine k_X11_unload_28 (mc' := 0) (ms' := 0) (rc := 0) (rs := 0) (by omega) (Nat.le_of_ble_eq_true rfl) (by assumption) (c_X7_clear r2 ?_)
  refine E_iload_n (i := 1) dX11_unload_31 rfl rfl ?_
  refine E_iret dX11_unload_32 rfl ?_
  exact hΦ
theorem c_X11_tell {v : Int32} {k : Nat} (hd : 1 ≤ d) (hL : Ly g P) (e1 : I 43 1 = nI k) (hk : k ≤ 20) (h1 : k < 20 → Φ (some (.int (nI (k + 1)))) g P (u2 (u2 I 44 k v) 43 1 (nI (k + 1)))) (h2 : k = 20 → Φ (some (.int (er 4))) g P (fl I 4)) : MM Γ mX11_tell d 0 0 [.ref 16, .int v] g P I Φ := by
  refine MM_entry [some _, some _] (by decide) (Nat.le_of_ble_eq_true rfl) rfl ?_
  have h0 := hL.gw
  have l1 := hL.live
  have l2 := hL.s21.c
  obtain ⟨p1, p2⟩ : P 21 17 = some 43 ∧ RS g P 43 44 20 := hL.s21.wai
  have p3 := p2.1
  have r1 : Rw g P I 43 44 20 k := p2.w e1 (by omega) (by omega)
  by_cases hk8 : 20 ≤ k
  · have hΦ := h2 (by omega)
    refine E_aload_n (i := 0) dX11_tell_0 rfl rfl ?_
    refine E_gr dX11_tell_1 gf_X11_21_11 rfl (by assumption) (by assumption) ?_
    refine E_gr dX11_tell_4 gf_X11_277_8 rfl (by assumption) (by assumption) ?_
    refine k_X11_tell_7 (mc' := 0) (ms' := 0) (rc := 0) (rs := 0) (by omega) (Nat.le_of_ble_eq_true rfl) (by assumption) (c_X7_isFull r1 ?_)
    rw [bz_t hk8]
    refine E_if_eq (tgt := 19) dX11_tell_10 (by decide) (fun c_10 => absurd c_10 (by decide)) (fun c_10 => ?_)
    refine E_aload_n (i := 0) dX11_tell_13 rfl rfl ?_
    refine E_iconst (v := 4) dX11_tell_14 (by decide) ?_
    refine k_X11_tell_15 (mc' := 0) (ms' := 0) (rc := 0) (rs := 0) (by omega) (Nat.le_of_ble_eq_true rfl) (by assumption) (c_X11_fail (k := 4) hL rfl (by decide) (by decide) ?_)
    refine E_iret dX11_tell_18 rfl ?_
    exact hΦ
  · have hk5 : k < 20 := by omega
    have hΦ := h1 hk5
    refine E_aload_n (i := 0) dX11_tell_0 rfl rfl ?_
    refine E_gr dX11_tell_1 gf_X11_21_11 rfl (by assumption) (by assumption) ?_
    refine E_gr dX11_tell_4 gf_X11_277_8 rfl (by assumption) (by assumption) ?_
    refine k_X11_tell_7 (mc' := 0) (ms' := 0) (rc := 0) (rs := 0) (by omega) (Nat.le_of_ble_eq_true rfl) (by assumption) (c_X7_isFull r1 ?_)
    rw [bz_f hk8]
    refine E_if_eq (tgt := 19) dX11_tell_10 (by decide) (fun c_10 => ?_) (fun c_10 => absurd (rfl) c_10)
    refine E_aload_n (i := 0) dX11_tell_19 rfl rfl ?_
    refine E_gr dX11_tell_20 gf_X11_21_11 rfl (by assumption) (by assumption) ?_
    refine E_gr dX11_tell_23 gf_X11_277_8 rfl (by assumption) (by assumption) ?_
    refine E_iload_n (i := 1) dX11_tell_26 rfl rfl ?_
    refine k_X11_tell_27 (mc' := 0) (ms' := 0) (rc := 0) (rs := 0) (by omega) (Nat.le_of_ble_eq_true rfl) (by assumption) (c_X7_add r1 ?_)
    rw [if_pos hk5]
    refine E_aload_n (i := 0) dX11_tell_30 rfl rfl ?_
    refine E_gr dX11_tell_31 gf_X11_21_11 rfl (by assumption) (by assumption) ?_
    refine E_gr dX11_tell_34 gf_X11_277_8 rfl (by assumption) (by assumption) ?_
    refine E_gi dX11_tell_37 gf_X11_159_7 rfl (by assumption) ?_
    refine E_iret dX11_tell_40 rfl ?_
    rw [u2_s]
    exact hΦ
theorem in_nat {k : Nat} (hk : k ≤ 1000) {x : Int32} (h : 0 ≤ x ∧ x ≤ nI k - 1) : ∃ j, x = nI j ∧ j < k := by
  obtain ⟨h1, h2⟩ := (in_rat hk).mp h
  refine ⟨x.toInt.toNat, ?_, by omega⟩
  apply Int32.toInt_inj.mp
  rw [nI_toInt (by omega)]
  omega
theorem nat_in {k j : Nat} (hk : k ≤ 1000) (h : j < k) : 0 ≤ nI j ∧ nI j ≤ nI k - 1 := (in_rat hk).mpr (by rw [nI_toInt (by omega)]; omega)
theorem c_X11_trace {x : Int32} {k : Nat} (hd : 2 ≤ d) (hL : Ly g P) (e1 : I 94 1 = nI k) (hk : k ≤ 40) (h1 : ∀ j, x = nI j → j < k → Φ (some (.int (I 95 j))) g P I) (h2 : ¬ (0 ≤ x ∧ x ≤ nI k - 1) → Φ (some (.int (er 2))) g P (fl I 2)) : MM Γ mX11_trace d 0 0 [.ref 16, .int x] g P I Φ := by
  refine MM_entry [some _, some _] (by decide) (Nat.le_of_ble_eq_true rfl) rfl ?_
  have h0 := hL.gw
  obtain ⟨p1, p2⟩ : P 16 6 = some 94 ∧ RS g P 94 95 40 := hL.tra
  have p3 := p2.1
  have r1 : Rw g P I 94 95 40 k := p2.w e1 (by omega) (by omega)
  by_cases hc : 0 ≤ x ∧ x ≤ nI k - 1
  · obtain ⟨j, hx, hj⟩ := in_nat (by omega) hc
    have hΦ := h1 j hx hj
    refine E_iload_n (i := 1) dX11_trace_0 rfl rfl ?_
    refine E_iconst (v := 0) dX11_trace_1 (by decide) ?_
    refine E_aload_n (i := 0) dX11_trace_2 rfl rfl ?_
    refine E_gr dX11_trace_3 gf_X11_44_11 rfl (by assumption) (by assumption) ?_
    refine E_gi dX11_trace_6 gf_X11_159_7 rfl (by assumption) ?_
    refine E_iconst (v := 1) dX11_trace_9 (by decide) ?_
    refine E_isub dX11_trace_10 ?_
    refine k_X11_trace_11 (mc' := 0) (ms' := 0) (rc := 0) (rs := 0) (by omega) (Nat.le_of_ble_eq_true rfl) (c_X11_within ?_)
    rw [e1, bz_t hc]
    refine E_if_eq (tgt := 28) dX11_trace_14 (by decide) (fun c_14 => absurd c_14 (by decide)) (fun c_14 => ?_)
    refine E_aload_n (i := 0) dX11_trace_17 rfl rfl ?_
    refine E_gr dX11_trace_18 gf_X11_44_11 rfl (by assumption) (by assumption) ?_
    refine E_iload_n (i := 1) dX11_trace_21 rfl rfl ?_
    refine k_X11_trace_22 (mc' := 0) (ms' := 0) (rc := 0) (rs := 0) (by omega) (Nat.le_of_ble_eq_true rfl) (by assumption) (c_X7_at (by omega) r1 ?_)
    rw [hx, rat_in hj (by omega)]
    refine E_goto (tgt := 33) dX11_trace_25 (by decide) ?_
    refine E_iret dX11_trace_33 rfl ?_
    exact hΦ
  · have hΦ := h2 hc
    refine E_iload_n (i := 1) dX11_trace_0 rfl rfl ?_
    refine E_iconst (v := 0) dX11_trace_1 (by decide) ?_
    refine E_aload_n (i := 0) dX11_trace_2 rfl rfl ?_
    refine E_gr dX11_trace_3 gf_X11_44_11 rfl (by assumption) (by assumption) ?_
    refine E_gi dX11_trace_6 gf_X11_159_7 rfl (by assumption) ?_
    refine E_iconst (v := 1) dX11_trace_9 (by decide) ?_
    refine E_isub dX11_trace_10 ?_
    refine k_X11_trace_11 (mc' := 0) (ms' := 0) (rc := 0) (rs := 0) (by omega) (Nat.le_of_ble_eq_true rfl) (c_X11_within ?_)
    rw [e1, bz_f hc]
    refine E_if_eq (tgt := 28) dX11_trace_14 (by decide) (fun c_14 => ?_) (fun c_14 => absurd (rfl) c_14)
    refine E_aload_n (i := 0) dX11_trace_28 rfl rfl ?_
    refine E_iconst (v := 2) dX11_trace_29 (by decide) ?_
    refine k_X11_trace_30 (mc' := 0) (ms' := 0) (rc := 0) (rs := 0) (by omega) (Nat.le_of_ble_eq_true rfl) (by assumption) (c_X11_fail (k := 2) hL rfl (by decide) (by decide) ?_)
    refine E_iret dX11_trace_33 rfl ?_
    exact hΦ
abbrev okS (w : Nat → Int32) (pl pa : Int32) : Prop := (0 ≤ pl ∧ pl ≤ 10 * w 0) ∧ (-300 ≤ pa ∧ pa ≤ 300)
theorem c_X11_start {x pl pa : Int32} {k : Nat} (hd : 2 ≤ d) (hL : Ly g P) (e1 : I 21 7 = nI k) (hk : k ≤ 8) (hR : ∀ j, j < k → ∃ r, P 24 j = some r) (h1 : ∀ j, x = nI j → j < k → okS (I 23) pl pa → Φ (some (.int (I 25 j))) g P (u2 (u2 (u2 I 25 j pl) 26 j pa) 28 j 0)) (h2 : ¬ ((0 ≤ x ∧ x ≤ nI k - 1) ∧ okS (I 23) pl pa) → Φ (some (.int (er 1))) g P (fl I 1)) : MM Γ mX11_start d 0 0 [.ref 16, .int x, .int pl, .int pa] g P I Φ := by
  refine MM_entry [some _, some _, some _, some _, none] (by decide) (Nat.le_of_ble_eq_true rfl) rfl ?_
  have h0 := hL.gw
  have l1 := hL.live
  have l2 := hL.s21.c
  have l3 : P 21 1 = some 22 := hL.s21.wp
  have l4 : Wi g P 22 23 := hL.s21.wi
  have l5 := l4.1
  obtain ⟨p1, p2, p3⟩ : P 21 3 = some 25 ∧ AS g 25 13 8 := hL.s21.pl
  obtain ⟨q1, q2, q3⟩ : P 21 4 = some 26 ∧ AS g 26 13 8 := hL.s21.pa
  obtain ⟨v1, v2, v3⟩ : P 21 6 = some 28 ∧ AS g 28 14 8 := hL.s21.in
  by_cases hc : 0 ≤ x ∧ x ≤ nI k - 1
  · obtain ⟨j, hx, hj⟩ := in_nat (by omega) hc
    obtain ⟨r, hr⟩ := hR j hj
    by_cases hc2 : 0 ≤ pl ∧ pl ≤ 10 * I 23 0
    · by_cases hc3 : -300 ≤ pa ∧ pa ≤ 300
      · have hΦ := h1 j hx hj ⟨hc2, hc3⟩
        refine E_aload_n (i := 0) dX11_start_0 rfl rfl ?_
        refine E_gr dX11_start_1 gf_X11_21_11 rfl (by assumption) (by assumption) ?_
        refine E_iload_n (i := 1) dX11_start_4 rfl rfl ?_
        refine k_X11_start_5 (mc' := 0) (ms' := 0) (rc := 0) (rs := 0) (by omega) (Nat.le_of_ble_eq_true rfl) (by assumption) (c_rideAt_in (by omega) hL.s21 e1 hk hj hx hr ?_)
        refine E_ifnull dX11_start_8 ?_
        refine E_iload_n (i := 2) dX11_start_11 rfl rfl ?_
        refine E_iconst (v := 0) dX11_start_12 (by decide) ?_
        refine E_aload_n (i := 0) dX11_start_13 rfl rfl ?_
        refine E_gr dX11_start_14 gf_X11_21_11 rfl (by assumption) (by assumption) ?_
        refine E_gr dX11_start_17 gf_X11_77_8 rfl (by assumption) (by assumption) ?_
        refine k_X11_start_20 (mc' := 0) (ms' := 0) (rc := 0) (rs := 0) (by omega) (Nat.le_of_ble_eq_true rfl) (by assumption) (c_X10_end l4 ?_)
        refine k_X11_start_23 (mc' := 0) (ms' := 0) (rc := 0) (rs := 0) (by omega) (Nat.le_of_ble_eq_true rfl) (c_X11_within ?_)
        rw [bz_t hc2]
        refine E_if_eq (tgt := 42) dX11_start_26 (by decide) (fun c_26 => absurd c_26 (by decide)) (fun c_26 => ?_)
        refine E_iload_n (i := 3) dX11_start_29 rfl rfl ?_
        refine E_sipush (v := -300) dX11_start_30 (by decide) ?_
        refine E_sipush (v := 300) dX11_start_33 (by decide) ?_
        refine k_X11_start_36 (mc' := 0) (ms' := 0) (rc := 0) (rs := 0) (by omega) (Nat.le_of_ble_eq_true rfl) (c_X11_within ?_)
        rw [bz_t hc3]
        refine E_if_ne (tgt := 48) dX11_start_39 (by decide) (fun c_39 => ?_) (fun c_39 => absurd c_39 (by decide))
        refine E_aload_n (i := 0) dX11_start_48 rfl rfl ?_
        refine E_gr dX11_start_49 gf_X11_21_11 rfl (by assumption) (by assumption) ?_
        refine E_gr dX11_start_52 gf_X11_146_8 rfl (by assumption) (by assumption) ?_
        refine E_iload_n (i := 1) dX11_start_55 rfl rfl ?_
        refine E_iaj j dX11_start_56 (by assumption) hx (by omega) (by rw [p3]; omega) ?_
        refine E_istoreC dX11_start_57 (by decide) rfl ?_
        refine E_lv (lv' := [_, _, _, _, _]) rfl ?_
        refine E_aload_n (i := 0) dX11_start_59 rfl rfl ?_
        refine E_gr dX11_start_60 gf_X11_21_11 rfl (by assumption) (by assumption) ?_
        refine E_gr dX11_start_63 gf_X11_146_8 rfl (by assumption) (by assumption) ?_
        refine E_iload_n (i := 1) dX11_start_66 rfl rfl ?_
        refine E_iload_n (i := 2) dX11_start_67 rfl rfl ?_
        refine E_isj j dX11_start_68 (by assumption) hx (by first | decide | omega) (by rw [p3]; omega) ?_
        refine E_aload_n (i := 0) dX11_start_69 rfl rfl ?_
        refine E_gr dX11_start_70 gf_X11_21_11 rfl (by assumption) (by assumption) ?_
        refine E_gr dX11_start_73 gf_X11_149_8 rfl (by assumption) (by assumption) ?_
        refine E_iload_n (i := 1) dX11_start_76 rfl rfl ?_
        refine E_iload_n (i := 3) dX11_start_77 rfl rfl ?_
        refine E_isj j dX11_start_78 (by assumption) hx (by first | decide | omega) (by rw [q3]; omega) ?_
        refine E_aload_n (i := 0) dX11_start_79 rfl rfl ?_
        refine E_gr dX11_start_80 gf_X11_21_11 rfl (by assumption) (by assumption) ?_
        refine E_gr dX11_start_83 gf_X11_152_8 rfl (by assumption) (by assumption) ?_
        refine E_iload_n (i := 1) dX11_start_86 rfl rfl ?_
        refine E_iconst (v := 0) dX11_start_87 (by decide) ?_
        refine E_zsj j dX11_start_88 (by assumption) hx (by first | decide | omega) (by rw [v3]; omega) (by first | exact Or.inl rfl | exact Or.inr rfl | assumption) ?_
        refine E_iload dX11_start_89 rfl ?_
        refine E_iret dX11_start_91 rfl ?_
        exact hΦ
      · have hΦ := h2 (fun h => hc3 h.2.2)
        refine E_aload_n (i := 0) dX11_start_0 rfl rfl ?_
        refine E_gr dX11_start_1 gf_X11_21_11 rfl (by assumption) (by assumption) ?_
        refine E_iload_n (i := 1) dX11_start_4 rfl rfl ?_
        refine k_X11_start_5 (mc' := 0) (ms' := 0) (rc := 0) (rs := 0) (by omega) (Nat.le_of_ble_eq_true rfl) (by assumption) (c_rideAt_in (by omega) hL.s21 e1 hk hj hx hr ?_)
        refine E_ifnull dX11_start_8 ?_
        refine E_iload_n (i := 2) dX11_start_11 rfl rfl ?_
        refine E_iconst (v := 0) dX11_start_12 (by decide) ?_
        refine E_aload_n (i := 0) dX11_start_13 rfl rfl ?_
        refine E_gr dX11_start_14 gf_X11_21_11 rfl (by assumption) (by assumption) ?_
        refine E_gr dX11_start_17 gf_X11_77_8 rfl (by assumption) (by assumption) ?_
        refine k_X11_start_20 (mc' := 0) (ms' := 0) (rc := 0) (rs := 0) (by omega) (Nat.le_of_ble_eq_true rfl) (by assumption) (c_X10_end l4 ?_)
        refine k_X11_start_23 (mc' := 0) (ms' := 0) (rc := 0) (rs := 0) (by omega) (Nat.le_of_ble_eq_true rfl) (c_X11_within ?_)
        rw [bz_t hc2]
        refine E_if_eq (tgt := 42) dX11_start_26 (by decide) (fun c_26 => absurd c_26 (by decide)) (fun c_26 => ?_)
        refine E_iload_n (i := 3) dX11_start_29 rfl rfl ?_
        refine E_sipush (v := -300) dX11_start_30 (by decide) ?_
        refine E_sipush (v := 300) dX11_start_33 (by decide) ?_
        refine k_X11_start_36 (mc' := 0) (ms' := 0) (rc := 0) (rs := 0) (by omega) (Nat.le_of_ble_eq_true rfl) (c_X11_within ?_)
        rw [bz_f hc3]
        refine E_if_ne (tgt := 48) dX11_start_39 (by decide) (fun c_39 => absurd (rfl) c_39) (fun c_39 => ?_)
        refine E_aload_n (i := 0) dX11_start_42 rfl rfl ?_
        refine E_iconst (v := 1) dX11_start_43 (by decide) ?_
        refine k_X11_start_44 (mc' := 0) (ms' := 0) (rc := 0) (rs := 0) (by omega) (Nat.le_of_ble_eq_true rfl) (by assumption) (c_X11_fail (k := 1) hL rfl (by decide) (by decide) ?_)
        refine E_iret dX11_start_47 rfl ?_
        exact hΦ
    · have hΦ := h2 (fun h => hc2 h.2.1)
      refine E_aload_n (i := 0) dX11_start_0 rfl rfl ?_
      refine E_gr dX11_start_1 gf_X11_21_11 rfl (by assumption) (by assumption) ?_
      refine E_iload_n (i := 1) dX11_start_4 rfl rfl ?_
      refine k_X11_start_5 (mc' := 0) (ms' := 0) (rc := 0) (rs := 0) (by omega) (Nat.le_of_ble_eq_true rfl) (by assumption) (c_rideAt_in (by omega) hL.s21 e1 hk hj hx hr ?_)
      refine E_ifnull dX11_start_8 ?_
      refine E_iload_n (i := 2) dX11_start_11 rfl rfl ?_
      refine E_iconst (v := 0) dX11_start_12 (by decide) ?_
      refine E_aload_n (i := 0) dX11_start_13 rfl rfl ?_
      refine E_gr dX11_start_14 gf_X11_21_11 rfl (by assumption) (by assumption) ?_
      refine E_gr dX11_start_17 gf_X11_77_8 rfl (by assumption) (by assumption) ?_
      refine k_X11_start_20 (mc' := 0) (ms' := 0) (rc := 0) (rs := 0) (by omega) (Nat.le_of_ble_eq_true rfl) (by assumption) (c_X10_end l4 ?_)
      refine k_X11_start_23 (mc' := 0) (ms' := 0) (rc := 0) (rs := 0) (by omega) (Nat.le_of_ble_eq_true rfl) (c_X11_within ?_)
      rw [bz_f hc2]
      refine E_if_eq (tgt := 42) dX11_start_26 (by decide) (fun c_26 => ?_) (fun c_26 => absurd (rfl) c_26)
      refine E_aload_n (i := 0) dX11_start_42 rfl rfl ?_
      refine E_iconst (v := 1) dX11_start_43 (by decide) ?_
      refine k_X11_start_44 (mc' := 0) (ms' := 0) (rc := 0) (rs := 0) (by omega) (Nat.le_of_ble_eq_true rfl) (by assumption) (c_X11_fail (k := 1) hL rfl (by decide) (by decide) ?_)
      refine E_iret dX11_start_47 rfl ?_
      exact hΦ
  · have hΦ := h2 (fun h => hc h.1)
    refine E_aload_n (i := 0) dX11_start_0 rfl rfl ?_
    refine E_gr dX11_start_1 gf_X11_21_11 rfl (by assumption) (by assumption) ?_
    refine E_iload_n (i := 1) dX11_start_4 rfl rfl ?_
    refine k_X11_start_5 (mc' := 0) (ms' := 0) (rc := 0) (rs := 0) (by omega) (Nat.le_of_ble_eq_true rfl) (by assumption) (c_rideAt_out (by omega) hL.s21 (by rw [e1]; exact hc) ?_)
    refine E_ifnullN (tgt := 42) dX11_start_8 (by decide) ?_
    refine E_aload_n (i := 0) dX11_start_42 rfl rfl ?_
    refine E_iconst (v := 1) dX11_start_43 (by decide) ?_
    refine k_X11_start_44 (mc' := 0) (ms' := 0) (rc := 0) (rs := 0) (by omega) (Nat.le_of_ble_eq_true rfl) (by assumption) (c_X11_fail (k := 1) hL rfl (by decide) (by decide) ?_)
    refine E_iret dX11_start_47 rfl ?_
    exact hΦ
theorem c_X11_image (hd : 3 ≤ d) (hL : Ly g P) (hB : Sz I 69) (hZ : Sz I 21) (hp : ∀ j, j < 8 → RQ g P 21 j) (hin : ∀ j, j < 8 → I 28 j = 0 ∨ I 28 j = 1) (hΦ : Φ (some (.int (I 16 4 + 1))) g (cpP P 69 21) (u2 (cpS I 69 21) 16 4 (I 16 4 + 1))) : MM Γ mX11_image d 0 0 [.ref 16] g P I Φ := by
  refine MM_entry [some _] (by decide) (Nat.le_of_ble_eq_true rfl) rfl ?_
  have h0 := hL.gw
  have l1 := hL.live
  have l2 := hL.kept
  have l3 := hL.s69.c
  have e : cpS I 69 21 16 = I 16 := by
    unfold cpS
    rw [cpR_o (by decide) (by decide), cpR_o (by decide) (by decide), cpR_o (by decide) (by decide), cpR_o (by decide) (by decide), cpR_o (by decide) (by decide), cpR_o (by decide) (by decide), cpR_o (by decide) (by decide), cpR_o (by decide) (by decide), cpS2_o (by decide)]
  refine E_aload_n (i := 0) dX11_image_0 rfl rfl ?_
  refine E_gr dX11_image_1 gf_X11_28_11 rfl (by assumption) (by assumption) ?_
  refine E_aload_n (i := 0) dX11_image_4 rfl rfl ?_
  refine E_gr dX11_image_5 gf_X11_21_11 rfl (by assumption) (by assumption) ?_
  refine k_X11_image_8 (mc' := 0) (ms' := 0) (rc := 0) (rs := 0) (by omega) (Nat.le_of_ble_eq_true rfl) (by assumption) (c_X8_copyFrom (by omega) hL.s69 hL.s21 (by unfold Apt; decide) hB hZ hp hin ?_)
  refine E_aload_n (i := 0) dX11_image_11 rfl rfl ?_
  refine E_dup dX11_image_12 rfl ?_
  refine E_gi dX11_image_13 gf_X11_31_11 rfl (by assumption) ?_
  rw [e]
  refine E_iconst (v := 1) dX11_image_16 (by decide) ?_
  refine E_iadd dX11_image_17 ?_
  refine E_pi dX11_image_18 gf_X11_31_11 rfl (by assumption) ?_
  refine E_aload_n (i := 0) dX11_image_21 rfl rfl ?_
  refine E_gi dX11_image_22 gf_X11_31_11 rfl (by assumption) ?_
  refine E_iret dX11_image_25 rfl ?_
  rw [u2_s]
  exact hΦ
theorem c_X11_restore (hd : 3 ≤ d) (hL : Ly g P) (hB : Sz I 21) (hZ : Sz I 69) (hp : ∀ j, j < 8 → RQ g P 69 j) (hin : ∀ j, j < 8 → I 76 j = 0 ∨ I 76 j = 1) (h1 : ¬ I 16 4 = 0 → Φ (some (.int (I 69 8))) g (cpP P 21 69) (cpS I 21 69)) (h2 : I 16 4 = 0 → Φ (some (.int (er 2))) g P (fl I 2)) : MM Γ mX11_restore d 0 0 [.ref 16] g P I Φ := by
  refine MM_entry [some _] (by decide) (Nat.le_of_ble_eq_true rfl) rfl ?_
  have h0 := hL.gw
  have l1 := hL.live
  have l2 := hL.kept
  have l3 := hL.s21.c
  have l4 : cpP P 21 69 16 1 = some 21 := by rw [show cpP P 21 69 16 = P 16 from ur_n _ _ (by decide)]; exact l1
  have e : cpS I 21 69 21 8 = I 69 8 := by
    unfold cpS
    rw [cpR_o (by decide) (by decide), cpR_o (by decide) (by decide), cpR_o (by decide) (by decide), cpR_o (by decide) (by decide), cpR_o (by decide) (by decide), cpR_o (by decide) (by decide), cpR_o (by decide) (by decide), cpR_o (by decide) (by decide)]
    unfold cpS2
    rw [u2_o (by decide), u2_s]
  by_cases hc : I 16 4 = 0
  · have hΦ := h2 hc
    refine E_aload_n (i := 0) dX11_restore_0 rfl rfl ?_
    refine E_gi dX11_restore_1 gf_X11_31_11 rfl (by assumption) ?_
    refine E_if_ne (tgt := 13) dX11_restore_4 (by decide) (fun c_4 => absurd (hc) c_4) (fun c_4 => ?_)
    refine E_aload_n (i := 0) dX11_restore_7 rfl rfl ?_
    refine E_iconst (v := 2) dX11_restore_8 (by decide) ?_
    refine k_X11_restore_9 (mc' := 0) (ms' := 0) (rc := 0) (rs := 0) (by omega) (Nat.le_of_ble_eq_true rfl) (by assumption) (c_X11_fail (k := 2) hL rfl (by decide) (by decide) ?_)
    refine E_iret dX11_restore_12 rfl ?_
    exact hΦ
  · have hΦ := h1 hc
    refine E_aload_n (i := 0) dX11_restore_0 rfl rfl ?_
    refine E_gi dX11_restore_1 gf_X11_31_11 rfl (by assumption) ?_
    refine E_if_ne (tgt := 13) dX11_restore_4 (by decide) (fun c_4 => ?_) (fun c_4 => absurd c_4 (hc))
    refine E_aload_n (i := 0) dX11_restore_13 rfl rfl ?_
    refine E_gr dX11_restore_14 gf_X11_21_11 rfl (by assumption) (by assumption) ?_
    refine E_aload_n (i := 0) dX11_restore_17 rfl rfl ?_
    refine E_gr dX11_restore_18 gf_X11_28_11 rfl (by assumption) (by assumption) ?_
    refine k_X11_restore_21 (mc' := 0) (ms' := 0) (rc := 0) (rs := 0) (by omega) (Nat.le_of_ble_eq_true rfl) (by assumption) (c_X8_copyFrom (by omega) hL.s21 hL.s69 (by unfold Apt; decide) hB hZ hp hin ?_)
    refine E_aload_n (i := 0) dX11_restore_24 rfl rfl ?_
    refine E_gr dX11_restore_25 gf_X11_21_11 rfl (by assumption) (by assumption) ?_
    refine E_gi dX11_restore_28 gf_X11_184_8 rfl (by assumption) ?_
    refine E_iret dX11_restore_31 rfl ?_
    rw [e]
    exact hΦ
end
