/-! the class: sheets, count -/
/-- the lowest bits of a number, with their sign -/
def lows (v b : Int32) : Int32 := if b = 8 then v.toInt8.toInt32 else if b = 16 then v.toInt16.toInt32 else v
theorem lsw_d {a b o1 o2 df x : Int} (h1 : ¬ a = x) (h2 : ¬ b = x) : Op.lookupswitch.offset [(a, o1), (b, o2)] df x = df := by
  rw [Op.lookupswitch.offset_cons, Op.lookupswitch.offset_cons, Op.lookupswitch.offset_nil, if_neg h1, if_neg h2]
theorem i32_ne {x y : Int32} (h : ¬ x = y) : ¬ y.toInt = x.toInt := fun e => h (Int32.toInt_inj.mp e.symm)
/-- a number of 0, .., n - 1 by its value -/
theorem in_04 {x : Int32} {n : Nat} (hn : n ≤ 1000) (h : 0 ≤ x ∧ x ≤ nI n) : ∃ j, x = nI j ∧ j ≤ n := by
  have h1 := i32_le.mp h.1
  have h2 := i32_le.mp h.2
  rw [nI_toInt (by omega)] at h2
  have e0 : (0 : Int32).toInt = 0 := rfl
  refine ⟨x.toInt.toNat, ?_, by omega⟩
  apply Int32.toInt_inj.mp
  rw [nI_toInt (by omega)]
  omega
section
variable {Γ : GE} {d : Nat} {g : Sh} {P : HP} {I : HI} {Φ : Option Value → Sh → HP → HI → Prop}
theorem c_X11_lowest {v b : Int32} (hΦ : Φ (some (.int (lows v b))) g P I) : MM Γ mX11_lowest d 0 0 [.int v, .int b] g P I Φ := by
  refine MM_entry [some _, some _] (by decide) (Nat.le_of_ble_eq_true rfl) rfl ?_
  unfold lows at hΦ
  by_cases h8 : b = 8
  · rw [if_pos h8] at hΦ
    subst h8
    refine E_iload_n (i := 1) dX11_lowest_0 rfl rfl ?_
    refine E_lsw (tgt := 28) dX11_lowest_1 rfl rfl (by decide) ?_
    refine E_iload_n (i := 0) dX11_lowest_28 rfl rfl ?_
    refine E_i2b dX11_lowest_29 ?_
    refine E_iret dX11_lowest_30 rfl ?_
    exact hΦ
  · rw [if_neg h8] at hΦ
    by_cases h16 : b = 16
    · rw [if_pos h16] at hΦ
      subst h16
      refine E_iload_n (i := 1) dX11_lowest_0 rfl rfl ?_
      refine E_lsw (tgt := 31) dX11_lowest_1 rfl rfl (by decide) ?_
      refine E_iload_n (i := 0) dX11_lowest_31 rfl rfl ?_
      refine E_i2s dX11_lowest_32 ?_
      refine E_iret dX11_lowest_33 rfl ?_
      exact hΦ
    · rw [if_neg h16] at hΦ
      refine E_iload_n (i := 1) dX11_lowest_0 rfl rfl ?_
      refine E_lsw (tgt := 34) dX11_lowest_1 rfl (lsw_d (i32_ne h8) (i32_ne h16)) (by decide) ?_
      refine E_iload_n (i := 0) dX11_lowest_34 rfl rfl ?_
      refine E_iret dX11_lowest_35 rfl ?_
      exact hΦ
/-- the sizes of the sheets -/
def Zs (I : HI) (sz : Nat → Nat) : Prop := ∀ i, i < 4 → I (101 + 2 * i) 1 = nI (sz i) ∧ sz i ≤ 40
theorem Ly.rw {sz : Nat → Nat} (hL : Ly g P) (hZ : Zs I sz) {i : Nat} (hi : i < 4) : Rw g P I (101 + 2 * i) (102 + 2 * i) 40 (sz i) := (hL.shr i hi).2.w (hZ i hi).1 (hZ i hi).2 (by omega)
abbrev okSh (x b : Int32) : Prop := (0 ≤ x ∧ x ≤ 3) ∧ (b = 0 ∨ b = 8 ∨ b = 16 ∨ b = 32)
/-- the heap behind sheet -/
def shI (I : HI) (j m : Nat) (b : Int32) : HI := ur (u2 (u2 I 97 j b) (101 + 2 * j) 1 (nI m)) (102 + 2 * j) (fil (I (102 + 2 * j)) m 0)
theorem c_X11_sheet {x b n : Int32} {sz : Nat → Nat} (hd : 3 ≤ d) (hL : Ly g P) (hZ : Zs I sz) (h1 : ∀ j m, x = nI j → j < 4 → okSh x b → m ≤ 40 → (b = 0 ∧ m = 0 ∨ ¬ b = 0 ∧ n = nI m) → Φ (some (.int 1)) g P (shI I j m b)) (h2 : ¬ okSh x b → Φ (some (.int (er 1))) g P (fl I 1)) (h3 : okSh x b → ¬ b = 0 → n < 0 → Φ (some (.int (er 3))) g P (fl I 3)) (h4 : okSh x b → ¬ b = 0 → ¬ n < 0 → 40 < n → Φ (some (.int (er 1))) g P (fl I 1)) : MM Γ mX11_sheet d 0 0 [.ref 16, .int x, .int b, .int n] g P I Φ := by
  refine MM_entry [some _, some _, some _, some _] (by decide) (Nat.le_of_ble_eq_true rfl) rfl ?_
  have h0 := hL.gw
  obtain ⟨s1, s2, s3⟩ := hL.she
  obtain ⟨b1, b2, b3⟩ := hL.bit
  by_cases hc : 0 ≤ x ∧ x ≤ 3
  · obtain ⟨j, hx, hj'⟩ := in_04 (n := 3) (by omega) hc
    have hj : j < 4 := by omega
    obtain ⟨sp, sr⟩ := hL.shr j hj
    have sc := sr.1
    have rw1 : Rw g P (u2 I 97 j b) (101 + 2 * j) (102 + 2 * j) 40 (sz j) := sr.w (by rw [u2_oth _ (by omega)]; exact (hZ j hj).1) (hZ j hj).2 (by omega)
    have eq : (u2 I 97 j b) (102 + 2 * j) = I (102 + 2 * j) := u2_oth _ (by omega)
    by_cases hb : b = 0 ∨ b = 8 ∨ b = 16 ∨ b = 32
    · have ok : okSh x b := ⟨hc, hb⟩
      by_cases hb0 : b = 0
      · have hΦ := h1 j 0 hx hj ok (by omega) (Or.inl ⟨hb0, rfl⟩)
        unfold shI at hΦ
        rw [← eq] at hΦ
        refine E_iload_n (i := 1) dX11_sheet_0 rfl rfl ?_
        refine E_iconst (v := 0) dX11_sheet_1 (by decide) ?_
        refine E_iconst (v := 3) dX11_sheet_2 (by decide) ?_
        refine k_X11_sheet_3 (mc' := 0) (ms' := 0) (rc := 0) (rs := 0) (by omega) (Nat.le_of_ble_eq_true rfl) (c_X11_within ?_)
        rw [bz_t hc]
        refine E_if_eq (tgt := 31) dX11_sheet_6 (by decide) (fun c_6 => absurd c_6 (by decide)) (fun c_6 => ?_)
        refine E_iload_n (i := 2) dX11_sheet_9 rfl rfl ?_
        refine E_if_eq (tgt := 37) dX11_sheet_10 (by decide) (fun c_10 => ?_) (fun c_10 => absurd (hb0) c_10)
        refine E_iload_n (i := 2) dX11_sheet_37 rfl rfl ?_
        refine E_if_eq (tgt := 51) dX11_sheet_38 (by decide) (fun c_38 => ?_) (fun c_38 => absurd (hb0) c_38)
        refine E_iload_n (i := 2) dX11_sheet_51 rfl rfl ?_
        refine E_if_eq (tgt := 67) dX11_sheet_52 (by decide) (fun c_52 => ?_) (fun c_52 => absurd (hb0) c_52)
        refine E_aload_n (i := 0) dX11_sheet_67 rfl rfl ?_
        refine E_gr dX11_sheet_68 gf_X11_52_11 rfl (by assumption) (by assumption) ?_
        refine E_iload_n (i := 1) dX11_sheet_71 rfl rfl ?_
        refine E_iload_n (i := 2) dX11_sheet_72 rfl rfl ?_
        refine E_isj j dX11_sheet_73 (by assumption) hx (by first | decide | omega) (by rw [b3]; omega) ?_
        refine E_aload_n (i := 0) dX11_sheet_74 rfl rfl ?_
        refine E_gr dX11_sheet_75 gf_X11_48_11 rfl (by assumption) (by assumption) ?_
        refine E_iload_n (i := 1) dX11_sheet_78 rfl rfl ?_
        refine E_aaj (t := 0) j dX11_sheet_79 (by decide) s2 hx (by rw [s3]; omega) (by omega) sp ?_
        refine E_iload_n (i := 2) dX11_sheet_80 rfl rfl ?_
        refine E_if_ne (tgt := 88) dX11_sheet_81 (by decide) (fun c_81 => absurd (hb0) c_81) (fun c_81 => ?_)
        refine E_iconst (v := 0) dX11_sheet_84 (by decide) ?_
        refine E_goto (tgt := 89) dX11_sheet_85 (by decide) ?_
        refine k_X11_sheet_89 (mc' := 0) (ms' := 0) (rc := 0) (rs := 0) (by omega) (Nat.le_of_ble_eq_true rfl) (by assumption) (c_X7_becomesZeros (k' := 0) (by omega) rw1 (by omega) ?_)
        refine E_iconst (v := 1) dX11_sheet_92 (by decide) ?_
        refine E_iret dX11_sheet_93 rfl ?_
        exact hΦ
      · have hb1 : b = 8 ∨ b = 16 ∨ b = 32 := hb.resolve_left hb0
        have mid : E Γ mX11_sheet d 0 0 (QM Γ 0 0 Φ) 0 0 37 [some (.ref 16), some (.int x), some (.int b), some (.int n)] [] g P I := by
          by_cases hn : n < 0
          · have hΦ := h3 ok hb0 hn
            refine E_iload_n (i := 2) dX11_sheet_37 rfl rfl ?_
            refine E_if_eq (tgt := 51) dX11_sheet_38 (by decide) (fun c_38 => absurd c_38 (hb0)) (fun c_38 => ?_)
            refine E_iload_n (i := 3) dX11_sheet_41 rfl rfl ?_
            refine E_if_ge (tgt := 51) dX11_sheet_42 (by decide) (fun c_42 => absurd c_42 (Int32.not_le.mpr hn)) (fun c_42 => ?_)
            refine E_aload_n (i := 0) dX11_sheet_45 rfl rfl ?_
            refine E_iconst (v := 3) dX11_sheet_46 (by decide) ?_
            refine k_X11_sheet_47 (mc' := 0) (ms' := 0) (rc := 0) (rs := 0) (by omega) (Nat.le_of_ble_eq_true rfl) (by assumption) (c_X11_fail (k := 3) hL rfl (by decide) (by decide) ?_)
            refine E_iret dX11_sheet_50 rfl ?_
            exact hΦ
          · by_cases hn2 : 40 < n
            · have hΦ := h4 ok hb0 hn hn2
              refine E_iload_n (i := 2) dX11_sheet_37 rfl rfl ?_
              refine E_if_eq (tgt := 51) dX11_sheet_38 (by decide) (fun c_38 => absurd c_38 (hb0)) (fun c_38 => ?_)
              refine E_iload_n (i := 3) dX11_sheet_41 rfl rfl ?_
              refine E_if_ge (tgt := 51) dX11_sheet_42 (by decide) (fun c_42 => ?_) (fun c_42 => absurd (Int32.not_lt.mp hn) c_42)
              refine E_iload_n (i := 2) dX11_sheet_51 rfl rfl ?_
              refine E_if_eq (tgt := 67) dX11_sheet_52 (by decide) (fun c_52 => absurd c_52 (hb0)) (fun c_52 => ?_)
              refine E_iload_n (i := 3) dX11_sheet_55 rfl rfl ?_
              refine E_bipush (v := 40) dX11_sheet_56 (by decide) ?_
              refine E_icmp_le (tgt := 67) dX11_sheet_58 (by decide) (fun c_58 => absurd c_58 (Int32.not_le.mpr hn2)) (fun c_58 => ?_)
              refine E_aload_n (i := 0) dX11_sheet_61 rfl rfl ?_
              refine E_iconst (v := 1) dX11_sheet_62 (by decide) ?_
              refine k_X11_sheet_63 (mc' := 0) (ms' := 0) (rc := 0) (rs := 0) (by omega) (Nat.le_of_ble_eq_true rfl) (by assumption) (c_X11_fail (k := 1) hL rfl (by decide) (by decide) ?_)
              refine E_iret dX11_sheet_66 rfl ?_
              exact hΦ
            · obtain ⟨m, hm, hm2⟩ := in_04 (x := n) (n := 40) (by omega) ⟨Int32.not_lt.mp hn, Int32.not_lt.mp hn2⟩
              have hΦ := h1 j m hx hj ok hm2 (Or.inr ⟨hb0, hm⟩)
              unfold shI at hΦ
              rw [← eq] at hΦ
              subst hm
              refine E_iload_n (i := 2) dX11_sheet_37 rfl rfl ?_
              refine E_if_eq (tgt := 51) dX11_sheet_38 (by decide) (fun c_38 => absurd c_38 (hb0)) (fun c_38 => ?_)
              refine E_iload_n (i := 3) dX11_sheet_41 rfl rfl ?_
              refine E_if_ge (tgt := 51) dX11_sheet_42 (by decide) (fun c_42 => ?_) (fun c_42 => absurd (Int32.not_lt.mp hn) c_42)
              refine E_iload_n (i := 2) dX11_sheet_51 rfl rfl ?_
              refine E_if_eq (tgt := 67) dX11_sheet_52 (by decide) (fun c_52 => absurd c_52 (hb0)) (fun c_52 => ?_)
              refine E_iload_n (i := 3) dX11_sheet_55 rfl rfl ?_
              refine E_bipush (v := 40) dX11_sheet_56 (by decide) ?_
              refine E_icmp_le (tgt := 67) dX11_sheet_58 (by decide) (fun c_58 => ?_) (fun c_58 => absurd (Int32.not_lt.mp hn2) c_58)
              refine E_aload_n (i := 0) dX11_sheet_67 rfl rfl ?_
              refine E_gr dX11_sheet_68 gf_X11_52_11 rfl (by assumption) (by assumption) ?_
              refine E_iload_n (i := 1) dX11_sheet_71 rfl rfl ?_
              refine E_iload_n (i := 2) dX11_sheet_72 rfl rfl ?_
              refine E_isj j dX11_sheet_73 (by assumption) hx (by first | decide | omega) (by rw [b3]; omega) ?_
              refine E_aload_n (i := 0) dX11_sheet_74 rfl rfl ?_
              refine E_gr dX11_sheet_75 gf_X11_48_11 rfl (by assumption) (by assumption) ?_
              refine E_iload_n (i := 1) dX11_sheet_78 rfl rfl ?_
              refine E_aaj (t := 0) j dX11_sheet_79 (by decide) s2 hx (by rw [s3]; omega) (by omega) sp ?_
              refine E_iload_n (i := 2) dX11_sheet_80 rfl rfl ?_
              refine E_if_ne (tgt := 88) dX11_sheet_81 (by decide) (fun c_81 => ?_) (fun c_81 => absurd c_81 (hb0))
              refine E_iload_n (i := 3) dX11_sheet_88 rfl rfl ?_
              refine k_X11_sheet_89 (mc' := 0) (ms' := 0) (rc := 0) (rs := 0) (by omega) (Nat.le_of_ble_eq_true rfl) (by assumption) (c_X7_becomesZeros (k' := m) (by omega) rw1 (by omega) ?_)
              refine E_iconst (v := 1) dX11_sheet_92 (by decide) ?_
              refine E_iret dX11_sheet_93 rfl ?_
              exact hΦ
        refine E_iload_n (i := 1) dX11_sheet_0 rfl rfl ?_
        refine E_iconst (v := 0) dX11_sheet_1 (by decide) ?_
        refine E_iconst (v := 3) dX11_sheet_2 (by decide) ?_
        refine k_X11_sheet_3 (mc' := 0) (ms' := 0) (rc := 0) (rs := 0) (by omega) (Nat.le_of_ble_eq_true rfl) (c_X11_within ?_)
        rw [bz_t hc]
        refine E_if_eq (tgt := 31) dX11_sheet_6 (by decide) (fun c_6 => absurd c_6 (by decide)) (fun c_6 => ?_)
        refine E_iload_n (i := 2) dX11_sheet_9 rfl rfl ?_
        refine E_if_eq (tgt := 37) dX11_sheet_10 (by decide) (fun c_10 => absurd c_10 (hb0)) (fun c_10 => ?_)
        refine E_iload_n (i := 2) dX11_sheet_13 rfl rfl ?_
        refine E_bipush (v := 8) dX11_sheet_14 (by decide) ?_
        refine E_icmp_eq (tgt := 37) dX11_sheet_16 (by decide) (fun c_16 => ?_) (fun c_16 => ?_)
        · exact mid
        · refine E_iload_n (i := 2) dX11_sheet_19 rfl rfl ?_
          refine E_bipush (v := 16) dX11_sheet_20 (by decide) ?_
          refine E_icmp_eq (tgt := 37) dX11_sheet_22 (by decide) (fun c_22 => ?_) (fun c_22 => ?_)
          · exact mid
          · refine E_iload_n (i := 2) dX11_sheet_25 rfl rfl ?_
            refine E_bipush (v := 32) dX11_sheet_26 (by decide) ?_
            refine E_icmp_eq (tgt := 37) dX11_sheet_28 (by decide) (fun c_28 => ?_) (fun c_28 => ?_)
            · exact mid
            · exact absurd hb1 (fun h => h.elim c_16 (fun h => h.elim c_22 c_28))
    · have hΦ := h2 (fun h => hb h.2)
      refine E_iload_n (i := 1) dX11_sheet_0 rfl rfl ?_
      refine E_iconst (v := 0) dX11_sheet_1 (by decide) ?_
      refine E_iconst (v := 3) dX11_sheet_2 (by decide) ?_
      refine k_X11_sheet_3 (mc' := 0) (ms' := 0) (rc := 0) (rs := 0) (by omega) (Nat.le_of_ble_eq_true rfl) (c_X11_within ?_)
      rw [bz_t hc]
      refine E_if_eq (tgt := 31) dX11_sheet_6 (by decide) (fun c_6 => absurd c_6 (by decide)) (fun c_6 => ?_)
      refine E_iload_n (i := 2) dX11_sheet_9 rfl rfl ?_
      refine E_if_eq (tgt := 37) dX11_sheet_10 (by decide) (fun c_10 => absurd c_10 (fun h => hb (Or.inl h))) (fun c_10 => ?_)
      refine E_iload_n (i := 2) dX11_sheet_13 rfl rfl ?_
      refine E_bipush (v := 8) dX11_sheet_14 (by decide) ?_
      refine E_icmp_eq (tgt := 37) dX11_sheet_16 (by decide) (fun c_16 => absurd c_16 (fun h => hb (Or.inr (Or.inl h)))) (fun c_16 => ?_)
      refine E_iload_n (i := 2) dX11_sheet_19 rfl rfl ?_
      refine E_bipush (v := 16) dX11_sheet_20 (by decide) ?_
      refine E_icmp_eq (tgt := 37) dX11_sheet_22 (by decide) (fun c_22 => absurd c_22 (fun h => hb (Or.inr (Or.inr (Or.inl h))))) (fun c_22 => ?_)
      refine E_iload_n (i := 2) dX11_sheet_25 rfl rfl ?_
      refine E_bipush (v := 32) dX11_sheet_26 (by decide) ?_
      refine E_icmp_eq (tgt := 37) dX11_sheet_28 (by decide) (fun c_28 => absurd c_28 (fun h => hb (Or.inr (Or.inr (Or.inr h))))) (fun c_28 => ?_)
      refine E_aload_n (i := 0) dX11_sheet_31 rfl rfl ?_
      refine E_iconst (v := 1) dX11_sheet_32 (by decide) ?_
      refine k_X11_sheet_33 (mc' := 0) (ms' := 0) (rc := 0) (rs := 0) (by omega) (Nat.le_of_ble_eq_true rfl) (by assumption) (c_X11_fail (k := 1) hL rfl (by decide) (by decide) ?_)
      refine E_iret dX11_sheet_36 rfl ?_
      exact hΦ
  · have hΦ := h2 (fun h => hc h.1)
    refine E_iload_n (i := 1) dX11_sheet_0 rfl rfl ?_
    refine E_iconst (v := 0) dX11_sheet_1 (by decide) ?_
    refine E_iconst (v := 3) dX11_sheet_2 (by decide) ?_
    refine k_X11_sheet_3 (mc' := 0) (ms' := 0) (rc := 0) (rs := 0) (by omega) (Nat.le_of_ble_eq_true rfl) (c_X11_within ?_)
    rw [bz_f hc]
    refine E_if_eq (tgt := 31) dX11_sheet_6 (by decide) (fun c_6 => ?_) (fun c_6 => absurd (rfl) c_6)
    refine E_aload_n (i := 0) dX11_sheet_31 rfl rfl ?_
    refine E_iconst (v := 1) dX11_sheet_32 (by decide) ?_
    refine k_X11_sheet_33 (mc' := 0) (ms' := 0) (rc := 0) (rs := 0) (by omega) (Nat.le_of_ble_eq_true rfl) (by assumption) (c_X11_fail (k := 1) hL rfl (by decide) (by decide) ?_)
    refine E_iret dX11_sheet_36 rfl ?_
    exact hΦ
theorem c_X11_put {x i v : Int32} {sz : Nat → Nat} (hd : 3 ≤ d) (hL : Ly g P) (hZ : Zs I sz) (h1 : ∀ j m, x = nI j → j < 4 → ¬ I 97 j = 0 → i = nI m → m < sz j → Φ (some (.int 1)) g P (u2 I (102 + 2 * j) m (lows v (I 97 j)))) (h2 : ¬ (0 ≤ x ∧ x ≤ 3) → Φ (some (.int (er 1))) g P (fl I 1)) (h3 : ∀ j, x = nI j → j < 4 → I 97 j = 0 → Φ (some (.int (er 2))) g P (fl I 2)) (h4 : ∀ j, x = nI j → j < 4 → ¬ I 97 j = 0 → ¬ (0 ≤ i ∧ i ≤ nI (sz j) - 1) → Φ (some (.int (er 1))) g P (fl I 1)) : MM Γ mX11_put d 0 0 [.ref 16, .int x, .int i, .int v] g P I Φ := by
  refine MM_entry [some _, some _, some _, some _] (by decide) (Nat.le_of_ble_eq_true rfl) rfl ?_
  have h0 := hL.gw
  obtain ⟨s1, s2, s3⟩ := hL.she
  obtain ⟨b1, b2, b3⟩ := hL.bit
  by_cases hc : 0 ≤ x ∧ x ≤ 3
  · obtain ⟨j, hx, hj'⟩ := in_04 (n := 3) (by omega) hc
    have hj : j < 4 := by omega
    obtain ⟨sp, sr⟩ := hL.shr j hj
    have sc := sr.1
    have rw1 := hL.rw hZ hj
    have zj := hZ j hj
    by_cases hb : I 97 j = 0
    · have hΦ := h3 j hx hj hb
      refine E_iload_n (i := 1) dX11_put_0 rfl rfl ?_
      refine E_iconst (v := 0) dX11_put_1 (by decide) ?_
      refine E_iconst (v := 3) dX11_put_2 (by decide) ?_
      refine k_X11_put_3 (mc' := 0) (ms' := 0) (rc := 0) (rs := 0) (by omega) (Nat.le_of_ble_eq_true rfl) (c_X11_within ?_)
      rw [bz_t hc]
      refine E_if_ne (tgt := 15) dX11_put_6 (by decide) (fun c_6 => ?_) (fun c_6 => absurd c_6 (by decide))
      refine E_aload_n (i := 0) dX11_put_15 rfl rfl ?_
      refine E_gr dX11_put_16 gf_X11_52_11 rfl (by assumption) (by assumption) ?_
      refine E_iload_n (i := 1) dX11_put_19 rfl rfl ?_
      refine E_iaj j dX11_put_20 (by assumption) hx (by omega) (by rw [b3]; omega) ?_
      refine E_if_ne (tgt := 30) dX11_put_21 (by decide) (fun c_21 => absurd (hb) c_21) (fun c_21 => ?_)
      refine E_aload_n (i := 0) dX11_put_24 rfl rfl ?_
      refine E_iconst (v := 2) dX11_put_25 (by decide) ?_
      refine k_X11_put_26 (mc' := 0) (ms' := 0) (rc := 0) (rs := 0) (by omega) (Nat.le_of_ble_eq_true rfl) (by assumption) (c_X11_fail (k := 2) hL rfl (by decide) (by decide) ?_)
      refine E_iret dX11_put_29 rfl ?_
      exact hΦ
    · by_cases hi : 0 ≤ i ∧ i ≤ nI (sz j) - 1
      · obtain ⟨m, hm, hm2⟩ := in_nat (by omega) hi
        have hΦ := h1 j m hx hj hb hm hm2
        refine E_iload_n (i := 1) dX11_put_0 rfl rfl ?_
        refine E_iconst (v := 0) dX11_put_1 (by decide) ?_
        refine E_iconst (v := 3) dX11_put_2 (by decide) ?_
        refine k_X11_put_3 (mc' := 0) (ms' := 0) (rc := 0) (rs := 0) (by omega) (Nat.le_of_ble_eq_true rfl) (c_X11_within ?_)
        rw [bz_t hc]
        refine E_if_ne (tgt := 15) dX11_put_6 (by decide) (fun c_6 => ?_) (fun c_6 => absurd c_6 (by decide))
        refine E_aload_n (i := 0) dX11_put_15 rfl rfl ?_
        refine E_gr dX11_put_16 gf_X11_52_11 rfl (by assumption) (by assumption) ?_
        refine E_iload_n (i := 1) dX11_put_19 rfl rfl ?_
        refine E_iaj j dX11_put_20 (by assumption) hx (by omega) (by rw [b3]; omega) ?_
        refine E_if_ne (tgt := 30) dX11_put_21 (by decide) (fun c_21 => ?_) (fun c_21 => absurd c_21 (hb))
        refine E_iload_n (i := 2) dX11_put_30 rfl rfl ?_
        refine E_iconst (v := 0) dX11_put_31 (by decide) ?_
        refine E_aload_n (i := 0) dX11_put_32 rfl rfl ?_
        refine E_gr dX11_put_33 gf_X11_48_11 rfl (by assumption) (by assumption) ?_
        refine E_iload_n (i := 1) dX11_put_36 rfl rfl ?_
        refine E_aaj (t := 0) j dX11_put_37 (by decide) s2 hx (by rw [s3]; omega) (by omega) sp ?_
        refine E_gi dX11_put_38 gf_X11_159_7 rfl (by assumption) ?_
        refine E_iconst (v := 1) dX11_put_41 (by decide) ?_
        refine E_isub dX11_put_42 ?_
        refine k_X11_put_43 (mc' := 0) (ms' := 0) (rc := 0) (rs := 0) (by omega) (Nat.le_of_ble_eq_true rfl) (c_X11_within ?_)
        rw [zj.1, bz_t hi]
        refine E_if_ne (tgt := 55) dX11_put_46 (by decide) (fun c_46 => ?_) (fun c_46 => absurd c_46 (by decide))
        refine E_aload_n (i := 0) dX11_put_55 rfl rfl ?_
        refine E_gr dX11_put_56 gf_X11_48_11 rfl (by assumption) (by assumption) ?_
        refine E_iload_n (i := 1) dX11_put_59 rfl rfl ?_
        refine E_aaj (t := 0) j dX11_put_60 (by decide) s2 hx (by rw [s3]; omega) (by omega) sp ?_
        refine E_iload_n (i := 2) dX11_put_61 rfl rfl ?_
        refine E_iload_n (i := 3) dX11_put_62 rfl rfl ?_
        refine E_aload_n (i := 0) dX11_put_63 rfl rfl ?_
        refine E_gr dX11_put_64 gf_X11_52_11 rfl (by assumption) (by assumption) ?_
        refine E_iload_n (i := 1) dX11_put_67 rfl rfl ?_
        refine E_iaj j dX11_put_68 (by assumption) hx (by omega) (by rw [b3]; omega) ?_
        refine k_X11_put_69 (mc' := 0) (ms' := 0) (rc := 0) (rs := 0) (by omega) (Nat.le_of_ble_eq_true rfl) (c_X11_lowest ?_)
        refine k_X11_put_72 (mc' := 0) (ms' := 0) (rc := 0) (rs := 0) (by omega) (Nat.le_of_ble_eq_true rfl) (by assumption) (c_X7_becomes (by omega) rw1 ?_)
        rw [if_pos hi, hm, nI_clamp (by omega)]
        refine E_iconst (v := 1) dX11_put_75 (by decide) ?_
        refine E_iret dX11_put_76 rfl ?_
        exact hΦ
      · have hΦ := h4 j hx hj hb hi
        refine E_iload_n (i := 1) dX11_put_0 rfl rfl ?_
        refine E_iconst (v := 0) dX11_put_1 (by decide) ?_
        refine E_iconst (v := 3) dX11_put_2 (by decide) ?_
        refine k_X11_put_3 (mc' := 0) (ms' := 0) (rc := 0) (rs := 0) (by omega) (Nat.le_of_ble_eq_true rfl) (c_X11_within ?_)
        rw [bz_t hc]
        refine E_if_ne (tgt := 15) dX11_put_6 (by decide) (fun c_6 => ?_) (fun c_6 => absurd c_6 (by decide))
        refine E_aload_n (i := 0) dX11_put_15 rfl rfl ?_
        refine E_gr dX11_put_16 gf_X11_52_11 rfl (by assumption) (by assumption) ?_
        refine E_iload_n (i := 1) dX11_put_19 rfl rfl ?_
        refine E_iaj j dX11_put_20 (by assumption) hx (by omega) (by rw [b3]; omega) ?_
        refine E_if_ne (tgt := 30) dX11_put_21 (by decide) (fun c_21 => ?_) (fun c_21 => absurd c_21 (hb))
        refine E_iload_n (i := 2) dX11_put_30 rfl rfl ?_
        refine E_iconst (v := 0) dX11_put_31 (by decide) ?_
        refine E_aload_n (i := 0) dX11_put_32 rfl rfl ?_
        refine E_gr dX11_put_33 gf_X11_48_11 rfl (by assumption) (by assumption) ?_
        refine E_iload_n (i := 1) dX11_put_36 rfl rfl ?_
        refine E_aaj (t := 0) j dX11_put_37 (by decide) s2 hx (by rw [s3]; omega) (by omega) sp ?_
        refine E_gi dX11_put_38 gf_X11_159_7 rfl (by assumption) ?_
        refine E_iconst (v := 1) dX11_put_41 (by decide) ?_
        refine E_isub dX11_put_42 ?_
        refine k_X11_put_43 (mc' := 0) (ms' := 0) (rc := 0) (rs := 0) (by omega) (Nat.le_of_ble_eq_true rfl) (c_X11_within ?_)
        rw [zj.1, bz_f hi]
        refine E_if_ne (tgt := 55) dX11_put_46 (by decide) (fun c_46 => absurd (rfl) c_46) (fun c_46 => ?_)
        refine E_aload_n (i := 0) dX11_put_49 rfl rfl ?_
        refine E_iconst (v := 1) dX11_put_50 (by decide) ?_
        refine k_X11_put_51 (mc' := 0) (ms' := 0) (rc := 0) (rs := 0) (by omega) (Nat.le_of_ble_eq_true rfl) (by assumption) (c_X11_fail (k := 1) hL rfl (by decide) (by decide) ?_)
        refine E_iret dX11_put_54 rfl ?_
        exact hΦ
  · have hΦ := h2 hc
    refine E_iload_n (i := 1) dX11_put_0 rfl rfl ?_
    refine E_iconst (v := 0) dX11_put_1 (by decide) ?_
    refine E_iconst (v := 3) dX11_put_2 (by decide) ?_
    refine k_X11_put_3 (mc' := 0) (ms' := 0) (rc := 0) (rs := 0) (by omega) (Nat.le_of_ble_eq_true rfl) (c_X11_within ?_)
    rw [bz_f hc]
    refine E_if_ne (tgt := 15) dX11_put_6 (by decide) (fun c_6 => absurd (rfl) c_6) (fun c_6 => ?_)
    refine E_aload_n (i := 0) dX11_put_9 rfl rfl ?_
    refine E_iconst (v := 1) dX11_put_10 (by decide) ?_
    refine k_X11_put_11 (mc' := 0) (ms' := 0) (rc := 0) (rs := 0) (by omega) (Nat.le_of_ble_eq_true rfl) (by assumption) (c_X11_fail (k := 1) hL rfl (by decide) (by decide) ?_)
    refine E_iret dX11_put_14 rfl ?_
    exact hΦ
/-- a part of a row lies in it -/
abbrev hld (i n : Int32) (k : Nat) : Prop := 0 ≤ i ∧ 0 ≤ n ∧ i ≤ nI k - n
theorem hld_nat {i n : Int32} {k : Nat} (hk : k ≤ 1000) (h : hld i n k) : ∃ a m, i = nI a ∧ n = nI m ∧ a + m ≤ k := by
  obtain ⟨h1, h2, h3⟩ := h
  have q1 := i32_le.mp h1
  have q2 := i32_le.mp h2
  have q3 := i32_le.mp h3
  have e0 : (0 : Int32).toInt = 0 := rfl
  have e1 : (nI k - n).toInt = (k : Int) - n.toInt := by
    have := Int32.toInt_lt n
    rw [sub32 (by rw [nI_toInt (by omega)]; omega) (by rw [nI_toInt (by omega)]; omega), nI_toInt (by omega)]
  rw [e1] at q3
  refine ⟨i.toInt.toNat, n.toInt.toNat, ?_, ?_, by omega⟩
  · apply Int32.toInt_inj.mp
    rw [nI_toInt (by omega)]
    omega
  · apply Int32.toInt_inj.mp
    rw [nI_toInt (by omega)]
    omega
theorem c_X11_move {x i y k n : Int32} {sz : Nat → Nat} (hd : 3 ≤ d) (hL : Ly g P) (hZ : Zs I sz) (h1 : ∀ a b p q m, x = nI a → a < 4 → y = nI b → b < 4 → ¬ I 97 a = 0 → I 97 a = I 97 b → i = nI p → k = nI q → n = nI m → p + m ≤ sz a → q + m ≤ sz b → Φ (some (.int n)) g P (ur I (102 + 2 * b) (va_cpy (I (102 + 2 * a)) (I (102 + 2 * b)) p q m))) (h2 : ¬ ((0 ≤ x ∧ x ≤ 3) ∧ (0 ≤ y ∧ y ≤ 3)) → Φ (some (.int (er 1))) g P (fl I 1)) (h3 : ∀ a b, x = nI a → a < 4 → y = nI b → b < 4 → (I 97 a = 0 ∨ I 97 b = 0) → Φ (some (.int (er 2))) g P (fl I 2)) (h4 : ∀ a b, x = nI a → a < 4 → y = nI b → b < 4 → ¬ (I 97 a = 0 ∨ I 97 b = 0) → ¬ I 97 a = I 97 b → Φ (some (.int (er 5))) g P (fl I 5)) (h5 : ∀ a b, x = nI a → a < 4 → y = nI b → b < 4 → ¬ (I 97 a = 0 ∨ I 97 b = 0) → I 97 a = I 97 b → ¬ (hld i n (sz a) ∧ hld k n (sz b)) → Φ (some (.int (er 1))) g P (fl I 1)) : MM Γ mX11_move d 0 0 [.ref 16, .int x, .int i, .int y, .int k, .int n] g P I Φ := by
  refine MM_entry [some _, some _, some _, some _, some _, some _] (by decide) (Nat.le_of_ble_eq_true rfl) rfl ?_
  have h0 := hL.gw
  obtain ⟨s1, s2, s3⟩ := hL.she
  obtain ⟨b1, b2, b3⟩ := hL.bit
  by_cases hc : 0 ≤ x ∧ x ≤ 3
  · by_cases hc2 : 0 ≤ y ∧ y ≤ 3
    · obtain ⟨a, hx, ha'⟩ := in_04 (n := 3) (by omega) hc
      obtain ⟨b, hy, hb'⟩ := in_04 (n := 3) (by omega) hc2
      have ha : a < 4 := by omega
      have hb : b < 4 := by omega
      obtain ⟨sp, sr⟩ := hL.shr a ha
      obtain ⟨tp, tr⟩ := hL.shr b hb
      have sc := sr.1
      have tc := tr.1
      have ra := hL.rw hZ ha
      have rb := hL.rw hZ hb
      have za := hZ a ha
      have zb := hZ b hb
      by_cases e1 : I 97 a = 0
      · have hΦ := h3 a b hx ha hy hb (Or.inl e1)
        refine E_iload_n (i := 1) dX11_move_0 rfl rfl ?_
        refine E_iconst (v := 0) dX11_move_1 (by decide) ?_
        refine E_iconst (v := 3) dX11_move_2 (by decide) ?_
        refine k_X11_move_3 (mc' := 0) (ms' := 0) (rc := 0) (rs := 0) (by omega) (Nat.le_of_ble_eq_true rfl) (c_X11_within ?_)
        rw [bz_t hc]
        refine E_if_eq (tgt := 18) dX11_move_6 (by decide) (fun c_6 => absurd c_6 (by decide)) (fun c_6 => ?_)
        refine E_iload_n (i := 3) dX11_move_9 rfl rfl ?_
        refine E_iconst (v := 0) dX11_move_10 (by decide) ?_
        refine E_iconst (v := 3) dX11_move_11 (by decide) ?_
        refine k_X11_move_12 (mc' := 0) (ms' := 0) (rc := 0) (rs := 0) (by omega) (Nat.le_of_ble_eq_true rfl) (c_X11_within ?_)
        rw [bz_t hc2]
        refine E_if_ne (tgt := 24) dX11_move_15 (by decide) (fun c_15 => ?_) (fun c_15 => absurd c_15 (by decide))
        refine E_aload_n (i := 0) dX11_move_24 rfl rfl ?_
        refine E_gr dX11_move_25 gf_X11_52_11 rfl (by assumption) (by assumption) ?_
        refine E_iload_n (i := 1) dX11_move_28 rfl rfl ?_
        refine E_iaj a dX11_move_29 (by assumption) hx (by omega) (by rw [b3]; omega) ?_
        refine E_if_eq (tgt := 42) dX11_move_30 (by decide) (fun c_30 => ?_) (fun c_30 => absurd (e1) c_30)
        refine E_aload_n (i := 0) dX11_move_42 rfl rfl ?_
        refine E_iconst (v := 2) dX11_move_43 (by decide) ?_
        refine k_X11_move_44 (mc' := 0) (ms' := 0) (rc := 0) (rs := 0) (by omega) (Nat.le_of_ble_eq_true rfl) (by assumption) (c_X11_fail (k := 2) hL rfl (by decide) (by decide) ?_)
        refine E_iret dX11_move_47 rfl ?_
        exact hΦ
      · by_cases e2 : I 97 b = 0
        · have hΦ := h3 a b hx ha hy hb (Or.inr e2)
          refine E_iload_n (i := 1) dX11_move_0 rfl rfl ?_
          refine E_iconst (v := 0) dX11_move_1 (by decide) ?_
          refine E_iconst (v := 3) dX11_move_2 (by decide) ?_
          refine k_X11_move_3 (mc' := 0) (ms' := 0) (rc := 0) (rs := 0) (by omega) (Nat.le_of_ble_eq_true rfl) (c_X11_within ?_)
          rw [bz_t hc]
          refine E_if_eq (tgt := 18) dX11_move_6 (by decide) (fun c_6 => absurd c_6 (by decide)) (fun c_6 => ?_)
          refine E_iload_n (i := 3) dX11_move_9 rfl rfl ?_
          refine E_iconst (v := 0) dX11_move_10 (by decide) ?_
          refine E_iconst (v := 3) dX11_move_11 (by decide) ?_
          refine k_X11_move_12 (mc' := 0) (ms' := 0) (rc := 0) (rs := 0) (by omega) (Nat.le_of_ble_eq_true rfl) (c_X11_within ?_)
          rw [bz_t hc2]
          refine E_if_ne (tgt := 24) dX11_move_15 (by decide) (fun c_15 => ?_) (fun c_15 => absurd c_15 (by decide))
          refine E_aload_n (i := 0) dX11_move_24 rfl rfl ?_
          refine E_gr dX11_move_25 gf_X11_52_11 rfl (by assumption) (by assumption) ?_
          refine E_iload_n (i := 1) dX11_move_28 rfl rfl ?_
          refine E_iaj a dX11_move_29 (by assumption) hx (by omega) (by rw [b3]; omega) ?_
          refine E_if_eq (tgt := 42) dX11_move_30 (by decide) (fun c_30 => absurd c_30 (e1)) (fun c_30 => ?_)
          refine E_aload_n (i := 0) dX11_move_33 rfl rfl ?_
          refine E_gr dX11_move_34 gf_X11_52_11 rfl (by assumption) (by assumption) ?_
          refine E_iload_n (i := 3) dX11_move_37 rfl rfl ?_
          refine E_iaj b dX11_move_38 (by assumption) hy (by omega) (by rw [b3]; omega) ?_
          refine E_if_ne (tgt := 48) dX11_move_39 (by decide) (fun c_39 => absurd (e2) c_39) (fun c_39 => ?_)
          refine E_aload_n (i := 0) dX11_move_42 rfl rfl ?_
          refine E_iconst (v := 2) dX11_move_43 (by decide) ?_
          refine k_X11_move_44 (mc' := 0) (ms' := 0) (rc := 0) (rs := 0) (by omega) (Nat.le_of_ble_eq_true rfl) (by assumption) (c_X11_fail (k := 2) hL rfl (by decide) (by decide) ?_)
          refine E_iret dX11_move_47 rfl ?_
          exact hΦ
        · have en : ¬ (I 97 a = 0 ∨ I 97 b = 0) := fun h => h.elim e1 e2
          by_cases e3 : I 97 a = I 97 b
          · have rest : E Γ mX11_move d 0 0 (QM Γ 0 0 Φ) 0 0 69 [some (.ref 16), some (.int x), some (.int i), some (.int y), some (.int k), some (.int n)] [] g P I := by
              by_cases g1 : hld i n (sz a)
              · by_cases g2 : hld k n (sz b)
                · obtain ⟨p, m, i1, i2, i3⟩ := hld_nat (by omega) g1
                  obtain ⟨q, m', k1, k2, k3⟩ := hld_nat (by omega) g2
                  have em : m' = m := by
                    have := congrArg Int32.toInt (i2.symm.trans k2)
                    rw [nI_toInt (by omega), nI_toInt (by omega)] at this
                    omega
                  subst em
                  have hΦ := h1 a b p q m' hx ha hy hb e1 e3 i1 k1 i2 i3 k3
                  have sn : P (101 + 2 * a) 0 = some (102 + 2 * a) := sr.2.1
                  have tn : P (101 + 2 * b) 0 = some (102 + 2 * b) := tr.2.1
                  have sq := sr.2.2.1
                  have tq := tr.2.2.1
                  refine E_aload_n (i := 0) dX11_move_69 rfl rfl ?_
                  refine E_gr dX11_move_70 gf_X11_48_11 rfl (by assumption) (by assumption) ?_
                  refine E_iload_n (i := 1) dX11_move_73 rfl rfl ?_
                  refine E_aaj (t := 0) a dX11_move_74 (by decide) s2 hx (by rw [s3]; omega) (by omega) sp ?_
                  refine E_iload_n (i := 2) dX11_move_75 rfl rfl ?_
                  refine E_iload dX11_move_76 rfl ?_
                  refine k_X11_move_78 (mc' := 0) (ms' := 0) (rc := 0) (rs := 0) (by omega) (Nat.le_of_ble_eq_true rfl) (by assumption) (c_X7_holds ra ?_)
                  rw [bz_t g1]
                  refine E_if_eq (tgt := 100) dX11_move_81 (by decide) (fun c_81 => absurd c_81 (by decide)) (fun c_81 => ?_)
                  refine E_aload_n (i := 0) dX11_move_84 rfl rfl ?_
                  refine E_gr dX11_move_85 gf_X11_48_11 rfl (by assumption) (by assumption) ?_
                  refine E_iload_n (i := 3) dX11_move_88 rfl rfl ?_
                  refine E_aaj (t := 0) b dX11_move_89 (by decide) s2 hy (by rw [s3]; omega) (by omega) tp ?_
                  refine E_iload dX11_move_90 rfl ?_
                  refine E_iload dX11_move_92 rfl ?_
                  refine k_X11_move_94 (mc' := 0) (ms' := 0) (rc := 0) (rs := 0) (by omega) (Nat.le_of_ble_eq_true rfl) (by assumption) (c_X7_holds rb ?_)
                  rw [bz_t g2]
                  refine E_if_ne (tgt := 106) dX11_move_97 (by decide) (fun c_97 => ?_) (fun c_97 => absurd c_97 (by decide))
                  refine E_aload_n (i := 0) dX11_move_106 rfl rfl ?_
                  refine E_gr dX11_move_107 gf_X11_48_11 rfl (by assumption) (by assumption) ?_
                  refine E_iload_n (i := 1) dX11_move_110 rfl rfl ?_
                  refine E_aaj (t := 0) a dX11_move_111 (by decide) s2 hx (by rw [s3]; omega) (by omega) sp ?_
                  refine E_gr dX11_move_112 gf_X11_268_7 rfl (by assumption) (by assumption) ?_
                  refine E_iload_n (i := 2) dX11_move_115 rfl rfl ?_
                  refine E_aload_n (i := 0) dX11_move_116 rfl rfl ?_
                  refine E_gr dX11_move_117 gf_X11_48_11 rfl (by assumption) (by assumption) ?_
                  refine E_iload_n (i := 3) dX11_move_120 rfl rfl ?_
                  refine E_aaj (t := 0) b dX11_move_121 (by decide) s2 hy (by rw [s3]; omega) (by omega) tp ?_
                  refine E_gr dX11_move_122 gf_X11_268_7 rfl (by assumption) (by assumption) ?_
                  refine E_iload dX11_move_125 rfl ?_
                  refine E_iload dX11_move_127 rfl ?_
                  refine E_copy dX11_move_129 w_950 w_790 w_789 w_90 (Nat.le_of_ble_eq_true rfl) (by omega) sq.1 sq.2.1 sq.2.2 tq.1 tq.2.1 tq.2.2 (by rw [i1]; exact nI_pos (by omega)) (by rw [k1]; exact nI_pos (by omega)) (by rw [i2]; exact nI_pos (by omega)) (by rw [sr.2.2.2, i1, i2, nI_clamp (by omega), nI_clamp (by omega)]; omega) (by rw [tr.2.2.2, k1, i2, nI_clamp (by omega), nI_clamp (by omega)]; omega) ?_
                  rw [show i.toNatClampNeg = p by rw [i1]; exact nI_clamp (by omega), show k.toNatClampNeg = q by rw [k1]; exact nI_clamp (by omega), show n.toNatClampNeg = m' by rw [i2]; exact nI_clamp (by omega)]
                  refine E_iload dX11_move_132 rfl ?_
                  refine E_iret dX11_move_134 rfl ?_
                  exact hΦ
                · have hΦ := h5 a b hx ha hy hb en e3 (fun h => g2 h.2)
                  refine E_aload_n (i := 0) dX11_move_69 rfl rfl ?_
                  refine E_gr dX11_move_70 gf_X11_48_11 rfl (by assumption) (by assumption) ?_
                  refine E_iload_n (i := 1) dX11_move_73 rfl rfl ?_
                  refine E_aaj (t := 0) a dX11_move_74 (by decide) s2 hx (by rw [s3]; omega) (by omega) sp ?_
                  refine E_iload_n (i := 2) dX11_move_75 rfl rfl ?_
                  refine E_iload dX11_move_76 rfl ?_
                  refine k_X11_move_78 (mc' := 0) (ms' := 0) (rc := 0) (rs := 0) (by omega) (Nat.le_of_ble_eq_true rfl) (by assumption) (c_X7_holds ra ?_)
                  rw [bz_t g1]
                  refine E_if_eq (tgt := 100) dX11_move_81 (by decide) (fun c_81 => absurd c_81 (by decide)) (fun c_81 => ?_)
                  refine E_aload_n (i := 0) dX11_move_84 rfl rfl ?_
                  refine E_gr dX11_move_85 gf_X11_48_11 rfl (by assumption) (by assumption) ?_
                  refine E_iload_n (i := 3) dX11_move_88 rfl rfl ?_
                  refine E_aaj (t := 0) b dX11_move_89 (by decide) s2 hy (by rw [s3]; omega) (by omega) tp ?_
                  refine E_iload dX11_move_90 rfl ?_
                  refine E_iload dX11_move_92 rfl ?_
                  refine k_X11_move_94 (mc' := 0) (ms' := 0) (rc := 0) (rs := 0) (by omega) (Nat.le_of_ble_eq_true rfl) (by assumption) (c_X7_holds rb ?_)
                  rw [bz_f g2]
                  refine E_if_ne (tgt := 106) dX11_move_97 (by decide) (fun c_97 => absurd (rfl) c_97) (fun c_97 => ?_)
                  refine E_aload_n (i := 0) dX11_move_100 rfl rfl ?_
                  refine E_iconst (v := 1) dX11_move_101 (by decide) ?_
                  refine k_X11_move_102 (mc' := 0) (ms' := 0) (rc := 0) (rs := 0) (by omega) (Nat.le_of_ble_eq_true rfl) (by assumption) (c_X11_fail (k := 1) hL rfl (by decide) (by decide) ?_)
                  refine E_iret dX11_move_105 rfl ?_
                  exact hΦ
              · have hΦ := h5 a b hx ha hy hb en e3 (fun h => g1 h.1)
                refine E_aload_n (i := 0) dX11_move_69 rfl rfl ?_
                refine E_gr dX11_move_70 gf_X11_48_11 rfl (by assumption) (by assumption) ?_
                refine E_iload_n (i := 1) dX11_move_73 rfl rfl ?_
                refine E_aaj (t := 0) a dX11_move_74 (by decide) s2 hx (by rw [s3]; omega) (by omega) sp ?_
                refine E_iload_n (i := 2) dX11_move_75 rfl rfl ?_
                refine E_iload dX11_move_76 rfl ?_
                refine k_X11_move_78 (mc' := 0) (ms' := 0) (rc := 0) (rs := 0) (by omega) (Nat.le_of_ble_eq_true rfl) (by assumption) (c_X7_holds ra ?_)
                rw [bz_f g1]
                refine E_if_eq (tgt := 100) dX11_move_81 (by decide) (fun c_81 => ?_) (fun c_81 => absurd (rfl) c_81)
                refine E_aload_n (i := 0) dX11_move_100 rfl rfl ?_
                refine E_iconst (v := 1) dX11_move_101 (by decide) ?_
                refine k_X11_move_102 (mc' := 0) (ms' := 0) (rc := 0) (rs := 0) (by omega) (Nat.le_of_ble_eq_true rfl) (by assumption) (c_X11_fail (k := 1) hL rfl (by decide) (by decide) ?_)
                refine E_iret dX11_move_105 rfl ?_
                exact hΦ
            refine E_iload_n (i := 1) dX11_move_0 rfl rfl ?_
            refine E_iconst (v := 0) dX11_move_1 (by decide) ?_
            refine E_iconst (v := 3) dX11_move_2 (by decide) ?_
            refine k_X11_move_3 (mc' := 0) (ms' := 0) (rc := 0) (rs := 0) (by omega) (Nat.le_of_ble_eq_true rfl) (c_X11_within ?_)
            rw [bz_t hc]
            refine E_if_eq (tgt := 18) dX11_move_6 (by decide) (fun c_6 => absurd c_6 (by decide)) (fun c_6 => ?_)
            refine E_iload_n (i := 3) dX11_move_9 rfl rfl ?_
            refine E_iconst (v := 0) dX11_move_10 (by decide) ?_
            refine E_iconst (v := 3) dX11_move_11 (by decide) ?_
            refine k_X11_move_12 (mc' := 0) (ms' := 0) (rc := 0) (rs := 0) (by omega) (Nat.le_of_ble_eq_true rfl) (c_X11_within ?_)
            rw [bz_t hc2]
            refine E_if_ne (tgt := 24) dX11_move_15 (by decide) (fun c_15 => ?_) (fun c_15 => absurd c_15 (by decide))
            refine E_aload_n (i := 0) dX11_move_24 rfl rfl ?_
            refine E_gr dX11_move_25 gf_X11_52_11 rfl (by assumption) (by assumption) ?_
            refine E_iload_n (i := 1) dX11_move_28 rfl rfl ?_
            refine E_iaj a dX11_move_29 (by assumption) hx (by omega) (by rw [b3]; omega) ?_
            refine E_if_eq (tgt := 42) dX11_move_30 (by decide) (fun c_30 => absurd c_30 (e1)) (fun c_30 => ?_)
            refine E_aload_n (i := 0) dX11_move_33 rfl rfl ?_
            refine E_gr dX11_move_34 gf_X11_52_11 rfl (by assumption) (by assumption) ?_
            refine E_iload_n (i := 3) dX11_move_37 rfl rfl ?_
            refine E_iaj b dX11_move_38 (by assumption) hy (by omega) (by rw [b3]; omega) ?_
            refine E_if_ne (tgt := 48) dX11_move_39 (by decide) (fun c_39 => ?_) (fun c_39 => absurd c_39 (e2))
            refine E_aload_n (i := 0) dX11_move_48 rfl rfl ?_
            refine E_gr dX11_move_49 gf_X11_52_11 rfl (by assumption) (by assumption) ?_
            refine E_iload_n (i := 1) dX11_move_52 rfl rfl ?_
            refine E_iaj a dX11_move_53 (by assumption) hx (by omega) (by rw [b3]; omega) ?_
            refine E_aload_n (i := 0) dX11_move_54 rfl rfl ?_
            refine E_gr dX11_move_55 gf_X11_52_11 rfl (by assumption) (by assumption) ?_
            refine E_iload_n (i := 3) dX11_move_58 rfl rfl ?_
            refine E_iaj b dX11_move_59 (by assumption) hy (by omega) (by rw [b3]; omega) ?_
            refine E_icmp_eq (tgt := 69) dX11_move_60 (by decide) (fun c_60 => ?_) (fun c_60 => absurd (e3) c_60)
            exact rest
          · have hΦ := h4 a b hx ha hy hb en e3
            refine E_iload_n (i := 1) dX11_move_0 rfl rfl ?_
            refine E_iconst (v := 0) dX11_move_1 (by decide) ?_
            refine E_iconst (v := 3) dX11_move_2 (by decide) ?_
            refine k_X11_move_3 (mc' := 0) (ms' := 0) (rc := 0) (rs := 0) (by omega) (Nat.le_of_ble_eq_true rfl) (c_X11_within ?_)
            rw [bz_t hc]
            refine E_if_eq (tgt := 18) dX11_move_6 (by decide) (fun c_6 => absurd c_6 (by decide)) (fun c_6 => ?_)
            refine E_iload_n (i := 3) dX11_move_9 rfl rfl ?_
            refine E_iconst (v := 0) dX11_move_10 (by decide) ?_
            refine E_iconst (v := 3) dX11_move_11 (by decide) ?_
            refine k_X11_move_12 (mc' := 0) (ms' := 0) (rc := 0) (rs := 0) (by omega) (Nat.le_of_ble_eq_true rfl) (c_X11_within ?_)
            rw [bz_t hc2]
            refine E_if_ne (tgt := 24) dX11_move_15 (by decide) (fun c_15 => ?_) (fun c_15 => absurd c_15 (by decide))
            refine E_aload_n (i := 0) dX11_move_24 rfl rfl ?_
            refine E_gr dX11_move_25 gf_X11_52_11 rfl (by assumption) (by assumption) ?_
            refine E_iload_n (i := 1) dX11_move_28 rfl rfl ?_
            refine E_iaj a dX11_move_29 (by assumption) hx (by omega) (by rw [b3]; omega) ?_
            refine E_if_eq (tgt := 42) dX11_move_30 (by decide) (fun c_30 => absurd c_30 (e1)) (fun c_30 => ?_)
            refine E_aload_n (i := 0) dX11_move_33 rfl rfl ?_
            refine E_gr dX11_move_34 gf_X11_52_11 rfl (by assumption) (by assumption) ?_
            refine E_iload_n (i := 3) dX11_move_37 rfl rfl ?_
            refine E_iaj b dX11_move_38 (by assumption) hy (by omega) (by rw [b3]; omega) ?_
            refine E_if_ne (tgt := 48) dX11_move_39 (by decide) (fun c_39 => ?_) (fun c_39 => absurd c_39 (e2))
            refine E_aload_n (i := 0) dX11_move_48 rfl rfl ?_
            refine E_gr dX11_move_49 gf_X11_52_11 rfl (by assumption) (by assumption) ?_
            refine E_iload_n (i := 1) dX11_move_52 rfl rfl ?_
            refine E_iaj a dX11_move_53 (by assumption) hx (by omega) (by rw [b3]; omega) ?_
            refine E_aload_n (i := 0) dX11_move_54 rfl rfl ?_
            refine E_gr dX11_move_55 gf_X11_52_11 rfl (by assumption) (by assumption) ?_
            refine E_iload_n (i := 3) dX11_move_58 rfl rfl ?_
            refine E_iaj b dX11_move_59 (by assumption) hy (by omega) (by rw [b3]; omega) ?_
            refine E_icmp_eq (tgt := 69) dX11_move_60 (by decide) (fun c_60 => absurd c_60 (e3)) (fun c_60 => ?_)
            refine E_aload_n (i := 0) dX11_move_63 rfl rfl ?_
            refine E_iconst (v := 5) dX11_move_64 (by decide) ?_
            refine k_X11_move_65 (mc' := 0) (ms' := 0) (rc := 0) (rs := 0) (by omega) (Nat.le_of_ble_eq_true rfl) (by assumption) (c_X11_fail (k := 5) hL rfl (by decide) (by decide) ?_)
            refine E_iret dX11_move_68 rfl ?_
            exact hΦ
    · have hΦ := h2 (fun h => hc2 h.2)
      refine E_iload_n (i := 1) dX11_move_0 rfl rfl ?_
      refine E_iconst (v := 0) dX11_move_1 (by decide) ?_
      refine E_iconst (v := 3) dX11_move_2 (by decide) ?_
      refine k_X11_move_3 (mc' := 0) (ms' := 0) (rc := 0) (rs := 0) (by omega) (Nat.le_of_ble_eq_true rfl) (c_X11_within ?_)
      rw [bz_t hc]
      refine E_if_eq (tgt := 18) dX11_move_6 (by decide) (fun c_6 => absurd c_6 (by decide)) (fun c_6 => ?_)
      refine E_iload_n (i := 3) dX11_move_9 rfl rfl ?_
      refine E_iconst (v := 0) dX11_move_10 (by decide) ?_
      refine E_iconst (v := 3) dX11_move_11 (by decide) ?_
      refine k_X11_move_12 (mc' := 0) (ms' := 0) (rc := 0) (rs := 0) (by omega) (Nat.le_of_ble_eq_true rfl) (c_X11_within ?_)
      rw [bz_f hc2]
      refine E_if_ne (tgt := 24) dX11_move_15 (by decide) (fun c_15 => absurd (rfl) c_15) (fun c_15 => ?_)
      refine E_aload_n (i := 0) dX11_move_18 rfl rfl ?_
      refine E_iconst (v := 1) dX11_move_19 (by decide) ?_
      refine k_X11_move_20 (mc' := 0) (ms' := 0) (rc := 0) (rs := 0) (by omega) (Nat.le_of_ble_eq_true rfl) (by assumption) (c_X11_fail (k := 1) hL rfl (by decide) (by decide) ?_)
      refine E_iret dX11_move_23 rfl ?_
      exact hΦ
  · have hΦ := h2 (fun h => hc h.1)
    refine E_iload_n (i := 1) dX11_move_0 rfl rfl ?_
    refine E_iconst (v := 0) dX11_move_1 (by decide) ?_
    refine E_iconst (v := 3) dX11_move_2 (by decide) ?_
    refine k_X11_move_3 (mc' := 0) (ms' := 0) (rc := 0) (rs := 0) (by omega) (Nat.le_of_ble_eq_true rfl) (c_X11_within ?_)
    rw [bz_f hc]
    refine E_if_eq (tgt := 18) dX11_move_6 (by decide) (fun c_6 => ?_) (fun c_6 => absurd (rfl) c_6)
    refine E_aload_n (i := 0) dX11_move_18 rfl rfl ?_
    refine E_iconst (v := 1) dX11_move_19 (by decide) ?_
    refine k_X11_move_20 (mc' := 0) (ms' := 0) (rc := 0) (rs := 0) (by omega) (Nat.le_of_ble_eq_true rfl) (by assumption) (c_X11_fail (k := 1) hL rfl (by decide) (by decide) ?_)
    refine E_iret dX11_move_23 rfl ?_
    exact hΦ
/-- what count gives -/
def cntC (I : HI) (k : Nat) (x : Int32) : Option Int32 := if x = 0 then some (I 21 8) else if x = 1 then some (I 21 7) else if x = 2 then some (nI (cz (I 28) k)) else if x = 3 then some (I 35 1) else if x = 4 then some (I 39 1) else if x = 5 then some (I 29 1) else if x = 6 then some (I 43 1) else if x = 7 then some (I 94 1) else if x = 8 then some (I 21 9) else none
theorem out_n {x : Int32} {n : Nat} (hn : n ≤ 1000) (h : ∀ j, j < n → ¬ x = nI j) : x.toInt < 0 ∨ (n : Int) - 1 < x.toInt := by
  by_cases h1 : x.toInt < 0
  · exact Or.inl h1
  · by_cases h2 : x.toInt < n
    · refine absurd (?_ : x = nI x.toInt.toNat) (h x.toInt.toNat (by omega))
      apply Int32.toInt_inj.mp
      rw [nI_toInt (by omega)]
      omega
    · exact Or.inr (by omega)
theorem c_X11_count {x : Int32} {k : Nat} (hd : 1 ≤ d) (hL : Ly g P) (hk : I 21 7 = nI k) (hk8 : k ≤ 8) (h1 : ∀ v, cntC I k x = some v → Φ (some (.int v)) g P I) (h2 : cntC I k x = none → Φ (some (.int (er 1))) g P (fl I 1)) : MM Γ mX11_count d 0 0 [.ref 16, .int x] g P I Φ := by
  refine MM_entry [some _, some _] (by decide) (Nat.le_of_ble_eq_true rfl) rfl ?_
  have h0 := hL.gw
  have l1 := hL.live
  have l2 := hL.s21.c
  obtain ⟨a1, a2⟩ : P 21 13 = some 35 ∧ RS g P 35 36 8 := hL.s21.str
  obtain ⟨b1, b2⟩ : P 21 15 = some 39 ∧ RS g P 39 40 5 := hL.s21.tim
  obtain ⟨c1, c2⟩ : P 21 10 = some 29 ∧ RS g P 29 30 50 := hL.s21.tape
  obtain ⟨d1, d2⟩ : P 21 17 = some 43 ∧ RS g P 43 44 20 := hL.s21.wai
  obtain ⟨e1, e2⟩ : P 16 6 = some 94 ∧ RS g P 94 95 40 := hL.tra
  have a3 := a2.1
  have b3 := b2.1
  have c3 := c2.1
  have d3 := d2.1
  have e3 := e2.1
  unfold cntC at h1 h2
  by_cases q0 : x = 0
  · subst q0
    have hΦ := h1 _ rfl
    refine E_iload_n (i := 1) dX11_count_0 rfl rfl ?_
    refine E_tswIn (tgt := 52) dX11_count_1 (by decide) (by decide) rfl (by decide) ?_
    refine E_aload_n (i := 0) dX11_count_52 rfl rfl ?_
    refine E_gr dX11_count_53 gf_X11_21_11 rfl (by assumption) (by assumption) ?_
    refine E_gi dX11_count_56 gf_X11_184_8 rfl (by assumption) ?_
    refine E_iret dX11_count_59 rfl ?_
    exact hΦ
  by_cases q1 : x = 1
  · subst q1
    have hΦ := h1 _ rfl
    refine E_iload_n (i := 1) dX11_count_0 rfl rfl ?_
    refine E_tswIn (tgt := 60) dX11_count_1 (by decide) (by decide) rfl (by decide) ?_
    refine E_aload_n (i := 0) dX11_count_60 rfl rfl ?_
    refine E_gr dX11_count_61 gf_X11_21_11 rfl (by assumption) (by assumption) ?_
    refine E_gi dX11_count_64 gf_X11_116_8 rfl (by assumption) ?_
    refine E_iret dX11_count_67 rfl ?_
    exact hΦ
  by_cases q2 : x = 2
  · subst q2
    have hΦ := h1 _ rfl
    refine E_iload_n (i := 1) dX11_count_0 rfl rfl ?_
    refine E_tswIn (tgt := 68) dX11_count_1 (by decide) (by decide) rfl (by decide) ?_
    refine E_aload_n (i := 0) dX11_count_68 rfl rfl ?_
    refine E_gr dX11_count_69 gf_X11_21_11 rfl (by assumption) (by assumption) ?_
    refine k_X11_count_72 (mc' := 0) (ms' := 0) (rc := 0) (rs := 0) (by omega) (Nat.le_of_ble_eq_true rfl) (by assumption) (c_X8_underWay hL.s21 hk hk8 ?_)
    refine E_iret dX11_count_75 rfl ?_
    exact hΦ
  by_cases q3 : x = 3
  · subst q3
    have hΦ := h1 _ rfl
    refine E_iload_n (i := 1) dX11_count_0 rfl rfl ?_
    refine E_tswIn (tgt := 76) dX11_count_1 (by decide) (by decide) rfl (by decide) ?_
    refine E_aload_n (i := 0) dX11_count_76 rfl rfl ?_
    refine E_gr dX11_count_77 gf_X11_21_11 rfl (by assumption) (by assumption) ?_
    refine E_gr dX11_count_80 gf_X11_213_8 rfl (by assumption) (by assumption) ?_
    refine E_gi dX11_count_83 gf_X11_159_7 rfl (by assumption) ?_
    refine E_iret dX11_count_86 rfl ?_
    exact hΦ
  by_cases q4 : x = 4
  · subst q4
    have hΦ := h1 _ rfl
    refine E_iload_n (i := 1) dX11_count_0 rfl rfl ?_
    refine E_tswIn (tgt := 87) dX11_count_1 (by decide) (by decide) rfl (by decide) ?_
    refine E_aload_n (i := 0) dX11_count_87 rfl rfl ?_
    refine E_gr dX11_count_88 gf_X11_21_11 rfl (by assumption) (by assumption) ?_
    refine E_gr dX11_count_91 gf_X11_232_8 rfl (by assumption) (by assumption) ?_
    refine E_gi dX11_count_94 gf_X11_159_7 rfl (by assumption) ?_
    refine E_iret dX11_count_97 rfl ?_
    exact hΦ
  by_cases q5 : x = 5
  · subst q5
    have hΦ := h1 _ rfl
    refine E_iload_n (i := 1) dX11_count_0 rfl rfl ?_
    refine E_tswIn (tgt := 98) dX11_count_1 (by decide) (by decide) rfl (by decide) ?_
    refine E_aload_n (i := 0) dX11_count_98 rfl rfl ?_
    refine E_gr dX11_count_99 gf_X11_21_11 rfl (by assumption) (by assumption) ?_
    refine E_gr dX11_count_102 gf_X11_156_8 rfl (by assumption) (by assumption) ?_
    refine E_gi dX11_count_105 gf_X11_159_7 rfl (by assumption) ?_
    refine E_iret dX11_count_108 rfl ?_
    exact hΦ
  by_cases q6 : x = 6
  · subst q6
    have hΦ := h1 _ rfl
    refine E_iload_n (i := 1) dX11_count_0 rfl rfl ?_
    refine E_tswIn (tgt := 109) dX11_count_1 (by decide) (by decide) rfl (by decide) ?_
    refine E_aload_n (i := 0) dX11_count_109 rfl rfl ?_
    refine E_gr dX11_count_110 gf_X11_21_11 rfl (by assumption) (by assumption) ?_
    refine E_gr dX11_count_113 gf_X11_277_8 rfl (by assumption) (by assumption) ?_
    refine E_gi dX11_count_116 gf_X11_159_7 rfl (by assumption) ?_
    refine E_iret dX11_count_119 rfl ?_
    exact hΦ
  by_cases q7 : x = 7
  · subst q7
    have hΦ := h1 _ rfl
    refine E_iload_n (i := 1) dX11_count_0 rfl rfl ?_
    refine E_tswIn (tgt := 120) dX11_count_1 (by decide) (by decide) rfl (by decide) ?_
    refine E_aload_n (i := 0) dX11_count_120 rfl rfl ?_
    refine E_gr dX11_count_121 gf_X11_44_11 rfl (by assumption) (by assumption) ?_
    refine E_gi dX11_count_124 gf_X11_159_7 rfl (by assumption) ?_
    refine E_iret dX11_count_127 rfl ?_
    exact hΦ
  by_cases q8 : x = 8
  · subst q8
    have hΦ := h1 _ rfl
    refine E_iload_n (i := 1) dX11_count_0 rfl rfl ?_
    refine E_tswIn (tgt := 128) dX11_count_1 (by decide) (by decide) rfl (by decide) ?_
    refine E_aload_n (i := 0) dX11_count_128 rfl rfl ?_
    refine E_gr dX11_count_129 gf_X11_21_11 rfl (by assumption) (by assumption) ?_
    refine E_gi dX11_count_132 gf_X11_243_8 rfl (by assumption) ?_
    refine E_iret dX11_count_135 rfl ?_
    exact hΦ
  have hΦ := h2 (by rw [if_neg q0, if_neg q1, if_neg q2, if_neg q3, if_neg q4, if_neg q5, if_neg q6, if_neg q7, if_neg q8])
  have out := out_n (n := 9) (by omega) (show ∀ j, j < 9 → ¬ x = nI j from fun j hj => by
    rcases (by omega : j = 0 ∨ j = 1 ∨ j = 2 ∨ j = 3 ∨ j = 4 ∨ j = 5 ∨ j = 6 ∨ j = 7 ∨ j = 8) with rfl | rfl | rfl | rfl | rfl | rfl | rfl | rfl | rfl <;> assumption)
  refine E_iload_n (i := 1) dX11_count_0 rfl rfl ?_
  refine E_tswOut (tgt := 136) dX11_count_1 out (by decide) ?_
  refine E_aload_n (i := 0) dX11_count_136 rfl rfl ?_
  refine E_iconst (v := 1) dX11_count_137 (by decide) ?_
  refine k_X11_count_138 (mc' := 0) (ms' := 0) (rc := 0) (rs := 0) (by omega) (Nat.le_of_ble_eq_true rfl) (by assumption) (c_X11_fail (k := 1) hL rfl (by decide) (by decide) ?_)
  refine E_iret dX11_count_141 rfl ?_
  exact hΦ
end
