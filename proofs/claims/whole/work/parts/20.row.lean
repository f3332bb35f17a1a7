/-! GorgeWire's small functions; Row -/
theorem i32_le {a b : Int32} : a ≤ b ↔ a.toInt ≤ b.toInt := Int32.le_iff_toInt_le
theorem i32_lt {a b : Int32} : a < b ↔ a.toInt < b.toInt := Int32.lt_iff_toInt_lt
/-- a row: its object r, its numbers q, room for n, k there -/
def Rw (g : Sh) (P : HP) (I : HI) (r q n k : Nat) : Prop := Cel g r 7 ∧ P r 0 = some q ∧ Cel g q 13 ∧ g.2.2 q = n ∧ I r 1 = nI k ∧ k ≤ n ∧ n ≤ 1000
/-- number i of a row -/
def rat (I : HI) (q k : Nat) (i : Int32) : Int32 := if 0 ≤ i ∧ i ≤ nI k - 1 then I q i.toNatClampNeg else 0
theorem nI_sub1 {k : Nat} (h : k ≤ 1000) : (nI k - 1).toInt = (k : Int) - 1 := by
  have := pk_sub_toInt (a := k) (b := 1) (by omega) (by omega)
  exact this
theorem in_rat {k : Nat} (hk : k ≤ 1000) {i : Int32} : (0 ≤ i ∧ i ≤ nI k - 1) ↔ (0 ≤ i.toInt ∧ i.toInt < k) := by
  rw [i32_le, i32_le, nI_sub1 hk, Int32.toInt_zero]
  omega
theorem rat_in {I : HI} {q k j : Nat} (hj : j < k) (hk : k ≤ 1000) : rat I q k (nI j) = I q j := by
  unfold rat
  rw [if_pos ((in_rat hk).mpr (by rw [nI_toInt (by omega)]; omega)), nI_clamp (by omega)]
theorem vp_of {i : Int32} {n : Nat} (h : 0 ≤ i.toInt ∧ i.toInt < n) : vp_in i n := vp_in_iff.mpr h
section
variable {Γ : GE} {d : Nat} {g : Sh} {P : HP} {I : HI} {Φ : Option Value → Sh → HP → HI → Prop}
theorem c_X11_within {v a b : Int32} (hΦ : Φ (some (.int (bz (a ≤ v ∧ v ≤ b)))) g P I) : MM Γ mX11_within d 0 0 [.int v, .int a, .int b] g P I Φ := by
  refine MM_entry [some _, some _, some _] (by decide) (Nat.le_of_ble_eq_true rfl) rfl ?_
  by_cases hc : a ≤ v ∧ v ≤ b
  · rw [bz_t hc] at hΦ
    refine E_iload_n (i := 0) dX11_within_0 rfl rfl ?_
    refine E_iload_n (i := 1) dX11_within_1 rfl rfl ?_
    refine E_icmp_lt (tgt := 14) dX11_within_2 (by decide) (fun c_2 => absurd c_2 (Int32.not_lt.mpr hc.1)) (fun c_2 => ?_)
    refine E_iload_n (i := 0) dX11_within_5 rfl rfl ?_
    refine E_iload_n (i := 2) dX11_within_6 rfl rfl ?_
    refine E_icmp_gt (tgt := 14) dX11_within_7 (by decide) (fun c_7 => absurd c_7 (Int32.not_lt.mpr hc.2)) (fun c_7 => ?_)
    refine E_iconst (v := 1) dX11_within_10 (by decide) ?_
    refine E_goto (tgt := 15) dX11_within_11 (by decide) ?_
    refine E_zret dX11_within_15 rfl rfl ?_
    exact hΦ
  · rw [bz_f hc] at hΦ
    refine E_iload_n (i := 0) dX11_within_0 rfl rfl ?_
    refine E_iload_n (i := 1) dX11_within_1 rfl rfl ?_
    refine E_icmp_lt (tgt := 14) dX11_within_2 (by decide) (fun c_2 => ?_) (fun c_2 => ?_)
    · refine E_iconst (v := 0) dX11_within_14 (by decide) ?_
      refine E_zret dX11_within_15 rfl rfl ?_
      exact hΦ
    · refine E_iload_n (i := 0) dX11_within_5 rfl rfl ?_
      refine E_iload_n (i := 2) dX11_within_6 rfl rfl ?_
      refine E_icmp_gt (tgt := 14) dX11_within_7 (by decide) (fun c_7 => ?_) (fun c_7 => ?_)
      · refine E_iconst (v := 0) dX11_within_14 (by decide) ?_
        refine E_zret dX11_within_15 rfl rfl ?_
        exact hΦ
      · exact absurd ⟨Int32.not_lt.mp c_2, Int32.not_lt.mp c_7⟩ hc
/-- held(v, least, greatest) -/
def hel (v a b : Int32) : Int32 := if a < (if b < v then b else v) then (if b < v then b else v) else a
theorem c_X11_held {v a b : Int32} (hd : 1 ≤ d) (hΦ : Φ (some (.int (hel v a b))) g P I) : MM Γ mX11_held d 0 0 [.int v, .int a, .int b] g P I Φ := by
  refine MM_entry [some _, some _, some _] (by decide) (Nat.le_of_ble_eq_true rfl) rfl ?_
  refine E_iload_n (i := 1) dX11_held_0 rfl rfl ?_
  refine E_iload_n (i := 0) dX11_held_1 rfl rfl ?_
  refine E_iload_n (i := 2) dX11_held_2 rfl rfl ?_
  refine E_min dX11_held_3 w_557 w_381 w_74 w_382 (Nat.le_of_ble_eq_true rfl) (by omega) ?_
  refine E_max dX11_held_6 w_558 w_112 w_74 w_113 (Nat.le_of_ble_eq_true rfl) (by omega) ?_
  refine E_iret dX11_held_9 rfl ?_
  exact hΦ
theorem c_X7_isFull {r q n k : Nat} (hR : Rw g P I r q n k) (hΦ : Φ (some (.int (bz (n ≤ k)))) g P I) : MM Γ mX7_isFull d 0 0 [.ref r] g P I Φ := by
  refine MM_entry [some _] (by decide) (Nat.le_of_ble_eq_true rfl) rfl ?_
  obtain ⟨h1, h2, h3, h4, h5, h6, h7⟩ := hR
  have e : I r 1 < nI (g.2.2 q) ↔ k < n := by rw [h5, h4]; exact nI_ltI (by omega) (by omega)
  by_cases hc : n ≤ k
  · rw [bz_t hc] at hΦ
    refine E_aload_n (i := 0) dX7_isFull_0 rfl rfl ?_
    refine E_gi dX7_isFull_1 gf_X7_7_7 rfl (by assumption) ?_
    refine E_aload_n (i := 0) dX7_isFull_4 rfl rfl ?_
    refine E_gr dX7_isFull_5 gf_X7_19_7 rfl (by assumption) (by assumption) ?_
    refine E_il dX7_isFull_8 (by assumption) ?_
    refine E_icmp_lt (tgt := 16) dX7_isFull_9 (by decide) (fun c_9 => absurd c_9 (fun h => absurd (e.mp h) (by omega))) (fun c_9 => ?_)
    refine E_iconst (v := 1) dX7_isFull_12 (by decide) ?_
    refine E_goto (tgt := 17) dX7_isFull_13 (by decide) ?_
    refine E_zret dX7_isFull_17 rfl rfl ?_
    exact hΦ
  · rw [bz_f hc] at hΦ
    refine E_aload_n (i := 0) dX7_isFull_0 rfl rfl ?_
    refine E_gi dX7_isFull_1 gf_X7_7_7 rfl (by assumption) ?_
    refine E_aload_n (i := 0) dX7_isFull_4 rfl rfl ?_
    refine E_gr dX7_isFull_5 gf_X7_19_7 rfl (by assumption) (by assumption) ?_
    refine E_il dX7_isFull_8 (by assumption) ?_
    refine E_icmp_lt (tgt := 16) dX7_isFull_9 (by decide) (fun c_9 => ?_) (fun c_9 => absurd (e.mpr (by omega)) c_9)
    refine E_iconst (v := 0) dX7_isFull_16 (by decide) ?_
    refine E_zret dX7_isFull_17 rfl rfl ?_
    exact hΦ
theorem c_X7_add {r q n k : Nat} {v : Int32} (hR : Rw g P I r q n k) (hΦ : Φ none g P (if k < n then u2 (u2 I q k v) r 1 (nI (k + 1)) else I)) : MM Γ mX7_add d 0 0 [.ref r, .int v] g P I Φ := by
  refine MM_entry [some _, some _] (by decide) (Nat.le_of_ble_eq_true rfl) rfl ?_
  obtain ⟨h1, h2, h3, h4, h5, h6, h7⟩ := hR
  have e : nI (g.2.2 q) ≤ I r 1 ↔ n ≤ k := by rw [h5, h4]; exact nI_leI (by omega) (by omega)
  by_cases hc : k < n
  · rw [if_pos hc] at hΦ
    have hqr : r ≠ q := fun h => by have a := h1.1; have b := h3.1; rw [h] at a; omega
    refine E_aload_n (i := 0) dX7_add_0 rfl rfl ?_
    refine E_gi dX7_add_1 gf_X7_7_7 rfl (by assumption) ?_
    refine E_aload_n (i := 0) dX7_add_4 rfl rfl ?_
    refine E_gr dX7_add_5 gf_X7_19_7 rfl (by assumption) (by assumption) ?_
    refine E_il dX7_add_8 (by assumption) ?_
    refine E_icmp_ge (tgt := 32) dX7_add_9 (by decide) (fun c_9 => absurd c_9 (fun h => absurd (e.mp h) (by omega))) (fun c_9 => ?_)
    refine E_aload_n (i := 0) dX7_add_12 rfl rfl ?_
    refine E_gr dX7_add_13 gf_X7_19_7 rfl (by assumption) (by assumption) ?_
    refine E_aload_n (i := 0) dX7_add_16 rfl rfl ?_
    refine E_gi dX7_add_17 gf_X7_7_7 rfl (by assumption) ?_
    refine E_iload_n (i := 1) dX7_add_20 rfl rfl ?_
    refine E_is dX7_add_21 (by assumption) (by rw [h4, h5]; exact vp_in_nI hc (by omega)) ?_
    refine E_aload_n (i := 0) dX7_add_22 rfl rfl ?_
    refine E_dup dX7_add_23 rfl ?_
    refine E_gi dX7_add_24 gf_X7_7_7 rfl (by assumption) ?_
    refine E_iconst (v := 1) dX7_add_27 (by decide) ?_
    refine E_iadd dX7_add_28 ?_
    refine E_pi dX7_add_29 gf_X7_7_7 rfl (by assumption) ?_
    refine E_vret dX7_add_32 rfl ?_
    rw [h5, nI_clamp (by omega), u2_oth _ hqr, h5, nI_1]
    exact hΦ
  · rw [if_neg hc] at hΦ
    refine E_aload_n (i := 0) dX7_add_0 rfl rfl ?_
    refine E_gi dX7_add_1 gf_X7_7_7 rfl (by assumption) ?_
    refine E_aload_n (i := 0) dX7_add_4 rfl rfl ?_
    refine E_gr dX7_add_5 gf_X7_19_7 rfl (by assumption) (by assumption) ?_
    refine E_il dX7_add_8 (by assumption) ?_
    refine E_icmp_ge (tgt := 32) dX7_add_9 (by decide) (fun c_9 => ?_) (fun c_9 => absurd (e.mpr (by omega)) c_9)
    refine E_vret dX7_add_32 rfl ?_
    exact hΦ
theorem c_X7_at {r q n k : Nat} {i : Int32} (hd : 1 ≤ d) (hR : Rw g P I r q n k) (hΦ : Φ (some (.int (rat I q k i))) g P I) : MM Γ mX7_at d 0 0 [.ref r, .int i] g P I Φ := by
  refine MM_entry [some _, some _] (by decide) (Nat.le_of_ble_eq_true rfl) rfl ?_
  obtain ⟨h1, h2, h3, h4, h5, h6, h7⟩ := hR
  unfold rat at hΦ
  by_cases hc : 0 ≤ i ∧ i ≤ nI k - 1
  · rw [if_pos hc] at hΦ
    have hc2 := (in_rat (by omega)).mp hc
    refine E_iload_n (i := 1) dX7_at_0 rfl rfl ?_
    refine E_iconst (v := 0) dX7_at_1 (by decide) ?_
    refine E_aload_n (i := 0) dX7_at_2 rfl rfl ?_
    refine E_gi dX7_at_3 gf_X7_7_7 rfl (by assumption) ?_
    refine E_iconst (v := 1) dX7_at_6 (by decide) ?_
    refine E_isub dX7_at_7 ?_
    refine k_X7_at_8 (mc' := 0) (ms' := 0) (rc := 0) (rs := 0) (by omega) (Nat.le_of_ble_eq_true rfl) (c_X11_within ?_)
    rw [h5, bz_t hc]
    refine E_if_eq (tgt := 23) dX7_at_11 (by decide) (fun c_11 => absurd c_11 (by decide)) (fun c_11 => ?_)
    refine E_aload_n (i := 0) dX7_at_14 rfl rfl ?_
    refine E_gr dX7_at_15 gf_X7_19_7 rfl (by assumption) (by assumption) ?_
    refine E_iload_n (i := 1) dX7_at_18 rfl rfl ?_
    refine E_ia dX7_at_19 (by assumption) (by rw [h4]; exact vp_of (by omega)) ?_
    refine E_goto (tgt := 24) dX7_at_20 (by decide) ?_
    refine E_iret dX7_at_24 rfl ?_
    exact hΦ
  · rw [if_neg hc] at hΦ
    refine E_iload_n (i := 1) dX7_at_0 rfl rfl ?_
    refine E_iconst (v := 0) dX7_at_1 (by decide) ?_
    refine E_aload_n (i := 0) dX7_at_2 rfl rfl ?_
    refine E_gi dX7_at_3 gf_X7_7_7 rfl (by assumption) ?_
    refine E_iconst (v := 1) dX7_at_6 (by decide) ?_
    refine E_isub dX7_at_7 ?_
    refine k_X7_at_8 (mc' := 0) (ms' := 0) (rc := 0) (rs := 0) (by omega) (Nat.le_of_ble_eq_true rfl) (c_X11_within ?_)
    rw [h5, bz_f hc]
    refine E_if_eq (tgt := 23) dX7_at_11 (by decide) (fun c_11 => ?_) (fun c_11 => absurd (rfl) c_11)
    refine E_iconst (v := 0) dX7_at_23 (by decide) ?_
    refine E_iret dX7_at_24 rfl ?_
    exact hΦ
theorem c_X7_holds {r q n k : Nat} {i m : Int32} (hR : Rw g P I r q n k) (hΦ : Φ (some (.int (bz (0 ≤ i ∧ 0 ≤ m ∧ i ≤ nI k - m)))) g P I) : MM Γ mX7_holds d 0 0 [.ref r, .int i, .int m] g P I Φ := by
  refine MM_entry [some _, some _, some _] (by decide) (Nat.le_of_ble_eq_true rfl) rfl ?_
  obtain ⟨h1, h2, h3, h4, h5, h6, h7⟩ := hR
  by_cases hc : 0 ≤ i ∧ 0 ≤ m ∧ i ≤ nI k - m
  · rw [bz_t hc] at hΦ
    refine E_iload_n (i := 1) dX7_holds_0 rfl rfl ?_
    refine E_if_lt (tgt := 22) dX7_holds_1 (by decide) (fun c_1 => absurd c_1 (Int32.not_lt.mpr hc.1)) (fun c_1 => ?_)
    refine E_iload_n (i := 2) dX7_holds_4 rfl rfl ?_
    refine E_if_lt (tgt := 22) dX7_holds_5 (by decide) (fun c_5 => absurd c_5 (Int32.not_lt.mpr hc.2.1)) (fun c_5 => ?_)
    refine E_iload_n (i := 1) dX7_holds_8 rfl rfl ?_
    refine E_aload_n (i := 0) dX7_holds_9 rfl rfl ?_
    refine E_gi dX7_holds_10 gf_X7_7_7 rfl (by assumption) ?_
    refine E_iload_n (i := 2) dX7_holds_13 rfl rfl ?_
    refine E_isub dX7_holds_14 ?_
    refine E_icmp_gt (tgt := 22) dX7_holds_15 (by decide) (fun c_15 => absurd c_15 (by rw [h5]; exact Int32.not_lt.mpr hc.2.2)) (fun c_15 => ?_)
    refine E_iconst (v := 1) dX7_holds_18 (by decide) ?_
    refine E_goto (tgt := 23) dX7_holds_19 (by decide) ?_
    refine E_zret dX7_holds_23 rfl rfl ?_
    exact hΦ
  · rw [bz_f hc] at hΦ
    refine E_iload_n (i := 1) dX7_holds_0 rfl rfl ?_
    refine E_if_lt (tgt := 22) dX7_holds_1 (by decide) (fun c_1 => ?_) (fun c_1 => ?_)
    · refine E_iconst (v := 0) dX7_holds_22 (by decide) ?_
      refine E_zret dX7_holds_23 rfl rfl ?_
      exact hΦ
    · refine E_iload_n (i := 2) dX7_holds_4 rfl rfl ?_
      refine E_if_lt (tgt := 22) dX7_holds_5 (by decide) (fun c_5 => ?_) (fun c_5 => ?_)
      · refine E_iconst (v := 0) dX7_holds_22 (by decide) ?_
        refine E_zret dX7_holds_23 rfl rfl ?_
        exact hΦ
      · refine E_iload_n (i := 1) dX7_holds_8 rfl rfl ?_
        refine E_aload_n (i := 0) dX7_holds_9 rfl rfl ?_
        refine E_gi dX7_holds_10 gf_X7_7_7 rfl (by assumption) ?_
        refine E_iload_n (i := 2) dX7_holds_13 rfl rfl ?_
        refine E_isub dX7_holds_14 ?_
        refine E_icmp_gt (tgt := 22) dX7_holds_15 (by decide) (fun c_15 => ?_) (fun c_15 => ?_)
        · refine E_iconst (v := 0) dX7_holds_22 (by decide) ?_
          refine E_zret dX7_holds_23 rfl rfl ?_
          exact hΦ
        · rw [h5] at c_15
          exact absurd ⟨Int32.not_lt.mp c_1, Int32.not_lt.mp c_5, Int32.not_lt.mp c_15⟩ hc
theorem c_X7_clear {r q n k : Nat} (hR : Rw g P I r q n k) (hΦ : Φ none g P (u2 I r 1 0)) : MM Γ mX7_clear d 0 0 [.ref r] g P I Φ := by
  refine MM_entry [some _] (by decide) (Nat.le_of_ble_eq_true rfl) rfl ?_
  obtain ⟨h1, h2, h3, h4, h5, h6, h7⟩ := hR
  refine E_aload_n (i := 0) dX7_clear_0 rfl rfl ?_
  refine E_iconst (v := 0) dX7_clear_1 (by decide) ?_
  refine E_pi dX7_clear_2 gf_X7_7_7 rfl (by assumption) ?_
  refine E_vret dX7_clear_5 rfl ?_
  exact hΦ
theorem c_X7_becomes {r q n k : Nat} {i v : Int32} (hd : 1 ≤ d) (hR : Rw g P I r q n k) (hΦ : Φ none g P (if 0 ≤ i ∧ i ≤ nI k - 1 then u2 I q i.toNatClampNeg v else I)) : MM Γ mX7_becomes d 0 0 [.ref r, .int i, .int v] g P I Φ := by
  refine MM_entry [some _, some _, some _] (by decide) (Nat.le_of_ble_eq_true rfl) rfl ?_
  obtain ⟨h1, h2, h3, h4, h5, h6, h7⟩ := hR
  by_cases hc : 0 ≤ i ∧ i ≤ nI k - 1
  · rw [if_pos hc] at hΦ
    have hc2 := (in_rat (by omega)).mp hc
    refine E_iload_n (i := 1) dX7_becomes_0 rfl rfl ?_
    refine E_iconst (v := 0) dX7_becomes_1 (by decide) ?_
    refine E_aload_n (i := 0) dX7_becomes_2 rfl rfl ?_
    refine E_gi dX7_becomes_3 gf_X7_7_7 rfl (by assumption) ?_
    refine E_iconst (v := 1) dX7_becomes_6 (by decide) ?_
    refine E_isub dX7_becomes_7 ?_
    refine k_X7_becomes_8 (mc' := 0) (ms' := 0) (rc := 0) (rs := 0) (by omega) (Nat.le_of_ble_eq_true rfl) (c_X11_within ?_)
    rw [h5, bz_t hc]
    refine E_if_eq (tgt := 21) dX7_becomes_11 (by decide) (fun c_11 => absurd c_11 (by decide)) (fun c_11 => ?_)
    refine E_aload_n (i := 0) dX7_becomes_14 rfl rfl ?_
    refine E_gr dX7_becomes_15 gf_X7_19_7 rfl (by assumption) (by assumption) ?_
    refine E_iload_n (i := 1) dX7_becomes_18 rfl rfl ?_
    refine E_iload_n (i := 2) dX7_becomes_19 rfl rfl ?_
    refine E_is dX7_becomes_20 (by assumption) (by rw [h4]; exact vp_of (by omega)) ?_
    refine E_vret dX7_becomes_21 rfl ?_
    exact hΦ
  · rw [if_neg hc] at hΦ
    refine E_iload_n (i := 1) dX7_becomes_0 rfl rfl ?_
    refine E_iconst (v := 0) dX7_becomes_1 (by decide) ?_
    refine E_aload_n (i := 0) dX7_becomes_2 rfl rfl ?_
    refine E_gi dX7_becomes_3 gf_X7_7_7 rfl (by assumption) ?_
    refine E_iconst (v := 1) dX7_becomes_6 (by decide) ?_
    refine E_isub dX7_becomes_7 ?_
    refine k_X7_becomes_8 (mc' := 0) (ms' := 0) (rc := 0) (rs := 0) (by omega) (Nat.le_of_ble_eq_true rfl) (c_X11_within ?_)
    rw [h5, bz_f hc]
    refine E_if_eq (tgt := 21) dX7_becomes_11 (by decide) (fun c_11 => ?_) (fun c_11 => absurd (rfl) c_11)
    refine E_vret dX7_becomes_21 rfl ?_
    exact hΦ
/-- the first k numbers of a row of cells are v -/
def fil (f : Nat → Int32) (k : Nat) (v : Int32) : Nat → Int32 := fun j => if j < k then v else f j
theorem fil_0 (f : Nat → Int32) (v : Int32) : fil f 0 v = f := by funext j; simp [fil]
theorem fil_s (f : Nat → Int32) (k : Nat) (v : Int32) : ur (fil f k v) k v = fil f (k + 1) v := by
  funext j
  unfold ur fil
  by_cases h : j = k
  · rw [if_pos h, if_pos (by omega)]
  · rw [if_neg h]
    by_cases h2 : j < k
    · rw [if_pos h2, if_pos (by omega)]
    · rw [if_neg h2, if_neg (by omega)]
theorem ur_ur {α : Type} (f : Nat → α) (a : Nat) (r r' : α) : ur (ur f a r) a r' = ur f a r' := by
  funext b
  unfold ur
  split <;> rfl
theorem ur_id {α : Type} (f : Nat → α) (a : Nat) : ur f a (f a) = f := by
  funext b
  unfold ur
  split
  · next h => rw [h]
  · rfl
theorem hel_n {k n : Nat} (h : k ≤ n) (hn : n ≤ 1000) : hel (nI k) 0 (nI n) = nI k := by
  unfold hel
  have h1 : ¬ nI n < nI k := nI_nlt h (by omega)
  rw [if_neg h1]
  by_cases h2 : 0 < nI k
  · rw [if_pos h2]
  · rw [if_neg h2]
    have h3 := Int32.not_lt.mp h2
    rw [i32_le, nI_toInt (by omega), Int32.toInt_zero] at h3
    have : k = 0 := by omega
    subst this
    rfl
theorem c_X7_becomesZeros {r q n k k' : Nat} (hd : 2 ≤ d) (hR : Rw g P I r q n k) (hk : k' ≤ n) (hΦ : Φ none g P (ur (u2 I r 1 (nI k')) q (fil (I q) k' 0))) : MM Γ mX7_becomesZeros d 0 0 [.ref r, .int (nI k')] g P I Φ := by
  refine MM_entry [some _, some _, none] (by decide) (Nat.le_of_ble_eq_true rfl) rfl ?_
  obtain ⟨h1, h2, h3, h4, h5, h6, h7⟩ := hR
  have hqr : r ≠ q := fun h => by have a := h1.1; have b := h3.1; rw [h] at a; omega
  have loop : ∀ (N j : Nat) (x : Int32) (J : HI), k' - j ≤ N → j ≤ k' → x = nI j → J = ur (u2 I r 1 (nI k')) q (fil (I q) j 0) → E Γ mX7_becomesZeros d 0 0 (QM Γ 0 0 Φ) 0 0 16 [some (.ref r), some (.int (nI k')), some (.int x)] [] g P J := by
    intro N
    induction N with
    | zero =>
      intro j x J hN hj hx hJ
      have : j = k' := by omega
      subst this
      have hs : J r 1 = nI j := by rw [hJ, ur_n _ _ hqr, u2_s]
      refine E_iload_n (i := 2) dX7_becomesZeros_16 rfl rfl ?_
      refine E_aload_n (i := 0) dX7_becomesZeros_17 rfl rfl ?_
      refine E_gi dX7_becomesZeros_18 gf_X7_7_7 rfl (by assumption) ?_
      refine E_icmp_ge (tgt := 37) dX7_becomesZeros_21 (by decide) (fun c_21 => ?_) (fun c_21 => absurd (by rw [hs, hx]; exact Int32.le_refl _) c_21)
      refine E_vret dX7_becomesZeros_37 rfl ?_
      rw [hJ]
      exact hΦ
    | succ N ih =>
      intro j x J hN hj hx hJ
      have hs : J r 1 = nI k' := by rw [hJ, ur_n _ _ hqr, u2_s]
      by_cases hjk : j = k'
      · subst hjk
        refine E_iload_n (i := 2) dX7_becomesZeros_16 rfl rfl ?_
        refine E_aload_n (i := 0) dX7_becomesZeros_17 rfl rfl ?_
        refine E_gi dX7_becomesZeros_18 gf_X7_7_7 rfl (by assumption) ?_
        refine E_icmp_ge (tgt := 37) dX7_becomesZeros_21 (by decide) (fun c_21 => ?_) (fun c_21 => absurd (by rw [hs, hx]; exact Int32.le_refl _) c_21)
        refine E_vret dX7_becomesZeros_37 rfl ?_
        rw [hJ]
        exact hΦ
      · refine E_iload_n (i := 2) dX7_becomesZeros_16 rfl rfl ?_
        refine E_aload_n (i := 0) dX7_becomesZeros_17 rfl rfl ?_
        refine E_gi dX7_becomesZeros_18 gf_X7_7_7 rfl (by assumption) ?_
        refine E_icmp_ge (tgt := 37) dX7_becomesZeros_21 (by decide) (fun c_21 => absurd c_21 (by rw [hs, hx]; exact nI_ge (by omega) (by omega))) (fun c_21 => ?_)
        refine E_aload_n (i := 0) dX7_becomesZeros_24 rfl rfl ?_
        refine E_gr dX7_becomesZeros_25 gf_X7_19_7 rfl (by assumption) (by assumption) ?_
        refine E_iload_n (i := 2) dX7_becomesZeros_28 rfl rfl ?_
        refine E_iconst (v := 0) dX7_becomesZeros_29 (by decide) ?_
        refine E_is dX7_becomesZeros_30 (by assumption) (by rw [h4, hx]; exact vp_in_nI (by omega) (by omega)) ?_
        refine E_incC (c := 1) dX7_becomesZeros_31 rfl (by decide) (by decide) rfl ?_
        refine E_lv (lv' := [_, _, _]) rfl ?_
        refine E_goto (tgt := 16) dX7_becomesZeros_34 (by decide) ?_
        refine ih (j + 1) _ _ (by omega) (by omega) (by rw [hx, nI_1]) ?_
        rw [hJ, hx, nI_clamp (by omega)]
        unfold u2
        rw [ur_s, fil_s, ur_ur]
  refine E_aload_n (i := 0) dX7_becomesZeros_0 rfl rfl ?_
  refine E_iload_n (i := 1) dX7_becomesZeros_1 rfl rfl ?_
  refine E_iconst (v := 0) dX7_becomesZeros_2 (by decide) ?_
  refine E_aload_n (i := 0) dX7_becomesZeros_3 rfl rfl ?_
  refine E_gr dX7_becomesZeros_4 gf_X7_19_7 rfl (by assumption) (by assumption) ?_
  refine E_il dX7_becomesZeros_7 (by assumption) ?_
  refine k_X7_becomesZeros_8 (mc' := 0) (ms' := 0) (rc := 0) (rs := 0) (by omega) (Nat.le_of_ble_eq_true rfl) (c_X11_held (by omega) ?_)
  rw [h4, hel_n hk h7]
  refine E_pi dX7_becomesZeros_11 gf_X7_7_7 rfl (by assumption) ?_
  refine E_iconst (v := 0) dX7_becomesZeros_14 (by decide) ?_
  refine E_istore_nC (i := 2) dX7_becomesZeros_15 rfl (by decide) rfl ?_
  refine E_lv (lv' := [_, _, _]) rfl ?_
  refine loop k' 0 _ _ (by omega) (by omega) rfl ?_
  rw [fil_0]
  have : (u2 I r 1 (nI k')) q = I q := u2_oth _ (Ne.symm hqr)
  rw [← this, ur_id]
theorem c_X7_copyFrom {r q n k r' q' n' k' : Nat} (hd : 1 ≤ d) (hR : Rw g P I r q n k) (hR' : Rw g P I r' q' n' k') (hk : k' ≤ n) (hne : r ≠ r') (hΦ : Φ none g P (ur (u2 I r 1 (nI k')) q (va_cpy (I q') (I q) 0 0 k'))) : MM Γ mX7_copyFrom d 0 0 [.ref r, .ref r'] g P I Φ := by
  refine MM_entry [some _, some _] (by decide) (Nat.le_of_ble_eq_true rfl) rfl ?_
  obtain ⟨h1, h2, h3, h4, h5, h6, h7⟩ := hR
  obtain ⟨j1, j2, j3, j4, j5, j6, j7⟩ := hR'
  have hqr : r ≠ q := fun h => by have a := h1.1; have b := h3.1; rw [h] at a; omega
  have hqr' : r ≠ q' := fun h => by have a := h1.1; have b := j3.1; rw [h] at a; omega
  have e : (if nI (g.2.2 q) < I r' 1 then nI (g.2.2 q) else I r' 1) = nI k' := by rw [h4, j5, if_neg (nI_nlt hk (by omega))]
  have c0 : (0 : Int32).toNatClampNeg = 0 := rfl
  refine E_aload_n (i := 0) dX7_copyFrom_0 rfl rfl ?_
  refine E_aload_n (i := 1) dX7_copyFrom_1 rfl rfl ?_
  refine E_gi dX7_copyFrom_2 gf_X7_7_7 rfl (by assumption) ?_
  refine E_aload_n (i := 0) dX7_copyFrom_5 rfl rfl ?_
  refine E_gr dX7_copyFrom_6 gf_X7_19_7 rfl (by assumption) (by assumption) ?_
  refine E_il dX7_copyFrom_9 (by assumption) ?_
  refine E_min dX7_copyFrom_10 w_787 w_381 w_74 w_382 (Nat.le_of_ble_eq_true rfl) (by omega) ?_
  rw [e]
  refine E_pi dX7_copyFrom_13 gf_X7_7_7 rfl (by assumption) ?_
  refine E_aload_n (i := 1) dX7_copyFrom_16 rfl rfl ?_
  refine E_gr dX7_copyFrom_17 gf_X7_19_7 rfl (by assumption) (by assumption) ?_
  refine E_iconst (v := 0) dX7_copyFrom_20 (by decide) ?_
  refine E_aload_n (i := 0) dX7_copyFrom_21 rfl rfl ?_
  refine E_gr dX7_copyFrom_22 gf_X7_19_7 rfl (by assumption) (by assumption) ?_
  refine E_iconst (v := 0) dX7_copyFrom_25 (by decide) ?_
  refine E_aload_n (i := 0) dX7_copyFrom_26 rfl rfl ?_
  refine E_gi dX7_copyFrom_27 gf_X7_7_7 rfl (by assumption) ?_
  rw [u2_s]
  refine E_copy dX7_copyFrom_30 w_788 w_790 w_789 w_90 (Nat.le_of_ble_eq_true rfl) (by omega) j3.1 j3.2.1 j3.2.2 h3.1 h3.2.1 h3.2.2 (by decide) (by decide) (nI_pos (by omega)) (by rw [j4, c0, nI_clamp (by omega)]; omega) (by rw [h4, c0, nI_clamp (by omega)]; omega) ?_
  refine E_vret dX7_copyFrom_33 rfl ?_
  rw [c0, nI_clamp (by omega), u2_oth _ (Ne.symm hqr), u2_oth _ (Ne.symm hqr')]
  exact hΦ
end
