/-! the model's voices -/
def madd (I : HI) (v : Int32) : HI := if (I 109 21).toNatClampNeg < 40 then u2 (u2 I 123 (I 109 21).toNatClampNeg v) 109 21 (I 109 21 + 1) else I
def mads (I : HI) (l : List Int32) : HI := l.foldl madd I
/-- a speaker of a kind, and room for a trace -/
def Sp (I : HI) (r kd : Nat) : Prop := I 109 22 = nI r ∧ r < 8 ∧ I 110 (16 + 7 * r + 0) = nI kd ∧ ∃ k, I 109 21 = nI k ∧ k ≤ 40
theorem madd_o {I : HI} {v : Int32} {a : Nat} (h : a ≠ 109) (h2 : a ≠ 123) : madd I v a = I a := by
  unfold madd
  split
  · rw [u2_oth _ h, u2_oth _ h2]
  · rfl
theorem madd_s {I : HI} {v : Int32} {k : Nat} (h : k ≠ 21) : madd I v 109 k = I 109 k := by
  unfold madd
  split
  · rw [u2_o (fun q => h q.2), u2_oth _ (by decide)]
  · rfl
theorem Sp_1 {I : HI} {v : Int32} {r kd : Nat} (h : Sp I r kd) : Sp (madd I v) r kd := by
  obtain ⟨h1, h2, h3, k, h4, h5⟩ := h
  refine ⟨by rw [madd_s (by decide)]; exact h1, h2, by rw [madd_o (by decide) (by decide)]; exact h3, ?_⟩
  unfold madd
  rw [h4, nI_clamp (by omega)]
  split
  · exact ⟨k + 1, by rw [u2_s, nI_1], by omega⟩
  · exact ⟨k, h4, h5⟩
theorem Sp_m : ∀ (l : List Int32) {I : HI} {r kd : Nat}, Sp I r kd → Sp (mads I l) r kd
  | [], _, _, _, h => h
  | v :: l, I, _, _, h => Sp_m l (I := madd I v) (Sp_1 h)
theorem mads_110 : ∀ (l : List Int32) (I : HI), mads I l 110 = I 110
  | [], I => rfl
  | v :: l, I => by
    show mads (madd I v) l 110 = I 110
    rw [mads_110 l (madd I v), madd_o (by decide) (by decide)]
theorem mads_22 : ∀ (l : List Int32) (I : HI), mads I l 109 22 = I 109 22
  | [], I => rfl
  | v :: l, I => by
    show mads (madd I v) l 109 22 = I 109 22
    rw [mads_22 l (madd I v), madd_s (by decide)]
theorem mads_app (I : HI) (l m : List Int32) : mads (mads I l) m = mads I (l ++ m) := by
  unfold mads
  rw [List.foldl_append]
section
variable {Γ : GE} {d : Nat} {g : Sh} {P : HP} {I : HI} {Φ : Option Value → Sh → HP → HI → Prop}
theorem c_madd {v : Int32} {r kd : Nat} (hM : Mo g P) (hS : Sp I r kd) (hΦ : Φ none g P (mads I [v])) : MM Γ mX12_began d 0 0 [.ref 109, .int v] g P I Φ := by
  refine MM_entry [some _, some _] (by decide) (Nat.le_of_ble_eq_true rfl) rfl ?_
  obtain ⟨n1, n2, n3⟩ := hM.tr
  have h0 := hM.1
  obtain ⟨_, _, _, k, h4, h5⟩ := hS
  have e : mads I [v] = if k < 40 then u2 (u2 I 123 k v) 109 21 (nI (k + 1)) else I := by
    show madd I v = _
    unfold madd
    rw [h4, nI_clamp (by omega), nI_1]
  rw [e] at hΦ
  by_cases hc : k < 40
  · rw [if_pos hc] at hΦ
    refine E_aload_n (i := 0) dX12_began_0 rfl rfl ?_
    refine E_gi dX12_began_1 gf_X12_282_12 rfl (by assumption) ?_
    refine E_bipush (v := 40) dX12_began_4 (by decide) ?_
    rw [h4]
    refine E_icmp_ge (tgt := 29) dX12_began_6 (by decide) (fun c_6 => absurd c_6 (nI_ge (b := 40) hc (by omega))) (fun c_6 => ?_)
    refine E_aload_n (i := 0) dX12_began_9 rfl rfl ?_
    refine E_gr dX12_began_10 gf_X12_57_12 rfl (by assumption) (by assumption) ?_
    refine E_aload_n (i := 0) dX12_began_13 rfl rfl ?_
    refine E_gi dX12_began_14 gf_X12_282_12 rfl (by assumption) ?_
    rw [h4]
    refine E_iload_n (i := 1) dX12_began_17 rfl rfl ?_
    refine E_isj k dX12_began_18 (by assumption) rfl (by first | decide | omega) (by rw [n3]; omega) ?_
    refine E_aload_n (i := 0) dX12_began_19 rfl rfl ?_
    refine E_dup dX12_began_20 rfl ?_
    refine E_gi dX12_began_21 gf_X12_282_12 rfl (by assumption) ?_
    rw [u2_oth _ (by decide), h4]
    refine E_iconst (v := 1) dX12_began_24 (by decide) ?_
    refine E_iadd dX12_began_25 ?_
    refine E_pi dX12_began_26 gf_X12_282_12 rfl (by assumption) ?_
    refine E_vret dX12_began_29 rfl ?_
    rw [nI_1]
    exact hΦ
  · rw [if_neg hc] at hΦ
    refine E_aload_n (i := 0) dX12_began_0 rfl rfl ?_
    refine E_gi dX12_began_1 gf_X12_282_12 rfl (by assumption) ?_
    refine E_bipush (v := 40) dX12_began_4 (by decide) ?_
    rw [h4]
    refine E_icmp_ge (tgt := 29) dX12_began_6 (by decide) (fun c_6 => ?_) (fun c_6 => absurd ((nI_leI (a := 40) (by omega) (by omega)).mpr (by omega)) c_6)
    refine E_vret dX12_began_29 rfl ?_
    exact hΦ
theorem ho_0_0 (hΦ : Φ (some (.int 1)) g P I) : MM Γ mX12_hasOwn d 0 0 [.int 0, .int 0] g P I Φ := by
  refine MM_entry [some _, some _] (by decide) (Nat.le_of_ble_eq_true rfl) rfl ?_
  refine E_iload_n (i := 0) dX12_hasOwn_0 rfl rfl ?_
  refine E_tswIn (tgt := 40) dX12_hasOwn_1 (by decide) (by decide) rfl (by decide) ?_
  refine E_iconst (v := 1) dX12_hasOwn_40 (by decide) ?_
  refine E_zret dX12_hasOwn_41 rfl rfl ?_
  exact hΦ
theorem ho_0_1 (hΦ : Φ (some (.int 1)) g P I) : MM Γ mX12_hasOwn d 0 0 [.int 0, .int 1] g P I Φ := by
  refine MM_entry [some _, some _] (by decide) (Nat.le_of_ble_eq_true rfl) rfl ?_
  refine E_iload_n (i := 0) dX12_hasOwn_0 rfl rfl ?_
  refine E_tswIn (tgt := 40) dX12_hasOwn_1 (by decide) (by decide) rfl (by decide) ?_
  refine E_iconst (v := 1) dX12_hasOwn_40 (by decide) ?_
  refine E_zret dX12_hasOwn_41 rfl rfl ?_
  exact hΦ
theorem ho_0_2 (hΦ : Φ (some (.int 1)) g P I) : MM Γ mX12_hasOwn d 0 0 [.int 0, .int 2] g P I Φ := by
  refine MM_entry [some _, some _] (by decide) (Nat.le_of_ble_eq_true rfl) rfl ?_
  refine E_iload_n (i := 0) dX12_hasOwn_0 rfl rfl ?_
  refine E_tswIn (tgt := 40) dX12_hasOwn_1 (by decide) (by decide) rfl (by decide) ?_
  refine E_iconst (v := 1) dX12_hasOwn_40 (by decide) ?_
  refine E_zret dX12_hasOwn_41 rfl rfl ?_
  exact hΦ
theorem ho_0_3 (hΦ : Φ (some (.int 1)) g P I) : MM Γ mX12_hasOwn d 0 0 [.int 0, .int 3] g P I Φ := by
  refine MM_entry [some _, some _] (by decide) (Nat.le_of_ble_eq_true rfl) rfl ?_
  refine E_iload_n (i := 0) dX12_hasOwn_0 rfl rfl ?_
  refine E_tswIn (tgt := 40) dX12_hasOwn_1 (by decide) (by decide) rfl (by decide) ?_
  refine E_iconst (v := 1) dX12_hasOwn_40 (by decide) ?_
  refine E_zret dX12_hasOwn_41 rfl rfl ?_
  exact hΦ
theorem ho_1_0 (hΦ : Φ (some (.int 0)) g P I) : MM Γ mX12_hasOwn d 0 0 [.int 1, .int 0] g P I Φ := by
  refine MM_entry [some _, some _] (by decide) (Nat.le_of_ble_eq_true rfl) rfl ?_
  refine E_iload_n (i := 0) dX12_hasOwn_0 rfl rfl ?_
  refine E_tswIn (tgt := 42) dX12_hasOwn_1 (by decide) (by decide) rfl (by decide) ?_
  refine E_iload_n (i := 1) dX12_hasOwn_42 rfl rfl ?_
  refine E_iconst (v := 1) dX12_hasOwn_43 (by decide) ?_
  refine E_icmp_ne (tgt := 51) dX12_hasOwn_44 (by decide) (fun c_44 => ?_) (fun c_44 => absurd c_44 (by decide))
  refine E_iconst (v := 0) dX12_hasOwn_51 (by decide) ?_
  refine E_zret dX12_hasOwn_52 rfl rfl ?_
  exact hΦ
theorem ho_1_1 (hΦ : Φ (some (.int 1)) g P I) : MM Γ mX12_hasOwn d 0 0 [.int 1, .int 1] g P I Φ := by
  refine MM_entry [some _, some _] (by decide) (Nat.le_of_ble_eq_true rfl) rfl ?_
  refine E_iload_n (i := 0) dX12_hasOwn_0 rfl rfl ?_
  refine E_tswIn (tgt := 42) dX12_hasOwn_1 (by decide) (by decide) rfl (by decide) ?_
  refine E_iload_n (i := 1) dX12_hasOwn_42 rfl rfl ?_
  refine E_iconst (v := 1) dX12_hasOwn_43 (by decide) ?_
  refine E_icmp_ne (tgt := 51) dX12_hasOwn_44 (by decide) (fun c_44 => absurd (by decide) c_44) (fun c_44 => ?_)
  refine E_iconst (v := 1) dX12_hasOwn_47 (by decide) ?_
  refine E_goto (tgt := 52) dX12_hasOwn_48 (by decide) ?_
  refine E_zret dX12_hasOwn_52 rfl rfl ?_
  exact hΦ
theorem ho_1_2 (hΦ : Φ (some (.int 0)) g P I) : MM Γ mX12_hasOwn d 0 0 [.int 1, .int 2] g P I Φ := by
  refine MM_entry [some _, some _] (by decide) (Nat.le_of_ble_eq_true rfl) rfl ?_
  refine E_iload_n (i := 0) dX12_hasOwn_0 rfl rfl ?_
  refine E_tswIn (tgt := 42) dX12_hasOwn_1 (by decide) (by decide) rfl (by decide) ?_
  refine E_iload_n (i := 1) dX12_hasOwn_42 rfl rfl ?_
  refine E_iconst (v := 1) dX12_hasOwn_43 (by decide) ?_
  refine E_icmp_ne (tgt := 51) dX12_hasOwn_44 (by decide) (fun c_44 => ?_) (fun c_44 => absurd c_44 (by decide))
  refine E_iconst (v := 0) dX12_hasOwn_51 (by decide) ?_
  refine E_zret dX12_hasOwn_52 rfl rfl ?_
  exact hΦ
theorem ho_1_3 (hΦ : Φ (some (.int 0)) g P I) : MM Γ mX12_hasOwn d 0 0 [.int 1, .int 3] g P I Φ := by
  refine MM_entry [some _, some _] (by decide) (Nat.le_of_ble_eq_true rfl) rfl ?_
  refine E_iload_n (i := 0) dX12_hasOwn_0 rfl rfl ?_
  refine E_tswIn (tgt := 42) dX12_hasOwn_1 (by decide) (by decide) rfl (by decide) ?_
  refine E_iload_n (i := 1) dX12_hasOwn_42 rfl rfl ?_
  refine E_iconst (v := 1) dX12_hasOwn_43 (by decide) ?_
  refine E_icmp_ne (tgt := 51) dX12_hasOwn_44 (by decide) (fun c_44 => ?_) (fun c_44 => absurd c_44 (by decide))
  refine E_iconst (v := 0) dX12_hasOwn_51 (by decide) ?_
  refine E_zret dX12_hasOwn_52 rfl rfl ?_
  exact hΦ
theorem ho_2_0 (hΦ : Φ (some (.int 1)) g P I) : MM Γ mX12_hasOwn d 0 0 [.int 2, .int 0] g P I Φ := by
  refine MM_entry [some _, some _] (by decide) (Nat.le_of_ble_eq_true rfl) rfl ?_
  refine E_iload_n (i := 0) dX12_hasOwn_0 rfl rfl ?_
  refine E_tswIn (tgt := 53) dX12_hasOwn_1 (by decide) (by decide) rfl (by decide) ?_
  refine E_iload_n (i := 1) dX12_hasOwn_53 rfl rfl ?_
  refine E_if_ne (tgt := 61) dX12_hasOwn_54 (by decide) (fun c_54 => absurd (by decide) c_54) (fun c_54 => ?_)
  refine E_iconst (v := 1) dX12_hasOwn_57 (by decide) ?_
  refine E_goto (tgt := 62) dX12_hasOwn_58 (by decide) ?_
  refine E_zret dX12_hasOwn_62 rfl rfl ?_
  exact hΦ
theorem ho_2_1 (hΦ : Φ (some (.int 0)) g P I) : MM Γ mX12_hasOwn d 0 0 [.int 2, .int 1] g P I Φ := by
  refine MM_entry [some _, some _] (by decide) (Nat.le_of_ble_eq_true rfl) rfl ?_
  refine E_iload_n (i := 0) dX12_hasOwn_0 rfl rfl ?_
  refine E_tswIn (tgt := 53) dX12_hasOwn_1 (by decide) (by decide) rfl (by decide) ?_
  refine E_iload_n (i := 1) dX12_hasOwn_53 rfl rfl ?_
  refine E_if_ne (tgt := 61) dX12_hasOwn_54 (by decide) (fun c_54 => ?_) (fun c_54 => absurd c_54 (by decide))
  refine E_iconst (v := 0) dX12_hasOwn_61 (by decide) ?_
  refine E_zret dX12_hasOwn_62 rfl rfl ?_
  exact hΦ
theorem ho_2_2 (hΦ : Φ (some (.int 0)) g P I) : MM Γ mX12_hasOwn d 0 0 [.int 2, .int 2] g P I Φ := by
  refine MM_entry [some _, some _] (by decide) (Nat.le_of_ble_eq_true rfl) rfl ?_
  refine E_iload_n (i := 0) dX12_hasOwn_0 rfl rfl ?_
  refine E_tswIn (tgt := 53) dX12_hasOwn_1 (by decide) (by decide) rfl (by decide) ?_
  refine E_iload_n (i := 1) dX12_hasOwn_53 rfl rfl ?_
  refine E_if_ne (tgt := 61) dX12_hasOwn_54 (by decide) (fun c_54 => ?_) (fun c_54 => absurd c_54 (by decide))
  refine E_iconst (v := 0) dX12_hasOwn_61 (by decide) ?_
  refine E_zret dX12_hasOwn_62 rfl rfl ?_
  exact hΦ
theorem ho_2_3 (hΦ : Φ (some (.int 0)) g P I) : MM Γ mX12_hasOwn d 0 0 [.int 2, .int 3] g P I Φ := by
  refine MM_entry [some _, some _] (by decide) (Nat.le_of_ble_eq_true rfl) rfl ?_
  refine E_iload_n (i := 0) dX12_hasOwn_0 rfl rfl ?_
  refine E_tswIn (tgt := 53) dX12_hasOwn_1 (by decide) (by decide) rfl (by decide) ?_
  refine E_iload_n (i := 1) dX12_hasOwn_53 rfl rfl ?_
  refine E_if_ne (tgt := 61) dX12_hasOwn_54 (by decide) (fun c_54 => ?_) (fun c_54 => absurd c_54 (by decide))
  refine E_iconst (v := 0) dX12_hasOwn_61 (by decide) ?_
  refine E_zret dX12_hasOwn_62 rfl rfl ?_
  exact hΦ
theorem ho_3_0 (hΦ : Φ (some (.int 0)) g P I) : MM Γ mX12_hasOwn d 0 0 [.int 3, .int 0] g P I Φ := by
  refine MM_entry [some _, some _] (by decide) (Nat.le_of_ble_eq_true rfl) rfl ?_
  refine E_iload_n (i := 0) dX12_hasOwn_0 rfl rfl ?_
  refine E_tswIn (tgt := 63) dX12_hasOwn_1 (by decide) (by decide) rfl (by decide) ?_
  refine E_iload_n (i := 1) dX12_hasOwn_63 rfl rfl ?_
  refine E_iconst (v := 2) dX12_hasOwn_64 (by decide) ?_
  refine E_icmp_ne (tgt := 72) dX12_hasOwn_65 (by decide) (fun c_65 => ?_) (fun c_65 => absurd c_65 (by decide))
  refine E_iconst (v := 0) dX12_hasOwn_72 (by decide) ?_
  refine E_zret dX12_hasOwn_73 rfl rfl ?_
  exact hΦ
theorem ho_3_1 (hΦ : Φ (some (.int 0)) g P I) : MM Γ mX12_hasOwn d 0 0 [.int 3, .int 1] g P I Φ := by
  refine MM_entry [some _, some _] (by decide) (Nat.le_of_ble_eq_true rfl) rfl ?_
  refine E_iload_n (i := 0) dX12_hasOwn_0 rfl rfl ?_
  refine E_tswIn (tgt := 63) dX12_hasOwn_1 (by decide) (by decide) rfl (by decide) ?_
  refine E_iload_n (i := 1) dX12_hasOwn_63 rfl rfl ?_
  refine E_iconst (v := 2) dX12_hasOwn_64 (by decide) ?_
  refine E_icmp_ne (tgt := 72) dX12_hasOwn_65 (by decide) (fun c_65 => ?_) (fun c_65 => absurd c_65 (by decide))
  refine E_iconst (v := 0) dX12_hasOwn_72 (by decide) ?_
  refine E_zret dX12_hasOwn_73 rfl rfl ?_
  exact hΦ
theorem ho_3_2 (hΦ : Φ (some (.int 1)) g P I) : MM Γ mX12_hasOwn d 0 0 [.int 3, .int 2] g P I Φ := by
  refine MM_entry [some _, some _] (by decide) (Nat.le_of_ble_eq_true rfl) rfl ?_
  refine E_iload_n (i := 0) dX12_hasOwn_0 rfl rfl ?_
  refine E_tswIn (tgt := 63) dX12_hasOwn_1 (by decide) (by decide) rfl (by decide) ?_
  refine E_iload_n (i := 1) dX12_hasOwn_63 rfl rfl ?_
  refine E_iconst (v := 2) dX12_hasOwn_64 (by decide) ?_
  refine E_icmp_ne (tgt := 72) dX12_hasOwn_65 (by decide) (fun c_65 => absurd (by decide) c_65) (fun c_65 => ?_)
  refine E_iconst (v := 1) dX12_hasOwn_68 (by decide) ?_
  refine E_goto (tgt := 73) dX12_hasOwn_69 (by decide) ?_
  refine E_zret dX12_hasOwn_73 rfl rfl ?_
  exact hΦ
theorem ho_3_3 (hΦ : Φ (some (.int 0)) g P I) : MM Γ mX12_hasOwn d 0 0 [.int 3, .int 3] g P I Φ := by
  refine MM_entry [some _, some _] (by decide) (Nat.le_of_ble_eq_true rfl) rfl ?_
  refine E_iload_n (i := 0) dX12_hasOwn_0 rfl rfl ?_
  refine E_tswIn (tgt := 63) dX12_hasOwn_1 (by decide) (by decide) rfl (by decide) ?_
  refine E_iload_n (i := 1) dX12_hasOwn_63 rfl rfl ?_
  refine E_iconst (v := 2) dX12_hasOwn_64 (by decide) ?_
  refine E_icmp_ne (tgt := 72) dX12_hasOwn_65 (by decide) (fun c_65 => ?_) (fun c_65 => absurd c_65 (by decide))
  refine E_iconst (v := 0) dX12_hasOwn_72 (by decide) ?_
  refine E_zret dX12_hasOwn_73 rfl rfl ?_
  exact hΦ
theorem ho_4_0 (hΦ : Φ (some (.int 0)) g P I) : MM Γ mX12_hasOwn d 0 0 [.int 4, .int 0] g P I Φ := by
  refine MM_entry [some _, some _] (by decide) (Nat.le_of_ble_eq_true rfl) rfl ?_
  refine E_iload_n (i := 0) dX12_hasOwn_0 rfl rfl ?_
  refine E_tswIn (tgt := 74) dX12_hasOwn_1 (by decide) (by decide) rfl (by decide) ?_
  refine E_iload_n (i := 1) dX12_hasOwn_74 rfl rfl ?_
  refine E_iconst (v := 3) dX12_hasOwn_75 (by decide) ?_
  refine E_icmp_ne (tgt := 83) dX12_hasOwn_76 (by decide) (fun c_76 => ?_) (fun c_76 => absurd c_76 (by decide))
  refine E_iconst (v := 0) dX12_hasOwn_83 (by decide) ?_
  refine E_zret dX12_hasOwn_84 rfl rfl ?_
  exact hΦ
theorem ho_4_1 (hΦ : Φ (some (.int 0)) g P I) : MM Γ mX12_hasOwn d 0 0 [.int 4, .int 1] g P I Φ := by
  refine MM_entry [some _, some _] (by decide) (Nat.le_of_ble_eq_true rfl) rfl ?_
  refine E_iload_n (i := 0) dX12_hasOwn_0 rfl rfl ?_
  refine E_tswIn (tgt := 74) dX12_hasOwn_1 (by decide) (by decide) rfl (by decide) ?_
  refine E_iload_n (i := 1) dX12_hasOwn_74 rfl rfl ?_
  refine E_iconst (v := 3) dX12_hasOwn_75 (by decide) ?_
  refine E_icmp_ne (tgt := 83) dX12_hasOwn_76 (by decide) (fun c_76 => ?_) (fun c_76 => absurd c_76 (by decide))
  refine E_iconst (v := 0) dX12_hasOwn_83 (by decide) ?_
  refine E_zret dX12_hasOwn_84 rfl rfl ?_
  exact hΦ
theorem ho_4_2 (hΦ : Φ (some (.int 0)) g P I) : MM Γ mX12_hasOwn d 0 0 [.int 4, .int 2] g P I Φ := by
  refine MM_entry [some _, some _] (by decide) (Nat.le_of_ble_eq_true rfl) rfl ?_
  refine E_iload_n (i := 0) dX12_hasOwn_0 rfl rfl ?_
  refine E_tswIn (tgt := 74) dX12_hasOwn_1 (by decide) (by decide) rfl (by decide) ?_
  refine E_iload_n (i := 1) dX12_hasOwn_74 rfl rfl ?_
  refine E_iconst (v := 3) dX12_hasOwn_75 (by decide) ?_
  refine E_icmp_ne (tgt := 83) dX12_hasOwn_76 (by decide) (fun c_76 => ?_) (fun c_76 => absurd c_76 (by decide))
  refine E_iconst (v := 0) dX12_hasOwn_83 (by decide) ?_
  refine E_zret dX12_hasOwn_84 rfl rfl ?_
  exact hΦ
theorem ho_4_3 (hΦ : Φ (some (.int 1)) g P I) : MM Γ mX12_hasOwn d 0 0 [.int 4, .int 3] g P I Φ := by
  refine MM_entry [some _, some _] (by decide) (Nat.le_of_ble_eq_true rfl) rfl ?_
  refine E_iload_n (i := 0) dX12_hasOwn_0 rfl rfl ?_
  refine E_tswIn (tgt := 74) dX12_hasOwn_1 (by decide) (by decide) rfl (by decide) ?_
  refine E_iload_n (i := 1) dX12_hasOwn_74 rfl rfl ?_
  refine E_iconst (v := 3) dX12_hasOwn_75 (by decide) ?_
  refine E_icmp_ne (tgt := 83) dX12_hasOwn_76 (by decide) (fun c_76 => absurd (by decide) c_76) (fun c_76 => ?_)
  refine E_iconst (v := 1) dX12_hasOwn_79 (by decide) ?_
  refine E_goto (tgt := 84) dX12_hasOwn_80 (by decide) ?_
  refine E_zret dX12_hasOwn_84 rfl rfl ?_
  exact hΦ
theorem ho_5_0 (hΦ : Φ (some (.int 0)) g P I) : MM Γ mX12_hasOwn d 0 0 [.int 5, .int 0] g P I Φ := by
  refine MM_entry [some _, some _] (by decide) (Nat.le_of_ble_eq_true rfl) rfl ?_
  refine E_iload_n (i := 0) dX12_hasOwn_0 rfl rfl ?_
  refine E_tswIn (tgt := 42) dX12_hasOwn_1 (by decide) (by decide) rfl (by decide) ?_
  refine E_iload_n (i := 1) dX12_hasOwn_42 rfl rfl ?_
  refine E_iconst (v := 1) dX12_hasOwn_43 (by decide) ?_
  refine E_icmp_ne (tgt := 51) dX12_hasOwn_44 (by decide) (fun c_44 => ?_) (fun c_44 => absurd c_44 (by decide))
  refine E_iconst (v := 0) dX12_hasOwn_51 (by decide) ?_
  refine E_zret dX12_hasOwn_52 rfl rfl ?_
  exact hΦ
theorem ho_5_1 (hΦ : Φ (some (.int 1)) g P I) : MM Γ mX12_hasOwn d 0 0 [.int 5, .int 1] g P I Φ := by
  refine MM_entry [some _, some _] (by decide) (Nat.le_of_ble_eq_true rfl) rfl ?_
  refine E_iload_n (i := 0) dX12_hasOwn_0 rfl rfl ?_
  refine E_tswIn (tgt := 42) dX12_hasOwn_1 (by decide) (by decide) rfl (by decide) ?_
  refine E_iload_n (i := 1) dX12_hasOwn_42 rfl rfl ?_
  refine E_iconst (v := 1) dX12_hasOwn_43 (by decide) ?_
  refine E_icmp_ne (tgt := 51) dX12_hasOwn_44 (by decide) (fun c_44 => absurd (by decide) c_44) (fun c_44 => ?_)
  refine E_iconst (v := 1) dX12_hasOwn_47 (by decide) ?_
  refine E_goto (tgt := 52) dX12_hasOwn_48 (by decide) ?_
  refine E_zret dX12_hasOwn_52 rfl rfl ?_
  exact hΦ
theorem ho_5_2 (hΦ : Φ (some (.int 0)) g P I) : MM Γ mX12_hasOwn d 0 0 [.int 5, .int 2] g P I Φ := by
  refine MM_entry [some _, some _] (by decide) (Nat.le_of_ble_eq_true rfl) rfl ?_
  refine E_iload_n (i := 0) dX12_hasOwn_0 rfl rfl ?_
  refine E_tswIn (tgt := 42) dX12_hasOwn_1 (by decide) (by decide) rfl (by decide) ?_
  refine E_iload_n (i := 1) dX12_hasOwn_42 rfl rfl ?_
  refine E_iconst (v := 1) dX12_hasOwn_43 (by decide) ?_
  refine E_icmp_ne (tgt := 51) dX12_hasOwn_44 (by decide) (fun c_44 => ?_) (fun c_44 => absurd c_44 (by decide))
  refine E_iconst (v := 0) dX12_hasOwn_51 (by decide) ?_
  refine E_zret dX12_hasOwn_52 rfl rfl ?_
  exact hΦ
theorem ho_5_3 (hΦ : Φ (some (.int 0)) g P I) : MM Γ mX12_hasOwn d 0 0 [.int 5, .int 3] g P I Φ := by
  refine MM_entry [some _, some _] (by decide) (Nat.le_of_ble_eq_true rfl) rfl ?_
  refine E_iload_n (i := 0) dX12_hasOwn_0 rfl rfl ?_
  refine E_tswIn (tgt := 42) dX12_hasOwn_1 (by decide) (by decide) rfl (by decide) ?_
  refine E_iload_n (i := 1) dX12_hasOwn_42 rfl rfl ?_
  refine E_iconst (v := 1) dX12_hasOwn_43 (by decide) ?_
  refine E_icmp_ne (tgt := 51) dX12_hasOwn_44 (by decide) (fun c_44 => ?_) (fun c_44 => absurd c_44 (by decide))
  refine E_iconst (v := 0) dX12_hasOwn_51 (by decide) ?_
  refine E_zret dX12_hasOwn_52 rfl rfl ?_
  exact hΦ
theorem ho_6_0 (hΦ : Φ (some (.int 1)) g P I) : MM Γ mX12_hasOwn d 0 0 [.int 6, .int 0] g P I Φ := by
  refine MM_entry [some _, some _] (by decide) (Nat.le_of_ble_eq_true rfl) rfl ?_
  refine E_iload_n (i := 0) dX12_hasOwn_0 rfl rfl ?_
  refine E_tswOut (tgt := 85) dX12_hasOwn_1 (by decide) (by decide) ?_
  refine E_iload_n (i := 1) dX12_hasOwn_85 rfl rfl ?_
  refine E_if_eq (tgt := 94) dX12_hasOwn_86 (by decide) (fun c_86 => ?_) (fun c_86 => absurd (by decide) c_86)
  refine E_iconst (v := 1) dX12_hasOwn_94 (by decide) ?_
  refine E_goto (tgt := 99) dX12_hasOwn_95 (by decide) ?_
  refine E_zret dX12_hasOwn_99 rfl rfl ?_
  exact hΦ
theorem ho_6_1 (hΦ : Φ (some (.int 0)) g P I) : MM Γ mX12_hasOwn d 0 0 [.int 6, .int 1] g P I Φ := by
  refine MM_entry [some _, some _] (by decide) (Nat.le_of_ble_eq_true rfl) rfl ?_
  refine E_iload_n (i := 0) dX12_hasOwn_0 rfl rfl ?_
  refine E_tswOut (tgt := 85) dX12_hasOwn_1 (by decide) (by decide) ?_
  refine E_iload_n (i := 1) dX12_hasOwn_85 rfl rfl ?_
  refine E_if_eq (tgt := 94) dX12_hasOwn_86 (by decide) (fun c_86 => absurd c_86 (by decide)) (fun c_86 => ?_)
  refine E_iload_n (i := 1) dX12_hasOwn_89 rfl rfl ?_
  refine E_iconst (v := 3) dX12_hasOwn_90 (by decide) ?_
  refine E_icmp_ne (tgt := 98) dX12_hasOwn_91 (by decide) (fun c_91 => ?_) (fun c_91 => absurd c_91 (by decide))
  refine E_iconst (v := 0) dX12_hasOwn_98 (by decide) ?_
  refine E_zret dX12_hasOwn_99 rfl rfl ?_
  exact hΦ
theorem ho_6_2 (hΦ : Φ (some (.int 0)) g P I) : MM Γ mX12_hasOwn d 0 0 [.int 6, .int 2] g P I Φ := by
  refine MM_entry [some _, some _] (by decide) (Nat.le_of_ble_eq_true rfl) rfl ?_
  refine E_iload_n (i := 0) dX12_hasOwn_0 rfl rfl ?_
  refine E_tswOut (tgt := 85) dX12_hasOwn_1 (by decide) (by decide) ?_
  refine E_iload_n (i := 1) dX12_hasOwn_85 rfl rfl ?_
  refine E_if_eq (tgt := 94) dX12_hasOwn_86 (by decide) (fun c_86 => absurd c_86 (by decide)) (fun c_86 => ?_)
  refine E_iload_n (i := 1) dX12_hasOwn_89 rfl rfl ?_
  refine E_iconst (v := 3) dX12_hasOwn_90 (by decide) ?_
  refine E_icmp_ne (tgt := 98) dX12_hasOwn_91 (by decide) (fun c_91 => ?_) (fun c_91 => absurd c_91 (by decide))
  refine E_iconst (v := 0) dX12_hasOwn_98 (by decide) ?_
  refine E_zret dX12_hasOwn_99 rfl rfl ?_
  exact hΦ
theorem ho_6_3 (hΦ : Φ (some (.int 1)) g P I) : MM Γ mX12_hasOwn d 0 0 [.int 6, .int 3] g P I Φ := by
  refine MM_entry [some _, some _] (by decide) (Nat.le_of_ble_eq_true rfl) rfl ?_
  refine E_iload_n (i := 0) dX12_hasOwn_0 rfl rfl ?_
  refine E_tswOut (tgt := 85) dX12_hasOwn_1 (by decide) (by decide) ?_
  refine E_iload_n (i := 1) dX12_hasOwn_85 rfl rfl ?_
  refine E_if_eq (tgt := 94) dX12_hasOwn_86 (by decide) (fun c_86 => absurd c_86 (by decide)) (fun c_86 => ?_)
  refine E_iload_n (i := 1) dX12_hasOwn_89 rfl rfl ?_
  refine E_iconst (v := 3) dX12_hasOwn_90 (by decide) ?_
  refine E_icmp_ne (tgt := 98) dX12_hasOwn_91 (by decide) (fun c_91 => absurd (by decide) c_91) (fun c_91 => ?_)
  refine E_iconst (v := 1) dX12_hasOwn_94 (by decide) ?_
  refine E_goto (tgt := 99) dX12_hasOwn_95 (by decide) ?_
  refine E_zret dX12_hasOwn_99 rfl rfl ?_
  exact hΦ
theorem y_0_0_0 {r : Nat} {x : Int32} (hd : 1 ≤ d) (hM : Mo g P) (hS : Sp I r 0) (hΦ : Φ (some (.int (x + I 109 22))) g P (mads I [10])) : MM Γ mX12_body d 0 0 [.ref 109, .int 0, .int 0, .int x] g P I Φ := by
  refine MM_entry [some _, some _, some _, some _, none] (by decide) (Nat.le_of_ble_eq_true rfl) rfl ?_
  have h0 := hM.1
  refine E_iconst (v := 4) dX12_body_0 (by decide) ?_
  refine E_iload_n (i := 1) dX12_body_1 rfl rfl ?_
  refine E_imul dX12_body_2 ?_
  refine E_iload_n (i := 2) dX12_body_3 rfl rfl ?_
  refine E_iadd dX12_body_4 ?_
  refine E_tswIn (tgt := 120) dX12_body_5 (by decide) (by decide) rfl (by decide) ?_
  refine E_aload_n (i := 0) dX12_body_120 rfl rfl ?_
  refine E_bipush (v := 10) dX12_body_121 (by decide) ?_
  refine k_X12_body_123 (mc' := 0) (ms' := 0) (rc := 0) (rs := 0) (by omega) (Nat.le_of_ble_eq_true rfl) (by assumption) (c_madd hM hS ?_)
  refine E_iload_n (i := 3) dX12_body_126 rfl rfl ?_
  refine E_aload_n (i := 0) dX12_body_127 rfl rfl ?_
  refine E_gi dX12_body_128 gf_X12_285_12 rfl (by assumption) ?_
  refine E_iadd dX12_body_131 ?_
  refine E_iret dX12_body_132 rfl ?_
  simp only [mads_app, mads_110, mads_22, List.cons_append, List.nil_append]
  exact hΦ
theorem z_0_0_0 {r : Nat} {x : Int32} (hd : 2 ≤ d) (hM : Mo g P) (hS : Sp I r 0) (hΦ : Φ (some (.int (x + I 109 22))) g P (mads I [10])) : MM Γ mX12_bodyFrom d 0 0 [.ref 109, .int 0, .int 0, .int x] g P I Φ := by
  refine MM_entry [some _, some _, some _, some _, none] (by decide) (Nat.le_of_ble_eq_true rfl) rfl ?_
  have h0 := hM.1
  have s0 : E Γ mX12_bodyFrom d 0 0 (QM Γ 0 0 Φ) 0 0 3 [some (.ref 109), some (.int 0), some (.int 0), some (.int x), some (.int 0)] [] g P I := by
    refine E_iload dX12_bodyFrom_3 rfl ?_
    refine E_iload_n (i := 2) dX12_bodyFrom_5 rfl rfl ?_
    refine k_X12_bodyFrom_6 (mc' := 0) (ms' := 0) (rc := 0) (rs := 0) (by omega) (Nat.le_of_ble_eq_true rfl) (ho_0_0 ?_)
    refine E_if_ne (tgt := 22) dX12_bodyFrom_9 (by decide) (fun c_9 => ?_) (fun c_9 => absurd c_9 (by decide))
    refine E_aload_n (i := 0) dX12_bodyFrom_22 rfl rfl ?_
    refine E_iload dX12_bodyFrom_23 rfl ?_
    refine E_iload_n (i := 2) dX12_bodyFrom_25 rfl rfl ?_
    refine E_iload_n (i := 3) dX12_bodyFrom_26 rfl rfl ?_
    refine k_X12_bodyFrom_27 (mc' := 0) (ms' := 0) (rc := 0) (rs := 0) (by omega) (Nat.le_of_ble_eq_true rfl) (by assumption) (y_0_0_0 (by omega) hM hS ?_)
    refine E_iret dX12_bodyFrom_30 rfl ?_
    exact hΦ
  refine E_iload_n (i := 1) dX12_bodyFrom_0 rfl rfl ?_
  refine E_istoreC dX12_bodyFrom_1 (by decide) rfl ?_
  refine E_lv (lv' := [_, _, _, _, _]) rfl ?_
  exact s0
theorem u_0_0 {r : Nat} {x : Int32} (hd : 3 ≤ d) (hM : Mo g P) (hS : Sp I r 0) (hΦ : Φ (some (.int (x + I 109 22))) g P (mads I [10])) : MM Γ mX12_voiced d 0 0 [.ref 109, .int 0, .int x] g P I Φ := by
  refine MM_entry [some _, some _, some _] (by decide) (Nat.le_of_ble_eq_true rfl) rfl ?_
  have h0 := hM.1
  have e : I 110 (16 + 7 * r + 0) = 0 := hS.2.2.1
  refine E_aload_n (i := 0) dX12_voiced_0 rfl rfl ?_
  refine E_aload_n (i := 0) dX12_voiced_1 rfl rfl ?_
  refine E_aload_n (i := 0) dX12_voiced_2 rfl rfl ?_
  refine E_gi dX12_voiced_3 gf_X12_285_12 rfl (by assumption) ?_
  refine E_iconst (v := 0) dX12_voiced_6 (by decide) ?_
  refine k_X12_voiced_7 (mc' := 0) (ms' := 0) (rc := 0) (rs := 0) (by omega) (Nat.le_of_ble_eq_true rfl) (by assumption) (c_X12_of (f := 0) hM hS.1 rfl hS.2.1 (by decide) ?_)
  rw [e]
  refine E_iload_n (i := 1) dX12_voiced_10 rfl rfl ?_
  refine E_iload_n (i := 2) dX12_voiced_11 rfl rfl ?_
  refine k_X12_voiced_12 (mc' := 0) (ms' := 0) (rc := 0) (rs := 0) (by omega) (Nat.le_of_ble_eq_true rfl) (by assumption) (z_0_0_0 (by omega) hM hS ?_)
  refine E_iret dX12_voiced_15 rfl ?_
  exact hΦ
theorem y_0_0_1 {r : Nat} {x : Int32} (hd : 4 ≤ d) (hM : Mo g P) (hS : Sp I r 0) (hΦ : Φ (some (.int ((x + I 109 22) * 2))) g P (mads I [11, 10])) : MM Γ mX12_body d 0 0 [.ref 109, .int 0, .int 1, .int x] g P I Φ := by
  refine MM_entry [some _, some _, some _, some _, none] (by decide) (Nat.le_of_ble_eq_true rfl) rfl ?_
  have h0 := hM.1
  refine E_iconst (v := 4) dX12_body_0 (by decide) ?_
  refine E_iload_n (i := 1) dX12_body_1 rfl rfl ?_
  refine E_imul dX12_body_2 ?_
  refine E_iload_n (i := 2) dX12_body_3 rfl rfl ?_
  refine E_iadd dX12_body_4 ?_
  refine E_tswIn (tgt := 133) dX12_body_5 (by decide) (by decide) rfl (by decide) ?_
  refine E_aload_n (i := 0) dX12_body_133 rfl rfl ?_
  refine E_bipush (v := 11) dX12_body_134 (by decide) ?_
  refine k_X12_body_136 (mc' := 0) (ms' := 0) (rc := 0) (rs := 0) (by omega) (Nat.le_of_ble_eq_true rfl) (by assumption) (c_madd hM hS ?_)
  refine E_aload_n (i := 0) dX12_body_139 rfl rfl ?_
  refine E_iconst (v := 0) dX12_body_140 (by decide) ?_
  refine E_iload_n (i := 3) dX12_body_141 rfl rfl ?_
  refine k_X12_body_142 (mc' := 0) (ms' := 0) (rc := 0) (rs := 0) (by omega) (Nat.le_of_ble_eq_true rfl) (by assumption) (u_0_0 (by omega) hM (Sp_m _ hS) ?_)
  refine E_iconst (v := 2) dX12_body_145 (by decide) ?_
  refine E_imul dX12_body_146 ?_
  refine E_iret dX12_body_147 rfl ?_
  simp only [mads_app, mads_110, mads_22, List.cons_append, List.nil_append]
  exact hΦ
theorem z_0_0_1 {r : Nat} {x : Int32} (hd : 5 ≤ d) (hM : Mo g P) (hS : Sp I r 0) (hΦ : Φ (some (.int ((x + I 109 22) * 2))) g P (mads I [11, 10])) : MM Γ mX12_bodyFrom d 0 0 [.ref 109, .int 0, .int 1, .int x] g P I Φ := by
  refine MM_entry [some _, some _, some _, some _, none] (by decide) (Nat.le_of_ble_eq_true rfl) rfl ?_
  have h0 := hM.1
  have s0 : E Γ mX12_bodyFrom d 0 0 (QM Γ 0 0 Φ) 0 0 3 [some (.ref 109), some (.int 0), some (.int 1), some (.int x), some (.int 0)] [] g P I := by
    refine E_iload dX12_bodyFrom_3 rfl ?_
    refine E_iload_n (i := 2) dX12_bodyFrom_5 rfl rfl ?_
    refine k_X12_bodyFrom_6 (mc' := 0) (ms' := 0) (rc := 0) (rs := 0) (by omega) (Nat.le_of_ble_eq_true rfl) (ho_0_1 ?_)
    refine E_if_ne (tgt := 22) dX12_bodyFrom_9 (by decide) (fun c_9 => ?_) (fun c_9 => absurd c_9 (by decide))
    refine E_aload_n (i := 0) dX12_bodyFrom_22 rfl rfl ?_
    refine E_iload dX12_bodyFrom_23 rfl ?_
    refine E_iload_n (i := 2) dX12_bodyFrom_25 rfl rfl ?_
    refine E_iload_n (i := 3) dX12_bodyFrom_26 rfl rfl ?_
    refine k_X12_bodyFrom_27 (mc' := 0) (ms' := 0) (rc := 0) (rs := 0) (by omega) (Nat.le_of_ble_eq_true rfl) (by assumption) (y_0_0_1 (by omega) hM hS ?_)
    refine E_iret dX12_bodyFrom_30 rfl ?_
    exact hΦ
  refine E_iload_n (i := 1) dX12_bodyFrom_0 rfl rfl ?_
  refine E_istoreC dX12_bodyFrom_1 (by decide) rfl ?_
  refine E_lv (lv' := [_, _, _, _, _]) rfl ?_
  exact s0
theorem u_0_1 {r : Nat} {x : Int32} (hd : 6 ≤ d) (hM : Mo g P) (hS : Sp I r 0) (hΦ : Φ (some (.int ((x + I 109 22) * 2))) g P (mads I [11, 10])) : MM Γ mX12_voiced d 0 0 [.ref 109, .int 1, .int x] g P I Φ := by
  refine MM_entry [some _, some _, some _] (by decide) (Nat.le_of_ble_eq_true rfl) rfl ?_
  have h0 := hM.1
  have e : I 110 (16 + 7 * r + 0) = 0 := hS.2.2.1
  refine E_aload_n (i := 0) dX12_voiced_0 rfl rfl ?_
  refine E_aload_n (i := 0) dX12_voiced_1 rfl rfl ?_
  refine E_aload_n (i := 0) dX12_voiced_2 rfl rfl ?_
  refine E_gi dX12_voiced_3 gf_X12_285_12 rfl (by assumption) ?_
  refine E_iconst (v := 0) dX12_voiced_6 (by decide) ?_
  refine k_X12_voiced_7 (mc' := 0) (ms' := 0) (rc := 0) (rs := 0) (by omega) (Nat.le_of_ble_eq_true rfl) (by assumption) (c_X12_of (f := 0) hM hS.1 rfl hS.2.1 (by decide) ?_)
  rw [e]
  refine E_iload_n (i := 1) dX12_voiced_10 rfl rfl ?_
  refine E_iload_n (i := 2) dX12_voiced_11 rfl rfl ?_
  refine k_X12_voiced_12 (mc' := 0) (ms' := 0) (rc := 0) (rs := 0) (by omega) (Nat.le_of_ble_eq_true rfl) (by assumption) (z_0_0_1 (by omega) hM hS ?_)
  refine E_iret dX12_voiced_15 rfl ?_
  exact hΦ
theorem y_0_0_2 {r : Nat} {x : Int32} (hd : 1 ≤ d) (hM : Mo g P) (hS : Sp I r 0) (hΦ : Φ (some (.int (x - I 110 (16 + 7 * r + 2)))) g P (mads I [12])) : MM Γ mX12_body d 0 0 [.ref 109, .int 0, .int 2, .int x] g P I Φ := by
  refine MM_entry [some _, some _, some _, some _, none] (by decide) (Nat.le_of_ble_eq_true rfl) rfl ?_
  have h0 := hM.1
  refine E_iconst (v := 4) dX12_body_0 (by decide) ?_
  refine E_iload_n (i := 1) dX12_body_1 rfl rfl ?_
  refine E_imul dX12_body_2 ?_
  refine E_iload_n (i := 2) dX12_body_3 rfl rfl ?_
  refine E_iadd dX12_body_4 ?_
  refine E_tswIn (tgt := 148) dX12_body_5 (by decide) (by decide) rfl (by decide) ?_
  refine E_aload_n (i := 0) dX12_body_148 rfl rfl ?_
  refine E_bipush (v := 12) dX12_body_149 (by decide) ?_
  refine k_X12_body_151 (mc' := 0) (ms' := 0) (rc := 0) (rs := 0) (by omega) (Nat.le_of_ble_eq_true rfl) (by assumption) (c_madd hM hS ?_)
  refine E_iload_n (i := 3) dX12_body_154 rfl rfl ?_
  refine E_aload_n (i := 0) dX12_body_155 rfl rfl ?_
  refine E_aload_n (i := 0) dX12_body_156 rfl rfl ?_
  refine E_gi dX12_body_157 gf_X12_285_12 rfl (by assumption) ?_
  refine E_iconst (v := 2) dX12_body_160 (by decide) ?_
  refine k_X12_body_161 (mc' := 0) (ms' := 0) (rc := 0) (rs := 0) (by omega) (Nat.le_of_ble_eq_true rfl) (by assumption) (c_X12_of (f := 2) hM (Sp_m _ hS).1 rfl hS.2.1 (by decide) ?_)
  refine E_isub dX12_body_164 ?_
  refine E_iret dX12_body_165 rfl ?_
  simp only [mads_app, mads_110, mads_22, List.cons_append, List.nil_append]
  exact hΦ
theorem z_0_0_2 {r : Nat} {x : Int32} (hd : 2 ≤ d) (hM : Mo g P) (hS : Sp I r 0) (hΦ : Φ (some (.int (x - I 110 (16 + 7 * r + 2)))) g P (mads I [12])) : MM Γ mX12_bodyFrom d 0 0 [.ref 109, .int 0, .int 2, .int x] g P I Φ := by
  refine MM_entry [some _, some _, some _, some _, none] (by decide) (Nat.le_of_ble_eq_true rfl) rfl ?_
  have h0 := hM.1
  have s0 : E Γ mX12_bodyFrom d 0 0 (QM Γ 0 0 Φ) 0 0 3 [some (.ref 109), some (.int 0), some (.int 2), some (.int x), some (.int 0)] [] g P I := by
    refine E_iload dX12_bodyFrom_3 rfl ?_
    refine E_iload_n (i := 2) dX12_bodyFrom_5 rfl rfl ?_
    refine k_X12_bodyFrom_6 (mc' := 0) (ms' := 0) (rc := 0) (rs := 0) (by omega) (Nat.le_of_ble_eq_true rfl) (ho_0_2 ?_)
    refine E_if_ne (tgt := 22) dX12_bodyFrom_9 (by decide) (fun c_9 => ?_) (fun c_9 => absurd c_9 (by decide))
    refine E_aload_n (i := 0) dX12_bodyFrom_22 rfl rfl ?_
    refine E_iload dX12_bodyFrom_23 rfl ?_
    refine E_iload_n (i := 2) dX12_bodyFrom_25 rfl rfl ?_
    refine E_iload_n (i := 3) dX12_bodyFrom_26 rfl rfl ?_
    refine k_X12_bodyFrom_27 (mc' := 0) (ms' := 0) (rc := 0) (rs := 0) (by omega) (Nat.le_of_ble_eq_true rfl) (by assumption) (y_0_0_2 (by omega) hM hS ?_)
    refine E_iret dX12_bodyFrom_30 rfl ?_
    exact hΦ
  refine E_iload_n (i := 1) dX12_bodyFrom_0 rfl rfl ?_
  refine E_istoreC dX12_bodyFrom_1 (by decide) rfl ?_
  refine E_lv (lv' := [_, _, _, _, _]) rfl ?_
  exact s0
theorem u_0_2 {r : Nat} {x : Int32} (hd : 3 ≤ d) (hM : Mo g P) (hS : Sp I r 0) (hΦ : Φ (some (.int (x - I 110 (16 + 7 * r + 2)))) g P (mads I [12])) : MM Γ mX12_voiced d 0 0 [.ref 109, .int 2, .int x] g P I Φ := by
  refine MM_entry [some _, some _, some _] (by decide) (Nat.le_of_ble_eq_true rfl) rfl ?_
  have h0 := hM.1
  have e : I 110 (16 + 7 * r + 0) = 0 := hS.2.2.1
  refine E_aload_n (i := 0) dX12_voiced_0 rfl rfl ?_
  refine E_aload_n (i := 0) dX12_voiced_1 rfl rfl ?_
  refine E_aload_n (i := 0) dX12_voiced_2 rfl rfl ?_
  refine E_gi dX12_voiced_3 gf_X12_285_12 rfl (by assumption) ?_
  refine E_iconst (v := 0) dX12_voiced_6 (by decide) ?_
  refine k_X12_voiced_7 (mc' := 0) (ms' := 0) (rc := 0) (rs := 0) (by omega) (Nat.le_of_ble_eq_true rfl) (by assumption) (c_X12_of (f := 0) hM hS.1 rfl hS.2.1 (by decide) ?_)
  rw [e]
  refine E_iload_n (i := 1) dX12_voiced_10 rfl rfl ?_
  refine E_iload_n (i := 2) dX12_voiced_11 rfl rfl ?_
  refine k_X12_voiced_12 (mc' := 0) (ms' := 0) (rc := 0) (rs := 0) (by omega) (Nat.le_of_ble_eq_true rfl) (by assumption) (z_0_0_2 (by omega) hM hS ?_)
  refine E_iret dX12_voiced_15 rfl ?_
  exact hΦ
theorem y_0_0_3 {r : Nat} {x : Int32} (hd : 7 ≤ d) (hM : Mo g P) (hS : Sp I r 0) (hΦ : Φ (some (.int (((x + I 109 22) * 2) ^^^ (x - I 110 (16 + 7 * r + 2))))) g P (mads I [13, 11, 10, 12])) : MM Γ mX12_body d 0 0 [.ref 109, .int 0, .int 3, .int x] g P I Φ := by
  refine MM_entry [some _, some _, some _, some _, none] (by decide) (Nat.le_of_ble_eq_true rfl) rfl ?_
  have h0 := hM.1
  refine E_iconst (v := 4) dX12_body_0 (by decide) ?_
  refine E_iload_n (i := 1) dX12_body_1 rfl rfl ?_
  refine E_imul dX12_body_2 ?_
  refine E_iload_n (i := 2) dX12_body_3 rfl rfl ?_
  refine E_iadd dX12_body_4 ?_
  refine E_tswIn (tgt := 166) dX12_body_5 (by decide) (by decide) rfl (by decide) ?_
  refine E_aload_n (i := 0) dX12_body_166 rfl rfl ?_
  refine E_bipush (v := 13) dX12_body_167 (by decide) ?_
  refine k_X12_body_169 (mc' := 0) (ms' := 0) (rc := 0) (rs := 0) (by omega) (Nat.le_of_ble_eq_true rfl) (by assumption) (c_madd hM hS ?_)
  refine E_aload_n (i := 0) dX12_body_172 rfl rfl ?_
  refine E_iconst (v := 1) dX12_body_173 (by decide) ?_
  refine E_iload_n (i := 3) dX12_body_174 rfl rfl ?_
  refine k_X12_body_175 (mc' := 0) (ms' := 0) (rc := 0) (rs := 0) (by omega) (Nat.le_of_ble_eq_true rfl) (by assumption) (u_0_1 (by omega) hM (Sp_m _ hS) ?_)
  refine E_istoreC dX12_body_178 (by decide) rfl ?_
  refine E_lv (lv' := [_, _, _, _, _]) rfl ?_
  refine E_iload dX12_body_180 rfl ?_
  refine E_aload_n (i := 0) dX12_body_182 rfl rfl ?_
  refine E_iconst (v := 2) dX12_body_183 (by decide) ?_
  refine E_iload_n (i := 3) dX12_body_184 rfl rfl ?_
  refine k_X12_body_185 (mc' := 0) (ms' := 0) (rc := 0) (rs := 0) (by omega) (Nat.le_of_ble_eq_true rfl) (by assumption) (u_0_2 (by omega) hM (Sp_m _ (Sp_m _ hS)) ?_)
  refine E_ixor dX12_body_188 ?_
  refine E_iret dX12_body_189 rfl ?_
  simp only [mads_app, mads_110, mads_22, List.cons_append, List.nil_append]
  exact hΦ
theorem z_0_0_3 {r : Nat} {x : Int32} (hd : 8 ≤ d) (hM : Mo g P) (hS : Sp I r 0) (hΦ : Φ (some (.int (((x + I 109 22) * 2) ^^^ (x - I 110 (16 + 7 * r + 2))))) g P (mads I [13, 11, 10, 12])) : MM Γ mX12_bodyFrom d 0 0 [.ref 109, .int 0, .int 3, .int x] g P I Φ := by
  refine MM_entry [some _, some _, some _, some _, none] (by decide) (Nat.le_of_ble_eq_true rfl) rfl ?_
  have h0 := hM.1
  have s0 : E Γ mX12_bodyFrom d 0 0 (QM Γ 0 0 Φ) 0 0 3 [some (.ref 109), some (.int 0), some (.int 3), some (.int x), some (.int 0)] [] g P I := by
    refine E_iload dX12_bodyFrom_3 rfl ?_
    refine E_iload_n (i := 2) dX12_bodyFrom_5 rfl rfl ?_
    refine k_X12_bodyFrom_6 (mc' := 0) (ms' := 0) (rc := 0) (rs := 0) (by omega) (Nat.le_of_ble_eq_true rfl) (ho_0_3 ?_)
    refine E_if_ne (tgt := 22) dX12_bodyFrom_9 (by decide) (fun c_9 => ?_) (fun c_9 => absurd c_9 (by decide))
    refine E_aload_n (i := 0) dX12_bodyFrom_22 rfl rfl ?_
    refine E_iload dX12_bodyFrom_23 rfl ?_
    refine E_iload_n (i := 2) dX12_bodyFrom_25 rfl rfl ?_
    refine E_iload_n (i := 3) dX12_bodyFrom_26 rfl rfl ?_
    refine k_X12_bodyFrom_27 (mc' := 0) (ms' := 0) (rc := 0) (rs := 0) (by omega) (Nat.le_of_ble_eq_true rfl) (by assumption) (y_0_0_3 (by omega) hM hS ?_)
    refine E_iret dX12_bodyFrom_30 rfl ?_
    exact hΦ
  refine E_iload_n (i := 1) dX12_bodyFrom_0 rfl rfl ?_
  refine E_istoreC dX12_bodyFrom_1 (by decide) rfl ?_
  refine E_lv (lv' := [_, _, _, _, _]) rfl ?_
  exact s0
theorem u_0_3 {r : Nat} {x : Int32} (hd : 9 ≤ d) (hM : Mo g P) (hS : Sp I r 0) (hΦ : Φ (some (.int (((x + I 109 22) * 2) ^^^ (x - I 110 (16 + 7 * r + 2))))) g P (mads I [13, 11, 10, 12])) : MM Γ mX12_voiced d 0 0 [.ref 109, .int 3, .int x] g P I Φ := by
  refine MM_entry [some _, some _, some _] (by decide) (Nat.le_of_ble_eq_true rfl) rfl ?_
  have h0 := hM.1
  have e : I 110 (16 + 7 * r + 0) = 0 := hS.2.2.1
  refine E_aload_n (i := 0) dX12_voiced_0 rfl rfl ?_
  refine E_aload_n (i := 0) dX12_voiced_1 rfl rfl ?_
  refine E_aload_n (i := 0) dX12_voiced_2 rfl rfl ?_
  refine E_gi dX12_voiced_3 gf_X12_285_12 rfl (by assumption) ?_
  refine E_iconst (v := 0) dX12_voiced_6 (by decide) ?_
  refine k_X12_voiced_7 (mc' := 0) (ms' := 0) (rc := 0) (rs := 0) (by omega) (Nat.le_of_ble_eq_true rfl) (by assumption) (c_X12_of (f := 0) hM hS.1 rfl hS.2.1 (by decide) ?_)
  rw [e]
  refine E_iload_n (i := 1) dX12_voiced_10 rfl rfl ?_
  refine E_iload_n (i := 2) dX12_voiced_11 rfl rfl ?_
  refine k_X12_voiced_12 (mc' := 0) (ms' := 0) (rc := 0) (rs := 0) (by omega) (Nat.le_of_ble_eq_true rfl) (by assumption) (z_0_0_3 (by omega) hM hS ?_)
  refine E_iret dX12_voiced_15 rfl ?_
  exact hΦ
theorem y_1_0_0 {r : Nat} {x : Int32} (hd : 1 ≤ d) (hM : Mo g P) (hS : Sp I r 1) (hΦ : Φ (some (.int (x + I 109 22))) g P (mads I [10])) : MM Γ mX12_body d 0 0 [.ref 109, .int 0, .int 0, .int x] g P I Φ := by
  refine MM_entry [some _, some _, some _, some _, none] (by decide) (Nat.le_of_ble_eq_true rfl) rfl ?_
  have h0 := hM.1
  refine E_iconst (v := 4) dX12_body_0 (by decide) ?_
  refine E_iload_n (i := 1) dX12_body_1 rfl rfl ?_
  refine E_imul dX12_body_2 ?_
  refine E_iload_n (i := 2) dX12_body_3 rfl rfl ?_
  refine E_iadd dX12_body_4 ?_
  refine E_tswIn (tgt := 120) dX12_body_5 (by decide) (by decide) rfl (by decide) ?_
  refine E_aload_n (i := 0) dX12_body_120 rfl rfl ?_
  refine E_bipush (v := 10) dX12_body_121 (by decide) ?_
  refine k_X12_body_123 (mc' := 0) (ms' := 0) (rc := 0) (rs := 0) (by omega) (Nat.le_of_ble_eq_true rfl) (by assumption) (c_madd hM hS ?_)
  refine E_iload_n (i := 3) dX12_body_126 rfl rfl ?_
  refine E_aload_n (i := 0) dX12_body_127 rfl rfl ?_
  refine E_gi dX12_body_128 gf_X12_285_12 rfl (by assumption) ?_
  refine E_iadd dX12_body_131 ?_
  refine E_iret dX12_body_132 rfl ?_
  simp only [mads_app, mads_110, mads_22, List.cons_append, List.nil_append]
  exact hΦ
theorem z_1_1_0 {r : Nat} {x : Int32} (hd : 2 ≤ d) (hM : Mo g P) (hS : Sp I r 1) (hΦ : Φ (some (.int (x + I 109 22))) g P (mads I [10])) : MM Γ mX12_bodyFrom d 0 0 [.ref 109, .int 1, .int 0, .int x] g P I Φ := by
  refine MM_entry [some _, some _, some _, some _, none] (by decide) (Nat.le_of_ble_eq_true rfl) rfl ?_
  have h0 := hM.1
  have s1 : E Γ mX12_bodyFrom d 0 0 (QM Γ 0 0 Φ) 0 0 3 [some (.ref 109), some (.int 1), some (.int 0), some (.int x), some (.int 0)] [] g P I := by
    refine E_iload dX12_bodyFrom_3 rfl ?_
    refine E_iload_n (i := 2) dX12_bodyFrom_5 rfl rfl ?_
    refine k_X12_bodyFrom_6 (mc' := 0) (ms' := 0) (rc := 0) (rs := 0) (by omega) (Nat.le_of_ble_eq_true rfl) (ho_0_0 ?_)
    refine E_if_ne (tgt := 22) dX12_bodyFrom_9 (by decide) (fun c_9 => ?_) (fun c_9 => absurd c_9 (by decide))
    refine E_aload_n (i := 0) dX12_bodyFrom_22 rfl rfl ?_
    refine E_iload dX12_bodyFrom_23 rfl ?_
    refine E_iload_n (i := 2) dX12_bodyFrom_25 rfl rfl ?_
    refine E_iload_n (i := 3) dX12_bodyFrom_26 rfl rfl ?_
    refine k_X12_bodyFrom_27 (mc' := 0) (ms' := 0) (rc := 0) (rs := 0) (by omega) (Nat.le_of_ble_eq_true rfl) (by assumption) (y_1_0_0 (by omega) hM hS ?_)
    refine E_iret dX12_bodyFrom_30 rfl ?_
    exact hΦ
  have s0 : E Γ mX12_bodyFrom d 0 0 (QM Γ 0 0 Φ) 0 0 3 [some (.ref 109), some (.int 1), some (.int 0), some (.int x), some (.int 1)] [] g P I := by
    refine E_iload dX12_bodyFrom_3 rfl ?_
    refine E_iload_n (i := 2) dX12_bodyFrom_5 rfl rfl ?_
    refine k_X12_bodyFrom_6 (mc' := 0) (ms' := 0) (rc := 0) (rs := 0) (by omega) (Nat.le_of_ble_eq_true rfl) (ho_1_0 ?_)
    refine E_if_ne (tgt := 22) dX12_bodyFrom_9 (by decide) (fun c_9 => absurd (rfl) c_9) (fun c_9 => ?_)
    refine E_iload dX12_bodyFrom_12 rfl ?_
    refine k_X12_bodyFrom_14 (mc' := 0) (ms' := 0) (rc := 0) (rs := 0) (by omega) (Nat.le_of_ble_eq_true rfl) (c_X12_above ?_)
    rw [show abv 1 = 0 from by decide]
    refine E_istoreC dX12_bodyFrom_17 (by decide) rfl ?_
    refine E_lv (lv' := [_, _, _, _, _]) rfl ?_
    refine E_goto (tgt := 3) dX12_bodyFrom_19 (by decide) ?_
    exact s1
  refine E_iload_n (i := 1) dX12_bodyFrom_0 rfl rfl ?_
  refine E_istoreC dX12_bodyFrom_1 (by decide) rfl ?_
  refine E_lv (lv' := [_, _, _, _, _]) rfl ?_
  exact s0
theorem u_1_0 {r : Nat} {x : Int32} (hd : 3 ≤ d) (hM : Mo g P) (hS : Sp I r 1) (hΦ : Φ (some (.int (x + I 109 22))) g P (mads I [10])) : MM Γ mX12_voiced d 0 0 [.ref 109, .int 0, .int x] g P I Φ := by
  refine MM_entry [some _, some _, some _] (by decide) (Nat.le_of_ble_eq_true rfl) rfl ?_
  have h0 := hM.1
  have e : I 110 (16 + 7 * r + 0) = 1 := hS.2.2.1
  refine E_aload_n (i := 0) dX12_voiced_0 rfl rfl ?_
  refine E_aload_n (i := 0) dX12_voiced_1 rfl rfl ?_
  refine E_aload_n (i := 0) dX12_voiced_2 rfl rfl ?_
  refine E_gi dX12_voiced_3 gf_X12_285_12 rfl (by assumption) ?_
  refine E_iconst (v := 0) dX12_voiced_6 (by decide) ?_
  refine k_X12_voiced_7 (mc' := 0) (ms' := 0) (rc := 0) (rs := 0) (by omega) (Nat.le_of_ble_eq_true rfl) (by assumption) (c_X12_of (f := 0) hM hS.1 rfl hS.2.1 (by decide) ?_)
  rw [e]
  refine E_iload_n (i := 1) dX12_voiced_10 rfl rfl ?_
  refine E_iload_n (i := 2) dX12_voiced_11 rfl rfl ?_
  refine k_X12_voiced_12 (mc' := 0) (ms' := 0) (rc := 0) (rs := 0) (by omega) (Nat.le_of_ble_eq_true rfl) (by assumption) (z_1_1_0 (by omega) hM hS ?_)
  refine E_iret dX12_voiced_15 rfl ?_
  exact hΦ
theorem y_1_0_1 {r : Nat} {x : Int32} (hd : 4 ≤ d) (hM : Mo g P) (hS : Sp I r 1) (hΦ : Φ (some (.int ((x + I 109 22) * 2))) g P (mads I [11, 10])) : MM Γ mX12_body d 0 0 [.ref 109, .int 0, .int 1, .int x] g P I Φ := by
  refine MM_entry [some _, some _, some _, some _, none] (by decide) (Nat.le_of_ble_eq_true rfl) rfl ?_
  have h0 := hM.1
  refine E_iconst (v := 4) dX12_body_0 (by decide) ?_
  refine E_iload_n (i := 1) dX12_body_1 rfl rfl ?_
  refine E_imul dX12_body_2 ?_
  refine E_iload_n (i := 2) dX12_body_3 rfl rfl ?_
  refine E_iadd dX12_body_4 ?_
  refine E_tswIn (tgt := 133) dX12_body_5 (by decide) (by decide) rfl (by decide) ?_
  refine E_aload_n (i := 0) dX12_body_133 rfl rfl ?_
  refine E_bipush (v := 11) dX12_body_134 (by decide) ?_
  refine k_X12_body_136 (mc' := 0) (ms' := 0) (rc := 0) (rs := 0) (by omega) (Nat.le_of_ble_eq_true rfl) (by assumption) (c_madd hM hS ?_)
  refine E_aload_n (i := 0) dX12_body_139 rfl rfl ?_
  refine E_iconst (v := 0) dX12_body_140 (by decide) ?_
  refine E_iload_n (i := 3) dX12_body_141 rfl rfl ?_
  refine k_X12_body_142 (mc' := 0) (ms' := 0) (rc := 0) (rs := 0) (by omega) (Nat.le_of_ble_eq_true rfl) (by assumption) (u_1_0 (by omega) hM (Sp_m _ hS) ?_)
  refine E_iconst (v := 2) dX12_body_145 (by decide) ?_
  refine E_imul dX12_body_146 ?_
  refine E_iret dX12_body_147 rfl ?_
  simp only [mads_app, mads_110, mads_22, List.cons_append, List.nil_append]
  exact hΦ
theorem z_1_0_1 {r : Nat} {x : Int32} (hd : 5 ≤ d) (hM : Mo g P) (hS : Sp I r 1) (hΦ : Φ (some (.int ((x + I 109 22) * 2))) g P (mads I [11, 10])) : MM Γ mX12_bodyFrom d 0 0 [.ref 109, .int 0, .int 1, .int x] g P I Φ := by
  refine MM_entry [some _, some _, some _, some _, none] (by decide) (Nat.le_of_ble_eq_true rfl) rfl ?_
  have h0 := hM.1
  have s0 : E Γ mX12_bodyFrom d 0 0 (QM Γ 0 0 Φ) 0 0 3 [some (.ref 109), some (.int 0), some (.int 1), some (.int x), some (.int 0)] [] g P I := by
    refine E_iload dX12_bodyFrom_3 rfl ?_
    refine E_iload_n (i := 2) dX12_bodyFrom_5 rfl rfl ?_
    refine k_X12_bodyFrom_6 (mc' := 0) (ms' := 0) (rc := 0) (rs := 0) (by omega) (Nat.le_of_ble_eq_true rfl) (ho_0_1 ?_)
    refine E_if_ne (tgt := 22) dX12_bodyFrom_9 (by decide) (fun c_9 => ?_) (fun c_9 => absurd c_9 (by decide))
    refine E_aload_n (i := 0) dX12_bodyFrom_22 rfl rfl ?_
    refine E_iload dX12_bodyFrom_23 rfl ?_
    refine E_iload_n (i := 2) dX12_bodyFrom_25 rfl rfl ?_
    refine E_iload_n (i := 3) dX12_bodyFrom_26 rfl rfl ?_
    refine k_X12_bodyFrom_27 (mc' := 0) (ms' := 0) (rc := 0) (rs := 0) (by omega) (Nat.le_of_ble_eq_true rfl) (by assumption) (y_1_0_1 (by omega) hM hS ?_)
    refine E_iret dX12_bodyFrom_30 rfl ?_
    exact hΦ
  refine E_iload_n (i := 1) dX12_bodyFrom_0 rfl rfl ?_
  refine E_istoreC dX12_bodyFrom_1 (by decide) rfl ?_
  refine E_lv (lv' := [_, _, _, _, _]) rfl ?_
  exact s0
theorem y_1_0_2 {r : Nat} {x : Int32} (hd : 1 ≤ d) (hM : Mo g P) (hS : Sp I r 1) (hΦ : Φ (some (.int (x - I 110 (16 + 7 * r + 2)))) g P (mads I [12])) : MM Γ mX12_body d 0 0 [.ref 109, .int 0, .int 2, .int x] g P I Φ := by
  refine MM_entry [some _, some _, some _, some _, none] (by decide) (Nat.le_of_ble_eq_true rfl) rfl ?_
  have h0 := hM.1
  refine E_iconst (v := 4) dX12_body_0 (by decide) ?_
  refine E_iload_n (i := 1) dX12_body_1 rfl rfl ?_
  refine E_imul dX12_body_2 ?_
  refine E_iload_n (i := 2) dX12_body_3 rfl rfl ?_
  refine E_iadd dX12_body_4 ?_
  refine E_tswIn (tgt := 148) dX12_body_5 (by decide) (by decide) rfl (by decide) ?_
  refine E_aload_n (i := 0) dX12_body_148 rfl rfl ?_
  refine E_bipush (v := 12) dX12_body_149 (by decide) ?_
  refine k_X12_body_151 (mc' := 0) (ms' := 0) (rc := 0) (rs := 0) (by omega) (Nat.le_of_ble_eq_true rfl) (by assumption) (c_madd hM hS ?_)
  refine E_iload_n (i := 3) dX12_body_154 rfl rfl ?_
  refine E_aload_n (i := 0) dX12_body_155 rfl rfl ?_
  refine E_aload_n (i := 0) dX12_body_156 rfl rfl ?_
  refine E_gi dX12_body_157 gf_X12_285_12 rfl (by assumption) ?_
  refine E_iconst (v := 2) dX12_body_160 (by decide) ?_
  refine k_X12_body_161 (mc' := 0) (ms' := 0) (rc := 0) (rs := 0) (by omega) (Nat.le_of_ble_eq_true rfl) (by assumption) (c_X12_of (f := 2) hM (Sp_m _ hS).1 rfl hS.2.1 (by decide) ?_)
  refine E_isub dX12_body_164 ?_
  refine E_iret dX12_body_165 rfl ?_
  simp only [mads_app, mads_110, mads_22, List.cons_append, List.nil_append]
  exact hΦ
theorem z_1_1_2 {r : Nat} {x : Int32} (hd : 2 ≤ d) (hM : Mo g P) (hS : Sp I r 1) (hΦ : Φ (some (.int (x - I 110 (16 + 7 * r + 2)))) g P (mads I [12])) : MM Γ mX12_bodyFrom d 0 0 [.ref 109, .int 1, .int 2, .int x] g P I Φ := by
  refine MM_entry [some _, some _, some _, some _, none] (by decide) (Nat.le_of_ble_eq_true rfl) rfl ?_
  have h0 := hM.1
  have s1 : E Γ mX12_bodyFrom d 0 0 (QM Γ 0 0 Φ) 0 0 3 [some (.ref 109), some (.int 1), some (.int 2), some (.int x), some (.int 0)] [] g P I := by
    refine E_iload dX12_bodyFrom_3 rfl ?_
    refine E_iload_n (i := 2) dX12_bodyFrom_5 rfl rfl ?_
    refine k_X12_bodyFrom_6 (mc' := 0) (ms' := 0) (rc := 0) (rs := 0) (by omega) (Nat.le_of_ble_eq_true rfl) (ho_0_2 ?_)
    refine E_if_ne (tgt := 22) dX12_bodyFrom_9 (by decide) (fun c_9 => ?_) (fun c_9 => absurd c_9 (by decide))
    refine E_aload_n (i := 0) dX12_bodyFrom_22 rfl rfl ?_
    refine E_iload dX12_bodyFrom_23 rfl ?_
    refine E_iload_n (i := 2) dX12_bodyFrom_25 rfl rfl ?_
    refine E_iload_n (i := 3) dX12_bodyFrom_26 rfl rfl ?_
    refine k_X12_bodyFrom_27 (mc' := 0) (ms' := 0) (rc := 0) (rs := 0) (by omega) (Nat.le_of_ble_eq_true rfl) (by assumption) (y_1_0_2 (by omega) hM hS ?_)
    refine E_iret dX12_bodyFrom_30 rfl ?_
    exact hΦ
  have s0 : E Γ mX12_bodyFrom d 0 0 (QM Γ 0 0 Φ) 0 0 3 [some (.ref 109), some (.int 1), some (.int 2), some (.int x), some (.int 1)] [] g P I := by
    refine E_iload dX12_bodyFrom_3 rfl ?_
    refine E_iload_n (i := 2) dX12_bodyFrom_5 rfl rfl ?_
    refine k_X12_bodyFrom_6 (mc' := 0) (ms' := 0) (rc := 0) (rs := 0) (by omega) (Nat.le_of_ble_eq_true rfl) (ho_1_2 ?_)
    refine E_if_ne (tgt := 22) dX12_bodyFrom_9 (by decide) (fun c_9 => absurd (rfl) c_9) (fun c_9 => ?_)
    refine E_iload dX12_bodyFrom_12 rfl ?_
    refine k_X12_bodyFrom_14 (mc' := 0) (ms' := 0) (rc := 0) (rs := 0) (by omega) (Nat.le_of_ble_eq_true rfl) (c_X12_above ?_)
    rw [show abv 1 = 0 from by decide]
    refine E_istoreC dX12_bodyFrom_17 (by decide) rfl ?_
    refine E_lv (lv' := [_, _, _, _, _]) rfl ?_
    refine E_goto (tgt := 3) dX12_bodyFrom_19 (by decide) ?_
    exact s1
  refine E_iload_n (i := 1) dX12_bodyFrom_0 rfl rfl ?_
  refine E_istoreC dX12_bodyFrom_1 (by decide) rfl ?_
  refine E_lv (lv' := [_, _, _, _, _]) rfl ?_
  exact s0
theorem u_1_2 {r : Nat} {x : Int32} (hd : 3 ≤ d) (hM : Mo g P) (hS : Sp I r 1) (hΦ : Φ (some (.int (x - I 110 (16 + 7 * r + 2)))) g P (mads I [12])) : MM Γ mX12_voiced d 0 0 [.ref 109, .int 2, .int x] g P I Φ := by
  refine MM_entry [some _, some _, some _] (by decide) (Nat.le_of_ble_eq_true rfl) rfl ?_
  have h0 := hM.1
  have e : I 110 (16 + 7 * r + 0) = 1 := hS.2.2.1
  refine E_aload_n (i := 0) dX12_voiced_0 rfl rfl ?_
  refine E_aload_n (i := 0) dX12_voiced_1 rfl rfl ?_
  refine E_aload_n (i := 0) dX12_voiced_2 rfl rfl ?_
  refine E_gi dX12_voiced_3 gf_X12_285_12 rfl (by assumption) ?_
  refine E_iconst (v := 0) dX12_voiced_6 (by decide) ?_
  refine k_X12_voiced_7 (mc' := 0) (ms' := 0) (rc := 0) (rs := 0) (by omega) (Nat.le_of_ble_eq_true rfl) (by assumption) (c_X12_of (f := 0) hM hS.1 rfl hS.2.1 (by decide) ?_)
  rw [e]
  refine E_iload_n (i := 1) dX12_voiced_10 rfl rfl ?_
  refine E_iload_n (i := 2) dX12_voiced_11 rfl rfl ?_
  refine k_X12_voiced_12 (mc' := 0) (ms' := 0) (rc := 0) (rs := 0) (by omega) (Nat.le_of_ble_eq_true rfl) (by assumption) (z_1_1_2 (by omega) hM hS ?_)
  refine E_iret dX12_voiced_15 rfl ?_
  exact hΦ
theorem y_1_1_1 {r : Nat} {x : Int32} (hd : 6 ≤ d) (hM : Mo g P) (hS : Sp I r 1) (hΦ : Φ (some (.int (((x + I 109 22) * 2) - (1 - I 110 (16 + 7 * r + 2))))) g P (mads I [20, 11, 10, 12])) : MM Γ mX12_body d 0 0 [.ref 109, .int 1, .int 1, .int x] g P I Φ := by
  refine MM_entry [some _, some _, some _, some _, none] (by decide) (Nat.le_of_ble_eq_true rfl) rfl ?_
  have h0 := hM.1
  refine E_iconst (v := 4) dX12_body_0 (by decide) ?_
  refine E_iload_n (i := 1) dX12_body_1 rfl rfl ?_
  refine E_imul dX12_body_2 ?_
  refine E_iload_n (i := 2) dX12_body_3 rfl rfl ?_
  refine E_iadd dX12_body_4 ?_
  refine E_tswIn (tgt := 190) dX12_body_5 (by decide) (by decide) rfl (by decide) ?_
  refine E_aload_n (i := 0) dX12_body_190 rfl rfl ?_
  refine E_bipush (v := 20) dX12_body_191 (by decide) ?_
  refine k_X12_body_193 (mc' := 0) (ms' := 0) (rc := 0) (rs := 0) (by omega) (Nat.le_of_ble_eq_true rfl) (by assumption) (c_madd hM hS ?_)
  refine E_aload_n (i := 0) dX12_body_196 rfl rfl ?_
  refine E_iconst (v := 0) dX12_body_197 (by decide) ?_
  refine E_iconst (v := 1) dX12_body_198 (by decide) ?_
  refine E_iload_n (i := 3) dX12_body_199 rfl rfl ?_
  refine k_X12_body_200 (mc' := 0) (ms' := 0) (rc := 0) (rs := 0) (by omega) (Nat.le_of_ble_eq_true rfl) (by assumption) (z_1_0_1 (by omega) hM (Sp_m _ hS) ?_)
  refine E_istoreC dX12_body_203 (by decide) rfl ?_
  refine E_lv (lv' := [_, _, _, _, _]) rfl ?_
  refine E_iload dX12_body_205 rfl ?_
  refine E_aload_n (i := 0) dX12_body_207 rfl rfl ?_
  refine E_iconst (v := 2) dX12_body_208 (by decide) ?_
  refine E_iconst (v := 1) dX12_body_209 (by decide) ?_
  refine k_X12_body_210 (mc' := 0) (ms' := 0) (rc := 0) (rs := 0) (by omega) (Nat.le_of_ble_eq_true rfl) (by assumption) (u_1_2 (by omega) hM (Sp_m _ (Sp_m _ hS)) ?_)
  refine E_isub dX12_body_213 ?_
  refine E_iret dX12_body_214 rfl ?_
  simp only [mads_app, mads_110, mads_22, List.cons_append, List.nil_append]
  exact hΦ
theorem z_1_1_1 {r : Nat} {x : Int32} (hd : 7 ≤ d) (hM : Mo g P) (hS : Sp I r 1) (hΦ : Φ (some (.int (((x + I 109 22) * 2) - (1 - I 110 (16 + 7 * r + 2))))) g P (mads I [20, 11, 10, 12])) : MM Γ mX12_bodyFrom d 0 0 [.ref 109, .int 1, .int 1, .int x] g P I Φ := by
  refine MM_entry [some _, some _, some _, some _, none] (by decide) (Nat.le_of_ble_eq_true rfl) rfl ?_
  have h0 := hM.1
  have s0 : E Γ mX12_bodyFrom d 0 0 (QM Γ 0 0 Φ) 0 0 3 [some (.ref 109), some (.int 1), some (.int 1), some (.int x), some (.int 1)] [] g P I := by
    refine E_iload dX12_bodyFrom_3 rfl ?_
    refine E_iload_n (i := 2) dX12_bodyFrom_5 rfl rfl ?_
    refine k_X12_bodyFrom_6 (mc' := 0) (ms' := 0) (rc := 0) (rs := 0) (by omega) (Nat.le_of_ble_eq_true rfl) (ho_1_1 ?_)
    refine E_if_ne (tgt := 22) dX12_bodyFrom_9 (by decide) (fun c_9 => ?_) (fun c_9 => absurd c_9 (by decide))
    refine E_aload_n (i := 0) dX12_bodyFrom_22 rfl rfl ?_
    refine E_iload dX12_bodyFrom_23 rfl ?_
    refine E_iload_n (i := 2) dX12_bodyFrom_25 rfl rfl ?_
    refine E_iload_n (i := 3) dX12_bodyFrom_26 rfl rfl ?_
    refine k_X12_bodyFrom_27 (mc' := 0) (ms' := 0) (rc := 0) (rs := 0) (by omega) (Nat.le_of_ble_eq_true rfl) (by assumption) (y_1_1_1 (by omega) hM hS ?_)
    refine E_iret dX12_bodyFrom_30 rfl ?_
    exact hΦ
  refine E_iload_n (i := 1) dX12_bodyFrom_0 rfl rfl ?_
  refine E_istoreC dX12_bodyFrom_1 (by decide) rfl ?_
  refine E_lv (lv' := [_, _, _, _, _]) rfl ?_
  exact s0
theorem u_1_1 {r : Nat} {x : Int32} (hd : 8 ≤ d) (hM : Mo g P) (hS : Sp I r 1) (hΦ : Φ (some (.int (((x + I 109 22) * 2) - (1 - I 110 (16 + 7 * r + 2))))) g P (mads I [20, 11, 10, 12])) : MM Γ mX12_voiced d 0 0 [.ref 109, .int 1, .int x] g P I Φ := by
  refine MM_entry [some _, some _, some _] (by decide) (Nat.le_of_ble_eq_true rfl) rfl ?_
  have h0 := hM.1
  have e : I 110 (16 + 7 * r + 0) = 1 := hS.2.2.1
  refine E_aload_n (i := 0) dX12_voiced_0 rfl rfl ?_
  refine E_aload_n (i := 0) dX12_voiced_1 rfl rfl ?_
  refine E_aload_n (i := 0) dX12_voiced_2 rfl rfl ?_
  refine E_gi dX12_voiced_3 gf_X12_285_12 rfl (by assumption) ?_
  refine E_iconst (v := 0) dX12_voiced_6 (by decide) ?_
  refine k_X12_voiced_7 (mc' := 0) (ms' := 0) (rc := 0) (rs := 0) (by omega) (Nat.le_of_ble_eq_true rfl) (by assumption) (c_X12_of (f := 0) hM hS.1 rfl hS.2.1 (by decide) ?_)
  rw [e]
  refine E_iload_n (i := 1) dX12_voiced_10 rfl rfl ?_
  refine E_iload_n (i := 2) dX12_voiced_11 rfl rfl ?_
  refine k_X12_voiced_12 (mc' := 0) (ms' := 0) (rc := 0) (rs := 0) (by omega) (Nat.le_of_ble_eq_true rfl) (by assumption) (z_1_1_1 (by omega) hM hS ?_)
  refine E_iret dX12_voiced_15 rfl ?_
  exact hΦ
theorem y_1_0_3 {r : Nat} {x : Int32} (hd : 9 ≤ d) (hM : Mo g P) (hS : Sp I r 1) (hΦ : Φ (some (.int ((((x + I 109 22) * 2) - (1 - I 110 (16 + 7 * r + 2))) ^^^ (x - I 110 (16 + 7 * r + 2))))) g P (mads I [13, 20, 11, 10, 12, 12])) : MM Γ mX12_body d 0 0 [.ref 109, .int 0, .int 3, .int x] g P I Φ := by
  refine MM_entry [some _, some _, some _, some _, none] (by decide) (Nat.le_of_ble_eq_true rfl) rfl ?_
  have h0 := hM.1
  refine E_iconst (v := 4) dX12_body_0 (by decide) ?_
  refine E_iload_n (i := 1) dX12_body_1 rfl rfl ?_
  refine E_imul dX12_body_2 ?_
  refine E_iload_n (i := 2) dX12_body_3 rfl rfl ?_
  refine E_iadd dX12_body_4 ?_
  refine E_tswIn (tgt := 166) dX12_body_5 (by decide) (by decide) rfl (by decide) ?_
  refine E_aload_n (i := 0) dX12_body_166 rfl rfl ?_
  refine E_bipush (v := 13) dX12_body_167 (by decide) ?_
  refine k_X12_body_169 (mc' := 0) (ms' := 0) (rc := 0) (rs := 0) (by omega) (Nat.le_of_ble_eq_true rfl) (by assumption) (c_madd hM hS ?_)
  refine E_aload_n (i := 0) dX12_body_172 rfl rfl ?_
  refine E_iconst (v := 1) dX12_body_173 (by decide) ?_
  refine E_iload_n (i := 3) dX12_body_174 rfl rfl ?_
  refine k_X12_body_175 (mc' := 0) (ms' := 0) (rc := 0) (rs := 0) (by omega) (Nat.le_of_ble_eq_true rfl) (by assumption) (u_1_1 (by omega) hM (Sp_m _ hS) ?_)
  refine E_istoreC dX12_body_178 (by decide) rfl ?_
  refine E_lv (lv' := [_, _, _, _, _]) rfl ?_
  refine E_iload dX12_body_180 rfl ?_
  refine E_aload_n (i := 0) dX12_body_182 rfl rfl ?_
  refine E_iconst (v := 2) dX12_body_183 (by decide) ?_
  refine E_iload_n (i := 3) dX12_body_184 rfl rfl ?_
  refine k_X12_body_185 (mc' := 0) (ms' := 0) (rc := 0) (rs := 0) (by omega) (Nat.le_of_ble_eq_true rfl) (by assumption) (u_1_2 (by omega) hM (Sp_m _ (Sp_m _ hS)) ?_)
  refine E_ixor dX12_body_188 ?_
  refine E_iret dX12_body_189 rfl ?_
  simp only [mads_app, mads_110, mads_22, List.cons_append, List.nil_append]
  exact hΦ
theorem z_1_1_3 {r : Nat} {x : Int32} (hd : 10 ≤ d) (hM : Mo g P) (hS : Sp I r 1) (hΦ : Φ (some (.int ((((x + I 109 22) * 2) - (1 - I 110 (16 + 7 * r + 2))) ^^^ (x - I 110 (16 + 7 * r + 2))))) g P (mads I [13, 20, 11, 10, 12, 12])) : MM Γ mX12_bodyFrom d 0 0 [.ref 109, .int 1, .int 3, .int x] g P I Φ := by
  refine MM_entry [some _, some _, some _, some _, none] (by decide) (Nat.le_of_ble_eq_true rfl) rfl ?_
  have h0 := hM.1
  have s1 : E Γ mX12_bodyFrom d 0 0 (QM Γ 0 0 Φ) 0 0 3 [some (.ref 109), some (.int 1), some (.int 3), some (.int x), some (.int 0)] [] g P I := by
    refine E_iload dX12_bodyFrom_3 rfl ?_
    refine E_iload_n (i := 2) dX12_bodyFrom_5 rfl rfl ?_
    refine k_X12_bodyFrom_6 (mc' := 0) (ms' := 0) (rc := 0) (rs := 0) (by omega) (Nat.le_of_ble_eq_true rfl) (ho_0_3 ?_)
    refine E_if_ne (tgt := 22) dX12_bodyFrom_9 (by decide) (fun c_9 => ?_) (fun c_9 => absurd c_9 (by decide))
    refine E_aload_n (i := 0) dX12_bodyFrom_22 rfl rfl ?_
    refine E_iload dX12_bodyFrom_23 rfl ?_
    refine E_iload_n (i := 2) dX12_bodyFrom_25 rfl rfl ?_
    refine E_iload_n (i := 3) dX12_bodyFrom_26 rfl rfl ?_
    refine k_X12_bodyFrom_27 (mc' := 0) (ms' := 0) (rc := 0) (rs := 0) (by omega) (Nat.le_of_ble_eq_true rfl) (by assumption) (y_1_0_3 (by omega) hM hS ?_)
    refine E_iret dX12_bodyFrom_30 rfl ?_
    exact hΦ
  have s0 : E Γ mX12_bodyFrom d 0 0 (QM Γ 0 0 Φ) 0 0 3 [some (.ref 109), some (.int 1), some (.int 3), some (.int x), some (.int 1)] [] g P I := by
    refine E_iload dX12_bodyFrom_3 rfl ?_
    refine E_iload_n (i := 2) dX12_bodyFrom_5 rfl rfl ?_
    refine k_X12_bodyFrom_6 (mc' := 0) (ms' := 0) (rc := 0) (rs := 0) (by omega) (Nat.le_of_ble_eq_true rfl) (ho_1_3 ?_)
    refine E_if_ne (tgt := 22) dX12_bodyFrom_9 (by decide) (fun c_9 => absurd (rfl) c_9) (fun c_9 => ?_)
    refine E_iload dX12_bodyFrom_12 rfl ?_
    refine k_X12_bodyFrom_14 (mc' := 0) (ms' := 0) (rc := 0) (rs := 0) (by omega) (Nat.le_of_ble_eq_true rfl) (c_X12_above ?_)
    rw [show abv 1 = 0 from by decide]
    refine E_istoreC dX12_bodyFrom_17 (by decide) rfl ?_
    refine E_lv (lv' := [_, _, _, _, _]) rfl ?_
    refine E_goto (tgt := 3) dX12_bodyFrom_19 (by decide) ?_
    exact s1
  refine E_iload_n (i := 1) dX12_bodyFrom_0 rfl rfl ?_
  refine E_istoreC dX12_bodyFrom_1 (by decide) rfl ?_
  refine E_lv (lv' := [_, _, _, _, _]) rfl ?_
  exact s0
theorem u_1_3 {r : Nat} {x : Int32} (hd : 11 ≤ d) (hM : Mo g P) (hS : Sp I r 1) (hΦ : Φ (some (.int ((((x + I 109 22) * 2) - (1 - I 110 (16 + 7 * r + 2))) ^^^ (x - I 110 (16 + 7 * r + 2))))) g P (mads I [13, 20, 11, 10, 12, 12])) : MM Γ mX12_voiced d 0 0 [.ref 109, .int 3, .int x] g P I Φ := by
  refine MM_entry [some _, some _, some _] (by decide) (Nat.le_of_ble_eq_true rfl) rfl ?_
  have h0 := hM.1
  have e : I 110 (16 + 7 * r + 0) = 1 := hS.2.2.1
  refine E_aload_n (i := 0) dX12_voiced_0 rfl rfl ?_
  refine E_aload_n (i := 0) dX12_voiced_1 rfl rfl ?_
  refine E_aload_n (i := 0) dX12_voiced_2 rfl rfl ?_
  refine E_gi dX12_voiced_3 gf_X12_285_12 rfl (by assumption) ?_
  refine E_iconst (v := 0) dX12_voiced_6 (by decide) ?_
  refine k_X12_voiced_7 (mc' := 0) (ms' := 0) (rc := 0) (rs := 0) (by omega) (Nat.le_of_ble_eq_true rfl) (by assumption) (c_X12_of (f := 0) hM hS.1 rfl hS.2.1 (by decide) ?_)
  rw [e]
  refine E_iload_n (i := 1) dX12_voiced_10 rfl rfl ?_
  refine E_iload_n (i := 2) dX12_voiced_11 rfl rfl ?_
  refine k_X12_voiced_12 (mc' := 0) (ms' := 0) (rc := 0) (rs := 0) (by omega) (Nat.le_of_ble_eq_true rfl) (by assumption) (z_1_1_3 (by omega) hM hS ?_)
  refine E_iret dX12_voiced_15 rfl ?_
  exact hΦ
theorem y_2_0_0 {r : Nat} {x : Int32} (hd : 1 ≤ d) (hM : Mo g P) (hS : Sp I r 2) (hΦ : Φ (some (.int (x + I 109 22))) g P (mads I [10])) : MM Γ mX12_body d 0 0 [.ref 109, .int 0, .int 0, .int x] g P I Φ := by
  refine MM_entry [some _, some _, some _, some _, none] (by decide) (Nat.le_of_ble_eq_true rfl) rfl ?_
  have h0 := hM.1
  refine E_iconst (v := 4) dX12_body_0 (by decide) ?_
  refine E_iload_n (i := 1) dX12_body_1 rfl rfl ?_
  refine E_imul dX12_body_2 ?_
  refine E_iload_n (i := 2) dX12_body_3 rfl rfl ?_
  refine E_iadd dX12_body_4 ?_
  refine E_tswIn (tgt := 120) dX12_body_5 (by decide) (by decide) rfl (by decide) ?_
  refine E_aload_n (i := 0) dX12_body_120 rfl rfl ?_
  refine E_bipush (v := 10) dX12_body_121 (by decide) ?_
  refine k_X12_body_123 (mc' := 0) (ms' := 0) (rc := 0) (rs := 0) (by omega) (Nat.le_of_ble_eq_true rfl) (by assumption) (c_madd hM hS ?_)
  refine E_iload_n (i := 3) dX12_body_126 rfl rfl ?_
  refine E_aload_n (i := 0) dX12_body_127 rfl rfl ?_
  refine E_gi dX12_body_128 gf_X12_285_12 rfl (by assumption) ?_
  refine E_iadd dX12_body_131 ?_
  refine E_iret dX12_body_132 rfl ?_
  simp only [mads_app, mads_110, mads_22, List.cons_append, List.nil_append]
  exact hΦ
theorem z_2_0_0 {r : Nat} {x : Int32} (hd : 2 ≤ d) (hM : Mo g P) (hS : Sp I r 2) (hΦ : Φ (some (.int (x + I 109 22))) g P (mads I [10])) : MM Γ mX12_bodyFrom d 0 0 [.ref 109, .int 0, .int 0, .int x] g P I Φ := by
  refine MM_entry [some _, some _, some _, some _, none] (by decide) (Nat.le_of_ble_eq_true rfl) rfl ?_
  have h0 := hM.1
  have s0 : E Γ mX12_bodyFrom d 0 0 (QM Γ 0 0 Φ) 0 0 3 [some (.ref 109), some (.int 0), some (.int 0), some (.int x), some (.int 0)] [] g P I := by
    refine E_iload dX12_bodyFrom_3 rfl ?_
    refine E_iload_n (i := 2) dX12_bodyFrom_5 rfl rfl ?_
    refine k_X12_bodyFrom_6 (mc' := 0) (ms' := 0) (rc := 0) (rs := 0) (by omega) (Nat.le_of_ble_eq_true rfl) (ho_0_0 ?_)
    refine E_if_ne (tgt := 22) dX12_bodyFrom_9 (by decide) (fun c_9 => ?_) (fun c_9 => absurd c_9 (by decide))
    refine E_aload_n (i := 0) dX12_bodyFrom_22 rfl rfl ?_
    refine E_iload dX12_bodyFrom_23 rfl ?_
    refine E_iload_n (i := 2) dX12_bodyFrom_25 rfl rfl ?_
    refine E_iload_n (i := 3) dX12_bodyFrom_26 rfl rfl ?_
    refine k_X12_bodyFrom_27 (mc' := 0) (ms' := 0) (rc := 0) (rs := 0) (by omega) (Nat.le_of_ble_eq_true rfl) (by assumption) (y_2_0_0 (by omega) hM hS ?_)
    refine E_iret dX12_bodyFrom_30 rfl ?_
    exact hΦ
  refine E_iload_n (i := 1) dX12_bodyFrom_0 rfl rfl ?_
  refine E_istoreC dX12_bodyFrom_1 (by decide) rfl ?_
  refine E_lv (lv' := [_, _, _, _, _]) rfl ?_
  exact s0
theorem y_2_2_0 {r : Nat} {x : Int32} (hd : 3 ≤ d) (hM : Mo g P) (hS : Sp I r 2) (hΦ : Φ (some (.int ((x + I 109 22) * 3))) g P (mads I [30, 10])) : MM Γ mX12_body d 0 0 [.ref 109, .int 2, .int 0, .int x] g P I Φ := by
  refine MM_entry [some _, some _, some _, some _, none] (by decide) (Nat.le_of_ble_eq_true rfl) rfl ?_
  have h0 := hM.1
  refine E_iconst (v := 4) dX12_body_0 (by decide) ?_
  refine E_iload_n (i := 1) dX12_body_1 rfl rfl ?_
  refine E_imul dX12_body_2 ?_
  refine E_iload_n (i := 2) dX12_body_3 rfl rfl ?_
  refine E_iadd dX12_body_4 ?_
  refine E_tswIn (tgt := 215) dX12_body_5 (by decide) (by decide) rfl (by decide) ?_
  refine E_aload_n (i := 0) dX12_body_215 rfl rfl ?_
  refine E_bipush (v := 30) dX12_body_216 (by decide) ?_
  refine k_X12_body_218 (mc' := 0) (ms' := 0) (rc := 0) (rs := 0) (by omega) (Nat.le_of_ble_eq_true rfl) (by assumption) (c_madd hM hS ?_)
  refine E_aload_n (i := 0) dX12_body_221 rfl rfl ?_
  refine E_iconst (v := 0) dX12_body_222 (by decide) ?_
  refine E_iconst (v := 0) dX12_body_223 (by decide) ?_
  refine E_iload_n (i := 3) dX12_body_224 rfl rfl ?_
  refine k_X12_body_225 (mc' := 0) (ms' := 0) (rc := 0) (rs := 0) (by omega) (Nat.le_of_ble_eq_true rfl) (by assumption) (z_2_0_0 (by omega) hM (Sp_m _ hS) ?_)
  refine E_iconst (v := 3) dX12_body_228 (by decide) ?_
  refine E_imul dX12_body_229 ?_
  refine E_iret dX12_body_230 rfl ?_
  simp only [mads_app, mads_110, mads_22, List.cons_append, List.nil_append]
  exact hΦ
theorem z_2_2_0 {r : Nat} {x : Int32} (hd : 4 ≤ d) (hM : Mo g P) (hS : Sp I r 2) (hΦ : Φ (some (.int ((x + I 109 22) * 3))) g P (mads I [30, 10])) : MM Γ mX12_bodyFrom d 0 0 [.ref 109, .int 2, .int 0, .int x] g P I Φ := by
  refine MM_entry [some _, some _, some _, some _, none] (by decide) (Nat.le_of_ble_eq_true rfl) rfl ?_
  have h0 := hM.1
  have s0 : E Γ mX12_bodyFrom d 0 0 (QM Γ 0 0 Φ) 0 0 3 [some (.ref 109), some (.int 2), some (.int 0), some (.int x), some (.int 2)] [] g P I := by
    refine E_iload dX12_bodyFrom_3 rfl ?_
    refine E_iload_n (i := 2) dX12_bodyFrom_5 rfl rfl ?_
    refine k_X12_bodyFrom_6 (mc' := 0) (ms' := 0) (rc := 0) (rs := 0) (by omega) (Nat.le_of_ble_eq_true rfl) (ho_2_0 ?_)
    refine E_if_ne (tgt := 22) dX12_bodyFrom_9 (by decide) (fun c_9 => ?_) (fun c_9 => absurd c_9 (by decide))
    refine E_aload_n (i := 0) dX12_bodyFrom_22 rfl rfl ?_
    refine E_iload dX12_bodyFrom_23 rfl ?_
    refine E_iload_n (i := 2) dX12_bodyFrom_25 rfl rfl ?_
    refine E_iload_n (i := 3) dX12_bodyFrom_26 rfl rfl ?_
    refine k_X12_bodyFrom_27 (mc' := 0) (ms' := 0) (rc := 0) (rs := 0) (by omega) (Nat.le_of_ble_eq_true rfl) (by assumption) (y_2_2_0 (by omega) hM hS ?_)
    refine E_iret dX12_bodyFrom_30 rfl ?_
    exact hΦ
  refine E_iload_n (i := 1) dX12_bodyFrom_0 rfl rfl ?_
  refine E_istoreC dX12_bodyFrom_1 (by decide) rfl ?_
  refine E_lv (lv' := [_, _, _, _, _]) rfl ?_
  exact s0
theorem u_2_0 {r : Nat} {x : Int32} (hd : 5 ≤ d) (hM : Mo g P) (hS : Sp I r 2) (hΦ : Φ (some (.int ((x + I 109 22) * 3))) g P (mads I [30, 10])) : MM Γ mX12_voiced d 0 0 [.ref 109, .int 0, .int x] g P I Φ := by
  refine MM_entry [some _, some _, some _] (by decide) (Nat.le_of_ble_eq_true rfl) rfl ?_
  have h0 := hM.1
  have e : I 110 (16 + 7 * r + 0) = 2 := hS.2.2.1
  refine E_aload_n (i := 0) dX12_voiced_0 rfl rfl ?_
  refine E_aload_n (i := 0) dX12_voiced_1 rfl rfl ?_
  refine E_aload_n (i := 0) dX12_voiced_2 rfl rfl ?_
  refine E_gi dX12_voiced_3 gf_X12_285_12 rfl (by assumption) ?_
  refine E_iconst (v := 0) dX12_voiced_6 (by decide) ?_
  refine k_X12_voiced_7 (mc' := 0) (ms' := 0) (rc := 0) (rs := 0) (by omega) (Nat.le_of_ble_eq_true rfl) (by assumption) (c_X12_of (f := 0) hM hS.1 rfl hS.2.1 (by decide) ?_)
  rw [e]
  refine E_iload_n (i := 1) dX12_voiced_10 rfl rfl ?_
  refine E_iload_n (i := 2) dX12_voiced_11 rfl rfl ?_
  refine k_X12_voiced_12 (mc' := 0) (ms' := 0) (rc := 0) (rs := 0) (by omega) (Nat.le_of_ble_eq_true rfl) (by assumption) (z_2_2_0 (by omega) hM hS ?_)
  refine E_iret dX12_voiced_15 rfl ?_
  exact hΦ
theorem y_2_0_1 {r : Nat} {x : Int32} (hd : 6 ≤ d) (hM : Mo g P) (hS : Sp I r 2) (hΦ : Φ (some (.int (((x + I 109 22) * 3) * 2))) g P (mads I [11, 30, 10])) : MM Γ mX12_body d 0 0 [.ref 109, .int 0, .int 1, .int x] g P I Φ := by
  refine MM_entry [some _, some _, some _, some _, none] (by decide) (Nat.le_of_ble_eq_true rfl) rfl ?_
  have h0 := hM.1
  refine E_iconst (v := 4) dX12_body_0 (by decide) ?_
  refine E_iload_n (i := 1) dX12_body_1 rfl rfl ?_
  refine E_imul dX12_body_2 ?_
  refine E_iload_n (i := 2) dX12_body_3 rfl rfl ?_
  refine E_iadd dX12_body_4 ?_
  refine E_tswIn (tgt := 133) dX12_body_5 (by decide) (by decide) rfl (by decide) ?_
  refine E_aload_n (i := 0) dX12_body_133 rfl rfl ?_
  refine E_bipush (v := 11) dX12_body_134 (by decide) ?_
  refine k_X12_body_136 (mc' := 0) (ms' := 0) (rc := 0) (rs := 0) (by omega) (Nat.le_of_ble_eq_true rfl) (by assumption) (c_madd hM hS ?_)
  refine E_aload_n (i := 0) dX12_body_139 rfl rfl ?_
  refine E_iconst (v := 0) dX12_body_140 (by decide) ?_
  refine E_iload_n (i := 3) dX12_body_141 rfl rfl ?_
  refine k_X12_body_142 (mc' := 0) (ms' := 0) (rc := 0) (rs := 0) (by omega) (Nat.le_of_ble_eq_true rfl) (by assumption) (u_2_0 (by omega) hM (Sp_m _ hS) ?_)
  refine E_iconst (v := 2) dX12_body_145 (by decide) ?_
  refine E_imul dX12_body_146 ?_
  refine E_iret dX12_body_147 rfl ?_
  simp only [mads_app, mads_110, mads_22, List.cons_append, List.nil_append]
  exact hΦ
theorem z_2_2_1 {r : Nat} {x : Int32} (hd : 7 ≤ d) (hM : Mo g P) (hS : Sp I r 2) (hΦ : Φ (some (.int (((x + I 109 22) * 3) * 2))) g P (mads I [11, 30, 10])) : MM Γ mX12_bodyFrom d 0 0 [.ref 109, .int 2, .int 1, .int x] g P I Φ := by
  refine MM_entry [some _, some _, some _, some _, none] (by decide) (Nat.le_of_ble_eq_true rfl) rfl ?_
  have h0 := hM.1
  have s1 : E Γ mX12_bodyFrom d 0 0 (QM Γ 0 0 Φ) 0 0 3 [some (.ref 109), some (.int 2), some (.int 1), some (.int x), some (.int 0)] [] g P I := by
    refine E_iload dX12_bodyFrom_3 rfl ?_
    refine E_iload_n (i := 2) dX12_bodyFrom_5 rfl rfl ?_
    refine k_X12_bodyFrom_6 (mc' := 0) (ms' := 0) (rc := 0) (rs := 0) (by omega) (Nat.le_of_ble_eq_true rfl) (ho_0_1 ?_)
    refine E_if_ne (tgt := 22) dX12_bodyFrom_9 (by decide) (fun c_9 => ?_) (fun c_9 => absurd c_9 (by decide))
    refine E_aload_n (i := 0) dX12_bodyFrom_22 rfl rfl ?_
    refine E_iload dX12_bodyFrom_23 rfl ?_
    refine E_iload_n (i := 2) dX12_bodyFrom_25 rfl rfl ?_
    refine E_iload_n (i := 3) dX12_bodyFrom_26 rfl rfl ?_
    refine k_X12_bodyFrom_27 (mc' := 0) (ms' := 0) (rc := 0) (rs := 0) (by omega) (Nat.le_of_ble_eq_true rfl) (by assumption) (y_2_0_1 (by omega) hM hS ?_)
    refine E_iret dX12_bodyFrom_30 rfl ?_
    exact hΦ
  have s0 : E Γ mX12_bodyFrom d 0 0 (QM Γ 0 0 Φ) 0 0 3 [some (.ref 109), some (.int 2), some (.int 1), some (.int x), some (.int 2)] [] g P I := by
    refine E_iload dX12_bodyFrom_3 rfl ?_
    refine E_iload_n (i := 2) dX12_bodyFrom_5 rfl rfl ?_
    refine k_X12_bodyFrom_6 (mc' := 0) (ms' := 0) (rc := 0) (rs := 0) (by omega) (Nat.le_of_ble_eq_true rfl) (ho_2_1 ?_)
    refine E_if_ne (tgt := 22) dX12_bodyFrom_9 (by decide) (fun c_9 => absurd (rfl) c_9) (fun c_9 => ?_)
    refine E_iload dX12_bodyFrom_12 rfl ?_
    refine k_X12_bodyFrom_14 (mc' := 0) (ms' := 0) (rc := 0) (rs := 0) (by omega) (Nat.le_of_ble_eq_true rfl) (c_X12_above ?_)
    rw [show abv 2 = 0 from by decide]
    refine E_istoreC dX12_bodyFrom_17 (by decide) rfl ?_
    refine E_lv (lv' := [_, _, _, _, _]) rfl ?_
    refine E_goto (tgt := 3) dX12_bodyFrom_19 (by decide) ?_
    exact s1
  refine E_iload_n (i := 1) dX12_bodyFrom_0 rfl rfl ?_
  refine E_istoreC dX12_bodyFrom_1 (by decide) rfl ?_
  refine E_lv (lv' := [_, _, _, _, _]) rfl ?_
  exact s0
theorem u_2_1 {r : Nat} {x : Int32} (hd : 8 ≤ d) (hM : Mo g P) (hS : Sp I r 2) (hΦ : Φ (some (.int (((x + I 109 22) * 3) * 2))) g P (mads I [11, 30, 10])) : MM Γ mX12_voiced d 0 0 [.ref 109, .int 1, .int x] g P I Φ := by
  refine MM_entry [some _, some _, some _] (by decide) (Nat.le_of_ble_eq_true rfl) rfl ?_
  have h0 := hM.1
  have e : I 110 (16 + 7 * r + 0) = 2 := hS.2.2.1
  refine E_aload_n (i := 0) dX12_voiced_0 rfl rfl ?_
  refine E_aload_n (i := 0) dX12_voiced_1 rfl rfl ?_
  refine E_aload_n (i := 0) dX12_voiced_2 rfl rfl ?_
  refine E_gi dX12_voiced_3 gf_X12_285_12 rfl (by assumption) ?_
  refine E_iconst (v := 0) dX12_voiced_6 (by decide) ?_
  refine k_X12_voiced_7 (mc' := 0) (ms' := 0) (rc := 0) (rs := 0) (by omega) (Nat.le_of_ble_eq_true rfl) (by assumption) (c_X12_of (f := 0) hM hS.1 rfl hS.2.1 (by decide) ?_)
  rw [e]
  refine E_iload_n (i := 1) dX12_voiced_10 rfl rfl ?_
  refine E_iload_n (i := 2) dX12_voiced_11 rfl rfl ?_
  refine k_X12_voiced_12 (mc' := 0) (ms' := 0) (rc := 0) (rs := 0) (by omega) (Nat.le_of_ble_eq_true rfl) (by assumption) (z_2_2_1 (by omega) hM hS ?_)
  refine E_iret dX12_voiced_15 rfl ?_
  exact hΦ
theorem y_2_0_2 {r : Nat} {x : Int32} (hd : 1 ≤ d) (hM : Mo g P) (hS : Sp I r 2) (hΦ : Φ (some (.int (x - I 110 (16 + 7 * r + 2)))) g P (mads I [12])) : MM Γ mX12_body d 0 0 [.ref 109, .int 0, .int 2, .int x] g P I Φ := by
  refine MM_entry [some _, some _, some _, some _, none] (by decide) (Nat.le_of_ble_eq_true rfl) rfl ?_
  have h0 := hM.1
  refine E_iconst (v := 4) dX12_body_0 (by decide) ?_
  refine E_iload_n (i := 1) dX12_body_1 rfl rfl ?_
  refine E_imul dX12_body_2 ?_
  refine E_iload_n (i := 2) dX12_body_3 rfl rfl ?_
  refine E_iadd dX12_body_4 ?_
  refine E_tswIn (tgt := 148) dX12_body_5 (by decide) (by decide) rfl (by decide) ?_
  refine E_aload_n (i := 0) dX12_body_148 rfl rfl ?_
  refine E_bipush (v := 12) dX12_body_149 (by decide) ?_
  refine k_X12_body_151 (mc' := 0) (ms' := 0) (rc := 0) (rs := 0) (by omega) (Nat.le_of_ble_eq_true rfl) (by assumption) (c_madd hM hS ?_)
  refine E_iload_n (i := 3) dX12_body_154 rfl rfl ?_
  refine E_aload_n (i := 0) dX12_body_155 rfl rfl ?_
  refine E_aload_n (i := 0) dX12_body_156 rfl rfl ?_
  refine E_gi dX12_body_157 gf_X12_285_12 rfl (by assumption) ?_
  refine E_iconst (v := 2) dX12_body_160 (by decide) ?_
  refine k_X12_body_161 (mc' := 0) (ms' := 0) (rc := 0) (rs := 0) (by omega) (Nat.le_of_ble_eq_true rfl) (by assumption) (c_X12_of (f := 2) hM (Sp_m _ hS).1 rfl hS.2.1 (by decide) ?_)
  refine E_isub dX12_body_164 ?_
  refine E_iret dX12_body_165 rfl ?_
  simp only [mads_app, mads_110, mads_22, List.cons_append, List.nil_append]
  exact hΦ
theorem z_2_2_2 {r : Nat} {x : Int32} (hd : 2 ≤ d) (hM : Mo g P) (hS : Sp I r 2) (hΦ : Φ (some (.int (x - I 110 (16 + 7 * r + 2)))) g P (mads I [12])) : MM Γ mX12_bodyFrom d 0 0 [.ref 109, .int 2, .int 2, .int x] g P I Φ := by
  refine MM_entry [some _, some _, some _, some _, none] (by decide) (Nat.le_of_ble_eq_true rfl) rfl ?_
  have h0 := hM.1
  have s1 : E Γ mX12_bodyFrom d 0 0 (QM Γ 0 0 Φ) 0 0 3 [some (.ref 109), some (.int 2), some (.int 2), some (.int x), some (.int 0)] [] g P I := by
    refine E_iload dX12_bodyFrom_3 rfl ?_
    refine E_iload_n (i := 2) dX12_bodyFrom_5 rfl rfl ?_
    refine k_X12_bodyFrom_6 (mc' := 0) (ms' := 0) (rc := 0) (rs := 0) (by omega) (Nat.le_of_ble_eq_true rfl) (ho_0_2 ?_)
    refine E_if_ne (tgt := 22) dX12_bodyFrom_9 (by decide) (fun c_9 => ?_) (fun c_9 => absurd c_9 (by decide))
    refine E_aload_n (i := 0) dX12_bodyFrom_22 rfl rfl ?_
    refine E_iload dX12_bodyFrom_23 rfl ?_
    refine E_iload_n (i := 2) dX12_bodyFrom_25 rfl rfl ?_
    refine E_iload_n (i := 3) dX12_bodyFrom_26 rfl rfl ?_
    refine k_X12_bodyFrom_27 (mc' := 0) (ms' := 0) (rc := 0) (rs := 0) (by omega) (Nat.le_of_ble_eq_true rfl) (by assumption) (y_2_0_2 (by omega) hM hS ?_)
    refine E_iret dX12_bodyFrom_30 rfl ?_
    exact hΦ
  have s0 : E Γ mX12_bodyFrom d 0 0 (QM Γ 0 0 Φ) 0 0 3 [some (.ref 109), some (.int 2), some (.int 2), some (.int x), some (.int 2)] [] g P I := by
    refine E_iload dX12_bodyFrom_3 rfl ?_
    refine E_iload_n (i := 2) dX12_bodyFrom_5 rfl rfl ?_
    refine k_X12_bodyFrom_6 (mc' := 0) (ms' := 0) (rc := 0) (rs := 0) (by omega) (Nat.le_of_ble_eq_true rfl) (ho_2_2 ?_)
    refine E_if_ne (tgt := 22) dX12_bodyFrom_9 (by decide) (fun c_9 => absurd (rfl) c_9) (fun c_9 => ?_)
    refine E_iload dX12_bodyFrom_12 rfl ?_
    refine k_X12_bodyFrom_14 (mc' := 0) (ms' := 0) (rc := 0) (rs := 0) (by omega) (Nat.le_of_ble_eq_true rfl) (c_X12_above ?_)
    rw [show abv 2 = 0 from by decide]
    refine E_istoreC dX12_bodyFrom_17 (by decide) rfl ?_
    refine E_lv (lv' := [_, _, _, _, _]) rfl ?_
    refine E_goto (tgt := 3) dX12_bodyFrom_19 (by decide) ?_
    exact s1
  refine E_iload_n (i := 1) dX12_bodyFrom_0 rfl rfl ?_
  refine E_istoreC dX12_bodyFrom_1 (by decide) rfl ?_
  refine E_lv (lv' := [_, _, _, _, _]) rfl ?_
  exact s0
theorem u_2_2 {r : Nat} {x : Int32} (hd : 3 ≤ d) (hM : Mo g P) (hS : Sp I r 2) (hΦ : Φ (some (.int (x - I 110 (16 + 7 * r + 2)))) g P (mads I [12])) : MM Γ mX12_voiced d 0 0 [.ref 109, .int 2, .int x] g P I Φ := by
  refine MM_entry [some _, some _, some _] (by decide) (Nat.le_of_ble_eq_true rfl) rfl ?_
  have h0 := hM.1
  have e : I 110 (16 + 7 * r + 0) = 2 := hS.2.2.1
  refine E_aload_n (i := 0) dX12_voiced_0 rfl rfl ?_
  refine E_aload_n (i := 0) dX12_voiced_1 rfl rfl ?_
  refine E_aload_n (i := 0) dX12_voiced_2 rfl rfl ?_
  refine E_gi dX12_voiced_3 gf_X12_285_12 rfl (by assumption) ?_
  refine E_iconst (v := 0) dX12_voiced_6 (by decide) ?_
  refine k_X12_voiced_7 (mc' := 0) (ms' := 0) (rc := 0) (rs := 0) (by omega) (Nat.le_of_ble_eq_true rfl) (by assumption) (c_X12_of (f := 0) hM hS.1 rfl hS.2.1 (by decide) ?_)
  rw [e]
  refine E_iload_n (i := 1) dX12_voiced_10 rfl rfl ?_
  refine E_iload_n (i := 2) dX12_voiced_11 rfl rfl ?_
  refine k_X12_voiced_12 (mc' := 0) (ms' := 0) (rc := 0) (rs := 0) (by omega) (Nat.le_of_ble_eq_true rfl) (by assumption) (z_2_2_2 (by omega) hM hS ?_)
  refine E_iret dX12_voiced_15 rfl ?_
  exact hΦ
theorem y_2_0_3 {r : Nat} {x : Int32} (hd : 9 ≤ d) (hM : Mo g P) (hS : Sp I r 2) (hΦ : Φ (some (.int ((((x + I 109 22) * 3) * 2) ^^^ (x - I 110 (16 + 7 * r + 2))))) g P (mads I [13, 11, 30, 10, 12])) : MM Γ mX12_body d 0 0 [.ref 109, .int 0, .int 3, .int x] g P I Φ := by
  refine MM_entry [some _, some _, some _, some _, none] (by decide) (Nat.le_of_ble_eq_true rfl) rfl ?_
  have h0 := hM.1
  refine E_iconst (v := 4) dX12_body_0 (by decide) ?_
  refine E_iload_n (i := 1) dX12_body_1 rfl rfl ?_
  refine E_imul dX12_body_2 ?_
  refine E_iload_n (i := 2) dX12_body_3 rfl rfl ?_
  refine E_iadd dX12_body_4 ?_
  refine E_tswIn (tgt := 166) dX12_body_5 (by decide) (by decide) rfl (by decide) ?_
  refine E_aload_n (i := 0) dX12_body_166 rfl rfl ?_
  refine E_bipush (v := 13) dX12_body_167 (by decide) ?_
  refine k_X12_body_169 (mc' := 0) (ms' := 0) (rc := 0) (rs := 0) (by omega) (Nat.le_of_ble_eq_true rfl) (by assumption) (c_madd hM hS ?_)
  refine E_aload_n (i := 0) dX12_body_172 rfl rfl ?_
  refine E_iconst (v := 1) dX12_body_173 (by decide) ?_
  refine E_iload_n (i := 3) dX12_body_174 rfl rfl ?_
  refine k_X12_body_175 (mc' := 0) (ms' := 0) (rc := 0) (rs := 0) (by omega) (Nat.le_of_ble_eq_true rfl) (by assumption) (u_2_1 (by omega) hM (Sp_m _ hS) ?_)
  refine E_istoreC dX12_body_178 (by decide) rfl ?_
  refine E_lv (lv' := [_, _, _, _, _]) rfl ?_
  refine E_iload dX12_body_180 rfl ?_
  refine E_aload_n (i := 0) dX12_body_182 rfl rfl ?_
  refine E_iconst (v := 2) dX12_body_183 (by decide) ?_
  refine E_iload_n (i := 3) dX12_body_184 rfl rfl ?_
  refine k_X12_body_185 (mc' := 0) (ms' := 0) (rc := 0) (rs := 0) (by omega) (Nat.le_of_ble_eq_true rfl) (by assumption) (u_2_2 (by omega) hM (Sp_m _ (Sp_m _ hS)) ?_)
  refine E_ixor dX12_body_188 ?_
  refine E_iret dX12_body_189 rfl ?_
  simp only [mads_app, mads_110, mads_22, List.cons_append, List.nil_append]
  exact hΦ
theorem z_2_2_3 {r : Nat} {x : Int32} (hd : 10 ≤ d) (hM : Mo g P) (hS : Sp I r 2) (hΦ : Φ (some (.int ((((x + I 109 22) * 3) * 2) ^^^ (x - I 110 (16 + 7 * r + 2))))) g P (mads I [13, 11, 30, 10, 12])) : MM Γ mX12_bodyFrom d 0 0 [.ref 109, .int 2, .int 3, .int x] g P I Φ := by
  refine MM_entry [some _, some _, some _, some _, none] (by decide) (Nat.le_of_ble_eq_true rfl) rfl ?_
  have h0 := hM.1
  have s1 : E Γ mX12_bodyFrom d 0 0 (QM Γ 0 0 Φ) 0 0 3 [some (.ref 109), some (.int 2), some (.int 3), some (.int x), some (.int 0)] [] g P I := by
    refine E_iload dX12_bodyFrom_3 rfl ?_
    refine E_iload_n (i := 2) dX12_bodyFrom_5 rfl rfl ?_
    refine k_X12_bodyFrom_6 (mc' := 0) (ms' := 0) (rc := 0) (rs := 0) (by omega) (Nat.le_of_ble_eq_true rfl) (ho_0_3 ?_)
    refine E_if_ne (tgt := 22) dX12_bodyFrom_9 (by decide) (fun c_9 => ?_) (fun c_9 => absurd c_9 (by decide))
    refine E_aload_n (i := 0) dX12_bodyFrom_22 rfl rfl ?_
    refine E_iload dX12_bodyFrom_23 rfl ?_
    refine E_iload_n (i := 2) dX12_bodyFrom_25 rfl rfl ?_
    refine E_iload_n (i := 3) dX12_bodyFrom_26 rfl rfl ?_
    refine k_X12_bodyFrom_27 (mc' := 0) (ms' := 0) (rc := 0) (rs := 0) (by omega) (Nat.le_of_ble_eq_true rfl) (by assumption) (y_2_0_3 (by omega) hM hS ?_)
    refine E_iret dX12_bodyFrom_30 rfl ?_
    exact hΦ
  have s0 : E Γ mX12_bodyFrom d 0 0 (QM Γ 0 0 Φ) 0 0 3 [some (.ref 109), some (.int 2), some (.int 3), some (.int x), some (.int 2)] [] g P I := by
    refine E_iload dX12_bodyFrom_3 rfl ?_
    refine E_iload_n (i := 2) dX12_bodyFrom_5 rfl rfl ?_
    refine k_X12_bodyFrom_6 (mc' := 0) (ms' := 0) (rc := 0) (rs := 0) (by omega) (Nat.le_of_ble_eq_true rfl) (ho_2_3 ?_)
    refine E_if_ne (tgt := 22) dX12_bodyFrom_9 (by decide) (fun c_9 => absurd (rfl) c_9) (fun c_9 => ?_)
    refine E_iload dX12_bodyFrom_12 rfl ?_
    refine k_X12_bodyFrom_14 (mc' := 0) (ms' := 0) (rc := 0) (rs := 0) (by omega) (Nat.le_of_ble_eq_true rfl) (c_X12_above ?_)
    rw [show abv 2 = 0 from by decide]
    refine E_istoreC dX12_bodyFrom_17 (by decide) rfl ?_
    refine E_lv (lv' := [_, _, _, _, _]) rfl ?_
    refine E_goto (tgt := 3) dX12_bodyFrom_19 (by decide) ?_
    exact s1
  refine E_iload_n (i := 1) dX12_bodyFrom_0 rfl rfl ?_
  refine E_istoreC dX12_bodyFrom_1 (by decide) rfl ?_
  refine E_lv (lv' := [_, _, _, _, _]) rfl ?_
  exact s0
theorem u_2_3 {r : Nat} {x : Int32} (hd : 11 ≤ d) (hM : Mo g P) (hS : Sp I r 2) (hΦ : Φ (some (.int ((((x + I 109 22) * 3) * 2) ^^^ (x - I 110 (16 + 7 * r + 2))))) g P (mads I [13, 11, 30, 10, 12])) : MM Γ mX12_voiced d 0 0 [.ref 109, .int 3, .int x] g P I Φ := by
  refine MM_entry [some _, some _, some _] (by decide) (Nat.le_of_ble_eq_true rfl) rfl ?_
  have h0 := hM.1
  have e : I 110 (16 + 7 * r + 0) = 2 := hS.2.2.1
  refine E_aload_n (i := 0) dX12_voiced_0 rfl rfl ?_
  refine E_aload_n (i := 0) dX12_voiced_1 rfl rfl ?_
  refine E_aload_n (i := 0) dX12_voiced_2 rfl rfl ?_
  refine E_gi dX12_voiced_3 gf_X12_285_12 rfl (by assumption) ?_
  refine E_iconst (v := 0) dX12_voiced_6 (by decide) ?_
  refine k_X12_voiced_7 (mc' := 0) (ms' := 0) (rc := 0) (rs := 0) (by omega) (Nat.le_of_ble_eq_true rfl) (by assumption) (c_X12_of (f := 0) hM hS.1 rfl hS.2.1 (by decide) ?_)
  rw [e]
  refine E_iload_n (i := 1) dX12_voiced_10 rfl rfl ?_
  refine E_iload_n (i := 2) dX12_voiced_11 rfl rfl ?_
  refine k_X12_voiced_12 (mc' := 0) (ms' := 0) (rc := 0) (rs := 0) (by omega) (Nat.le_of_ble_eq_true rfl) (by assumption) (z_2_2_3 (by omega) hM hS ?_)
  refine E_iret dX12_voiced_15 rfl ?_
  exact hΦ
theorem y_3_0_0 {r : Nat} {x : Int32} (hd : 1 ≤ d) (hM : Mo g P) (hS : Sp I r 3) (hΦ : Φ (some (.int (x + I 109 22))) g P (mads I [10])) : MM Γ mX12_body d 0 0 [.ref 109, .int 0, .int 0, .int x] g P I Φ := by
  refine MM_entry [some _, some _, some _, some _, none] (by decide) (Nat.le_of_ble_eq_true rfl) rfl ?_
  have h0 := hM.1
  refine E_iconst (v := 4) dX12_body_0 (by decide) ?_
  refine E_iload_n (i := 1) dX12_body_1 rfl rfl ?_
  refine E_imul dX12_body_2 ?_
  refine E_iload_n (i := 2) dX12_body_3 rfl rfl ?_
  refine E_iadd dX12_body_4 ?_
  refine E_tswIn (tgt := 120) dX12_body_5 (by decide) (by decide) rfl (by decide) ?_
  refine E_aload_n (i := 0) dX12_body_120 rfl rfl ?_
  refine E_bipush (v := 10) dX12_body_121 (by decide) ?_
  refine k_X12_body_123 (mc' := 0) (ms' := 0) (rc := 0) (rs := 0) (by omega) (Nat.le_of_ble_eq_true rfl) (by assumption) (c_madd hM hS ?_)
  refine E_iload_n (i := 3) dX12_body_126 rfl rfl ?_
  refine E_aload_n (i := 0) dX12_body_127 rfl rfl ?_
  refine E_gi dX12_body_128 gf_X12_285_12 rfl (by assumption) ?_
  refine E_iadd dX12_body_131 ?_
  refine E_iret dX12_body_132 rfl ?_
  simp only [mads_app, mads_110, mads_22, List.cons_append, List.nil_append]
  exact hΦ
theorem z_3_3_0 {r : Nat} {x : Int32} (hd : 2 ≤ d) (hM : Mo g P) (hS : Sp I r 3) (hΦ : Φ (some (.int (x + I 109 22))) g P (mads I [10])) : MM Γ mX12_bodyFrom d 0 0 [.ref 109, .int 3, .int 0, .int x] g P I Φ := by
  refine MM_entry [some _, some _, some _, some _, none] (by decide) (Nat.le_of_ble_eq_true rfl) rfl ?_
  have h0 := hM.1
  have s2 : E Γ mX12_bodyFrom d 0 0 (QM Γ 0 0 Φ) 0 0 3 [some (.ref 109), some (.int 3), some (.int 0), some (.int x), some (.int 0)] [] g P I := by
    refine E_iload dX12_bodyFrom_3 rfl ?_
    refine E_iload_n (i := 2) dX12_bodyFrom_5 rfl rfl ?_
    refine k_X12_bodyFrom_6 (mc' := 0) (ms' := 0) (rc := 0) (rs := 0) (by omega) (Nat.le_of_ble_eq_true rfl) (ho_0_0 ?_)
    refine E_if_ne (tgt := 22) dX12_bodyFrom_9 (by decide) (fun c_9 => ?_) (fun c_9 => absurd c_9 (by decide))
    refine E_aload_n (i := 0) dX12_bodyFrom_22 rfl rfl ?_
    refine E_iload dX12_bodyFrom_23 rfl ?_
    refine E_iload_n (i := 2) dX12_bodyFrom_25 rfl rfl ?_
    refine E_iload_n (i := 3) dX12_bodyFrom_26 rfl rfl ?_
    refine k_X12_bodyFrom_27 (mc' := 0) (ms' := 0) (rc := 0) (rs := 0) (by omega) (Nat.le_of_ble_eq_true rfl) (by assumption) (y_3_0_0 (by omega) hM hS ?_)
    refine E_iret dX12_bodyFrom_30 rfl ?_
    exact hΦ
  have s1 : E Γ mX12_bodyFrom d 0 0 (QM Γ 0 0 Φ) 0 0 3 [some (.ref 109), some (.int 3), some (.int 0), some (.int x), some (.int 1)] [] g P I := by
    refine E_iload dX12_bodyFrom_3 rfl ?_
    refine E_iload_n (i := 2) dX12_bodyFrom_5 rfl rfl ?_
    refine k_X12_bodyFrom_6 (mc' := 0) (ms' := 0) (rc := 0) (rs := 0) (by omega) (Nat.le_of_ble_eq_true rfl) (ho_1_0 ?_)
    refine E_if_ne (tgt := 22) dX12_bodyFrom_9 (by decide) (fun c_9 => absurd (rfl) c_9) (fun c_9 => ?_)
    refine E_iload dX12_bodyFrom_12 rfl ?_
    refine k_X12_bodyFrom_14 (mc' := 0) (ms' := 0) (rc := 0) (rs := 0) (by omega) (Nat.le_of_ble_eq_true rfl) (c_X12_above ?_)
    rw [show abv 1 = 0 from by decide]
    refine E_istoreC dX12_bodyFrom_17 (by decide) rfl ?_
    refine E_lv (lv' := [_, _, _, _, _]) rfl ?_
    refine E_goto (tgt := 3) dX12_bodyFrom_19 (by decide) ?_
    exact s2
  have s0 : E Γ mX12_bodyFrom d 0 0 (QM Γ 0 0 Φ) 0 0 3 [some (.ref 109), some (.int 3), some (.int 0), some (.int x), some (.int 3)] [] g P I := by
    refine E_iload dX12_bodyFrom_3 rfl ?_
    refine E_iload_n (i := 2) dX12_bodyFrom_5 rfl rfl ?_
    refine k_X12_bodyFrom_6 (mc' := 0) (ms' := 0) (rc := 0) (rs := 0) (by omega) (Nat.le_of_ble_eq_true rfl) (ho_3_0 ?_)
    refine E_if_ne (tgt := 22) dX12_bodyFrom_9 (by decide) (fun c_9 => absurd (rfl) c_9) (fun c_9 => ?_)
    refine E_iload dX12_bodyFrom_12 rfl ?_
    refine k_X12_bodyFrom_14 (mc' := 0) (ms' := 0) (rc := 0) (rs := 0) (by omega) (Nat.le_of_ble_eq_true rfl) (c_X12_above ?_)
    rw [show abv 3 = 1 from by decide]
    refine E_istoreC dX12_bodyFrom_17 (by decide) rfl ?_
    refine E_lv (lv' := [_, _, _, _, _]) rfl ?_
    refine E_goto (tgt := 3) dX12_bodyFrom_19 (by decide) ?_
    exact s1
  refine E_iload_n (i := 1) dX12_bodyFrom_0 rfl rfl ?_
  refine E_istoreC dX12_bodyFrom_1 (by decide) rfl ?_
  refine E_lv (lv' := [_, _, _, _, _]) rfl ?_
  exact s0
theorem u_3_0 {r : Nat} {x : Int32} (hd : 3 ≤ d) (hM : Mo g P) (hS : Sp I r 3) (hΦ : Φ (some (.int (x + I 109 22))) g P (mads I [10])) : MM Γ mX12_voiced d 0 0 [.ref 109, .int 0, .int x] g P I Φ := by
  refine MM_entry [some _, some _, some _] (by decide) (Nat.le_of_ble_eq_true rfl) rfl ?_
  have h0 := hM.1
  have e : I 110 (16 + 7 * r + 0) = 3 := hS.2.2.1
  refine E_aload_n (i := 0) dX12_voiced_0 rfl rfl ?_
  refine E_aload_n (i := 0) dX12_voiced_1 rfl rfl ?_
  refine E_aload_n (i := 0) dX12_voiced_2 rfl rfl ?_
  refine E_gi dX12_voiced_3 gf_X12_285_12 rfl (by assumption) ?_
  refine E_iconst (v := 0) dX12_voiced_6 (by decide) ?_
  refine k_X12_voiced_7 (mc' := 0) (ms' := 0) (rc := 0) (rs := 0) (by omega) (Nat.le_of_ble_eq_true rfl) (by assumption) (c_X12_of (f := 0) hM hS.1 rfl hS.2.1 (by decide) ?_)
  rw [e]
  refine E_iload_n (i := 1) dX12_voiced_10 rfl rfl ?_
  refine E_iload_n (i := 2) dX12_voiced_11 rfl rfl ?_
  refine k_X12_voiced_12 (mc' := 0) (ms' := 0) (rc := 0) (rs := 0) (by omega) (Nat.le_of_ble_eq_true rfl) (by assumption) (z_3_3_0 (by omega) hM hS ?_)
  refine E_iret dX12_voiced_15 rfl ?_
  exact hΦ
theorem y_3_0_1 {r : Nat} {x : Int32} (hd : 4 ≤ d) (hM : Mo g P) (hS : Sp I r 3) (hΦ : Φ (some (.int ((x + I 109 22) * 2))) g P (mads I [11, 10])) : MM Γ mX12_body d 0 0 [.ref 109, .int 0, .int 1, .int x] g P I Φ := by
  refine MM_entry [some _, some _, some _, some _, none] (by decide) (Nat.le_of_ble_eq_true rfl) rfl ?_
  have h0 := hM.1
  refine E_iconst (v := 4) dX12_body_0 (by decide) ?_
  refine E_iload_n (i := 1) dX12_body_1 rfl rfl ?_
  refine E_imul dX12_body_2 ?_
  refine E_iload_n (i := 2) dX12_body_3 rfl rfl ?_
  refine E_iadd dX12_body_4 ?_
  refine E_tswIn (tgt := 133) dX12_body_5 (by decide) (by decide) rfl (by decide) ?_
  refine E_aload_n (i := 0) dX12_body_133 rfl rfl ?_
  refine E_bipush (v := 11) dX12_body_134 (by decide) ?_
  refine k_X12_body_136 (mc' := 0) (ms' := 0) (rc := 0) (rs := 0) (by omega) (Nat.le_of_ble_eq_true rfl) (by assumption) (c_madd hM hS ?_)
  refine E_aload_n (i := 0) dX12_body_139 rfl rfl ?_
  refine E_iconst (v := 0) dX12_body_140 (by decide) ?_
  refine E_iload_n (i := 3) dX12_body_141 rfl rfl ?_
  refine k_X12_body_142 (mc' := 0) (ms' := 0) (rc := 0) (rs := 0) (by omega) (Nat.le_of_ble_eq_true rfl) (by assumption) (u_3_0 (by omega) hM (Sp_m _ hS) ?_)
  refine E_iconst (v := 2) dX12_body_145 (by decide) ?_
  refine E_imul dX12_body_146 ?_
  refine E_iret dX12_body_147 rfl ?_
  simp only [mads_app, mads_110, mads_22, List.cons_append, List.nil_append]
  exact hΦ
theorem z_3_0_1 {r : Nat} {x : Int32} (hd : 5 ≤ d) (hM : Mo g P) (hS : Sp I r 3) (hΦ : Φ (some (.int ((x + I 109 22) * 2))) g P (mads I [11, 10])) : MM Γ mX12_bodyFrom d 0 0 [.ref 109, .int 0, .int 1, .int x] g P I Φ := by
  refine MM_entry [some _, some _, some _, some _, none] (by decide) (Nat.le_of_ble_eq_true rfl) rfl ?_
  have h0 := hM.1
  have s0 : E Γ mX12_bodyFrom d 0 0 (QM Γ 0 0 Φ) 0 0 3 [some (.ref 109), some (.int 0), some (.int 1), some (.int x), some (.int 0)] [] g P I := by
    refine E_iload dX12_bodyFrom_3 rfl ?_
    refine E_iload_n (i := 2) dX12_bodyFrom_5 rfl rfl ?_
    refine k_X12_bodyFrom_6 (mc' := 0) (ms' := 0) (rc := 0) (rs := 0) (by omega) (Nat.le_of_ble_eq_true rfl) (ho_0_1 ?_)
    refine E_if_ne (tgt := 22) dX12_bodyFrom_9 (by decide) (fun c_9 => ?_) (fun c_9 => absurd c_9 (by decide))
    refine E_aload_n (i := 0) dX12_bodyFrom_22 rfl rfl ?_
    refine E_iload dX12_bodyFrom_23 rfl ?_
    refine E_iload_n (i := 2) dX12_bodyFrom_25 rfl rfl ?_
    refine E_iload_n (i := 3) dX12_bodyFrom_26 rfl rfl ?_
    refine k_X12_bodyFrom_27 (mc' := 0) (ms' := 0) (rc := 0) (rs := 0) (by omega) (Nat.le_of_ble_eq_true rfl) (by assumption) (y_3_0_1 (by omega) hM hS ?_)
    refine E_iret dX12_bodyFrom_30 rfl ?_
    exact hΦ
  refine E_iload_n (i := 1) dX12_bodyFrom_0 rfl rfl ?_
  refine E_istoreC dX12_bodyFrom_1 (by decide) rfl ?_
  refine E_lv (lv' := [_, _, _, _, _]) rfl ?_
  exact s0
theorem y_3_0_2 {r : Nat} {x : Int32} (hd : 1 ≤ d) (hM : Mo g P) (hS : Sp I r 3) (hΦ : Φ (some (.int (x - I 110 (16 + 7 * r + 2)))) g P (mads I [12])) : MM Γ mX12_body d 0 0 [.ref 109, .int 0, .int 2, .int x] g P I Φ := by
  refine MM_entry [some _, some _, some _, some _, none] (by decide) (Nat.le_of_ble_eq_true rfl) rfl ?_
  have h0 := hM.1
  refine E_iconst (v := 4) dX12_body_0 (by decide) ?_
  refine E_iload_n (i := 1) dX12_body_1 rfl rfl ?_
  refine E_imul dX12_body_2 ?_
  refine E_iload_n (i := 2) dX12_body_3 rfl rfl ?_
  refine E_iadd dX12_body_4 ?_
  refine E_tswIn (tgt := 148) dX12_body_5 (by decide) (by decide) rfl (by decide) ?_
  refine E_aload_n (i := 0) dX12_body_148 rfl rfl ?_
  refine E_bipush (v := 12) dX12_body_149 (by decide) ?_
  refine k_X12_body_151 (mc' := 0) (ms' := 0) (rc := 0) (rs := 0) (by omega) (Nat.le_of_ble_eq_true rfl) (by assumption) (c_madd hM hS ?_)
  refine E_iload_n (i := 3) dX12_body_154 rfl rfl ?_
  refine E_aload_n (i := 0) dX12_body_155 rfl rfl ?_
  refine E_aload_n (i := 0) dX12_body_156 rfl rfl ?_
  refine E_gi dX12_body_157 gf_X12_285_12 rfl (by assumption) ?_
  refine E_iconst (v := 2) dX12_body_160 (by decide) ?_
  refine k_X12_body_161 (mc' := 0) (ms' := 0) (rc := 0) (rs := 0) (by omega) (Nat.le_of_ble_eq_true rfl) (by assumption) (c_X12_of (f := 2) hM (Sp_m _ hS).1 rfl hS.2.1 (by decide) ?_)
  refine E_isub dX12_body_164 ?_
  refine E_iret dX12_body_165 rfl ?_
  simp only [mads_app, mads_110, mads_22, List.cons_append, List.nil_append]
  exact hΦ
theorem z_3_1_2 {r : Nat} {x : Int32} (hd : 2 ≤ d) (hM : Mo g P) (hS : Sp I r 3) (hΦ : Φ (some (.int (x - I 110 (16 + 7 * r + 2)))) g P (mads I [12])) : MM Γ mX12_bodyFrom d 0 0 [.ref 109, .int 1, .int 2, .int x] g P I Φ := by
  refine MM_entry [some _, some _, some _, some _, none] (by decide) (Nat.le_of_ble_eq_true rfl) rfl ?_
  have h0 := hM.1
  have s1 : E Γ mX12_bodyFrom d 0 0 (QM Γ 0 0 Φ) 0 0 3 [some (.ref 109), some (.int 1), some (.int 2), some (.int x), some (.int 0)] [] g P I := by
    refine E_iload dX12_bodyFrom_3 rfl ?_
    refine E_iload_n (i := 2) dX12_bodyFrom_5 rfl rfl ?_
    refine k_X12_bodyFrom_6 (mc' := 0) (ms' := 0) (rc := 0) (rs := 0) (by omega) (Nat.le_of_ble_eq_true rfl) (ho_0_2 ?_)
    refine E_if_ne (tgt := 22) dX12_bodyFrom_9 (by decide) (fun c_9 => ?_) (fun c_9 => absurd c_9 (by decide))
    refine E_aload_n (i := 0) dX12_bodyFrom_22 rfl rfl ?_
    refine E_iload dX12_bodyFrom_23 rfl ?_
    refine E_iload_n (i := 2) dX12_bodyFrom_25 rfl rfl ?_
    refine E_iload_n (i := 3) dX12_bodyFrom_26 rfl rfl ?_
    refine k_X12_bodyFrom_27 (mc' := 0) (ms' := 0) (rc := 0) (rs := 0) (by omega) (Nat.le_of_ble_eq_true rfl) (by assumption) (y_3_0_2 (by omega) hM hS ?_)
    refine E_iret dX12_bodyFrom_30 rfl ?_
    exact hΦ
  have s0 : E Γ mX12_bodyFrom d 0 0 (QM Γ 0 0 Φ) 0 0 3 [some (.ref 109), some (.int 1), some (.int 2), some (.int x), some (.int 1)] [] g P I := by
    refine E_iload dX12_bodyFrom_3 rfl ?_
    refine E_iload_n (i := 2) dX12_bodyFrom_5 rfl rfl ?_
    refine k_X12_bodyFrom_6 (mc' := 0) (ms' := 0) (rc := 0) (rs := 0) (by omega) (Nat.le_of_ble_eq_true rfl) (ho_1_2 ?_)
    refine E_if_ne (tgt := 22) dX12_bodyFrom_9 (by decide) (fun c_9 => absurd (rfl) c_9) (fun c_9 => ?_)
    refine E_iload dX12_bodyFrom_12 rfl ?_
    refine k_X12_bodyFrom_14 (mc' := 0) (ms' := 0) (rc := 0) (rs := 0) (by omega) (Nat.le_of_ble_eq_true rfl) (c_X12_above ?_)
    rw [show abv 1 = 0 from by decide]
    refine E_istoreC dX12_bodyFrom_17 (by decide) rfl ?_
    refine E_lv (lv' := [_, _, _, _, _]) rfl ?_
    refine E_goto (tgt := 3) dX12_bodyFrom_19 (by decide) ?_
    exact s1
  refine E_iload_n (i := 1) dX12_bodyFrom_0 rfl rfl ?_
  refine E_istoreC dX12_bodyFrom_1 (by decide) rfl ?_
  refine E_lv (lv' := [_, _, _, _, _]) rfl ?_
  exact s0
theorem y_3_3_2 {r : Nat} {x : Int32} (hd : 3 ≤ d) (hM : Mo g P) (hS : Sp I r 3) (hΦ : Φ (some (.int (-(x - I 110 (16 + 7 * r + 2))))) g P (mads I [40, 12])) : MM Γ mX12_body d 0 0 [.ref 109, .int 3, .int 2, .int x] g P I Φ := by
  refine MM_entry [some _, some _, some _, some _, none] (by decide) (Nat.le_of_ble_eq_true rfl) rfl ?_
  have h0 := hM.1
  refine E_iconst (v := 4) dX12_body_0 (by decide) ?_
  refine E_iload_n (i := 1) dX12_body_1 rfl rfl ?_
  refine E_imul dX12_body_2 ?_
  refine E_iload_n (i := 2) dX12_body_3 rfl rfl ?_
  refine E_iadd dX12_body_4 ?_
  refine E_tswIn (tgt := 231) dX12_body_5 (by decide) (by decide) rfl (by decide) ?_
  refine E_aload_n (i := 0) dX12_body_231 rfl rfl ?_
  refine E_bipush (v := 40) dX12_body_232 (by decide) ?_
  refine k_X12_body_234 (mc' := 0) (ms' := 0) (rc := 0) (rs := 0) (by omega) (Nat.le_of_ble_eq_true rfl) (by assumption) (c_madd hM hS ?_)
  refine E_aload_n (i := 0) dX12_body_237 rfl rfl ?_
  refine E_iconst (v := 1) dX12_body_238 (by decide) ?_
  refine E_iconst (v := 2) dX12_body_239 (by decide) ?_
  refine E_iload_n (i := 3) dX12_body_240 rfl rfl ?_
  refine k_X12_body_241 (mc' := 0) (ms' := 0) (rc := 0) (rs := 0) (by omega) (Nat.le_of_ble_eq_true rfl) (by assumption) (z_3_1_2 (by omega) hM (Sp_m _ hS) ?_)
  refine E_ineg dX12_body_244 ?_
  refine E_iret dX12_body_245 rfl ?_
  simp only [mads_app, mads_110, mads_22, List.cons_append, List.nil_append]
  exact hΦ
theorem z_3_3_2 {r : Nat} {x : Int32} (hd : 4 ≤ d) (hM : Mo g P) (hS : Sp I r 3) (hΦ : Φ (some (.int (-(x - I 110 (16 + 7 * r + 2))))) g P (mads I [40, 12])) : MM Γ mX12_bodyFrom d 0 0 [.ref 109, .int 3, .int 2, .int x] g P I Φ := by
  refine MM_entry [some _, some _, some _, some _, none] (by decide) (Nat.le_of_ble_eq_true rfl) rfl ?_
  have h0 := hM.1
  have s0 : E Γ mX12_bodyFrom d 0 0 (QM Γ 0 0 Φ) 0 0 3 [some (.ref 109), some (.int 3), some (.int 2), some (.int x), some (.int 3)] [] g P I := by
    refine E_iload dX12_bodyFrom_3 rfl ?_
    refine E_iload_n (i := 2) dX12_bodyFrom_5 rfl rfl ?_
    refine k_X12_bodyFrom_6 (mc' := 0) (ms' := 0) (rc := 0) (rs := 0) (by omega) (Nat.le_of_ble_eq_true rfl) (ho_3_2 ?_)
    refine E_if_ne (tgt := 22) dX12_bodyFrom_9 (by decide) (fun c_9 => ?_) (fun c_9 => absurd c_9 (by decide))
    refine E_aload_n (i := 0) dX12_bodyFrom_22 rfl rfl ?_
    refine E_iload dX12_bodyFrom_23 rfl ?_
    refine E_iload_n (i := 2) dX12_bodyFrom_25 rfl rfl ?_
    refine E_iload_n (i := 3) dX12_bodyFrom_26 rfl rfl ?_
    refine k_X12_bodyFrom_27 (mc' := 0) (ms' := 0) (rc := 0) (rs := 0) (by omega) (Nat.le_of_ble_eq_true rfl) (by assumption) (y_3_3_2 (by omega) hM hS ?_)
    refine E_iret dX12_bodyFrom_30 rfl ?_
    exact hΦ
  refine E_iload_n (i := 1) dX12_bodyFrom_0 rfl rfl ?_
  refine E_istoreC dX12_bodyFrom_1 (by decide) rfl ?_
  refine E_lv (lv' := [_, _, _, _, _]) rfl ?_
  exact s0
theorem u_3_2 {r : Nat} {x : Int32} (hd : 5 ≤ d) (hM : Mo g P) (hS : Sp I r 3) (hΦ : Φ (some (.int (-(x - I 110 (16 + 7 * r + 2))))) g P (mads I [40, 12])) : MM Γ mX12_voiced d 0 0 [.ref 109, .int 2, .int x] g P I Φ := by
  refine MM_entry [some _, some _, some _] (by decide) (Nat.le_of_ble_eq_true rfl) rfl ?_
  have h0 := hM.1
  have e : I 110 (16 + 7 * r + 0) = 3 := hS.2.2.1
  refine E_aload_n (i := 0) dX12_voiced_0 rfl rfl ?_
  refine E_aload_n (i := 0) dX12_voiced_1 rfl rfl ?_
  refine E_aload_n (i := 0) dX12_voiced_2 rfl rfl ?_
  refine E_gi dX12_voiced_3 gf_X12_285_12 rfl (by assumption) ?_
  refine E_iconst (v := 0) dX12_voiced_6 (by decide) ?_
  refine k_X12_voiced_7 (mc' := 0) (ms' := 0) (rc := 0) (rs := 0) (by omega) (Nat.le_of_ble_eq_true rfl) (by assumption) (c_X12_of (f := 0) hM hS.1 rfl hS.2.1 (by decide) ?_)
  rw [e]
  refine E_iload_n (i := 1) dX12_voiced_10 rfl rfl ?_
  refine E_iload_n (i := 2) dX12_voiced_11 rfl rfl ?_
  refine k_X12_voiced_12 (mc' := 0) (ms' := 0) (rc := 0) (rs := 0) (by omega) (Nat.le_of_ble_eq_true rfl) (by assumption) (z_3_3_2 (by omega) hM hS ?_)
  refine E_iret dX12_voiced_15 rfl ?_
  exact hΦ
theorem y_3_1_1 {r : Nat} {x : Int32} (hd : 6 ≤ d) (hM : Mo g P) (hS : Sp I r 3) (hΦ : Φ (some (.int (((x + I 109 22) * 2) - (-(1 - I 110 (16 + 7 * r + 2)))))) g P (mads I [20, 11, 10, 40, 12])) : MM Γ mX12_body d 0 0 [.ref 109, .int 1, .int 1, .int x] g P I Φ := by
  refine MM_entry [some _, some _, some _, some _, none] (by decide) (Nat.le_of_ble_eq_true rfl) rfl ?_
  have h0 := hM.1
  refine E_iconst (v := 4) dX12_body_0 (by decide) ?_
  refine E_iload_n (i := 1) dX12_body_1 rfl rfl ?_
  refine E_imul dX12_body_2 ?_
  refine E_iload_n (i := 2) dX12_body_3 rfl rfl ?_
  refine E_iadd dX12_body_4 ?_
  refine E_tswIn (tgt := 190) dX12_body_5 (by decide) (by decide) rfl (by decide) ?_
  refine E_aload_n (i := 0) dX12_body_190 rfl rfl ?_
  refine E_bipush (v := 20) dX12_body_191 (by decide) ?_
  refine k_X12_body_193 (mc' := 0) (ms' := 0) (rc := 0) (rs := 0) (by omega) (Nat.le_of_ble_eq_true rfl) (by assumption) (c_madd hM hS ?_)
  refine E_aload_n (i := 0) dX12_body_196 rfl rfl ?_
  refine E_iconst (v := 0) dX12_body_197 (by decide) ?_
  refine E_iconst (v := 1) dX12_body_198 (by decide) ?_
  refine E_iload_n (i := 3) dX12_body_199 rfl rfl ?_
  refine k_X12_body_200 (mc' := 0) (ms' := 0) (rc := 0) (rs := 0) (by omega) (Nat.le_of_ble_eq_true rfl) (by assumption) (z_3_0_1 (by omega) hM (Sp_m _ hS) ?_)
  refine E_istoreC dX12_body_203 (by decide) rfl ?_
  refine E_lv (lv' := [_, _, _, _, _]) rfl ?_
  refine E_iload dX12_body_205 rfl ?_
  refine E_aload_n (i := 0) dX12_body_207 rfl rfl ?_
  refine E_iconst (v := 2) dX12_body_208 (by decide) ?_
  refine E_iconst (v := 1) dX12_body_209 (by decide) ?_
  refine k_X12_body_210 (mc' := 0) (ms' := 0) (rc := 0) (rs := 0) (by omega) (Nat.le_of_ble_eq_true rfl) (by assumption) (u_3_2 (by omega) hM (Sp_m _ (Sp_m _ hS)) ?_)
  refine E_isub dX12_body_213 ?_
  refine E_iret dX12_body_214 rfl ?_
  simp only [mads_app, mads_110, mads_22, List.cons_append, List.nil_append]
  exact hΦ
theorem z_3_3_1 {r : Nat} {x : Int32} (hd : 7 ≤ d) (hM : Mo g P) (hS : Sp I r 3) (hΦ : Φ (some (.int (((x + I 109 22) * 2) - (-(1 - I 110 (16 + 7 * r + 2)))))) g P (mads I [20, 11, 10, 40, 12])) : MM Γ mX12_bodyFrom d 0 0 [.ref 109, .int 3, .int 1, .int x] g P I Φ := by
  refine MM_entry [some _, some _, some _, some _, none] (by decide) (Nat.le_of_ble_eq_true rfl) rfl ?_
  have h0 := hM.1
  have s1 : E Γ mX12_bodyFrom d 0 0 (QM Γ 0 0 Φ) 0 0 3 [some (.ref 109), some (.int 3), some (.int 1), some (.int x), some (.int 1)] [] g P I := by
    refine E_iload dX12_bodyFrom_3 rfl ?_
    refine E_iload_n (i := 2) dX12_bodyFrom_5 rfl rfl ?_
    refine k_X12_bodyFrom_6 (mc' := 0) (ms' := 0) (rc := 0) (rs := 0) (by omega) (Nat.le_of_ble_eq_true rfl) (ho_1_1 ?_)
    refine E_if_ne (tgt := 22) dX12_bodyFrom_9 (by decide) (fun c_9 => ?_) (fun c_9 => absurd c_9 (by decide))
    refine E_aload_n (i := 0) dX12_bodyFrom_22 rfl rfl ?_
    refine E_iload dX12_bodyFrom_23 rfl ?_
    refine E_iload_n (i := 2) dX12_bodyFrom_25 rfl rfl ?_
    refine E_iload_n (i := 3) dX12_bodyFrom_26 rfl rfl ?_
    refine k_X12_bodyFrom_27 (mc' := 0) (ms' := 0) (rc := 0) (rs := 0) (by omega) (Nat.le_of_ble_eq_true rfl) (by assumption) (y_3_1_1 (by omega) hM hS ?_)
    refine E_iret dX12_bodyFrom_30 rfl ?_
    exact hΦ
  have s0 : E Γ mX12_bodyFrom d 0 0 (QM Γ 0 0 Φ) 0 0 3 [some (.ref 109), some (.int 3), some (.int 1), some (.int x), some (.int 3)] [] g P I := by
    refine E_iload dX12_bodyFrom_3 rfl ?_
    refine E_iload_n (i := 2) dX12_bodyFrom_5 rfl rfl ?_
    refine k_X12_bodyFrom_6 (mc' := 0) (ms' := 0) (rc := 0) (rs := 0) (by omega) (Nat.le_of_ble_eq_true rfl) (ho_3_1 ?_)
    refine E_if_ne (tgt := 22) dX12_bodyFrom_9 (by decide) (fun c_9 => absurd (rfl) c_9) (fun c_9 => ?_)
    refine E_iload dX12_bodyFrom_12 rfl ?_
    refine k_X12_bodyFrom_14 (mc' := 0) (ms' := 0) (rc := 0) (rs := 0) (by omega) (Nat.le_of_ble_eq_true rfl) (c_X12_above ?_)
    rw [show abv 3 = 1 from by decide]
    refine E_istoreC dX12_bodyFrom_17 (by decide) rfl ?_
    refine E_lv (lv' := [_, _, _, _, _]) rfl ?_
    refine E_goto (tgt := 3) dX12_bodyFrom_19 (by decide) ?_
    exact s1
  refine E_iload_n (i := 1) dX12_bodyFrom_0 rfl rfl ?_
  refine E_istoreC dX12_bodyFrom_1 (by decide) rfl ?_
  refine E_lv (lv' := [_, _, _, _, _]) rfl ?_
  exact s0
theorem u_3_1 {r : Nat} {x : Int32} (hd : 8 ≤ d) (hM : Mo g P) (hS : Sp I r 3) (hΦ : Φ (some (.int (((x + I 109 22) * 2) - (-(1 - I 110 (16 + 7 * r + 2)))))) g P (mads I [20, 11, 10, 40, 12])) : MM Γ mX12_voiced d 0 0 [.ref 109, .int 1, .int x] g P I Φ := by
  refine MM_entry [some _, some _, some _] (by decide) (Nat.le_of_ble_eq_true rfl) rfl ?_
  have h0 := hM.1
  have e : I 110 (16 + 7 * r + 0) = 3 := hS.2.2.1
  refine E_aload_n (i := 0) dX12_voiced_0 rfl rfl ?_
  refine E_aload_n (i := 0) dX12_voiced_1 rfl rfl ?_
  refine E_aload_n (i := 0) dX12_voiced_2 rfl rfl ?_
  refine E_gi dX12_voiced_3 gf_X12_285_12 rfl (by assumption) ?_
  refine E_iconst (v := 0) dX12_voiced_6 (by decide) ?_
  refine k_X12_voiced_7 (mc' := 0) (ms' := 0) (rc := 0) (rs := 0) (by omega) (Nat.le_of_ble_eq_true rfl) (by assumption) (c_X12_of (f := 0) hM hS.1 rfl hS.2.1 (by decide) ?_)
  rw [e]
  refine E_iload_n (i := 1) dX12_voiced_10 rfl rfl ?_
  refine E_iload_n (i := 2) dX12_voiced_11 rfl rfl ?_
  refine k_X12_voiced_12 (mc' := 0) (ms' := 0) (rc := 0) (rs := 0) (by omega) (Nat.le_of_ble_eq_true rfl) (by assumption) (z_3_3_1 (by omega) hM hS ?_)
  refine E_iret dX12_voiced_15 rfl ?_
  exact hΦ
theorem y_3_0_3 {r : Nat} {x : Int32} (hd : 9 ≤ d) (hM : Mo g P) (hS : Sp I r 3) (hΦ : Φ (some (.int ((((x + I 109 22) * 2) - (-(1 - I 110 (16 + 7 * r + 2)))) ^^^ (-(x - I 110 (16 + 7 * r + 2)))))) g P (mads I [13, 20, 11, 10, 40, 12, 40, 12])) : MM Γ mX12_body d 0 0 [.ref 109, .int 0, .int 3, .int x] g P I Φ := by
  refine MM_entry [some _, some _, some _, some _, none] (by decide) (Nat.le_of_ble_eq_true rfl) rfl ?_
  have h0 := hM.1
  refine E_iconst (v := 4) dX12_body_0 (by decide) ?_
  refine E_iload_n (i := 1) dX12_body_1 rfl rfl ?_
  refine E_imul dX12_body_2 ?_
  refine E_iload_n (i := 2) dX12_body_3 rfl rfl ?_
  refine E_iadd dX12_body_4 ?_
  refine E_tswIn (tgt := 166) dX12_body_5 (by decide) (by decide) rfl (by decide) ?_
  refine E_aload_n (i := 0) dX12_body_166 rfl rfl ?_
  refine E_bipush (v := 13) dX12_body_167 (by decide) ?_
  refine k_X12_body_169 (mc' := 0) (ms' := 0) (rc := 0) (rs := 0) (by omega) (Nat.le_of_ble_eq_true rfl) (by assumption) (c_madd hM hS ?_)
  refine E_aload_n (i := 0) dX12_body_172 rfl rfl ?_
  refine E_iconst (v := 1) dX12_body_173 (by decide) ?_
  refine E_iload_n (i := 3) dX12_body_174 rfl rfl ?_
  refine k_X12_body_175 (mc' := 0) (ms' := 0) (rc := 0) (rs := 0) (by omega) (Nat.le_of_ble_eq_true rfl) (by assumption) (u_3_1 (by omega) hM (Sp_m _ hS) ?_)
  refine E_istoreC dX12_body_178 (by decide) rfl ?_
  refine E_lv (lv' := [_, _, _, _, _]) rfl ?_
  refine E_iload dX12_body_180 rfl ?_
  refine E_aload_n (i := 0) dX12_body_182 rfl rfl ?_
  refine E_iconst (v := 2) dX12_body_183 (by decide) ?_
  refine E_iload_n (i := 3) dX12_body_184 rfl rfl ?_
  refine k_X12_body_185 (mc' := 0) (ms' := 0) (rc := 0) (rs := 0) (by omega) (Nat.le_of_ble_eq_true rfl) (by assumption) (u_3_2 (by omega) hM (Sp_m _ (Sp_m _ hS)) ?_)
  refine E_ixor dX12_body_188 ?_
  refine E_iret dX12_body_189 rfl ?_
  simp only [mads_app, mads_110, mads_22, List.cons_append, List.nil_append]
  exact hΦ
theorem z_3_3_3 {r : Nat} {x : Int32} (hd : 10 ≤ d) (hM : Mo g P) (hS : Sp I r 3) (hΦ : Φ (some (.int ((((x + I 109 22) * 2) - (-(1 - I 110 (16 + 7 * r + 2)))) ^^^ (-(x - I 110 (16 + 7 * r + 2)))))) g P (mads I [13, 20, 11, 10, 40, 12, 40, 12])) : MM Γ mX12_bodyFrom d 0 0 [.ref 109, .int 3, .int 3, .int x] g P I Φ := by
  refine MM_entry [some _, some _, some _, some _, none] (by decide) (Nat.le_of_ble_eq_true rfl) rfl ?_
  have h0 := hM.1
  have s2 : E Γ mX12_bodyFrom d 0 0 (QM Γ 0 0 Φ) 0 0 3 [some (.ref 109), some (.int 3), some (.int 3), some (.int x), some (.int 0)] [] g P I := by
    refine E_iload dX12_bodyFrom_3 rfl ?_
    refine E_iload_n (i := 2) dX12_bodyFrom_5 rfl rfl ?_
    refine k_X12_bodyFrom_6 (mc' := 0) (ms' := 0) (rc := 0) (rs := 0) (by omega) (Nat.le_of_ble_eq_true rfl) (ho_0_3 ?_)
    refine E_if_ne (tgt := 22) dX12_bodyFrom_9 (by decide) (fun c_9 => ?_) (fun c_9 => absurd c_9 (by decide))
    refine E_aload_n (i := 0) dX12_bodyFrom_22 rfl rfl ?_
    refine E_iload dX12_bodyFrom_23 rfl ?_
    refine E_iload_n (i := 2) dX12_bodyFrom_25 rfl rfl ?_
    refine E_iload_n (i := 3) dX12_bodyFrom_26 rfl rfl ?_
    refine k_X12_bodyFrom_27 (mc' := 0) (ms' := 0) (rc := 0) (rs := 0) (by omega) (Nat.le_of_ble_eq_true rfl) (by assumption) (y_3_0_3 (by omega) hM hS ?_)
    refine E_iret dX12_bodyFrom_30 rfl ?_
    exact hΦ
  have s1 : E Γ mX12_bodyFrom d 0 0 (QM Γ 0 0 Φ) 0 0 3 [some (.ref 109), some (.int 3), some (.int 3), some (.int x), some (.int 1)] [] g P I := by
    refine E_iload dX12_bodyFrom_3 rfl ?_
    refine E_iload_n (i := 2) dX12_bodyFrom_5 rfl rfl ?_
    refine k_X12_bodyFrom_6 (mc' := 0) (ms' := 0) (rc := 0) (rs := 0) (by omega) (Nat.le_of_ble_eq_true rfl) (ho_1_3 ?_)
    refine E_if_ne (tgt := 22) dX12_bodyFrom_9 (by decide) (fun c_9 => absurd (rfl) c_9) (fun c_9 => ?_)
    refine E_iload dX12_bodyFrom_12 rfl ?_
    refine k_X12_bodyFrom_14 (mc' := 0) (ms' := 0) (rc := 0) (rs := 0) (by omega) (Nat.le_of_ble_eq_true rfl) (c_X12_above ?_)
    rw [show abv 1 = 0 from by decide]
    refine E_istoreC dX12_bodyFrom_17 (by decide) rfl ?_
    refine E_lv (lv' := [_, _, _, _, _]) rfl ?_
    refine E_goto (tgt := 3) dX12_bodyFrom_19 (by decide) ?_
    exact s2
  have s0 : E Γ mX12_bodyFrom d 0 0 (QM Γ 0 0 Φ) 0 0 3 [some (.ref 109), some (.int 3), some (.int 3), some (.int x), some (.int 3)] [] g P I := by
    refine E_iload dX12_bodyFrom_3 rfl ?_
    refine E_iload_n (i := 2) dX12_bodyFrom_5 rfl rfl ?_
    refine k_X12_bodyFrom_6 (mc' := 0) (ms' := 0) (rc := 0) (rs := 0) (by omega) (Nat.le_of_ble_eq_true rfl) (ho_3_3 ?_)
    refine E_if_ne (tgt := 22) dX12_bodyFrom_9 (by decide) (fun c_9 => absurd (rfl) c_9) (fun c_9 => ?_)
    refine E_iload dX12_bodyFrom_12 rfl ?_
    refine k_X12_bodyFrom_14 (mc' := 0) (ms' := 0) (rc := 0) (rs := 0) (by omega) (Nat.le_of_ble_eq_true rfl) (c_X12_above ?_)
    rw [show abv 3 = 1 from by decide]
    refine E_istoreC dX12_bodyFrom_17 (by decide) rfl ?_
    refine E_lv (lv' := [_, _, _, _, _]) rfl ?_
    refine E_goto (tgt := 3) dX12_bodyFrom_19 (by decide) ?_
    exact s1
  refine E_iload_n (i := 1) dX12_bodyFrom_0 rfl rfl ?_
  refine E_istoreC dX12_bodyFrom_1 (by decide) rfl ?_
  refine E_lv (lv' := [_, _, _, _, _]) rfl ?_
  exact s0
theorem u_3_3 {r : Nat} {x : Int32} (hd : 11 ≤ d) (hM : Mo g P) (hS : Sp I r 3) (hΦ : Φ (some (.int ((((x + I 109 22) * 2) - (-(1 - I 110 (16 + 7 * r + 2)))) ^^^ (-(x - I 110 (16 + 7 * r + 2)))))) g P (mads I [13, 20, 11, 10, 40, 12, 40, 12])) : MM Γ mX12_voiced d 0 0 [.ref 109, .int 3, .int x] g P I Φ := by
  refine MM_entry [some _, some _, some _] (by decide) (Nat.le_of_ble_eq_true rfl) rfl ?_
  have h0 := hM.1
  have e : I 110 (16 + 7 * r + 0) = 3 := hS.2.2.1
  refine E_aload_n (i := 0) dX12_voiced_0 rfl rfl ?_
  refine E_aload_n (i := 0) dX12_voiced_1 rfl rfl ?_
  refine E_aload_n (i := 0) dX12_voiced_2 rfl rfl ?_
  refine E_gi dX12_voiced_3 gf_X12_285_12 rfl (by assumption) ?_
  refine E_iconst (v := 0) dX12_voiced_6 (by decide) ?_
  refine k_X12_voiced_7 (mc' := 0) (ms' := 0) (rc := 0) (rs := 0) (by omega) (Nat.le_of_ble_eq_true rfl) (by assumption) (c_X12_of (f := 0) hM hS.1 rfl hS.2.1 (by decide) ?_)
  rw [e]
  refine E_iload_n (i := 1) dX12_voiced_10 rfl rfl ?_
  refine E_iload_n (i := 2) dX12_voiced_11 rfl rfl ?_
  refine k_X12_voiced_12 (mc' := 0) (ms' := 0) (rc := 0) (rs := 0) (by omega) (Nat.le_of_ble_eq_true rfl) (by assumption) (z_3_3_3 (by omega) hM hS ?_)
  refine E_iret dX12_voiced_15 rfl ?_
  exact hΦ
theorem y_4_0_0 {r : Nat} {x : Int32} (hd : 1 ≤ d) (hM : Mo g P) (hS : Sp I r 4) (hΦ : Φ (some (.int (x + I 109 22))) g P (mads I [10])) : MM Γ mX12_body d 0 0 [.ref 109, .int 0, .int 0, .int x] g P I Φ := by
  refine MM_entry [some _, some _, some _, some _, none] (by decide) (Nat.le_of_ble_eq_true rfl) rfl ?_
  have h0 := hM.1
  refine E_iconst (v := 4) dX12_body_0 (by decide) ?_
  refine E_iload_n (i := 1) dX12_body_1 rfl rfl ?_
  refine E_imul dX12_body_2 ?_
  refine E_iload_n (i := 2) dX12_body_3 rfl rfl ?_
  refine E_iadd dX12_body_4 ?_
  refine E_tswIn (tgt := 120) dX12_body_5 (by decide) (by decide) rfl (by decide) ?_
  refine E_aload_n (i := 0) dX12_body_120 rfl rfl ?_
  refine E_bipush (v := 10) dX12_body_121 (by decide) ?_
  refine k_X12_body_123 (mc' := 0) (ms' := 0) (rc := 0) (rs := 0) (by omega) (Nat.le_of_ble_eq_true rfl) (by assumption) (c_madd hM hS ?_)
  refine E_iload_n (i := 3) dX12_body_126 rfl rfl ?_
  refine E_aload_n (i := 0) dX12_body_127 rfl rfl ?_
  refine E_gi dX12_body_128 gf_X12_285_12 rfl (by assumption) ?_
  refine E_iadd dX12_body_131 ?_
  refine E_iret dX12_body_132 rfl ?_
  simp only [mads_app, mads_110, mads_22, List.cons_append, List.nil_append]
  exact hΦ
theorem z_4_4_0 {r : Nat} {x : Int32} (hd : 2 ≤ d) (hM : Mo g P) (hS : Sp I r 4) (hΦ : Φ (some (.int (x + I 109 22))) g P (mads I [10])) : MM Γ mX12_bodyFrom d 0 0 [.ref 109, .int 4, .int 0, .int x] g P I Φ := by
  refine MM_entry [some _, some _, some _, some _, none] (by decide) (Nat.le_of_ble_eq_true rfl) rfl ?_
  have h0 := hM.1
  have s1 : E Γ mX12_bodyFrom d 0 0 (QM Γ 0 0 Φ) 0 0 3 [some (.ref 109), some (.int 4), some (.int 0), some (.int x), some (.int 0)] [] g P I := by
    refine E_iload dX12_bodyFrom_3 rfl ?_
    refine E_iload_n (i := 2) dX12_bodyFrom_5 rfl rfl ?_
    refine k_X12_bodyFrom_6 (mc' := 0) (ms' := 0) (rc := 0) (rs := 0) (by omega) (Nat.le_of_ble_eq_true rfl) (ho_0_0 ?_)
    refine E_if_ne (tgt := 22) dX12_bodyFrom_9 (by decide) (fun c_9 => ?_) (fun c_9 => absurd c_9 (by decide))
    refine E_aload_n (i := 0) dX12_bodyFrom_22 rfl rfl ?_
    refine E_iload dX12_bodyFrom_23 rfl ?_
    refine E_iload_n (i := 2) dX12_bodyFrom_25 rfl rfl ?_
    refine E_iload_n (i := 3) dX12_bodyFrom_26 rfl rfl ?_
    refine k_X12_bodyFrom_27 (mc' := 0) (ms' := 0) (rc := 0) (rs := 0) (by omega) (Nat.le_of_ble_eq_true rfl) (by assumption) (y_4_0_0 (by omega) hM hS ?_)
    refine E_iret dX12_bodyFrom_30 rfl ?_
    exact hΦ
  have s0 : E Γ mX12_bodyFrom d 0 0 (QM Γ 0 0 Φ) 0 0 3 [some (.ref 109), some (.int 4), some (.int 0), some (.int x), some (.int 4)] [] g P I := by
    refine E_iload dX12_bodyFrom_3 rfl ?_
    refine E_iload_n (i := 2) dX12_bodyFrom_5 rfl rfl ?_
    refine k_X12_bodyFrom_6 (mc' := 0) (ms' := 0) (rc := 0) (rs := 0) (by omega) (Nat.le_of_ble_eq_true rfl) (ho_4_0 ?_)
    refine E_if_ne (tgt := 22) dX12_bodyFrom_9 (by decide) (fun c_9 => absurd (rfl) c_9) (fun c_9 => ?_)
    refine E_iload dX12_bodyFrom_12 rfl ?_
    refine k_X12_bodyFrom_14 (mc' := 0) (ms' := 0) (rc := 0) (rs := 0) (by omega) (Nat.le_of_ble_eq_true rfl) (c_X12_above ?_)
    rw [show abv 4 = 0 from by decide]
    refine E_istoreC dX12_bodyFrom_17 (by decide) rfl ?_
    refine E_lv (lv' := [_, _, _, _, _]) rfl ?_
    refine E_goto (tgt := 3) dX12_bodyFrom_19 (by decide) ?_
    exact s1
  refine E_iload_n (i := 1) dX12_bodyFrom_0 rfl rfl ?_
  refine E_istoreC dX12_bodyFrom_1 (by decide) rfl ?_
  refine E_lv (lv' := [_, _, _, _, _]) rfl ?_
  exact s0
theorem u_4_0 {r : Nat} {x : Int32} (hd : 3 ≤ d) (hM : Mo g P) (hS : Sp I r 4) (hΦ : Φ (some (.int (x + I 109 22))) g P (mads I [10])) : MM Γ mX12_voiced d 0 0 [.ref 109, .int 0, .int x] g P I Φ := by
  refine MM_entry [some _, some _, some _] (by decide) (Nat.le_of_ble_eq_true rfl) rfl ?_
  have h0 := hM.1
  have e : I 110 (16 + 7 * r + 0) = 4 := hS.2.2.1
  refine E_aload_n (i := 0) dX12_voiced_0 rfl rfl ?_
  refine E_aload_n (i := 0) dX12_voiced_1 rfl rfl ?_
  refine E_aload_n (i := 0) dX12_voiced_2 rfl rfl ?_
  refine E_gi dX12_voiced_3 gf_X12_285_12 rfl (by assumption) ?_
  refine E_iconst (v := 0) dX12_voiced_6 (by decide) ?_
  refine k_X12_voiced_7 (mc' := 0) (ms' := 0) (rc := 0) (rs := 0) (by omega) (Nat.le_of_ble_eq_true rfl) (by assumption) (c_X12_of (f := 0) hM hS.1 rfl hS.2.1 (by decide) ?_)
  rw [e]
  refine E_iload_n (i := 1) dX12_voiced_10 rfl rfl ?_
  refine E_iload_n (i := 2) dX12_voiced_11 rfl rfl ?_
  refine k_X12_voiced_12 (mc' := 0) (ms' := 0) (rc := 0) (rs := 0) (by omega) (Nat.le_of_ble_eq_true rfl) (by assumption) (z_4_4_0 (by omega) hM hS ?_)
  refine E_iret dX12_voiced_15 rfl ?_
  exact hΦ
theorem y_4_0_1 {r : Nat} {x : Int32} (hd : 4 ≤ d) (hM : Mo g P) (hS : Sp I r 4) (hΦ : Φ (some (.int ((x + I 109 22) * 2))) g P (mads I [11, 10])) : MM Γ mX12_body d 0 0 [.ref 109, .int 0, .int 1, .int x] g P I Φ := by
  refine MM_entry [some _, some _, some _, some _, none] (by decide) (Nat.le_of_ble_eq_true rfl) rfl ?_
  have h0 := hM.1
  refine E_iconst (v := 4) dX12_body_0 (by decide) ?_
  refine E_iload_n (i := 1) dX12_body_1 rfl rfl ?_
  refine E_imul dX12_body_2 ?_
  refine E_iload_n (i := 2) dX12_body_3 rfl rfl ?_
  refine E_iadd dX12_body_4 ?_
  refine E_tswIn (tgt := 133) dX12_body_5 (by decide) (by decide) rfl (by decide) ?_
  refine E_aload_n (i := 0) dX12_body_133 rfl rfl ?_
  refine E_bipush (v := 11) dX12_body_134 (by decide) ?_
  refine k_X12_body_136 (mc' := 0) (ms' := 0) (rc := 0) (rs := 0) (by omega) (Nat.le_of_ble_eq_true rfl) (by assumption) (c_madd hM hS ?_)
  refine E_aload_n (i := 0) dX12_body_139 rfl rfl ?_
  refine E_iconst (v := 0) dX12_body_140 (by decide) ?_
  refine E_iload_n (i := 3) dX12_body_141 rfl rfl ?_
  refine k_X12_body_142 (mc' := 0) (ms' := 0) (rc := 0) (rs := 0) (by omega) (Nat.le_of_ble_eq_true rfl) (by assumption) (u_4_0 (by omega) hM (Sp_m _ hS) ?_)
  refine E_iconst (v := 2) dX12_body_145 (by decide) ?_
  refine E_imul dX12_body_146 ?_
  refine E_iret dX12_body_147 rfl ?_
  simp only [mads_app, mads_110, mads_22, List.cons_append, List.nil_append]
  exact hΦ
theorem z_4_4_1 {r : Nat} {x : Int32} (hd : 5 ≤ d) (hM : Mo g P) (hS : Sp I r 4) (hΦ : Φ (some (.int ((x + I 109 22) * 2))) g P (mads I [11, 10])) : MM Γ mX12_bodyFrom d 0 0 [.ref 109, .int 4, .int 1, .int x] g P I Φ := by
  refine MM_entry [some _, some _, some _, some _, none] (by decide) (Nat.le_of_ble_eq_true rfl) rfl ?_
  have h0 := hM.1
  have s1 : E Γ mX12_bodyFrom d 0 0 (QM Γ 0 0 Φ) 0 0 3 [some (.ref 109), some (.int 4), some (.int 1), some (.int x), some (.int 0)] [] g P I := by
    refine E_iload dX12_bodyFrom_3 rfl ?_
    refine E_iload_n (i := 2) dX12_bodyFrom_5 rfl rfl ?_
    refine k_X12_bodyFrom_6 (mc' := 0) (ms' := 0) (rc := 0) (rs := 0) (by omega) (Nat.le_of_ble_eq_true rfl) (ho_0_1 ?_)
    refine E_if_ne (tgt := 22) dX12_bodyFrom_9 (by decide) (fun c_9 => ?_) (fun c_9 => absurd c_9 (by decide))
    refine E_aload_n (i := 0) dX12_bodyFrom_22 rfl rfl ?_
    refine E_iload dX12_bodyFrom_23 rfl ?_
    refine E_iload_n (i := 2) dX12_bodyFrom_25 rfl rfl ?_
    refine E_iload_n (i := 3) dX12_bodyFrom_26 rfl rfl ?_
    refine k_X12_bodyFrom_27 (mc' := 0) (ms' := 0) (rc := 0) (rs := 0) (by omega) (Nat.le_of_ble_eq_true rfl) (by assumption) (y_4_0_1 (by omega) hM hS ?_)
    refine E_iret dX12_bodyFrom_30 rfl ?_
    exact hΦ
  have s0 : E Γ mX12_bodyFrom d 0 0 (QM Γ 0 0 Φ) 0 0 3 [some (.ref 109), some (.int 4), some (.int 1), some (.int x), some (.int 4)] [] g P I := by
    refine E_iload dX12_bodyFrom_3 rfl ?_
    refine E_iload_n (i := 2) dX12_bodyFrom_5 rfl rfl ?_
    refine k_X12_bodyFrom_6 (mc' := 0) (ms' := 0) (rc := 0) (rs := 0) (by omega) (Nat.le_of_ble_eq_true rfl) (ho_4_1 ?_)
    refine E_if_ne (tgt := 22) dX12_bodyFrom_9 (by decide) (fun c_9 => absurd (rfl) c_9) (fun c_9 => ?_)
    refine E_iload dX12_bodyFrom_12 rfl ?_
    refine k_X12_bodyFrom_14 (mc' := 0) (ms' := 0) (rc := 0) (rs := 0) (by omega) (Nat.le_of_ble_eq_true rfl) (c_X12_above ?_)
    rw [show abv 4 = 0 from by decide]
    refine E_istoreC dX12_bodyFrom_17 (by decide) rfl ?_
    refine E_lv (lv' := [_, _, _, _, _]) rfl ?_
    refine E_goto (tgt := 3) dX12_bodyFrom_19 (by decide) ?_
    exact s1
  refine E_iload_n (i := 1) dX12_bodyFrom_0 rfl rfl ?_
  refine E_istoreC dX12_bodyFrom_1 (by decide) rfl ?_
  refine E_lv (lv' := [_, _, _, _, _]) rfl ?_
  exact s0
theorem u_4_1 {r : Nat} {x : Int32} (hd : 6 ≤ d) (hM : Mo g P) (hS : Sp I r 4) (hΦ : Φ (some (.int ((x + I 109 22) * 2))) g P (mads I [11, 10])) : MM Γ mX12_voiced d 0 0 [.ref 109, .int 1, .int x] g P I Φ := by
  refine MM_entry [some _, some _, some _] (by decide) (Nat.le_of_ble_eq_true rfl) rfl ?_
  have h0 := hM.1
  have e : I 110 (16 + 7 * r + 0) = 4 := hS.2.2.1
  refine E_aload_n (i := 0) dX12_voiced_0 rfl rfl ?_
  refine E_aload_n (i := 0) dX12_voiced_1 rfl rfl ?_
  refine E_aload_n (i := 0) dX12_voiced_2 rfl rfl ?_
  refine E_gi dX12_voiced_3 gf_X12_285_12 rfl (by assumption) ?_
  refine E_iconst (v := 0) dX12_voiced_6 (by decide) ?_
  refine k_X12_voiced_7 (mc' := 0) (ms' := 0) (rc := 0) (rs := 0) (by omega) (Nat.le_of_ble_eq_true rfl) (by assumption) (c_X12_of (f := 0) hM hS.1 rfl hS.2.1 (by decide) ?_)
  rw [e]
  refine E_iload_n (i := 1) dX12_voiced_10 rfl rfl ?_
  refine E_iload_n (i := 2) dX12_voiced_11 rfl rfl ?_
  refine k_X12_voiced_12 (mc' := 0) (ms' := 0) (rc := 0) (rs := 0) (by omega) (Nat.le_of_ble_eq_true rfl) (by assumption) (z_4_4_1 (by omega) hM hS ?_)
  refine E_iret dX12_voiced_15 rfl ?_
  exact hΦ
theorem y_4_0_2 {r : Nat} {x : Int32} (hd : 1 ≤ d) (hM : Mo g P) (hS : Sp I r 4) (hΦ : Φ (some (.int (x - I 110 (16 + 7 * r + 2)))) g P (mads I [12])) : MM Γ mX12_body d 0 0 [.ref 109, .int 0, .int 2, .int x] g P I Φ := by
  refine MM_entry [some _, some _, some _, some _, none] (by decide) (Nat.le_of_ble_eq_true rfl) rfl ?_
  have h0 := hM.1
  refine E_iconst (v := 4) dX12_body_0 (by decide) ?_
  refine E_iload_n (i := 1) dX12_body_1 rfl rfl ?_
  refine E_imul dX12_body_2 ?_
  refine E_iload_n (i := 2) dX12_body_3 rfl rfl ?_
  refine E_iadd dX12_body_4 ?_
  refine E_tswIn (tgt := 148) dX12_body_5 (by decide) (by decide) rfl (by decide) ?_
  refine E_aload_n (i := 0) dX12_body_148 rfl rfl ?_
  refine E_bipush (v := 12) dX12_body_149 (by decide) ?_
  refine k_X12_body_151 (mc' := 0) (ms' := 0) (rc := 0) (rs := 0) (by omega) (Nat.le_of_ble_eq_true rfl) (by assumption) (c_madd hM hS ?_)
  refine E_iload_n (i := 3) dX12_body_154 rfl rfl ?_
  refine E_aload_n (i := 0) dX12_body_155 rfl rfl ?_
  refine E_aload_n (i := 0) dX12_body_156 rfl rfl ?_
  refine E_gi dX12_body_157 gf_X12_285_12 rfl (by assumption) ?_
  refine E_iconst (v := 2) dX12_body_160 (by decide) ?_
  refine k_X12_body_161 (mc' := 0) (ms' := 0) (rc := 0) (rs := 0) (by omega) (Nat.le_of_ble_eq_true rfl) (by assumption) (c_X12_of (f := 2) hM (Sp_m _ hS).1 rfl hS.2.1 (by decide) ?_)
  refine E_isub dX12_body_164 ?_
  refine E_iret dX12_body_165 rfl ?_
  simp only [mads_app, mads_110, mads_22, List.cons_append, List.nil_append]
  exact hΦ
theorem z_4_4_2 {r : Nat} {x : Int32} (hd : 2 ≤ d) (hM : Mo g P) (hS : Sp I r 4) (hΦ : Φ (some (.int (x - I 110 (16 + 7 * r + 2)))) g P (mads I [12])) : MM Γ mX12_bodyFrom d 0 0 [.ref 109, .int 4, .int 2, .int x] g P I Φ := by
  refine MM_entry [some _, some _, some _, some _, none] (by decide) (Nat.le_of_ble_eq_true rfl) rfl ?_
  have h0 := hM.1
  have s1 : E Γ mX12_bodyFrom d 0 0 (QM Γ 0 0 Φ) 0 0 3 [some (.ref 109), some (.int 4), some (.int 2), some (.int x), some (.int 0)] [] g P I := by
    refine E_iload dX12_bodyFrom_3 rfl ?_
    refine E_iload_n (i := 2) dX12_bodyFrom_5 rfl rfl ?_
    refine k_X12_bodyFrom_6 (mc' := 0) (ms' := 0) (rc := 0) (rs := 0) (by omega) (Nat.le_of_ble_eq_true rfl) (ho_0_2 ?_)
    refine E_if_ne (tgt := 22) dX12_bodyFrom_9 (by decide) (fun c_9 => ?_) (fun c_9 => absurd c_9 (by decide))
    refine E_aload_n (i := 0) dX12_bodyFrom_22 rfl rfl ?_
    refine E_iload dX12_bodyFrom_23 rfl ?_
    refine E_iload_n (i := 2) dX12_bodyFrom_25 rfl rfl ?_
    refine E_iload_n (i := 3) dX12_bodyFrom_26 rfl rfl ?_
    refine k_X12_bodyFrom_27 (mc' := 0) (ms' := 0) (rc := 0) (rs := 0) (by omega) (Nat.le_of_ble_eq_true rfl) (by assumption) (y_4_0_2 (by omega) hM hS ?_)
    refine E_iret dX12_bodyFrom_30 rfl ?_
    exact hΦ
  have s0 : E Γ mX12_bodyFrom d 0 0 (QM Γ 0 0 Φ) 0 0 3 [some (.ref 109), some (.int 4), some (.int 2), some (.int x), some (.int 4)] [] g P I := by
    refine E_iload dX12_bodyFrom_3 rfl ?_
    refine E_iload_n (i := 2) dX12_bodyFrom_5 rfl rfl ?_
    refine k_X12_bodyFrom_6 (mc' := 0) (ms' := 0) (rc := 0) (rs := 0) (by omega) (Nat.le_of_ble_eq_true rfl) (ho_4_2 ?_)
    refine E_if_ne (tgt := 22) dX12_bodyFrom_9 (by decide) (fun c_9 => absurd (rfl) c_9) (fun c_9 => ?_)
    refine E_iload dX12_bodyFrom_12 rfl ?_
    refine k_X12_bodyFrom_14 (mc' := 0) (ms' := 0) (rc := 0) (rs := 0) (by omega) (Nat.le_of_ble_eq_true rfl) (c_X12_above ?_)
    rw [show abv 4 = 0 from by decide]
    refine E_istoreC dX12_bodyFrom_17 (by decide) rfl ?_
    refine E_lv (lv' := [_, _, _, _, _]) rfl ?_
    refine E_goto (tgt := 3) dX12_bodyFrom_19 (by decide) ?_
    exact s1
  refine E_iload_n (i := 1) dX12_bodyFrom_0 rfl rfl ?_
  refine E_istoreC dX12_bodyFrom_1 (by decide) rfl ?_
  refine E_lv (lv' := [_, _, _, _, _]) rfl ?_
  exact s0
theorem u_4_2 {r : Nat} {x : Int32} (hd : 3 ≤ d) (hM : Mo g P) (hS : Sp I r 4) (hΦ : Φ (some (.int (x - I 110 (16 + 7 * r + 2)))) g P (mads I [12])) : MM Γ mX12_voiced d 0 0 [.ref 109, .int 2, .int x] g P I Φ := by
  refine MM_entry [some _, some _, some _] (by decide) (Nat.le_of_ble_eq_true rfl) rfl ?_
  have h0 := hM.1
  have e : I 110 (16 + 7 * r + 0) = 4 := hS.2.2.1
  refine E_aload_n (i := 0) dX12_voiced_0 rfl rfl ?_
  refine E_aload_n (i := 0) dX12_voiced_1 rfl rfl ?_
  refine E_aload_n (i := 0) dX12_voiced_2 rfl rfl ?_
  refine E_gi dX12_voiced_3 gf_X12_285_12 rfl (by assumption) ?_
  refine E_iconst (v := 0) dX12_voiced_6 (by decide) ?_
  refine k_X12_voiced_7 (mc' := 0) (ms' := 0) (rc := 0) (rs := 0) (by omega) (Nat.le_of_ble_eq_true rfl) (by assumption) (c_X12_of (f := 0) hM hS.1 rfl hS.2.1 (by decide) ?_)
  rw [e]
  refine E_iload_n (i := 1) dX12_voiced_10 rfl rfl ?_
  refine E_iload_n (i := 2) dX12_voiced_11 rfl rfl ?_
  refine k_X12_voiced_12 (mc' := 0) (ms' := 0) (rc := 0) (rs := 0) (by omega) (Nat.le_of_ble_eq_true rfl) (by assumption) (z_4_4_2 (by omega) hM hS ?_)
  refine E_iret dX12_voiced_15 rfl ?_
  exact hΦ
theorem y_4_0_3 {r : Nat} {x : Int32} (hd : 7 ≤ d) (hM : Mo g P) (hS : Sp I r 4) (hΦ : Φ (some (.int (((x + I 109 22) * 2) ^^^ (x - I 110 (16 + 7 * r + 2))))) g P (mads I [13, 11, 10, 12])) : MM Γ mX12_body d 0 0 [.ref 109, .int 0, .int 3, .int x] g P I Φ := by
  refine MM_entry [some _, some _, some _, some _, none] (by decide) (Nat.le_of_ble_eq_true rfl) rfl ?_
  have h0 := hM.1
  refine E_iconst (v := 4) dX12_body_0 (by decide) ?_
  refine E_iload_n (i := 1) dX12_body_1 rfl rfl ?_
  refine E_imul dX12_body_2 ?_
  refine E_iload_n (i := 2) dX12_body_3 rfl rfl ?_
  refine E_iadd dX12_body_4 ?_
  refine E_tswIn (tgt := 166) dX12_body_5 (by decide) (by decide) rfl (by decide) ?_
  refine E_aload_n (i := 0) dX12_body_166 rfl rfl ?_
  refine E_bipush (v := 13) dX12_body_167 (by decide) ?_
  refine k_X12_body_169 (mc' := 0) (ms' := 0) (rc := 0) (rs := 0) (by omega) (Nat.le_of_ble_eq_true rfl) (by assumption) (c_madd hM hS ?_)
  refine E_aload_n (i := 0) dX12_body_172 rfl rfl ?_
  refine E_iconst (v := 1) dX12_body_173 (by decide) ?_
  refine E_iload_n (i := 3) dX12_body_174 rfl rfl ?_
  refine k_X12_body_175 (mc' := 0) (ms' := 0) (rc := 0) (rs := 0) (by omega) (Nat.le_of_ble_eq_true rfl) (by assumption) (u_4_1 (by omega) hM (Sp_m _ hS) ?_)
  refine E_istoreC dX12_body_178 (by decide) rfl ?_
  refine E_lv (lv' := [_, _, _, _, _]) rfl ?_
  refine E_iload dX12_body_180 rfl ?_
  refine E_aload_n (i := 0) dX12_body_182 rfl rfl ?_
  refine E_iconst (v := 2) dX12_body_183 (by decide) ?_
  refine E_iload_n (i := 3) dX12_body_184 rfl rfl ?_
  refine k_X12_body_185 (mc' := 0) (ms' := 0) (rc := 0) (rs := 0) (by omega) (Nat.le_of_ble_eq_true rfl) (by assumption) (u_4_2 (by omega) hM (Sp_m _ (Sp_m _ hS)) ?_)
  refine E_ixor dX12_body_188 ?_
  refine E_iret dX12_body_189 rfl ?_
  simp only [mads_app, mads_110, mads_22, List.cons_append, List.nil_append]
  exact hΦ
theorem z_4_0_3 {r : Nat} {x : Int32} (hd : 8 ≤ d) (hM : Mo g P) (hS : Sp I r 4) (hΦ : Φ (some (.int (((x + I 109 22) * 2) ^^^ (x - I 110 (16 + 7 * r + 2))))) g P (mads I [13, 11, 10, 12])) : MM Γ mX12_bodyFrom d 0 0 [.ref 109, .int 0, .int 3, .int x] g P I Φ := by
  refine MM_entry [some _, some _, some _, some _, none] (by decide) (Nat.le_of_ble_eq_true rfl) rfl ?_
  have h0 := hM.1
  have s0 : E Γ mX12_bodyFrom d 0 0 (QM Γ 0 0 Φ) 0 0 3 [some (.ref 109), some (.int 0), some (.int 3), some (.int x), some (.int 0)] [] g P I := by
    refine E_iload dX12_bodyFrom_3 rfl ?_
    refine E_iload_n (i := 2) dX12_bodyFrom_5 rfl rfl ?_
    refine k_X12_bodyFrom_6 (mc' := 0) (ms' := 0) (rc := 0) (rs := 0) (by omega) (Nat.le_of_ble_eq_true rfl) (ho_0_3 ?_)
    refine E_if_ne (tgt := 22) dX12_bodyFrom_9 (by decide) (fun c_9 => ?_) (fun c_9 => absurd c_9 (by decide))
    refine E_aload_n (i := 0) dX12_bodyFrom_22 rfl rfl ?_
    refine E_iload dX12_bodyFrom_23 rfl ?_
    refine E_iload_n (i := 2) dX12_bodyFrom_25 rfl rfl ?_
    refine E_iload_n (i := 3) dX12_bodyFrom_26 rfl rfl ?_
    refine k_X12_bodyFrom_27 (mc' := 0) (ms' := 0) (rc := 0) (rs := 0) (by omega) (Nat.le_of_ble_eq_true rfl) (by assumption) (y_4_0_3 (by omega) hM hS ?_)
    refine E_iret dX12_bodyFrom_30 rfl ?_
    exact hΦ
  refine E_iload_n (i := 1) dX12_bodyFrom_0 rfl rfl ?_
  refine E_istoreC dX12_bodyFrom_1 (by decide) rfl ?_
  refine E_lv (lv' := [_, _, _, _, _]) rfl ?_
  exact s0
theorem y_4_4_3 {r : Nat} {x : Int32} (hd : 9 ≤ d) (hM : Mo g P) (hS : Sp I r 4) (hΦ : Φ (some (.int ((((x + I 109 22) * 2) ^^^ (x - I 110 (16 + 7 * r + 2))) - (2 + I 109 22)))) g P (mads I [50, 13, 11, 10, 12, 10])) : MM Γ mX12_body d 0 0 [.ref 109, .int 4, .int 3, .int x] g P I Φ := by
  refine MM_entry [some _, some _, some _, some _, none] (by decide) (Nat.le_of_ble_eq_true rfl) rfl ?_
  have h0 := hM.1
  refine E_iconst (v := 4) dX12_body_0 (by decide) ?_
  refine E_iload_n (i := 1) dX12_body_1 rfl rfl ?_
  refine E_imul dX12_body_2 ?_
  refine E_iload_n (i := 2) dX12_body_3 rfl rfl ?_
  refine E_iadd dX12_body_4 ?_
  refine E_tswIn (tgt := 246) dX12_body_5 (by decide) (by decide) rfl (by decide) ?_
  refine E_aload_n (i := 0) dX12_body_246 rfl rfl ?_
  refine E_bipush (v := 50) dX12_body_247 (by decide) ?_
  refine k_X12_body_249 (mc' := 0) (ms' := 0) (rc := 0) (rs := 0) (by omega) (Nat.le_of_ble_eq_true rfl) (by assumption) (c_madd hM hS ?_)
  refine E_aload_n (i := 0) dX12_body_252 rfl rfl ?_
  refine E_iconst (v := 0) dX12_body_253 (by decide) ?_
  refine E_iconst (v := 3) dX12_body_254 (by decide) ?_
  refine E_iload_n (i := 3) dX12_body_255 rfl rfl ?_
  refine k_X12_body_256 (mc' := 0) (ms' := 0) (rc := 0) (rs := 0) (by omega) (Nat.le_of_ble_eq_true rfl) (by assumption) (z_4_0_3 (by omega) hM (Sp_m _ hS) ?_)
  refine E_istoreC dX12_body_259 (by decide) rfl ?_
  refine E_lv (lv' := [_, _, _, _, _]) rfl ?_
  refine E_iload dX12_body_261 rfl ?_
  refine E_aload_n (i := 0) dX12_body_263 rfl rfl ?_
  refine E_iconst (v := 0) dX12_body_264 (by decide) ?_
  refine E_iconst (v := 2) dX12_body_265 (by decide) ?_
  refine k_X12_body_266 (mc' := 0) (ms' := 0) (rc := 0) (rs := 0) (by omega) (Nat.le_of_ble_eq_true rfl) (by assumption) (u_4_0 (by omega) hM (Sp_m _ (Sp_m _ hS)) ?_)
  refine E_isub dX12_body_269 ?_
  refine E_iret dX12_body_270 rfl ?_
  simp only [mads_app, mads_110, mads_22, List.cons_append, List.nil_append]
  exact hΦ
theorem z_4_4_3 {r : Nat} {x : Int32} (hd : 10 ≤ d) (hM : Mo g P) (hS : Sp I r 4) (hΦ : Φ (some (.int ((((x + I 109 22) * 2) ^^^ (x - I 110 (16 + 7 * r + 2))) - (2 + I 109 22)))) g P (mads I [50, 13, 11, 10, 12, 10])) : MM Γ mX12_bodyFrom d 0 0 [.ref 109, .int 4, .int 3, .int x] g P I Φ := by
  refine MM_entry [some _, some _, some _, some _, none] (by decide) (Nat.le_of_ble_eq_true rfl) rfl ?_
  have h0 := hM.1
  have s0 : E Γ mX12_bodyFrom d 0 0 (QM Γ 0 0 Φ) 0 0 3 [some (.ref 109), some (.int 4), some (.int 3), some (.int x), some (.int 4)] [] g P I := by
    refine E_iload dX12_bodyFrom_3 rfl ?_
    refine E_iload_n (i := 2) dX12_bodyFrom_5 rfl rfl ?_
    refine k_X12_bodyFrom_6 (mc' := 0) (ms' := 0) (rc := 0) (rs := 0) (by omega) (Nat.le_of_ble_eq_true rfl) (ho_4_3 ?_)
    refine E_if_ne (tgt := 22) dX12_bodyFrom_9 (by decide) (fun c_9 => ?_) (fun c_9 => absurd c_9 (by decide))
    refine E_aload_n (i := 0) dX12_bodyFrom_22 rfl rfl ?_
    refine E_iload dX12_bodyFrom_23 rfl ?_
    refine E_iload_n (i := 2) dX12_bodyFrom_25 rfl rfl ?_
    refine E_iload_n (i := 3) dX12_bodyFrom_26 rfl rfl ?_
    refine k_X12_bodyFrom_27 (mc' := 0) (ms' := 0) (rc := 0) (rs := 0) (by omega) (Nat.le_of_ble_eq_true rfl) (by assumption) (y_4_4_3 (by omega) hM hS ?_)
    refine E_iret dX12_bodyFrom_30 rfl ?_
    exact hΦ
  refine E_iload_n (i := 1) dX12_bodyFrom_0 rfl rfl ?_
  refine E_istoreC dX12_bodyFrom_1 (by decide) rfl ?_
  refine E_lv (lv' := [_, _, _, _, _]) rfl ?_
  exact s0
theorem u_4_3 {r : Nat} {x : Int32} (hd : 11 ≤ d) (hM : Mo g P) (hS : Sp I r 4) (hΦ : Φ (some (.int ((((x + I 109 22) * 2) ^^^ (x - I 110 (16 + 7 * r + 2))) - (2 + I 109 22)))) g P (mads I [50, 13, 11, 10, 12, 10])) : MM Γ mX12_voiced d 0 0 [.ref 109, .int 3, .int x] g P I Φ := by
  refine MM_entry [some _, some _, some _] (by decide) (Nat.le_of_ble_eq_true rfl) rfl ?_
  have h0 := hM.1
  have e : I 110 (16 + 7 * r + 0) = 4 := hS.2.2.1
  refine E_aload_n (i := 0) dX12_voiced_0 rfl rfl ?_
  refine E_aload_n (i := 0) dX12_voiced_1 rfl rfl ?_
  refine E_aload_n (i := 0) dX12_voiced_2 rfl rfl ?_
  refine E_gi dX12_voiced_3 gf_X12_285_12 rfl (by assumption) ?_
  refine E_iconst (v := 0) dX12_voiced_6 (by decide) ?_
  refine k_X12_voiced_7 (mc' := 0) (ms' := 0) (rc := 0) (rs := 0) (by omega) (Nat.le_of_ble_eq_true rfl) (by assumption) (c_X12_of (f := 0) hM hS.1 rfl hS.2.1 (by decide) ?_)
  rw [e]
  refine E_iload_n (i := 1) dX12_voiced_10 rfl rfl ?_
  refine E_iload_n (i := 2) dX12_voiced_11 rfl rfl ?_
  refine k_X12_voiced_12 (mc' := 0) (ms' := 0) (rc := 0) (rs := 0) (by omega) (Nat.le_of_ble_eq_true rfl) (by assumption) (z_4_4_3 (by omega) hM hS ?_)
  refine E_iret dX12_voiced_15 rfl ?_
  exact hΦ
theorem y_5_0_0 {r : Nat} {x : Int32} (hd : 1 ≤ d) (hM : Mo g P) (hS : Sp I r 5) (hΦ : Φ (some (.int (x + I 109 22))) g P (mads I [10])) : MM Γ mX12_body d 0 0 [.ref 109, .int 0, .int 0, .int x] g P I Φ := by
  refine MM_entry [some _, some _, some _, some _, none] (by decide) (Nat.le_of_ble_eq_true rfl) rfl ?_
  have h0 := hM.1
  refine E_iconst (v := 4) dX12_body_0 (by decide) ?_
  refine E_iload_n (i := 1) dX12_body_1 rfl rfl ?_
  refine E_imul dX12_body_2 ?_
  refine E_iload_n (i := 2) dX12_body_3 rfl rfl ?_
  refine E_iadd dX12_body_4 ?_
  refine E_tswIn (tgt := 120) dX12_body_5 (by decide) (by decide) rfl (by decide) ?_
  refine E_aload_n (i := 0) dX12_body_120 rfl rfl ?_
  refine E_bipush (v := 10) dX12_body_121 (by decide) ?_
  refine k_X12_body_123 (mc' := 0) (ms' := 0) (rc := 0) (rs := 0) (by omega) (Nat.le_of_ble_eq_true rfl) (by assumption) (c_madd hM hS ?_)
  refine E_iload_n (i := 3) dX12_body_126 rfl rfl ?_
  refine E_aload_n (i := 0) dX12_body_127 rfl rfl ?_
  refine E_gi dX12_body_128 gf_X12_285_12 rfl (by assumption) ?_
  refine E_iadd dX12_body_131 ?_
  refine E_iret dX12_body_132 rfl ?_
  simp only [mads_app, mads_110, mads_22, List.cons_append, List.nil_append]
  exact hΦ
theorem z_5_5_0 {r : Nat} {x : Int32} (hd : 2 ≤ d) (hM : Mo g P) (hS : Sp I r 5) (hΦ : Φ (some (.int (x + I 109 22))) g P (mads I [10])) : MM Γ mX12_bodyFrom d 0 0 [.ref 109, .int 5, .int 0, .int x] g P I Φ := by
  refine MM_entry [some _, some _, some _, some _, none] (by decide) (Nat.le_of_ble_eq_true rfl) rfl ?_
  have h0 := hM.1
  have s3 : E Γ mX12_bodyFrom d 0 0 (QM Γ 0 0 Φ) 0 0 3 [some (.ref 109), some (.int 5), some (.int 0), some (.int x), some (.int 0)] [] g P I := by
    refine E_iload dX12_bodyFrom_3 rfl ?_
    refine E_iload_n (i := 2) dX12_bodyFrom_5 rfl rfl ?_
    refine k_X12_bodyFrom_6 (mc' := 0) (ms' := 0) (rc := 0) (rs := 0) (by omega) (Nat.le_of_ble_eq_true rfl) (ho_0_0 ?_)
    refine E_if_ne (tgt := 22) dX12_bodyFrom_9 (by decide) (fun c_9 => ?_) (fun c_9 => absurd c_9 (by decide))
    refine E_aload_n (i := 0) dX12_bodyFrom_22 rfl rfl ?_
    refine E_iload dX12_bodyFrom_23 rfl ?_
    refine E_iload_n (i := 2) dX12_bodyFrom_25 rfl rfl ?_
    refine E_iload_n (i := 3) dX12_bodyFrom_26 rfl rfl ?_
    refine k_X12_bodyFrom_27 (mc' := 0) (ms' := 0) (rc := 0) (rs := 0) (by omega) (Nat.le_of_ble_eq_true rfl) (by assumption) (y_5_0_0 (by omega) hM hS ?_)
    refine E_iret dX12_bodyFrom_30 rfl ?_
    exact hΦ
  have s2 : E Γ mX12_bodyFrom d 0 0 (QM Γ 0 0 Φ) 0 0 3 [some (.ref 109), some (.int 5), some (.int 0), some (.int x), some (.int 1)] [] g P I := by
    refine E_iload dX12_bodyFrom_3 rfl ?_
    refine E_iload_n (i := 2) dX12_bodyFrom_5 rfl rfl ?_
    refine k_X12_bodyFrom_6 (mc' := 0) (ms' := 0) (rc := 0) (rs := 0) (by omega) (Nat.le_of_ble_eq_true rfl) (ho_1_0 ?_)
    refine E_if_ne (tgt := 22) dX12_bodyFrom_9 (by decide) (fun c_9 => absurd (rfl) c_9) (fun c_9 => ?_)
    refine E_iload dX12_bodyFrom_12 rfl ?_
    refine k_X12_bodyFrom_14 (mc' := 0) (ms' := 0) (rc := 0) (rs := 0) (by omega) (Nat.le_of_ble_eq_true rfl) (c_X12_above ?_)
    rw [show abv 1 = 0 from by decide]
    refine E_istoreC dX12_bodyFrom_17 (by decide) rfl ?_
    refine E_lv (lv' := [_, _, _, _, _]) rfl ?_
    refine E_goto (tgt := 3) dX12_bodyFrom_19 (by decide) ?_
    exact s3
  have s1 : E Γ mX12_bodyFrom d 0 0 (QM Γ 0 0 Φ) 0 0 3 [some (.ref 109), some (.int 5), some (.int 0), some (.int x), some (.int 3)] [] g P I := by
    refine E_iload dX12_bodyFrom_3 rfl ?_
    refine E_iload_n (i := 2) dX12_bodyFrom_5 rfl rfl ?_
    refine k_X12_bodyFrom_6 (mc' := 0) (ms' := 0) (rc := 0) (rs := 0) (by omega) (Nat.le_of_ble_eq_true rfl) (ho_3_0 ?_)
    refine E_if_ne (tgt := 22) dX12_bodyFrom_9 (by decide) (fun c_9 => absurd (rfl) c_9) (fun c_9 => ?_)
    refine E_iload dX12_bodyFrom_12 rfl ?_
    refine k_X12_bodyFrom_14 (mc' := 0) (ms' := 0) (rc := 0) (rs := 0) (by omega) (Nat.le_of_ble_eq_true rfl) (c_X12_above ?_)
    rw [show abv 3 = 1 from by decide]
    refine E_istoreC dX12_bodyFrom_17 (by decide) rfl ?_
    refine E_lv (lv' := [_, _, _, _, _]) rfl ?_
    refine E_goto (tgt := 3) dX12_bodyFrom_19 (by decide) ?_
    exact s2
  have s0 : E Γ mX12_bodyFrom d 0 0 (QM Γ 0 0 Φ) 0 0 3 [some (.ref 109), some (.int 5), some (.int 0), some (.int x), some (.int 5)] [] g P I := by
    refine E_iload dX12_bodyFrom_3 rfl ?_
    refine E_iload_n (i := 2) dX12_bodyFrom_5 rfl rfl ?_
    refine k_X12_bodyFrom_6 (mc' := 0) (ms' := 0) (rc := 0) (rs := 0) (by omega) (Nat.le_of_ble_eq_true rfl) (ho_5_0 ?_)
    refine E_if_ne (tgt := 22) dX12_bodyFrom_9 (by decide) (fun c_9 => absurd (rfl) c_9) (fun c_9 => ?_)
    refine E_iload dX12_bodyFrom_12 rfl ?_
    refine k_X12_bodyFrom_14 (mc' := 0) (ms' := 0) (rc := 0) (rs := 0) (by omega) (Nat.le_of_ble_eq_true rfl) (c_X12_above ?_)
    rw [show abv 5 = 3 from by decide]
    refine E_istoreC dX12_bodyFrom_17 (by decide) rfl ?_
    refine E_lv (lv' := [_, _, _, _, _]) rfl ?_
    refine E_goto (tgt := 3) dX12_bodyFrom_19 (by decide) ?_
    exact s1
  refine E_iload_n (i := 1) dX12_bodyFrom_0 rfl rfl ?_
  refine E_istoreC dX12_bodyFrom_1 (by decide) rfl ?_
  refine E_lv (lv' := [_, _, _, _, _]) rfl ?_
  exact s0
theorem u_5_0 {r : Nat} {x : Int32} (hd : 3 ≤ d) (hM : Mo g P) (hS : Sp I r 5) (hΦ : Φ (some (.int (x + I 109 22))) g P (mads I [10])) : MM Γ mX12_voiced d 0 0 [.ref 109, .int 0, .int x] g P I Φ := by
  refine MM_entry [some _, some _, some _] (by decide) (Nat.le_of_ble_eq_true rfl) rfl ?_
  have h0 := hM.1
  have e : I 110 (16 + 7 * r + 0) = 5 := hS.2.2.1
  refine E_aload_n (i := 0) dX12_voiced_0 rfl rfl ?_
  refine E_aload_n (i := 0) dX12_voiced_1 rfl rfl ?_
  refine E_aload_n (i := 0) dX12_voiced_2 rfl rfl ?_
  refine E_gi dX12_voiced_3 gf_X12_285_12 rfl (by assumption) ?_
  refine E_iconst (v := 0) dX12_voiced_6 (by decide) ?_
  refine k_X12_voiced_7 (mc' := 0) (ms' := 0) (rc := 0) (rs := 0) (by omega) (Nat.le_of_ble_eq_true rfl) (by assumption) (c_X12_of (f := 0) hM hS.1 rfl hS.2.1 (by decide) ?_)
  rw [e]
  refine E_iload_n (i := 1) dX12_voiced_10 rfl rfl ?_
  refine E_iload_n (i := 2) dX12_voiced_11 rfl rfl ?_
  refine k_X12_voiced_12 (mc' := 0) (ms' := 0) (rc := 0) (rs := 0) (by omega) (Nat.le_of_ble_eq_true rfl) (by assumption) (z_5_5_0 (by omega) hM hS ?_)
  refine E_iret dX12_voiced_15 rfl ?_
  exact hΦ
theorem y_5_0_1 {r : Nat} {x : Int32} (hd : 4 ≤ d) (hM : Mo g P) (hS : Sp I r 5) (hΦ : Φ (some (.int ((x + I 109 22) * 2))) g P (mads I [11, 10])) : MM Γ mX12_body d 0 0 [.ref 109, .int 0, .int 1, .int x] g P I Φ := by
  refine MM_entry [some _, some _, some _, some _, none] (by decide) (Nat.le_of_ble_eq_true rfl) rfl ?_
  have h0 := hM.1
  refine E_iconst (v := 4) dX12_body_0 (by decide) ?_
  refine E_iload_n (i := 1) dX12_body_1 rfl rfl ?_
  refine E_imul dX12_body_2 ?_
  refine E_iload_n (i := 2) dX12_body_3 rfl rfl ?_
  refine E_iadd dX12_body_4 ?_
  refine E_tswIn (tgt := 133) dX12_body_5 (by decide) (by decide) rfl (by decide) ?_
  refine E_aload_n (i := 0) dX12_body_133 rfl rfl ?_
  refine E_bipush (v := 11) dX12_body_134 (by decide) ?_
  refine k_X12_body_136 (mc' := 0) (ms' := 0) (rc := 0) (rs := 0) (by omega) (Nat.le_of_ble_eq_true rfl) (by assumption) (c_madd hM hS ?_)
  refine E_aload_n (i := 0) dX12_body_139 rfl rfl ?_
  refine E_iconst (v := 0) dX12_body_140 (by decide) ?_
  refine E_iload_n (i := 3) dX12_body_141 rfl rfl ?_
  refine k_X12_body_142 (mc' := 0) (ms' := 0) (rc := 0) (rs := 0) (by omega) (Nat.le_of_ble_eq_true rfl) (by assumption) (u_5_0 (by omega) hM (Sp_m _ hS) ?_)
  refine E_iconst (v := 2) dX12_body_145 (by decide) ?_
  refine E_imul dX12_body_146 ?_
  refine E_iret dX12_body_147 rfl ?_
  simp only [mads_app, mads_110, mads_22, List.cons_append, List.nil_append]
  exact hΦ
theorem z_5_0_1 {r : Nat} {x : Int32} (hd : 5 ≤ d) (hM : Mo g P) (hS : Sp I r 5) (hΦ : Φ (some (.int ((x + I 109 22) * 2))) g P (mads I [11, 10])) : MM Γ mX12_bodyFrom d 0 0 [.ref 109, .int 0, .int 1, .int x] g P I Φ := by
  refine MM_entry [some _, some _, some _, some _, none] (by decide) (Nat.le_of_ble_eq_true rfl) rfl ?_
  have h0 := hM.1
  have s0 : E Γ mX12_bodyFrom d 0 0 (QM Γ 0 0 Φ) 0 0 3 [some (.ref 109), some (.int 0), some (.int 1), some (.int x), some (.int 0)] [] g P I := by
    refine E_iload dX12_bodyFrom_3 rfl ?_
    refine E_iload_n (i := 2) dX12_bodyFrom_5 rfl rfl ?_
    refine k_X12_bodyFrom_6 (mc' := 0) (ms' := 0) (rc := 0) (rs := 0) (by omega) (Nat.le_of_ble_eq_true rfl) (ho_0_1 ?_)
    refine E_if_ne (tgt := 22) dX12_bodyFrom_9 (by decide) (fun c_9 => ?_) (fun c_9 => absurd c_9 (by decide))
    refine E_aload_n (i := 0) dX12_bodyFrom_22 rfl rfl ?_
    refine E_iload dX12_bodyFrom_23 rfl ?_
    refine E_iload_n (i := 2) dX12_bodyFrom_25 rfl rfl ?_
    refine E_iload_n (i := 3) dX12_bodyFrom_26 rfl rfl ?_
    refine k_X12_bodyFrom_27 (mc' := 0) (ms' := 0) (rc := 0) (rs := 0) (by omega) (Nat.le_of_ble_eq_true rfl) (by assumption) (y_5_0_1 (by omega) hM hS ?_)
    refine E_iret dX12_bodyFrom_30 rfl ?_
    exact hΦ
  refine E_iload_n (i := 1) dX12_bodyFrom_0 rfl rfl ?_
  refine E_istoreC dX12_bodyFrom_1 (by decide) rfl ?_
  refine E_lv (lv' := [_, _, _, _, _]) rfl ?_
  exact s0
theorem y_5_0_2 {r : Nat} {x : Int32} (hd : 1 ≤ d) (hM : Mo g P) (hS : Sp I r 5) (hΦ : Φ (some (.int (x - I 110 (16 + 7 * r + 2)))) g P (mads I [12])) : MM Γ mX12_body d 0 0 [.ref 109, .int 0, .int 2, .int x] g P I Φ := by
  refine MM_entry [some _, some _, some _, some _, none] (by decide) (Nat.le_of_ble_eq_true rfl) rfl ?_
  have h0 := hM.1
  refine E_iconst (v := 4) dX12_body_0 (by decide) ?_
  refine E_iload_n (i := 1) dX12_body_1 rfl rfl ?_
  refine E_imul dX12_body_2 ?_
  refine E_iload_n (i := 2) dX12_body_3 rfl rfl ?_
  refine E_iadd dX12_body_4 ?_
  refine E_tswIn (tgt := 148) dX12_body_5 (by decide) (by decide) rfl (by decide) ?_
  refine E_aload_n (i := 0) dX12_body_148 rfl rfl ?_
  refine E_bipush (v := 12) dX12_body_149 (by decide) ?_
  refine k_X12_body_151 (mc' := 0) (ms' := 0) (rc := 0) (rs := 0) (by omega) (Nat.le_of_ble_eq_true rfl) (by assumption) (c_madd hM hS ?_)
  refine E_iload_n (i := 3) dX12_body_154 rfl rfl ?_
  refine E_aload_n (i := 0) dX12_body_155 rfl rfl ?_
  refine E_aload_n (i := 0) dX12_body_156 rfl rfl ?_
  refine E_gi dX12_body_157 gf_X12_285_12 rfl (by assumption) ?_
  refine E_iconst (v := 2) dX12_body_160 (by decide) ?_
  refine k_X12_body_161 (mc' := 0) (ms' := 0) (rc := 0) (rs := 0) (by omega) (Nat.le_of_ble_eq_true rfl) (by assumption) (c_X12_of (f := 2) hM (Sp_m _ hS).1 rfl hS.2.1 (by decide) ?_)
  refine E_isub dX12_body_164 ?_
  refine E_iret dX12_body_165 rfl ?_
  simp only [mads_app, mads_110, mads_22, List.cons_append, List.nil_append]
  exact hΦ
theorem z_5_1_2 {r : Nat} {x : Int32} (hd : 2 ≤ d) (hM : Mo g P) (hS : Sp I r 5) (hΦ : Φ (some (.int (x - I 110 (16 + 7 * r + 2)))) g P (mads I [12])) : MM Γ mX12_bodyFrom d 0 0 [.ref 109, .int 1, .int 2, .int x] g P I Φ := by
  refine MM_entry [some _, some _, some _, some _, none] (by decide) (Nat.le_of_ble_eq_true rfl) rfl ?_
  have h0 := hM.1
  have s1 : E Γ mX12_bodyFrom d 0 0 (QM Γ 0 0 Φ) 0 0 3 [some (.ref 109), some (.int 1), some (.int 2), some (.int x), some (.int 0)] [] g P I := by
    refine E_iload dX12_bodyFrom_3 rfl ?_
    refine E_iload_n (i := 2) dX12_bodyFrom_5 rfl rfl ?_
    refine k_X12_bodyFrom_6 (mc' := 0) (ms' := 0) (rc := 0) (rs := 0) (by omega) (Nat.le_of_ble_eq_true rfl) (ho_0_2 ?_)
    refine E_if_ne (tgt := 22) dX12_bodyFrom_9 (by decide) (fun c_9 => ?_) (fun c_9 => absurd c_9 (by decide))
    refine E_aload_n (i := 0) dX12_bodyFrom_22 rfl rfl ?_
    refine E_iload dX12_bodyFrom_23 rfl ?_
    refine E_iload_n (i := 2) dX12_bodyFrom_25 rfl rfl ?_
    refine E_iload_n (i := 3) dX12_bodyFrom_26 rfl rfl ?_
    refine k_X12_bodyFrom_27 (mc' := 0) (ms' := 0) (rc := 0) (rs := 0) (by omega) (Nat.le_of_ble_eq_true rfl) (by assumption) (y_5_0_2 (by omega) hM hS ?_)
    refine E_iret dX12_bodyFrom_30 rfl ?_
    exact hΦ
  have s0 : E Γ mX12_bodyFrom d 0 0 (QM Γ 0 0 Φ) 0 0 3 [some (.ref 109), some (.int 1), some (.int 2), some (.int x), some (.int 1)] [] g P I := by
    refine E_iload dX12_bodyFrom_3 rfl ?_
    refine E_iload_n (i := 2) dX12_bodyFrom_5 rfl rfl ?_
    refine k_X12_bodyFrom_6 (mc' := 0) (ms' := 0) (rc := 0) (rs := 0) (by omega) (Nat.le_of_ble_eq_true rfl) (ho_1_2 ?_)
    refine E_if_ne (tgt := 22) dX12_bodyFrom_9 (by decide) (fun c_9 => absurd (rfl) c_9) (fun c_9 => ?_)
    refine E_iload dX12_bodyFrom_12 rfl ?_
    refine k_X12_bodyFrom_14 (mc' := 0) (ms' := 0) (rc := 0) (rs := 0) (by omega) (Nat.le_of_ble_eq_true rfl) (c_X12_above ?_)
    rw [show abv 1 = 0 from by decide]
    refine E_istoreC dX12_bodyFrom_17 (by decide) rfl ?_
    refine E_lv (lv' := [_, _, _, _, _]) rfl ?_
    refine E_goto (tgt := 3) dX12_bodyFrom_19 (by decide) ?_
    exact s1
  refine E_iload_n (i := 1) dX12_bodyFrom_0 rfl rfl ?_
  refine E_istoreC dX12_bodyFrom_1 (by decide) rfl ?_
  refine E_lv (lv' := [_, _, _, _, _]) rfl ?_
  exact s0
theorem y_5_3_2 {r : Nat} {x : Int32} (hd : 3 ≤ d) (hM : Mo g P) (hS : Sp I r 5) (hΦ : Φ (some (.int (-(x - I 110 (16 + 7 * r + 2))))) g P (mads I [40, 12])) : MM Γ mX12_body d 0 0 [.ref 109, .int 3, .int 2, .int x] g P I Φ := by
  refine MM_entry [some _, some _, some _, some _, none] (by decide) (Nat.le_of_ble_eq_true rfl) rfl ?_
  have h0 := hM.1
  refine E_iconst (v := 4) dX12_body_0 (by decide) ?_
  refine E_iload_n (i := 1) dX12_body_1 rfl rfl ?_
  refine E_imul dX12_body_2 ?_
  refine E_iload_n (i := 2) dX12_body_3 rfl rfl ?_
  refine E_iadd dX12_body_4 ?_
  refine E_tswIn (tgt := 231) dX12_body_5 (by decide) (by decide) rfl (by decide) ?_
  refine E_aload_n (i := 0) dX12_body_231 rfl rfl ?_
  refine E_bipush (v := 40) dX12_body_232 (by decide) ?_
  refine k_X12_body_234 (mc' := 0) (ms' := 0) (rc := 0) (rs := 0) (by omega) (Nat.le_of_ble_eq_true rfl) (by assumption) (c_madd hM hS ?_)
  refine E_aload_n (i := 0) dX12_body_237 rfl rfl ?_
  refine E_iconst (v := 1) dX12_body_238 (by decide) ?_
  refine E_iconst (v := 2) dX12_body_239 (by decide) ?_
  refine E_iload_n (i := 3) dX12_body_240 rfl rfl ?_
  refine k_X12_body_241 (mc' := 0) (ms' := 0) (rc := 0) (rs := 0) (by omega) (Nat.le_of_ble_eq_true rfl) (by assumption) (z_5_1_2 (by omega) hM (Sp_m _ hS) ?_)
  refine E_ineg dX12_body_244 ?_
  refine E_iret dX12_body_245 rfl ?_
  simp only [mads_app, mads_110, mads_22, List.cons_append, List.nil_append]
  exact hΦ
theorem z_5_5_2 {r : Nat} {x : Int32} (hd : 4 ≤ d) (hM : Mo g P) (hS : Sp I r 5) (hΦ : Φ (some (.int (-(x - I 110 (16 + 7 * r + 2))))) g P (mads I [40, 12])) : MM Γ mX12_bodyFrom d 0 0 [.ref 109, .int 5, .int 2, .int x] g P I Φ := by
  refine MM_entry [some _, some _, some _, some _, none] (by decide) (Nat.le_of_ble_eq_true rfl) rfl ?_
  have h0 := hM.1
  have s1 : E Γ mX12_bodyFrom d 0 0 (QM Γ 0 0 Φ) 0 0 3 [some (.ref 109), some (.int 5), some (.int 2), some (.int x), some (.int 3)] [] g P I := by
    refine E_iload dX12_bodyFrom_3 rfl ?_
    refine E_iload_n (i := 2) dX12_bodyFrom_5 rfl rfl ?_
    refine k_X12_bodyFrom_6 (mc' := 0) (ms' := 0) (rc := 0) (rs := 0) (by omega) (Nat.le_of_ble_eq_true rfl) (ho_3_2 ?_)
    refine E_if_ne (tgt := 22) dX12_bodyFrom_9 (by decide) (fun c_9 => ?_) (fun c_9 => absurd c_9 (by decide))
    refine E_aload_n (i := 0) dX12_bodyFrom_22 rfl rfl ?_
    refine E_iload dX12_bodyFrom_23 rfl ?_
    refine E_iload_n (i := 2) dX12_bodyFrom_25 rfl rfl ?_
    refine E_iload_n (i := 3) dX12_bodyFrom_26 rfl rfl ?_
    refine k_X12_bodyFrom_27 (mc' := 0) (ms' := 0) (rc := 0) (rs := 0) (by omega) (Nat.le_of_ble_eq_true rfl) (by assumption) (y_5_3_2 (by omega) hM hS ?_)
    refine E_iret dX12_bodyFrom_30 rfl ?_
    exact hΦ
  have s0 : E Γ mX12_bodyFrom d 0 0 (QM Γ 0 0 Φ) 0 0 3 [some (.ref 109), some (.int 5), some (.int 2), some (.int x), some (.int 5)] [] g P I := by
    refine E_iload dX12_bodyFrom_3 rfl ?_
    refine E_iload_n (i := 2) dX12_bodyFrom_5 rfl rfl ?_
    refine k_X12_bodyFrom_6 (mc' := 0) (ms' := 0) (rc := 0) (rs := 0) (by omega) (Nat.le_of_ble_eq_true rfl) (ho_5_2 ?_)
    refine E_if_ne (tgt := 22) dX12_bodyFrom_9 (by decide) (fun c_9 => absurd (rfl) c_9) (fun c_9 => ?_)
    refine E_iload dX12_bodyFrom_12 rfl ?_
    refine k_X12_bodyFrom_14 (mc' := 0) (ms' := 0) (rc := 0) (rs := 0) (by omega) (Nat.le_of_ble_eq_true rfl) (c_X12_above ?_)
    rw [show abv 5 = 3 from by decide]
    refine E_istoreC dX12_bodyFrom_17 (by decide) rfl ?_
    refine E_lv (lv' := [_, _, _, _, _]) rfl ?_
    refine E_goto (tgt := 3) dX12_bodyFrom_19 (by decide) ?_
    exact s1
  refine E_iload_n (i := 1) dX12_bodyFrom_0 rfl rfl ?_
  refine E_istoreC dX12_bodyFrom_1 (by decide) rfl ?_
  refine E_lv (lv' := [_, _, _, _, _]) rfl ?_
  exact s0
theorem u_5_2 {r : Nat} {x : Int32} (hd : 5 ≤ d) (hM : Mo g P) (hS : Sp I r 5) (hΦ : Φ (some (.int (-(x - I 110 (16 + 7 * r + 2))))) g P (mads I [40, 12])) : MM Γ mX12_voiced d 0 0 [.ref 109, .int 2, .int x] g P I Φ := by
  refine MM_entry [some _, some _, some _] (by decide) (Nat.le_of_ble_eq_true rfl) rfl ?_
  have h0 := hM.1
  have e : I 110 (16 + 7 * r + 0) = 5 := hS.2.2.1
  refine E_aload_n (i := 0) dX12_voiced_0 rfl rfl ?_
  refine E_aload_n (i := 0) dX12_voiced_1 rfl rfl ?_
  refine E_aload_n (i := 0) dX12_voiced_2 rfl rfl ?_
  refine E_gi dX12_voiced_3 gf_X12_285_12 rfl (by assumption) ?_
  refine E_iconst (v := 0) dX12_voiced_6 (by decide) ?_
  refine k_X12_voiced_7 (mc' := 0) (ms' := 0) (rc := 0) (rs := 0) (by omega) (Nat.le_of_ble_eq_true rfl) (by assumption) (c_X12_of (f := 0) hM hS.1 rfl hS.2.1 (by decide) ?_)
  rw [e]
  refine E_iload_n (i := 1) dX12_voiced_10 rfl rfl ?_
  refine E_iload_n (i := 2) dX12_voiced_11 rfl rfl ?_
  refine k_X12_voiced_12 (mc' := 0) (ms' := 0) (rc := 0) (rs := 0) (by omega) (Nat.le_of_ble_eq_true rfl) (by assumption) (z_5_5_2 (by omega) hM hS ?_)
  refine E_iret dX12_voiced_15 rfl ?_
  exact hΦ
theorem y_5_1_1 {r : Nat} {x : Int32} (hd : 6 ≤ d) (hM : Mo g P) (hS : Sp I r 5) (hΦ : Φ (some (.int (((x + I 109 22) * 2) - (-(1 - I 110 (16 + 7 * r + 2)))))) g P (mads I [20, 11, 10, 40, 12])) : MM Γ mX12_body d 0 0 [.ref 109, .int 1, .int 1, .int x] g P I Φ := by
  refine MM_entry [some _, some _, some _, some _, none] (by decide) (Nat.le_of_ble_eq_true rfl) rfl ?_
  have h0 := hM.1
  refine E_iconst (v := 4) dX12_body_0 (by decide) ?_
  refine E_iload_n (i := 1) dX12_body_1 rfl rfl ?_
  refine E_imul dX12_body_2 ?_
  refine E_iload_n (i := 2) dX12_body_3 rfl rfl ?_
  refine E_iadd dX12_body_4 ?_
  refine E_tswIn (tgt := 190) dX12_body_5 (by decide) (by decide) rfl (by decide) ?_
  refine E_aload_n (i := 0) dX12_body_190 rfl rfl ?_
  refine E_bipush (v := 20) dX12_body_191 (by decide) ?_
  refine k_X12_body_193 (mc' := 0) (ms' := 0) (rc := 0) (rs := 0) (by omega) (Nat.le_of_ble_eq_true rfl) (by assumption) (c_madd hM hS ?_)
  refine E_aload_n (i := 0) dX12_body_196 rfl rfl ?_
  refine E_iconst (v := 0) dX12_body_197 (by decide) ?_
  refine E_iconst (v := 1) dX12_body_198 (by decide) ?_
  refine E_iload_n (i := 3) dX12_body_199 rfl rfl ?_
  refine k_X12_body_200 (mc' := 0) (ms' := 0) (rc := 0) (rs := 0) (by omega) (Nat.le_of_ble_eq_true rfl) (by assumption) (z_5_0_1 (by omega) hM (Sp_m _ hS) ?_)
  refine E_istoreC dX12_body_203 (by decide) rfl ?_
  refine E_lv (lv' := [_, _, _, _, _]) rfl ?_
  refine E_iload dX12_body_205 rfl ?_
  refine E_aload_n (i := 0) dX12_body_207 rfl rfl ?_
  refine E_iconst (v := 2) dX12_body_208 (by decide) ?_
  refine E_iconst (v := 1) dX12_body_209 (by decide) ?_
  refine k_X12_body_210 (mc' := 0) (ms' := 0) (rc := 0) (rs := 0) (by omega) (Nat.le_of_ble_eq_true rfl) (by assumption) (u_5_2 (by omega) hM (Sp_m _ (Sp_m _ hS)) ?_)
  refine E_isub dX12_body_213 ?_
  refine E_iret dX12_body_214 rfl ?_
  simp only [mads_app, mads_110, mads_22, List.cons_append, List.nil_append]
  exact hΦ
theorem z_5_3_1 {r : Nat} {x : Int32} (hd : 7 ≤ d) (hM : Mo g P) (hS : Sp I r 5) (hΦ : Φ (some (.int (((x + I 109 22) * 2) - (-(1 - I 110 (16 + 7 * r + 2)))))) g P (mads I [20, 11, 10, 40, 12])) : MM Γ mX12_bodyFrom d 0 0 [.ref 109, .int 3, .int 1, .int x] g P I Φ := by
  refine MM_entry [some _, some _, some _, some _, none] (by decide) (Nat.le_of_ble_eq_true rfl) rfl ?_
  have h0 := hM.1
  have s1 : E Γ mX12_bodyFrom d 0 0 (QM Γ 0 0 Φ) 0 0 3 [some (.ref 109), some (.int 3), some (.int 1), some (.int x), some (.int 1)] [] g P I := by
    refine E_iload dX12_bodyFrom_3 rfl ?_
    refine E_iload_n (i := 2) dX12_bodyFrom_5 rfl rfl ?_
    refine k_X12_bodyFrom_6 (mc' := 0) (ms' := 0) (rc := 0) (rs := 0) (by omega) (Nat.le_of_ble_eq_true rfl) (ho_1_1 ?_)
    refine E_if_ne (tgt := 22) dX12_bodyFrom_9 (by decide) (fun c_9 => ?_) (fun c_9 => absurd c_9 (by decide))
    refine E_aload_n (i := 0) dX12_bodyFrom_22 rfl rfl ?_
    refine E_iload dX12_bodyFrom_23 rfl ?_
    refine E_iload_n (i := 2) dX12_bodyFrom_25 rfl rfl ?_
    refine E_iload_n (i := 3) dX12_bodyFrom_26 rfl rfl ?_
    refine k_X12_bodyFrom_27 (mc' := 0) (ms' := 0) (rc := 0) (rs := 0) (by omega) (Nat.le_of_ble_eq_true rfl) (by assumption) (y_5_1_1 (by omega) hM hS ?_)
    refine E_iret dX12_bodyFrom_30 rfl ?_
    exact hΦ
  have s0 : E Γ mX12_bodyFrom d 0 0 (QM Γ 0 0 Φ) 0 0 3 [some (.ref 109), some (.int 3), some (.int 1), some (.int x), some (.int 3)] [] g P I := by
    refine E_iload dX12_bodyFrom_3 rfl ?_
    refine E_iload_n (i := 2) dX12_bodyFrom_5 rfl rfl ?_
    refine k_X12_bodyFrom_6 (mc' := 0) (ms' := 0) (rc := 0) (rs := 0) (by omega) (Nat.le_of_ble_eq_true rfl) (ho_3_1 ?_)
    refine E_if_ne (tgt := 22) dX12_bodyFrom_9 (by decide) (fun c_9 => absurd (rfl) c_9) (fun c_9 => ?_)
    refine E_iload dX12_bodyFrom_12 rfl ?_
    refine k_X12_bodyFrom_14 (mc' := 0) (ms' := 0) (rc := 0) (rs := 0) (by omega) (Nat.le_of_ble_eq_true rfl) (c_X12_above ?_)
    rw [show abv 3 = 1 from by decide]
    refine E_istoreC dX12_bodyFrom_17 (by decide) rfl ?_
    refine E_lv (lv' := [_, _, _, _, _]) rfl ?_
    refine E_goto (tgt := 3) dX12_bodyFrom_19 (by decide) ?_
    exact s1
  refine E_iload_n (i := 1) dX12_bodyFrom_0 rfl rfl ?_
  refine E_istoreC dX12_bodyFrom_1 (by decide) rfl ?_
  refine E_lv (lv' := [_, _, _, _, _]) rfl ?_
  exact s0
theorem y_5_5_1 {r : Nat} {x : Int32} (hd : 8 ≤ d) (hM : Mo g P) (hS : Sp I r 5) (hΦ : Φ (some (.int ((((x + I 109 22) * 2) - (-(1 - I 110 (16 + 7 * r + 2)))) ^^^ I 109 22))) g P (mads I [60, 20, 11, 10, 40, 12])) : MM Γ mX12_body d 0 0 [.ref 109, .int 5, .int 1, .int x] g P I Φ := by
  refine MM_entry [some _, some _, some _, some _, none] (by decide) (Nat.le_of_ble_eq_true rfl) rfl ?_
  have h0 := hM.1
  refine E_iconst (v := 4) dX12_body_0 (by decide) ?_
  refine E_iload_n (i := 1) dX12_body_1 rfl rfl ?_
  refine E_imul dX12_body_2 ?_
  refine E_iload_n (i := 2) dX12_body_3 rfl rfl ?_
  refine E_iadd dX12_body_4 ?_
  refine E_tswIn (tgt := 271) dX12_body_5 (by decide) (by decide) rfl (by decide) ?_
  refine E_aload_n (i := 0) dX12_body_271 rfl rfl ?_
  refine E_bipush (v := 60) dX12_body_272 (by decide) ?_
  refine k_X12_body_274 (mc' := 0) (ms' := 0) (rc := 0) (rs := 0) (by omega) (Nat.le_of_ble_eq_true rfl) (by assumption) (c_madd hM hS ?_)
  refine E_aload_n (i := 0) dX12_body_277 rfl rfl ?_
  refine E_iconst (v := 3) dX12_body_278 (by decide) ?_
  refine E_iconst (v := 1) dX12_body_279 (by decide) ?_
  refine E_iload_n (i := 3) dX12_body_280 rfl rfl ?_
  refine k_X12_body_281 (mc' := 0) (ms' := 0) (rc := 0) (rs := 0) (by omega) (Nat.le_of_ble_eq_true rfl) (by assumption) (z_5_3_1 (by omega) hM (Sp_m _ hS) ?_)
  refine E_aload_n (i := 0) dX12_body_284 rfl rfl ?_
  refine E_gi dX12_body_285 gf_X12_285_12 rfl (by assumption) ?_
  refine E_ixor dX12_body_288 ?_
  refine E_iret dX12_body_289 rfl ?_
  simp only [mads_app, mads_110, mads_22, List.cons_append, List.nil_append]
  exact hΦ
theorem z_5_5_1 {r : Nat} {x : Int32} (hd : 9 ≤ d) (hM : Mo g P) (hS : Sp I r 5) (hΦ : Φ (some (.int ((((x + I 109 22) * 2) - (-(1 - I 110 (16 + 7 * r + 2)))) ^^^ I 109 22))) g P (mads I [60, 20, 11, 10, 40, 12])) : MM Γ mX12_bodyFrom d 0 0 [.ref 109, .int 5, .int 1, .int x] g P I Φ := by
  refine MM_entry [some _, some _, some _, some _, none] (by decide) (Nat.le_of_ble_eq_true rfl) rfl ?_
  have h0 := hM.1
  have s0 : E Γ mX12_bodyFrom d 0 0 (QM Γ 0 0 Φ) 0 0 3 [some (.ref 109), some (.int 5), some (.int 1), some (.int x), some (.int 5)] [] g P I := by
    refine E_iload dX12_bodyFrom_3 rfl ?_
    refine E_iload_n (i := 2) dX12_bodyFrom_5 rfl rfl ?_
    refine k_X12_bodyFrom_6 (mc' := 0) (ms' := 0) (rc := 0) (rs := 0) (by omega) (Nat.le_of_ble_eq_true rfl) (ho_5_1 ?_)
    refine E_if_ne (tgt := 22) dX12_bodyFrom_9 (by decide) (fun c_9 => ?_) (fun c_9 => absurd c_9 (by decide))
    refine E_aload_n (i := 0) dX12_bodyFrom_22 rfl rfl ?_
    refine E_iload dX12_bodyFrom_23 rfl ?_
    refine E_iload_n (i := 2) dX12_bodyFrom_25 rfl rfl ?_
    refine E_iload_n (i := 3) dX12_bodyFrom_26 rfl rfl ?_
    refine k_X12_bodyFrom_27 (mc' := 0) (ms' := 0) (rc := 0) (rs := 0) (by omega) (Nat.le_of_ble_eq_true rfl) (by assumption) (y_5_5_1 (by omega) hM hS ?_)
    refine E_iret dX12_bodyFrom_30 rfl ?_
    exact hΦ
  refine E_iload_n (i := 1) dX12_bodyFrom_0 rfl rfl ?_
  refine E_istoreC dX12_bodyFrom_1 (by decide) rfl ?_
  refine E_lv (lv' := [_, _, _, _, _]) rfl ?_
  exact s0
theorem u_5_1 {r : Nat} {x : Int32} (hd : 10 ≤ d) (hM : Mo g P) (hS : Sp I r 5) (hΦ : Φ (some (.int ((((x + I 109 22) * 2) - (-(1 - I 110 (16 + 7 * r + 2)))) ^^^ I 109 22))) g P (mads I [60, 20, 11, 10, 40, 12])) : MM Γ mX12_voiced d 0 0 [.ref 109, .int 1, .int x] g P I Φ := by
  refine MM_entry [some _, some _, some _] (by decide) (Nat.le_of_ble_eq_true rfl) rfl ?_
  have h0 := hM.1
  have e : I 110 (16 + 7 * r + 0) = 5 := hS.2.2.1
  refine E_aload_n (i := 0) dX12_voiced_0 rfl rfl ?_
  refine E_aload_n (i := 0) dX12_voiced_1 rfl rfl ?_
  refine E_aload_n (i := 0) dX12_voiced_2 rfl rfl ?_
  refine E_gi dX12_voiced_3 gf_X12_285_12 rfl (by assumption) ?_
  refine E_iconst (v := 0) dX12_voiced_6 (by decide) ?_
  refine k_X12_voiced_7 (mc' := 0) (ms' := 0) (rc := 0) (rs := 0) (by omega) (Nat.le_of_ble_eq_true rfl) (by assumption) (c_X12_of (f := 0) hM hS.1 rfl hS.2.1 (by decide) ?_)
  rw [e]
  refine E_iload_n (i := 1) dX12_voiced_10 rfl rfl ?_
  refine E_iload_n (i := 2) dX12_voiced_11 rfl rfl ?_
  refine k_X12_voiced_12 (mc' := 0) (ms' := 0) (rc := 0) (rs := 0) (by omega) (Nat.le_of_ble_eq_true rfl) (by assumption) (z_5_5_1 (by omega) hM hS ?_)
  refine E_iret dX12_voiced_15 rfl ?_
  exact hΦ
theorem y_5_0_3 {r : Nat} {x : Int32} (hd : 11 ≤ d) (hM : Mo g P) (hS : Sp I r 5) (hΦ : Φ (some (.int (((((x + I 109 22) * 2) - (-(1 - I 110 (16 + 7 * r + 2)))) ^^^ I 109 22) ^^^ (-(x - I 110 (16 + 7 * r + 2)))))) g P (mads I [13, 60, 20, 11, 10, 40, 12, 40, 12])) : MM Γ mX12_body d 0 0 [.ref 109, .int 0, .int 3, .int x] g P I Φ := by
  refine MM_entry [some _, some _, some _, some _, none] (by decide) (Nat.le_of_ble_eq_true rfl) rfl ?_
  have h0 := hM.1
  refine E_iconst (v := 4) dX12_body_0 (by decide) ?_
  refine E_iload_n (i := 1) dX12_body_1 rfl rfl ?_
  refine E_imul dX12_body_2 ?_
  refine E_iload_n (i := 2) dX12_body_3 rfl rfl ?_
  refine E_iadd dX12_body_4 ?_
  refine E_tswIn (tgt := 166) dX12_body_5 (by decide) (by decide) rfl (by decide) ?_
  refine E_aload_n (i := 0) dX12_body_166 rfl rfl ?_
  refine E_bipush (v := 13) dX12_body_167 (by decide) ?_
  refine k_X12_body_169 (mc' := 0) (ms' := 0) (rc := 0) (rs := 0) (by omega) (Nat.le_of_ble_eq_true rfl) (by assumption) (c_madd hM hS ?_)
  refine E_aload_n (i := 0) dX12_body_172 rfl rfl ?_
  refine E_iconst (v := 1) dX12_body_173 (by decide) ?_
  refine E_iload_n (i := 3) dX12_body_174 rfl rfl ?_
  refine k_X12_body_175 (mc' := 0) (ms' := 0) (rc := 0) (rs := 0) (by omega) (Nat.le_of_ble_eq_true rfl) (by assumption) (u_5_1 (by omega) hM (Sp_m _ hS) ?_)
  refine E_istoreC dX12_body_178 (by decide) rfl ?_
  refine E_lv (lv' := [_, _, _, _, _]) rfl ?_
  refine E_iload dX12_body_180 rfl ?_
  refine E_aload_n (i := 0) dX12_body_182 rfl rfl ?_
  refine E_iconst (v := 2) dX12_body_183 (by decide) ?_
  refine E_iload_n (i := 3) dX12_body_184 rfl rfl ?_
  refine k_X12_body_185 (mc' := 0) (ms' := 0) (rc := 0) (rs := 0) (by omega) (Nat.le_of_ble_eq_true rfl) (by assumption) (u_5_2 (by omega) hM (Sp_m _ (Sp_m _ hS)) ?_)
  refine E_ixor dX12_body_188 ?_
  refine E_iret dX12_body_189 rfl ?_
  simp only [mads_app, mads_110, mads_22, List.cons_append, List.nil_append]
  exact hΦ
theorem z_5_5_3 {r : Nat} {x : Int32} (hd : 12 ≤ d) (hM : Mo g P) (hS : Sp I r 5) (hΦ : Φ (some (.int (((((x + I 109 22) * 2) - (-(1 - I 110 (16 + 7 * r + 2)))) ^^^ I 109 22) ^^^ (-(x - I 110 (16 + 7 * r + 2)))))) g P (mads I [13, 60, 20, 11, 10, 40, 12, 40, 12])) : MM Γ mX12_bodyFrom d 0 0 [.ref 109, .int 5, .int 3, .int x] g P I Φ := by
  refine MM_entry [some _, some _, some _, some _, none] (by decide) (Nat.le_of_ble_eq_true rfl) rfl ?_
  have h0 := hM.1
  have s3 : E Γ mX12_bodyFrom d 0 0 (QM Γ 0 0 Φ) 0 0 3 [some (.ref 109), some (.int 5), some (.int 3), some (.int x), some (.int 0)] [] g P I := by
    refine E_iload dX12_bodyFrom_3 rfl ?_
    refine E_iload_n (i := 2) dX12_bodyFrom_5 rfl rfl ?_
    refine k_X12_bodyFrom_6 (mc' := 0) (ms' := 0) (rc := 0) (rs := 0) (by omega) (Nat.le_of_ble_eq_true rfl) (ho_0_3 ?_)
    refine E_if_ne (tgt := 22) dX12_bodyFrom_9 (by decide) (fun c_9 => ?_) (fun c_9 => absurd c_9 (by decide))
    refine E_aload_n (i := 0) dX12_bodyFrom_22 rfl rfl ?_
    refine E_iload dX12_bodyFrom_23 rfl ?_
    refine E_iload_n (i := 2) dX12_bodyFrom_25 rfl rfl ?_
    refine E_iload_n (i := 3) dX12_bodyFrom_26 rfl rfl ?_
    refine k_X12_bodyFrom_27 (mc' := 0) (ms' := 0) (rc := 0) (rs := 0) (by omega) (Nat.le_of_ble_eq_true rfl) (by assumption) (y_5_0_3 (by omega) hM hS ?_)
    refine E_iret dX12_bodyFrom_30 rfl ?_
    exact hΦ
  have s2 : E Γ mX12_bodyFrom d 0 0 (QM Γ 0 0 Φ) 0 0 3 [some (.ref 109), some (.int 5), some (.int 3), some (.int x), some (.int 1)] [] g P I := by
    refine E_iload dX12_bodyFrom_3 rfl ?_
    refine E_iload_n (i := 2) dX12_bodyFrom_5 rfl rfl ?_
    refine k_X12_bodyFrom_6 (mc' := 0) (ms' := 0) (rc := 0) (rs := 0) (by omega) (Nat.le_of_ble_eq_true rfl) (ho_1_3 ?_)
    refine E_if_ne (tgt := 22) dX12_bodyFrom_9 (by decide) (fun c_9 => absurd (rfl) c_9) (fun c_9 => ?_)
    refine E_iload dX12_bodyFrom_12 rfl ?_
    refine k_X12_bodyFrom_14 (mc' := 0) (ms' := 0) (rc := 0) (rs := 0) (by omega) (Nat.le_of_ble_eq_true rfl) (c_X12_above ?_)
    rw [show abv 1 = 0 from by decide]
    refine E_istoreC dX12_bodyFrom_17 (by decide) rfl ?_
    refine E_lv (lv' := [_, _, _, _, _]) rfl ?_
    refine E_goto (tgt := 3) dX12_bodyFrom_19 (by decide) ?_
    exact s3
  have s1 : E Γ mX12_bodyFrom d 0 0 (QM Γ 0 0 Φ) 0 0 3 [some (.ref 109), some (.int 5), some (.int 3), some (.int x), some (.int 3)] [] g P I := by
    refine E_iload dX12_bodyFrom_3 rfl ?_
    refine E_iload_n (i := 2) dX12_bodyFrom_5 rfl rfl ?_
    refine k_X12_bodyFrom_6 (mc' := 0) (ms' := 0) (rc := 0) (rs := 0) (by omega) (Nat.le_of_ble_eq_true rfl) (ho_3_3 ?_)
    refine E_if_ne (tgt := 22) dX12_bodyFrom_9 (by decide) (fun c_9 => absurd (rfl) c_9) (fun c_9 => ?_)
    refine E_iload dX12_bodyFrom_12 rfl ?_
    refine k_X12_bodyFrom_14 (mc' := 0) (ms' := 0) (rc := 0) (rs := 0) (by omega) (Nat.le_of_ble_eq_true rfl) (c_X12_above ?_)
    rw [show abv 3 = 1 from by decide]
    refine E_istoreC dX12_bodyFrom_17 (by decide) rfl ?_
    refine E_lv (lv' := [_, _, _, _, _]) rfl ?_
    refine E_goto (tgt := 3) dX12_bodyFrom_19 (by decide) ?_
    exact s2
  have s0 : E Γ mX12_bodyFrom d 0 0 (QM Γ 0 0 Φ) 0 0 3 [some (.ref 109), some (.int 5), some (.int 3), some (.int x), some (.int 5)] [] g P I := by
    refine E_iload dX12_bodyFrom_3 rfl ?_
    refine E_iload_n (i := 2) dX12_bodyFrom_5 rfl rfl ?_
    refine k_X12_bodyFrom_6 (mc' := 0) (ms' := 0) (rc := 0) (rs := 0) (by omega) (Nat.le_of_ble_eq_true rfl) (ho_5_3 ?_)
    refine E_if_ne (tgt := 22) dX12_bodyFrom_9 (by decide) (fun c_9 => absurd (rfl) c_9) (fun c_9 => ?_)
    refine E_iload dX12_bodyFrom_12 rfl ?_
    refine k_X12_bodyFrom_14 (mc' := 0) (ms' := 0) (rc := 0) (rs := 0) (by omega) (Nat.le_of_ble_eq_true rfl) (c_X12_above ?_)
    rw [show abv 5 = 3 from by decide]
    refine E_istoreC dX12_bodyFrom_17 (by decide) rfl ?_
    refine E_lv (lv' := [_, _, _, _, _]) rfl ?_
    refine E_goto (tgt := 3) dX12_bodyFrom_19 (by decide) ?_
    exact s1
  refine E_iload_n (i := 1) dX12_bodyFrom_0 rfl rfl ?_
  refine E_istoreC dX12_bodyFrom_1 (by decide) rfl ?_
  refine E_lv (lv' := [_, _, _, _, _]) rfl ?_
  exact s0
theorem u_5_3 {r : Nat} {x : Int32} (hd : 13 ≤ d) (hM : Mo g P) (hS : Sp I r 5) (hΦ : Φ (some (.int (((((x + I 109 22) * 2) - (-(1 - I 110 (16 + 7 * r + 2)))) ^^^ I 109 22) ^^^ (-(x - I 110 (16 + 7 * r + 2)))))) g P (mads I [13, 60, 20, 11, 10, 40, 12, 40, 12])) : MM Γ mX12_voiced d 0 0 [.ref 109, .int 3, .int x] g P I Φ := by
  refine MM_entry [some _, some _, some _] (by decide) (Nat.le_of_ble_eq_true rfl) rfl ?_
  have h0 := hM.1
  have e : I 110 (16 + 7 * r + 0) = 5 := hS.2.2.1
  refine E_aload_n (i := 0) dX12_voiced_0 rfl rfl ?_
  refine E_aload_n (i := 0) dX12_voiced_1 rfl rfl ?_
  refine E_aload_n (i := 0) dX12_voiced_2 rfl rfl ?_
  refine E_gi dX12_voiced_3 gf_X12_285_12 rfl (by assumption) ?_
  refine E_iconst (v := 0) dX12_voiced_6 (by decide) ?_
  refine k_X12_voiced_7 (mc' := 0) (ms' := 0) (rc := 0) (rs := 0) (by omega) (Nat.le_of_ble_eq_true rfl) (by assumption) (c_X12_of (f := 0) hM hS.1 rfl hS.2.1 (by decide) ?_)
  rw [e]
  refine E_iload_n (i := 1) dX12_voiced_10 rfl rfl ?_
  refine E_iload_n (i := 2) dX12_voiced_11 rfl rfl ?_
  refine k_X12_voiced_12 (mc' := 0) (ms' := 0) (rc := 0) (rs := 0) (by omega) (Nat.le_of_ble_eq_true rfl) (by assumption) (z_5_5_3 (by omega) hM hS ?_)
  refine E_iret dX12_voiced_15 rfl ?_
  exact hΦ
theorem y_6_0_0 {r : Nat} {x : Int32} (hd : 1 ≤ d) (hM : Mo g P) (hS : Sp I r 6) (hΦ : Φ (some (.int (x + I 109 22))) g P (mads I [10])) : MM Γ mX12_body d 0 0 [.ref 109, .int 0, .int 0, .int x] g P I Φ := by
  refine MM_entry [some _, some _, some _, some _, none] (by decide) (Nat.le_of_ble_eq_true rfl) rfl ?_
  have h0 := hM.1
  refine E_iconst (v := 4) dX12_body_0 (by decide) ?_
  refine E_iload_n (i := 1) dX12_body_1 rfl rfl ?_
  refine E_imul dX12_body_2 ?_
  refine E_iload_n (i := 2) dX12_body_3 rfl rfl ?_
  refine E_iadd dX12_body_4 ?_
  refine E_tswIn (tgt := 120) dX12_body_5 (by decide) (by decide) rfl (by decide) ?_
  refine E_aload_n (i := 0) dX12_body_120 rfl rfl ?_
  refine E_bipush (v := 10) dX12_body_121 (by decide) ?_
  refine k_X12_body_123 (mc' := 0) (ms' := 0) (rc := 0) (rs := 0) (by omega) (Nat.le_of_ble_eq_true rfl) (by assumption) (c_madd hM hS ?_)
  refine E_iload_n (i := 3) dX12_body_126 rfl rfl ?_
  refine E_aload_n (i := 0) dX12_body_127 rfl rfl ?_
  refine E_gi dX12_body_128 gf_X12_285_12 rfl (by assumption) ?_
  refine E_iadd dX12_body_131 ?_
  refine E_iret dX12_body_132 rfl ?_
  simp only [mads_app, mads_110, mads_22, List.cons_append, List.nil_append]
  exact hΦ
theorem z_6_0_0 {r : Nat} {x : Int32} (hd : 2 ≤ d) (hM : Mo g P) (hS : Sp I r 6) (hΦ : Φ (some (.int (x + I 109 22))) g P (mads I [10])) : MM Γ mX12_bodyFrom d 0 0 [.ref 109, .int 0, .int 0, .int x] g P I Φ := by
  refine MM_entry [some _, some _, some _, some _, none] (by decide) (Nat.le_of_ble_eq_true rfl) rfl ?_
  have h0 := hM.1
  have s0 : E Γ mX12_bodyFrom d 0 0 (QM Γ 0 0 Φ) 0 0 3 [some (.ref 109), some (.int 0), some (.int 0), some (.int x), some (.int 0)] [] g P I := by
    refine E_iload dX12_bodyFrom_3 rfl ?_
    refine E_iload_n (i := 2) dX12_bodyFrom_5 rfl rfl ?_
    refine k_X12_bodyFrom_6 (mc' := 0) (ms' := 0) (rc := 0) (rs := 0) (by omega) (Nat.le_of_ble_eq_true rfl) (ho_0_0 ?_)
    refine E_if_ne (tgt := 22) dX12_bodyFrom_9 (by decide) (fun c_9 => ?_) (fun c_9 => absurd c_9 (by decide))
    refine E_aload_n (i := 0) dX12_bodyFrom_22 rfl rfl ?_
    refine E_iload dX12_bodyFrom_23 rfl ?_
    refine E_iload_n (i := 2) dX12_bodyFrom_25 rfl rfl ?_
    refine E_iload_n (i := 3) dX12_bodyFrom_26 rfl rfl ?_
    refine k_X12_bodyFrom_27 (mc' := 0) (ms' := 0) (rc := 0) (rs := 0) (by omega) (Nat.le_of_ble_eq_true rfl) (by assumption) (y_6_0_0 (by omega) hM hS ?_)
    refine E_iret dX12_bodyFrom_30 rfl ?_
    exact hΦ
  refine E_iload_n (i := 1) dX12_bodyFrom_0 rfl rfl ?_
  refine E_istoreC dX12_bodyFrom_1 (by decide) rfl ?_
  refine E_lv (lv' := [_, _, _, _, _]) rfl ?_
  exact s0
theorem y_6_2_0 {r : Nat} {x : Int32} (hd : 3 ≤ d) (hM : Mo g P) (hS : Sp I r 6) (hΦ : Φ (some (.int ((x + I 109 22) * 3))) g P (mads I [30, 10])) : MM Γ mX12_body d 0 0 [.ref 109, .int 2, .int 0, .int x] g P I Φ := by
  refine MM_entry [some _, some _, some _, some _, none] (by decide) (Nat.le_of_ble_eq_true rfl) rfl ?_
  have h0 := hM.1
  refine E_iconst (v := 4) dX12_body_0 (by decide) ?_
  refine E_iload_n (i := 1) dX12_body_1 rfl rfl ?_
  refine E_imul dX12_body_2 ?_
  refine E_iload_n (i := 2) dX12_body_3 rfl rfl ?_
  refine E_iadd dX12_body_4 ?_
  refine E_tswIn (tgt := 215) dX12_body_5 (by decide) (by decide) rfl (by decide) ?_
  refine E_aload_n (i := 0) dX12_body_215 rfl rfl ?_
  refine E_bipush (v := 30) dX12_body_216 (by decide) ?_
  refine k_X12_body_218 (mc' := 0) (ms' := 0) (rc := 0) (rs := 0) (by omega) (Nat.le_of_ble_eq_true rfl) (by assumption) (c_madd hM hS ?_)
  refine E_aload_n (i := 0) dX12_body_221 rfl rfl ?_
  refine E_iconst (v := 0) dX12_body_222 (by decide) ?_
  refine E_iconst (v := 0) dX12_body_223 (by decide) ?_
  refine E_iload_n (i := 3) dX12_body_224 rfl rfl ?_
  refine k_X12_body_225 (mc' := 0) (ms' := 0) (rc := 0) (rs := 0) (by omega) (Nat.le_of_ble_eq_true rfl) (by assumption) (z_6_0_0 (by omega) hM (Sp_m _ hS) ?_)
  refine E_iconst (v := 3) dX12_body_228 (by decide) ?_
  refine E_imul dX12_body_229 ?_
  refine E_iret dX12_body_230 rfl ?_
  simp only [mads_app, mads_110, mads_22, List.cons_append, List.nil_append]
  exact hΦ
theorem z_6_2_0 {r : Nat} {x : Int32} (hd : 4 ≤ d) (hM : Mo g P) (hS : Sp I r 6) (hΦ : Φ (some (.int ((x + I 109 22) * 3))) g P (mads I [30, 10])) : MM Γ mX12_bodyFrom d 0 0 [.ref 109, .int 2, .int 0, .int x] g P I Φ := by
  refine MM_entry [some _, some _, some _, some _, none] (by decide) (Nat.le_of_ble_eq_true rfl) rfl ?_
  have h0 := hM.1
  have s0 : E Γ mX12_bodyFrom d 0 0 (QM Γ 0 0 Φ) 0 0 3 [some (.ref 109), some (.int 2), some (.int 0), some (.int x), some (.int 2)] [] g P I := by
    refine E_iload dX12_bodyFrom_3 rfl ?_
    refine E_iload_n (i := 2) dX12_bodyFrom_5 rfl rfl ?_
    refine k_X12_bodyFrom_6 (mc' := 0) (ms' := 0) (rc := 0) (rs := 0) (by omega) (Nat.le_of_ble_eq_true rfl) (ho_2_0 ?_)
    refine E_if_ne (tgt := 22) dX12_bodyFrom_9 (by decide) (fun c_9 => ?_) (fun c_9 => absurd c_9 (by decide))
    refine E_aload_n (i := 0) dX12_bodyFrom_22 rfl rfl ?_
    refine E_iload dX12_bodyFrom_23 rfl ?_
    refine E_iload_n (i := 2) dX12_bodyFrom_25 rfl rfl ?_
    refine E_iload_n (i := 3) dX12_bodyFrom_26 rfl rfl ?_
    refine k_X12_bodyFrom_27 (mc' := 0) (ms' := 0) (rc := 0) (rs := 0) (by omega) (Nat.le_of_ble_eq_true rfl) (by assumption) (y_6_2_0 (by omega) hM hS ?_)
    refine E_iret dX12_bodyFrom_30 rfl ?_
    exact hΦ
  refine E_iload_n (i := 1) dX12_bodyFrom_0 rfl rfl ?_
  refine E_istoreC dX12_bodyFrom_1 (by decide) rfl ?_
  refine E_lv (lv' := [_, _, _, _, _]) rfl ?_
  exact s0
theorem y_6_6_0 {r : Nat} {x : Int32} (hd : 5 ≤ d) (hM : Mo g P) (hS : Sp I r 6) (hΦ : Φ (some (.int (((x + 1) + I 109 22) * 3))) g P (mads I [70, 30, 10])) : MM Γ mX12_body d 0 0 [.ref 109, .int 6, .int 0, .int x] g P I Φ := by
  refine MM_entry [some _, some _, some _, some _, none] (by decide) (Nat.le_of_ble_eq_true rfl) rfl ?_
  have h0 := hM.1
  refine E_iconst (v := 4) dX12_body_0 (by decide) ?_
  refine E_iload_n (i := 1) dX12_body_1 rfl rfl ?_
  refine E_imul dX12_body_2 ?_
  refine E_iload_n (i := 2) dX12_body_3 rfl rfl ?_
  refine E_iadd dX12_body_4 ?_
  refine E_tswIn (tgt := 290) dX12_body_5 (by decide) (by decide) rfl (by decide) ?_
  refine E_aload_n (i := 0) dX12_body_290 rfl rfl ?_
  refine E_bipush (v := 70) dX12_body_291 (by decide) ?_
  refine k_X12_body_293 (mc' := 0) (ms' := 0) (rc := 0) (rs := 0) (by omega) (Nat.le_of_ble_eq_true rfl) (by assumption) (c_madd hM hS ?_)
  refine E_aload_n (i := 0) dX12_body_296 rfl rfl ?_
  refine E_iconst (v := 2) dX12_body_297 (by decide) ?_
  refine E_iconst (v := 0) dX12_body_298 (by decide) ?_
  refine E_iload_n (i := 3) dX12_body_299 rfl rfl ?_
  refine E_iconst (v := 1) dX12_body_300 (by decide) ?_
  refine E_iadd dX12_body_301 ?_
  refine k_X12_body_302 (mc' := 0) (ms' := 0) (rc := 0) (rs := 0) (by omega) (Nat.le_of_ble_eq_true rfl) (by assumption) (z_6_2_0 (by omega) hM (Sp_m _ hS) ?_)
  refine E_iret dX12_body_305 rfl ?_
  simp only [mads_app, mads_110, mads_22, List.cons_append, List.nil_append]
  exact hΦ
theorem z_6_6_0 {r : Nat} {x : Int32} (hd : 6 ≤ d) (hM : Mo g P) (hS : Sp I r 6) (hΦ : Φ (some (.int (((x + 1) + I 109 22) * 3))) g P (mads I [70, 30, 10])) : MM Γ mX12_bodyFrom d 0 0 [.ref 109, .int 6, .int 0, .int x] g P I Φ := by
  refine MM_entry [some _, some _, some _, some _, none] (by decide) (Nat.le_of_ble_eq_true rfl) rfl ?_
  have h0 := hM.1
  have s0 : E Γ mX12_bodyFrom d 0 0 (QM Γ 0 0 Φ) 0 0 3 [some (.ref 109), some (.int 6), some (.int 0), some (.int x), some (.int 6)] [] g P I := by
    refine E_iload dX12_bodyFrom_3 rfl ?_
    refine E_iload_n (i := 2) dX12_bodyFrom_5 rfl rfl ?_
    refine k_X12_bodyFrom_6 (mc' := 0) (ms' := 0) (rc := 0) (rs := 0) (by omega) (Nat.le_of_ble_eq_true rfl) (ho_6_0 ?_)
    refine E_if_ne (tgt := 22) dX12_bodyFrom_9 (by decide) (fun c_9 => ?_) (fun c_9 => absurd c_9 (by decide))
    refine E_aload_n (i := 0) dX12_bodyFrom_22 rfl rfl ?_
    refine E_iload dX12_bodyFrom_23 rfl ?_
    refine E_iload_n (i := 2) dX12_bodyFrom_25 rfl rfl ?_
    refine E_iload_n (i := 3) dX12_bodyFrom_26 rfl rfl ?_
    refine k_X12_bodyFrom_27 (mc' := 0) (ms' := 0) (rc := 0) (rs := 0) (by omega) (Nat.le_of_ble_eq_true rfl) (by assumption) (y_6_6_0 (by omega) hM hS ?_)
    refine E_iret dX12_bodyFrom_30 rfl ?_
    exact hΦ
  refine E_iload_n (i := 1) dX12_bodyFrom_0 rfl rfl ?_
  refine E_istoreC dX12_bodyFrom_1 (by decide) rfl ?_
  refine E_lv (lv' := [_, _, _, _, _]) rfl ?_
  exact s0
theorem u_6_0 {r : Nat} {x : Int32} (hd : 7 ≤ d) (hM : Mo g P) (hS : Sp I r 6) (hΦ : Φ (some (.int (((x + 1) + I 109 22) * 3))) g P (mads I [70, 30, 10])) : MM Γ mX12_voiced d 0 0 [.ref 109, .int 0, .int x] g P I Φ := by
  refine MM_entry [some _, some _, some _] (by decide) (Nat.le_of_ble_eq_true rfl) rfl ?_
  have h0 := hM.1
  have e : I 110 (16 + 7 * r + 0) = 6 := hS.2.2.1
  refine E_aload_n (i := 0) dX12_voiced_0 rfl rfl ?_
  refine E_aload_n (i := 0) dX12_voiced_1 rfl rfl ?_
  refine E_aload_n (i := 0) dX12_voiced_2 rfl rfl ?_
  refine E_gi dX12_voiced_3 gf_X12_285_12 rfl (by assumption) ?_
  refine E_iconst (v := 0) dX12_voiced_6 (by decide) ?_
  refine k_X12_voiced_7 (mc' := 0) (ms' := 0) (rc := 0) (rs := 0) (by omega) (Nat.le_of_ble_eq_true rfl) (by assumption) (c_X12_of (f := 0) hM hS.1 rfl hS.2.1 (by decide) ?_)
  rw [e]
  refine E_iload_n (i := 1) dX12_voiced_10 rfl rfl ?_
  refine E_iload_n (i := 2) dX12_voiced_11 rfl rfl ?_
  refine k_X12_voiced_12 (mc' := 0) (ms' := 0) (rc := 0) (rs := 0) (by omega) (Nat.le_of_ble_eq_true rfl) (by assumption) (z_6_6_0 (by omega) hM hS ?_)
  refine E_iret dX12_voiced_15 rfl ?_
  exact hΦ
theorem y_6_0_1 {r : Nat} {x : Int32} (hd : 8 ≤ d) (hM : Mo g P) (hS : Sp I r 6) (hΦ : Φ (some (.int ((((x + 1) + I 109 22) * 3) * 2))) g P (mads I [11, 70, 30, 10])) : MM Γ mX12_body d 0 0 [.ref 109, .int 0, .int 1, .int x] g P I Φ := by
  refine MM_entry [some _, some _, some _, some _, none] (by decide) (Nat.le_of_ble_eq_true rfl) rfl ?_
  have h0 := hM.1
  refine E_iconst (v := 4) dX12_body_0 (by decide) ?_
  refine E_iload_n (i := 1) dX12_body_1 rfl rfl ?_
  refine E_imul dX12_body_2 ?_
  refine E_iload_n (i := 2) dX12_body_3 rfl rfl ?_
  refine E_iadd dX12_body_4 ?_
  refine E_tswIn (tgt := 133) dX12_body_5 (by decide) (by decide) rfl (by decide) ?_
  refine E_aload_n (i := 0) dX12_body_133 rfl rfl ?_
  refine E_bipush (v := 11) dX12_body_134 (by decide) ?_
  refine k_X12_body_136 (mc' := 0) (ms' := 0) (rc := 0) (rs := 0) (by omega) (Nat.le_of_ble_eq_true rfl) (by assumption) (c_madd hM hS ?_)
  refine E_aload_n (i := 0) dX12_body_139 rfl rfl ?_
  refine E_iconst (v := 0) dX12_body_140 (by decide) ?_
  refine E_iload_n (i := 3) dX12_body_141 rfl rfl ?_
  refine k_X12_body_142 (mc' := 0) (ms' := 0) (rc := 0) (rs := 0) (by omega) (Nat.le_of_ble_eq_true rfl) (by assumption) (u_6_0 (by omega) hM (Sp_m _ hS) ?_)
  refine E_iconst (v := 2) dX12_body_145 (by decide) ?_
  refine E_imul dX12_body_146 ?_
  refine E_iret dX12_body_147 rfl ?_
  simp only [mads_app, mads_110, mads_22, List.cons_append, List.nil_append]
  exact hΦ
theorem z_6_6_1 {r : Nat} {x : Int32} (hd : 9 ≤ d) (hM : Mo g P) (hS : Sp I r 6) (hΦ : Φ (some (.int ((((x + 1) + I 109 22) * 3) * 2))) g P (mads I [11, 70, 30, 10])) : MM Γ mX12_bodyFrom d 0 0 [.ref 109, .int 6, .int 1, .int x] g P I Φ := by
  refine MM_entry [some _, some _, some _, some _, none] (by decide) (Nat.le_of_ble_eq_true rfl) rfl ?_
  have h0 := hM.1
  have s2 : E Γ mX12_bodyFrom d 0 0 (QM Γ 0 0 Φ) 0 0 3 [some (.ref 109), some (.int 6), some (.int 1), some (.int x), some (.int 0)] [] g P I := by
    refine E_iload dX12_bodyFrom_3 rfl ?_
    refine E_iload_n (i := 2) dX12_bodyFrom_5 rfl rfl ?_
    refine k_X12_bodyFrom_6 (mc' := 0) (ms' := 0) (rc := 0) (rs := 0) (by omega) (Nat.le_of_ble_eq_true rfl) (ho_0_1 ?_)
    refine E_if_ne (tgt := 22) dX12_bodyFrom_9 (by decide) (fun c_9 => ?_) (fun c_9 => absurd c_9 (by decide))
    refine E_aload_n (i := 0) dX12_bodyFrom_22 rfl rfl ?_
    refine E_iload dX12_bodyFrom_23 rfl ?_
    refine E_iload_n (i := 2) dX12_bodyFrom_25 rfl rfl ?_
    refine E_iload_n (i := 3) dX12_bodyFrom_26 rfl rfl ?_
    refine k_X12_bodyFrom_27 (mc' := 0) (ms' := 0) (rc := 0) (rs := 0) (by omega) (Nat.le_of_ble_eq_true rfl) (by assumption) (y_6_0_1 (by omega) hM hS ?_)
    refine E_iret dX12_bodyFrom_30 rfl ?_
    exact hΦ
  have s1 : E Γ mX12_bodyFrom d 0 0 (QM Γ 0 0 Φ) 0 0 3 [some (.ref 109), some (.int 6), some (.int 1), some (.int x), some (.int 2)] [] g P I := by
    refine E_iload dX12_bodyFrom_3 rfl ?_
    refine E_iload_n (i := 2) dX12_bodyFrom_5 rfl rfl ?_
    refine k_X12_bodyFrom_6 (mc' := 0) (ms' := 0) (rc := 0) (rs := 0) (by omega) (Nat.le_of_ble_eq_true rfl) (ho_2_1 ?_)
    refine E_if_ne (tgt := 22) dX12_bodyFrom_9 (by decide) (fun c_9 => absurd (rfl) c_9) (fun c_9 => ?_)
    refine E_iload dX12_bodyFrom_12 rfl ?_
    refine k_X12_bodyFrom_14 (mc' := 0) (ms' := 0) (rc := 0) (rs := 0) (by omega) (Nat.le_of_ble_eq_true rfl) (c_X12_above ?_)
    rw [show abv 2 = 0 from by decide]
    refine E_istoreC dX12_bodyFrom_17 (by decide) rfl ?_
    refine E_lv (lv' := [_, _, _, _, _]) rfl ?_
    refine E_goto (tgt := 3) dX12_bodyFrom_19 (by decide) ?_
    exact s2
  have s0 : E Γ mX12_bodyFrom d 0 0 (QM Γ 0 0 Φ) 0 0 3 [some (.ref 109), some (.int 6), some (.int 1), some (.int x), some (.int 6)] [] g P I := by
    refine E_iload dX12_bodyFrom_3 rfl ?_
    refine E_iload_n (i := 2) dX12_bodyFrom_5 rfl rfl ?_
    refine k_X12_bodyFrom_6 (mc' := 0) (ms' := 0) (rc := 0) (rs := 0) (by omega) (Nat.le_of_ble_eq_true rfl) (ho_6_1 ?_)
    refine E_if_ne (tgt := 22) dX12_bodyFrom_9 (by decide) (fun c_9 => absurd (rfl) c_9) (fun c_9 => ?_)
    refine E_iload dX12_bodyFrom_12 rfl ?_
    refine k_X12_bodyFrom_14 (mc' := 0) (ms' := 0) (rc := 0) (rs := 0) (by omega) (Nat.le_of_ble_eq_true rfl) (c_X12_above ?_)
    rw [show abv 6 = 2 from by decide]
    refine E_istoreC dX12_bodyFrom_17 (by decide) rfl ?_
    refine E_lv (lv' := [_, _, _, _, _]) rfl ?_
    refine E_goto (tgt := 3) dX12_bodyFrom_19 (by decide) ?_
    exact s1
  refine E_iload_n (i := 1) dX12_bodyFrom_0 rfl rfl ?_
  refine E_istoreC dX12_bodyFrom_1 (by decide) rfl ?_
  refine E_lv (lv' := [_, _, _, _, _]) rfl ?_
  exact s0
theorem u_6_1 {r : Nat} {x : Int32} (hd : 10 ≤ d) (hM : Mo g P) (hS : Sp I r 6) (hΦ : Φ (some (.int ((((x + 1) + I 109 22) * 3) * 2))) g P (mads I [11, 70, 30, 10])) : MM Γ mX12_voiced d 0 0 [.ref 109, .int 1, .int x] g P I Φ := by
  refine MM_entry [some _, some _, some _] (by decide) (Nat.le_of_ble_eq_true rfl) rfl ?_
  have h0 := hM.1
  have e : I 110 (16 + 7 * r + 0) = 6 := hS.2.2.1
  refine E_aload_n (i := 0) dX12_voiced_0 rfl rfl ?_
  refine E_aload_n (i := 0) dX12_voiced_1 rfl rfl ?_
  refine E_aload_n (i := 0) dX12_voiced_2 rfl rfl ?_
  refine E_gi dX12_voiced_3 gf_X12_285_12 rfl (by assumption) ?_
  refine E_iconst (v := 0) dX12_voiced_6 (by decide) ?_
  refine k_X12_voiced_7 (mc' := 0) (ms' := 0) (rc := 0) (rs := 0) (by omega) (Nat.le_of_ble_eq_true rfl) (by assumption) (c_X12_of (f := 0) hM hS.1 rfl hS.2.1 (by decide) ?_)
  rw [e]
  refine E_iload_n (i := 1) dX12_voiced_10 rfl rfl ?_
  refine E_iload_n (i := 2) dX12_voiced_11 rfl rfl ?_
  refine k_X12_voiced_12 (mc' := 0) (ms' := 0) (rc := 0) (rs := 0) (by omega) (Nat.le_of_ble_eq_true rfl) (by assumption) (z_6_6_1 (by omega) hM hS ?_)
  refine E_iret dX12_voiced_15 rfl ?_
  exact hΦ
theorem y_6_0_2 {r : Nat} {x : Int32} (hd : 1 ≤ d) (hM : Mo g P) (hS : Sp I r 6) (hΦ : Φ (some (.int (x - I 110 (16 + 7 * r + 2)))) g P (mads I [12])) : MM Γ mX12_body d 0 0 [.ref 109, .int 0, .int 2, .int x] g P I Φ := by
  refine MM_entry [some _, some _, some _, some _, none] (by decide) (Nat.le_of_ble_eq_true rfl) rfl ?_
  have h0 := hM.1
  refine E_iconst (v := 4) dX12_body_0 (by decide) ?_
  refine E_iload_n (i := 1) dX12_body_1 rfl rfl ?_
  refine E_imul dX12_body_2 ?_
  refine E_iload_n (i := 2) dX12_body_3 rfl rfl ?_
  refine E_iadd dX12_body_4 ?_
  refine E_tswIn (tgt := 148) dX12_body_5 (by decide) (by decide) rfl (by decide) ?_
  refine E_aload_n (i := 0) dX12_body_148 rfl rfl ?_
  refine E_bipush (v := 12) dX12_body_149 (by decide) ?_
  refine k_X12_body_151 (mc' := 0) (ms' := 0) (rc := 0) (rs := 0) (by omega) (Nat.le_of_ble_eq_true rfl) (by assumption) (c_madd hM hS ?_)
  refine E_iload_n (i := 3) dX12_body_154 rfl rfl ?_
  refine E_aload_n (i := 0) dX12_body_155 rfl rfl ?_
  refine E_aload_n (i := 0) dX12_body_156 rfl rfl ?_
  refine E_gi dX12_body_157 gf_X12_285_12 rfl (by assumption) ?_
  refine E_iconst (v := 2) dX12_body_160 (by decide) ?_
  refine k_X12_body_161 (mc' := 0) (ms' := 0) (rc := 0) (rs := 0) (by omega) (Nat.le_of_ble_eq_true rfl) (by assumption) (c_X12_of (f := 2) hM (Sp_m _ hS).1 rfl hS.2.1 (by decide) ?_)
  refine E_isub dX12_body_164 ?_
  refine E_iret dX12_body_165 rfl ?_
  simp only [mads_app, mads_110, mads_22, List.cons_append, List.nil_append]
  exact hΦ
theorem z_6_6_2 {r : Nat} {x : Int32} (hd : 2 ≤ d) (hM : Mo g P) (hS : Sp I r 6) (hΦ : Φ (some (.int (x - I 110 (16 + 7 * r + 2)))) g P (mads I [12])) : MM Γ mX12_bodyFrom d 0 0 [.ref 109, .int 6, .int 2, .int x] g P I Φ := by
  refine MM_entry [some _, some _, some _, some _, none] (by decide) (Nat.le_of_ble_eq_true rfl) rfl ?_
  have h0 := hM.1
  have s2 : E Γ mX12_bodyFrom d 0 0 (QM Γ 0 0 Φ) 0 0 3 [some (.ref 109), some (.int 6), some (.int 2), some (.int x), some (.int 0)] [] g P I := by
    refine E_iload dX12_bodyFrom_3 rfl ?_
    refine E_iload_n (i := 2) dX12_bodyFrom_5 rfl rfl ?_
    refine k_X12_bodyFrom_6 (mc' := 0) (ms' := 0) (rc := 0) (rs := 0) (by omega) (Nat.le_of_ble_eq_true rfl) (ho_0_2 ?_)
    refine E_if_ne (tgt := 22) dX12_bodyFrom_9 (by decide) (fun c_9 => ?_) (fun c_9 => absurd c_9 (by decide))
    refine E_aload_n (i := 0) dX12_bodyFrom_22 rfl rfl ?_
    refine E_iload dX12_bodyFrom_23 rfl ?_
    refine E_iload_n (i := 2) dX12_bodyFrom_25 rfl rfl ?_
    refine E_iload_n (i := 3) dX12_bodyFrom_26 rfl rfl ?_
    refine k_X12_bodyFrom_27 (mc' := 0) (ms' := 0) (rc := 0) (rs := 0) (by omega) (Nat.le_of_ble_eq_true rfl) (by assumption) (y_6_0_2 (by omega) hM hS ?_)
    refine E_iret dX12_bodyFrom_30 rfl ?_
    exact hΦ
  have s1 : E Γ mX12_bodyFrom d 0 0 (QM Γ 0 0 Φ) 0 0 3 [some (.ref 109), some (.int 6), some (.int 2), some (.int x), some (.int 2)] [] g P I := by
    refine E_iload dX12_bodyFrom_3 rfl ?_
    refine E_iload_n (i := 2) dX12_bodyFrom_5 rfl rfl ?_
    refine k_X12_bodyFrom_6 (mc' := 0) (ms' := 0) (rc := 0) (rs := 0) (by omega) (Nat.le_of_ble_eq_true rfl) (ho_2_2 ?_)
    refine E_if_ne (tgt := 22) dX12_bodyFrom_9 (by decide) (fun c_9 => absurd (rfl) c_9) (fun c_9 => ?_)
    refine E_iload dX12_bodyFrom_12 rfl ?_
    refine k_X12_bodyFrom_14 (mc' := 0) (ms' := 0) (rc := 0) (rs := 0) (by omega) (Nat.le_of_ble_eq_true rfl) (c_X12_above ?_)
    rw [show abv 2 = 0 from by decide]
    refine E_istoreC dX12_bodyFrom_17 (by decide) rfl ?_
    refine E_lv (lv' := [_, _, _, _, _]) rfl ?_
    refine E_goto (tgt := 3) dX12_bodyFrom_19 (by decide) ?_
    exact s2
  have s0 : E Γ mX12_bodyFrom d 0 0 (QM Γ 0 0 Φ) 0 0 3 [some (.ref 109), some (.int 6), some (.int 2), some (.int x), some (.int 6)] [] g P I := by
    refine E_iload dX12_bodyFrom_3 rfl ?_
    refine E_iload_n (i := 2) dX12_bodyFrom_5 rfl rfl ?_
    refine k_X12_bodyFrom_6 (mc' := 0) (ms' := 0) (rc := 0) (rs := 0) (by omega) (Nat.le_of_ble_eq_true rfl) (ho_6_2 ?_)
    refine E_if_ne (tgt := 22) dX12_bodyFrom_9 (by decide) (fun c_9 => absurd (rfl) c_9) (fun c_9 => ?_)
    refine E_iload dX12_bodyFrom_12 rfl ?_
    refine k_X12_bodyFrom_14 (mc' := 0) (ms' := 0) (rc := 0) (rs := 0) (by omega) (Nat.le_of_ble_eq_true rfl) (c_X12_above ?_)
    rw [show abv 6 = 2 from by decide]
    refine E_istoreC dX12_bodyFrom_17 (by decide) rfl ?_
    refine E_lv (lv' := [_, _, _, _, _]) rfl ?_
    refine E_goto (tgt := 3) dX12_bodyFrom_19 (by decide) ?_
    exact s1
  refine E_iload_n (i := 1) dX12_bodyFrom_0 rfl rfl ?_
  refine E_istoreC dX12_bodyFrom_1 (by decide) rfl ?_
  refine E_lv (lv' := [_, _, _, _, _]) rfl ?_
  exact s0
theorem u_6_2 {r : Nat} {x : Int32} (hd : 3 ≤ d) (hM : Mo g P) (hS : Sp I r 6) (hΦ : Φ (some (.int (x - I 110 (16 + 7 * r + 2)))) g P (mads I [12])) : MM Γ mX12_voiced d 0 0 [.ref 109, .int 2, .int x] g P I Φ := by
  refine MM_entry [some _, some _, some _] (by decide) (Nat.le_of_ble_eq_true rfl) rfl ?_
  have h0 := hM.1
  have e : I 110 (16 + 7 * r + 0) = 6 := hS.2.2.1
  refine E_aload_n (i := 0) dX12_voiced_0 rfl rfl ?_
  refine E_aload_n (i := 0) dX12_voiced_1 rfl rfl ?_
  refine E_aload_n (i := 0) dX12_voiced_2 rfl rfl ?_
  refine E_gi dX12_voiced_3 gf_X12_285_12 rfl (by assumption) ?_
  refine E_iconst (v := 0) dX12_voiced_6 (by decide) ?_
  refine k_X12_voiced_7 (mc' := 0) (ms' := 0) (rc := 0) (rs := 0) (by omega) (Nat.le_of_ble_eq_true rfl) (by assumption) (c_X12_of (f := 0) hM hS.1 rfl hS.2.1 (by decide) ?_)
  rw [e]
  refine E_iload_n (i := 1) dX12_voiced_10 rfl rfl ?_
  refine E_iload_n (i := 2) dX12_voiced_11 rfl rfl ?_
  refine k_X12_voiced_12 (mc' := 0) (ms' := 0) (rc := 0) (rs := 0) (by omega) (Nat.le_of_ble_eq_true rfl) (by assumption) (z_6_6_2 (by omega) hM hS ?_)
  refine E_iret dX12_voiced_15 rfl ?_
  exact hΦ
theorem y_6_0_3 {r : Nat} {x : Int32} (hd : 11 ≤ d) (hM : Mo g P) (hS : Sp I r 6) (hΦ : Φ (some (.int (((((x + 1) + I 109 22) * 3) * 2) ^^^ (x - I 110 (16 + 7 * r + 2))))) g P (mads I [13, 11, 70, 30, 10, 12])) : MM Γ mX12_body d 0 0 [.ref 109, .int 0, .int 3, .int x] g P I Φ := by
  refine MM_entry [some _, some _, some _, some _, none] (by decide) (Nat.le_of_ble_eq_true rfl) rfl ?_
  have h0 := hM.1
  refine E_iconst (v := 4) dX12_body_0 (by decide) ?_
  refine E_iload_n (i := 1) dX12_body_1 rfl rfl ?_
  refine E_imul dX12_body_2 ?_
  refine E_iload_n (i := 2) dX12_body_3 rfl rfl ?_
  refine E_iadd dX12_body_4 ?_
  refine E_tswIn (tgt := 166) dX12_body_5 (by decide) (by decide) rfl (by decide) ?_
  refine E_aload_n (i := 0) dX12_body_166 rfl rfl ?_
  refine E_bipush (v := 13) dX12_body_167 (by decide) ?_
  refine k_X12_body_169 (mc' := 0) (ms' := 0) (rc := 0) (rs := 0) (by omega) (Nat.le_of_ble_eq_true rfl) (by assumption) (c_madd hM hS ?_)
  refine E_aload_n (i := 0) dX12_body_172 rfl rfl ?_
  refine E_iconst (v := 1) dX12_body_173 (by decide) ?_
  refine E_iload_n (i := 3) dX12_body_174 rfl rfl ?_
  refine k_X12_body_175 (mc' := 0) (ms' := 0) (rc := 0) (rs := 0) (by omega) (Nat.le_of_ble_eq_true rfl) (by assumption) (u_6_1 (by omega) hM (Sp_m _ hS) ?_)
  refine E_istoreC dX12_body_178 (by decide) rfl ?_
  refine E_lv (lv' := [_, _, _, _, _]) rfl ?_
  refine E_iload dX12_body_180 rfl ?_
  refine E_aload_n (i := 0) dX12_body_182 rfl rfl ?_
  refine E_iconst (v := 2) dX12_body_183 (by decide) ?_
  refine E_iload_n (i := 3) dX12_body_184 rfl rfl ?_
  refine k_X12_body_185 (mc' := 0) (ms' := 0) (rc := 0) (rs := 0) (by omega) (Nat.le_of_ble_eq_true rfl) (by assumption) (u_6_2 (by omega) hM (Sp_m _ (Sp_m _ hS)) ?_)
  refine E_ixor dX12_body_188 ?_
  refine E_iret dX12_body_189 rfl ?_
  simp only [mads_app, mads_110, mads_22, List.cons_append, List.nil_append]
  exact hΦ
theorem z_6_2_3 {r : Nat} {x : Int32} (hd : 12 ≤ d) (hM : Mo g P) (hS : Sp I r 6) (hΦ : Φ (some (.int (((((x + 1) + I 109 22) * 3) * 2) ^^^ (x - I 110 (16 + 7 * r + 2))))) g P (mads I [13, 11, 70, 30, 10, 12])) : MM Γ mX12_bodyFrom d 0 0 [.ref 109, .int 2, .int 3, .int x] g P I Φ := by
  refine MM_entry [some _, some _, some _, some _, none] (by decide) (Nat.le_of_ble_eq_true rfl) rfl ?_
  have h0 := hM.1
  have s1 : E Γ mX12_bodyFrom d 0 0 (QM Γ 0 0 Φ) 0 0 3 [some (.ref 109), some (.int 2), some (.int 3), some (.int x), some (.int 0)] [] g P I := by
    refine E_iload dX12_bodyFrom_3 rfl ?_
    refine E_iload_n (i := 2) dX12_bodyFrom_5 rfl rfl ?_
    refine k_X12_bodyFrom_6 (mc' := 0) (ms' := 0) (rc := 0) (rs := 0) (by omega) (Nat.le_of_ble_eq_true rfl) (ho_0_3 ?_)
    refine E_if_ne (tgt := 22) dX12_bodyFrom_9 (by decide) (fun c_9 => ?_) (fun c_9 => absurd c_9 (by decide))
    refine E_aload_n (i := 0) dX12_bodyFrom_22 rfl rfl ?_
    refine E_iload dX12_bodyFrom_23 rfl ?_
    refine E_iload_n (i := 2) dX12_bodyFrom_25 rfl rfl ?_
    refine E_iload_n (i := 3) dX12_bodyFrom_26 rfl rfl ?_
    refine k_X12_bodyFrom_27 (mc' := 0) (ms' := 0) (rc := 0) (rs := 0) (by omega) (Nat.le_of_ble_eq_true rfl) (by assumption) (y_6_0_3 (by omega) hM hS ?_)
    refine E_iret dX12_bodyFrom_30 rfl ?_
    exact hΦ
  have s0 : E Γ mX12_bodyFrom d 0 0 (QM Γ 0 0 Φ) 0 0 3 [some (.ref 109), some (.int 2), some (.int 3), some (.int x), some (.int 2)] [] g P I := by
    refine E_iload dX12_bodyFrom_3 rfl ?_
    refine E_iload_n (i := 2) dX12_bodyFrom_5 rfl rfl ?_
    refine k_X12_bodyFrom_6 (mc' := 0) (ms' := 0) (rc := 0) (rs := 0) (by omega) (Nat.le_of_ble_eq_true rfl) (ho_2_3 ?_)
    refine E_if_ne (tgt := 22) dX12_bodyFrom_9 (by decide) (fun c_9 => absurd (rfl) c_9) (fun c_9 => ?_)
    refine E_iload dX12_bodyFrom_12 rfl ?_
    refine k_X12_bodyFrom_14 (mc' := 0) (ms' := 0) (rc := 0) (rs := 0) (by omega) (Nat.le_of_ble_eq_true rfl) (c_X12_above ?_)
    rw [show abv 2 = 0 from by decide]
    refine E_istoreC dX12_bodyFrom_17 (by decide) rfl ?_
    refine E_lv (lv' := [_, _, _, _, _]) rfl ?_
    refine E_goto (tgt := 3) dX12_bodyFrom_19 (by decide) ?_
    exact s1
  refine E_iload_n (i := 1) dX12_bodyFrom_0 rfl rfl ?_
  refine E_istoreC dX12_bodyFrom_1 (by decide) rfl ?_
  refine E_lv (lv' := [_, _, _, _, _]) rfl ?_
  exact s0
theorem y_6_6_3 {r : Nat} {x : Int32} (hd : 13 ≤ d) (hM : Mo g P) (hS : Sp I r 6) (hΦ : Φ (some (.int (((((x + 1) + I 109 22) * 3) * 2) - (((((x + 1) + I 109 22) * 3) * 2) ^^^ (x - I 110 (16 + 7 * r + 2)))))) g P (mads I [71, 11, 70, 30, 10, 13, 11, 70, 30, 10, 12])) : MM Γ mX12_body d 0 0 [.ref 109, .int 6, .int 3, .int x] g P I Φ := by
  refine MM_entry [some _, some _, some _, some _, none] (by decide) (Nat.le_of_ble_eq_true rfl) rfl ?_
  have h0 := hM.1
  refine E_iconst (v := 4) dX12_body_0 (by decide) ?_
  refine E_iload_n (i := 1) dX12_body_1 rfl rfl ?_
  refine E_imul dX12_body_2 ?_
  refine E_iload_n (i := 2) dX12_body_3 rfl rfl ?_
  refine E_iadd dX12_body_4 ?_
  refine E_tswOut (tgt := 306) dX12_body_5 (by decide) (by decide) ?_
  refine E_aload_n (i := 0) dX12_body_306 rfl rfl ?_
  refine E_bipush (v := 71) dX12_body_307 (by decide) ?_
  refine k_X12_body_309 (mc' := 0) (ms' := 0) (rc := 0) (rs := 0) (by omega) (Nat.le_of_ble_eq_true rfl) (by assumption) (c_madd hM hS ?_)
  refine E_aload_n (i := 0) dX12_body_312 rfl rfl ?_
  refine E_iconst (v := 1) dX12_body_313 (by decide) ?_
  refine E_iload_n (i := 3) dX12_body_314 rfl rfl ?_
  refine k_X12_body_315 (mc' := 0) (ms' := 0) (rc := 0) (rs := 0) (by omega) (Nat.le_of_ble_eq_true rfl) (by assumption) (u_6_1 (by omega) hM (Sp_m _ hS) ?_)
  refine E_istoreC dX12_body_318 (by decide) rfl ?_
  refine E_lv (lv' := [_, _, _, _, _]) rfl ?_
  refine E_iload dX12_body_320 rfl ?_
  refine E_aload_n (i := 0) dX12_body_322 rfl rfl ?_
  refine E_iconst (v := 2) dX12_body_323 (by decide) ?_
  refine E_iconst (v := 3) dX12_body_324 (by decide) ?_
  refine E_iload_n (i := 3) dX12_body_325 rfl rfl ?_
  refine k_X12_body_326 (mc' := 0) (ms' := 0) (rc := 0) (rs := 0) (by omega) (Nat.le_of_ble_eq_true rfl) (by assumption) (z_6_2_3 (by omega) hM (Sp_m _ (Sp_m _ hS)) ?_)
  refine E_isub dX12_body_329 ?_
  refine E_iret dX12_body_330 rfl ?_
  simp only [mads_app, mads_110, mads_22, List.cons_append, List.nil_append]
  exact hΦ
theorem z_6_6_3 {r : Nat} {x : Int32} (hd : 14 ≤ d) (hM : Mo g P) (hS : Sp I r 6) (hΦ : Φ (some (.int (((((x + 1) + I 109 22) * 3) * 2) - (((((x + 1) + I 109 22) * 3) * 2) ^^^ (x - I 110 (16 + 7 * r + 2)))))) g P (mads I [71, 11, 70, 30, 10, 13, 11, 70, 30, 10, 12])) : MM Γ mX12_bodyFrom d 0 0 [.ref 109, .int 6, .int 3, .int x] g P I Φ := by
  refine MM_entry [some _, some _, some _, some _, none] (by decide) (Nat.le_of_ble_eq_true rfl) rfl ?_
  have h0 := hM.1
  have s0 : E Γ mX12_bodyFrom d 0 0 (QM Γ 0 0 Φ) 0 0 3 [some (.ref 109), some (.int 6), some (.int 3), some (.int x), some (.int 6)] [] g P I := by
    refine E_iload dX12_bodyFrom_3 rfl ?_
    refine E_iload_n (i := 2) dX12_bodyFrom_5 rfl rfl ?_
    refine k_X12_bodyFrom_6 (mc' := 0) (ms' := 0) (rc := 0) (rs := 0) (by omega) (Nat.le_of_ble_eq_true rfl) (ho_6_3 ?_)
    refine E_if_ne (tgt := 22) dX12_bodyFrom_9 (by decide) (fun c_9 => ?_) (fun c_9 => absurd c_9 (by decide))
    refine E_aload_n (i := 0) dX12_bodyFrom_22 rfl rfl ?_
    refine E_iload dX12_bodyFrom_23 rfl ?_
    refine E_iload_n (i := 2) dX12_bodyFrom_25 rfl rfl ?_
    refine E_iload_n (i := 3) dX12_bodyFrom_26 rfl rfl ?_
    refine k_X12_bodyFrom_27 (mc' := 0) (ms' := 0) (rc := 0) (rs := 0) (by omega) (Nat.le_of_ble_eq_true rfl) (by assumption) (y_6_6_3 (by omega) hM hS ?_)
    refine E_iret dX12_bodyFrom_30 rfl ?_
    exact hΦ
  refine E_iload_n (i := 1) dX12_bodyFrom_0 rfl rfl ?_
  refine E_istoreC dX12_bodyFrom_1 (by decide) rfl ?_
  refine E_lv (lv' := [_, _, _, _, _]) rfl ?_
  exact s0
theorem u_6_3 {r : Nat} {x : Int32} (hd : 15 ≤ d) (hM : Mo g P) (hS : Sp I r 6) (hΦ : Φ (some (.int (((((x + 1) + I 109 22) * 3) * 2) - (((((x + 1) + I 109 22) * 3) * 2) ^^^ (x - I 110 (16 + 7 * r + 2)))))) g P (mads I [71, 11, 70, 30, 10, 13, 11, 70, 30, 10, 12])) : MM Γ mX12_voiced d 0 0 [.ref 109, .int 3, .int x] g P I Φ := by
  refine MM_entry [some _, some _, some _] (by decide) (Nat.le_of_ble_eq_true rfl) rfl ?_
  have h0 := hM.1
  have e : I 110 (16 + 7 * r + 0) = 6 := hS.2.2.1
  refine E_aload_n (i := 0) dX12_voiced_0 rfl rfl ?_
  refine E_aload_n (i := 0) dX12_voiced_1 rfl rfl ?_
  refine E_aload_n (i := 0) dX12_voiced_2 rfl rfl ?_
  refine E_gi dX12_voiced_3 gf_X12_285_12 rfl (by assumption) ?_
  refine E_iconst (v := 0) dX12_voiced_6 (by decide) ?_
  refine k_X12_voiced_7 (mc' := 0) (ms' := 0) (rc := 0) (rs := 0) (by omega) (Nat.le_of_ble_eq_true rfl) (by assumption) (c_X12_of (f := 0) hM hS.1 rfl hS.2.1 (by decide) ?_)
  rw [e]
  refine E_iload_n (i := 1) dX12_voiced_10 rfl rfl ?_
  refine E_iload_n (i := 2) dX12_voiced_11 rfl rfl ?_
  refine k_X12_voiced_12 (mc' := 0) (ms' := 0) (rc := 0) (rs := 0) (by omega) (Nat.le_of_ble_eq_true rfl) (by assumption) (z_6_6_3 (by omega) hM hS ?_)
  refine E_iret dX12_voiced_15 rfl ?_
  exact hΦ
end
