/-! the model's ticks -/
theorem div10_pos {x : Int32} (h : 0 ≤ x.toInt) : 0 ≤ (x / 10).toInt := by
  obtain ⟨j, h1, rfl⟩ := nI_of (x := x) (Int32.not_lt.mpr (i32_le.mpr h))
  rw [show nI j / (10 : Int32) = nI (j / 10) from pk_div (d := 10) h1 (by decide) (by decide), nI_toInt (by omega)]
  omega
theorem VR.kd {M : Nat → Int32} {r : Nat} (h : VR M r) : kdo M r ≤ 6 ∧ M (16 + 7 * r + 0) = nI (kdo M r) := by
  obtain ⟨⟨kd, h1, h2⟩, -⟩ := h
  have e : kdo M r = kd := by unfold kdo; rw [h2, nI_clamp (by omega)]
  rw [e]
  exact ⟨h1, h2⟩
theorem rb_M {M : Nat → Int32} {kd r : Nat} (h1 : kd ≤ 6) (h2 : M (16 + 7 * r + 0) = nI kd) : (if M (16 + 7 * r + 0) = 6 then M 13 / 2 else M 13) = rbc (kc kd) (wm M) := by
  unfold rbc
  rw [h2]
  have e : (nI kd = 6) ↔ kc kd = 1 := by
    match kd, h1 with
    | 0, _ => decide
    | 1, _ => decide
    | 2, _ => decide
    | 3, _ => decide
    | 4, _ => decide
    | 5, _ => decide
    | 6, _ => decide
  by_cases h : nI kd = 6
  · rw [if_pos h, if_pos (e.mp h)]; rfl
  · rw [if_neg h, if_neg (fun q => h (e.mpr q))]; rfl
theorem pc_M {M : Nat → Int32} {r : Nat} (h : VR M r) : hel (rub (M (16 + 7 * r + 4) + gnM (kdo M r) M r) (if M (16 + 7 * r + 0) = 6 then M 13 / 2 else M 13)) (-300) 300 = pcM M r := by
  obtain ⟨k1, k2⟩ := h.kd
  obtain ⟨-, -, h3, -, h5, -⟩ := h
  rw [gn_eq k1 h5 h3, rb_M k1 k2]
  rfl
/-- the heap is the same but for the model's row and its scratch -/
def FM (I J : HI) : Prop := ∀ a, a ≠ 110 → a ≠ 118 → a ≠ 119 → J a = I a
theorem FM.refl (I : HI) : FM I I := fun _ _ _ _ => rfl
theorem FM.trans {I J K : HI} (h : FM I J) (h2 : FM J K) : FM I K := fun a a1 a2 a3 => (h2 a a1 a2 a3).trans (h a a1 a2 a3)
theorem FM.u {I J : HI} {y : Nat} {v : Int32} (h : FM I J) : FM I (u2 J 110 y v) := fun a a1 a2 a3 => by rw [u2_oth _ a1]; exact h a a1 a2 a3
section
variable {Γ : GE} {d : Nat} {g : Sh} {P : HP} {I : HI} {Φ : Option Value → Sh → HP → HI → Prop} {δ : List Int32} {k : Nat}
theorem c_X12_goes {r : Nat} {x : Int32} (hd : 5 ≤ d) (hM : Mo g P) (hV : VM (I 110) k) (hT : TC 0 δ (I 110)) (hx : x = nI r) (hr : r < k) (hΦ : ∀ J, FM I J → J 110 = goM δ (I 110) r → Φ none g P J) : MM Γ mX12_goes d 0 0 [.ref 109, .int x] g P I Φ := by
  refine MM_entry [some _, some _, none, none] (by decide) (Nat.le_of_ble_eq_true rfl) rfl ?_
  have h0 := hM.1
  obtain ⟨n1, n2, n3⟩ := hM.now
  have hk8 := hV.2.1
  have hr8 : r < 8 := by omega
  have hVr := hV.2.2.2 r hr
  obtain ⟨q1, q2⟩ := hVr.kd
  have hp : 0 ≤ (I 110 (16 + 7 * r + 3) / 10).toInt := div10_pos hVr.2.2.2.1.1
  have ep : Unit → hel (rub (I 110 (16 + 7 * r + 4) + gnM (kdo (I 110) r) (I 110) r) (if I 110 (16 + 7 * r + 0) = 6 then I 110 13 / 2 else I 110 13)) (-300) 300 = pcM (I 110) r := fun _ => pc_M hVr
  obtain ⟨p, hp'⟩ := hid (pcM (I 110) r)
  unfold goM at hΦ
  rw [hp' ()] at hΦ ep
  by_cases c1 : 10 * I 110 7 ≤ I 110 (16 + 7 * r + 3) + p
  · rw [if_pos c1] at hΦ
    refine E_aload_n (i := 0) dX12_goes_0 rfl rfl ?_
    refine E_iload_n (i := 1) dX12_goes_1 rfl rfl ?_
    refine E_iconst (v := 4) dX12_goes_2 (by decide) ?_
    refine k_X12_goes_3 (mc' := 0) (ms' := 0) (rc := 0) (rs := 0) (by omega) (Nat.le_of_ble_eq_true rfl) (by assumption) (c_X12_of (f := 4) hM hx rfl hr8 (by decide) ?_)
    refine E_aload_n (i := 0) dX12_goes_6 rfl rfl ?_
    refine E_iload_n (i := 1) dX12_goes_7 rfl rfl ?_
    refine k_X12_goes_8 (mc' := 0) (ms' := 0) (rc := 0) (rs := 0) (by omega) (Nat.le_of_ble_eq_true rfl) (by assumption) (c_X12_gainOf (by omega) hM hV.2.2.1 hx hr8 q1 q2 hp ?_)
    refine E_iadd dX12_goes_11 ?_
    refine E_aload_n (i := 0) dX12_goes_12 rfl rfl ?_
    refine E_iload_n (i := 1) dX12_goes_13 rfl rfl ?_
    refine k_X12_goes_14 (mc' := 0) (ms' := 0) (rc := 0) (rs := 0) (by omega) (Nat.le_of_ble_eq_true rfl) (by assumption) (c_X12_rubsOf (by omega) hM hx hr8 ?_)
    refine k_X12_goes_17 (mc' := 0) (ms' := 0) (rc := 0) (rs := 0) (by omega) (Nat.le_of_ble_eq_true rfl) (c_X12_nearer (by omega) ?_)
    refine E_sipush (v := -300) dX12_goes_20 (by decide) ?_
    refine E_sipush (v := 300) dX12_goes_23 (by decide) ?_
    refine k_X12_goes_26 (mc' := 0) (ms' := 0) (rc := 0) (rs := 0) (by omega) (Nat.le_of_ble_eq_true rfl) (c_X12_held (by omega) ?_)
    rw [ep ()]
    refine E_istore_nC (i := 2) dX12_goes_29 rfl (by decide) rfl ?_
    refine E_lv (lv' := [_, _, _, _]) rfl ?_
    refine E_aload_n (i := 0) dX12_goes_30 rfl rfl ?_
    refine E_iload_n (i := 1) dX12_goes_31 rfl rfl ?_
    refine E_iconst (v := 3) dX12_goes_32 (by decide) ?_
    refine k_X12_goes_33 (mc' := 0) (ms' := 0) (rc := 0) (rs := 0) (by omega) (Nat.le_of_ble_eq_true rfl) (by assumption) (c_X12_of (f := 3) hM hx rfl hr8 (by decide) ?_)
    refine E_iload_n (i := 2) dX12_goes_36 rfl rfl ?_
    refine E_iadd dX12_goes_37 ?_
    refine E_istore_nC (i := 3) dX12_goes_38 rfl (by decide) rfl ?_
    refine E_lv (lv' := [_, _, _, _]) rfl ?_
    refine E_iload_n (i := 3) dX12_goes_39 rfl rfl ?_
    refine E_bipush (v := 10) dX12_goes_40 (by decide) ?_
    refine E_aload_n (i := 0) dX12_goes_42 rfl rfl ?_
    refine E_gr dX12_goes_43 gf_X12_9_12 rfl (by assumption) (by assumption) ?_
    refine E_bipush (v := 7) dX12_goes_46 (by decide) ?_
    refine E_iaj 7 dX12_goes_48 (by assumption) rfl (by decide) (by rw [n3]; decide) ?_
    refine E_imul dX12_goes_49 ?_
    refine E_icmp_lt (tgt := 123) dX12_goes_50 (by decide) (fun c_50 => absurd c_50 (Int32.not_lt.mpr c1)) (fun c_50 => ?_)
    refine E_bipush (v := 10) dX12_goes_53 (by decide) ?_
    refine E_aload_n (i := 0) dX12_goes_55 rfl rfl ?_
    refine E_gr dX12_goes_56 gf_X12_9_12 rfl (by assumption) (by assumption) ?_
    refine E_bipush (v := 7) dX12_goes_59 (by decide) ?_
    refine E_iaj 7 dX12_goes_61 (by assumption) rfl (by decide) (by rw [n3]; decide) ?_
    refine E_imul dX12_goes_62 ?_
    refine E_istore_nC (i := 3) dX12_goes_63 rfl (by decide) rfl ?_
    refine E_lv (lv' := [_, _, _, _]) rfl ?_
    refine E_aload_n (i := 0) dX12_goes_64 rfl rfl ?_
    refine E_gr dX12_goes_65 gf_X12_9_12 rfl (by assumption) (by assumption) ?_
    refine E_bipush (v := 15) dX12_goes_68 (by decide) ?_
    refine E_iconst (v := 0) dX12_goes_70 (by decide) ?_
    refine E_aload_n (i := 0) dX12_goes_71 rfl rfl ?_
    refine E_gr dX12_goes_72 gf_X12_9_12 rfl (by assumption) (by assumption) ?_
    refine E_bipush (v := 15) dX12_goes_75 (by decide) ?_
    refine E_iaj 15 dX12_goes_77 (by assumption) rfl (by decide) (by rw [n3]; decide) ?_
    refine E_aload_n (i := 0) dX12_goes_78 rfl rfl ?_
    refine E_iconst (v := 0) dX12_goes_79 (by decide) ?_
    refine E_aload_n (i := 0) dX12_goes_80 rfl rfl ?_
    refine E_iload_n (i := 1) dX12_goes_81 rfl rfl ?_
    refine E_iconst (v := 1) dX12_goes_82 (by decide) ?_
    refine k_X12_goes_83 (mc' := 0) (ms' := 0) (rc := 0) (rs := 0) (by omega) (Nat.le_of_ble_eq_true rfl) (by assumption) (c_X12_of (f := 1) hM hx rfl hr8 (by decide) ?_)
    refine E_iload_n (i := 2) dX12_goes_86 rfl rfl ?_
    refine E_aload_n (i := 0) dX12_goes_87 rfl rfl ?_
    refine E_gr dX12_goes_88 gf_X12_9_12 rfl (by assumption) (by assumption) ?_
    refine E_bipush (v := 15) dX12_goes_91 (by decide) ?_
    refine E_iaj 15 dX12_goes_93 (by assumption) rfl (by decide) (by rw [n3]; decide) ?_
    refine E_iconst (v := 0) dX12_goes_94 (by decide) ?_
    refine k_X12_goes_95 (mc' := 0) (ms' := 0) (rc := 0) (rs := 0) (by omega) (Nat.le_of_ble_eq_true rfl) (by assumption) (c_X12_given (u := 0) (by omega) hM (by decide) rfl hT (fun J hJ => ?_))
    refine E_isub dX12_goes_98 ?_
    refine E_max dX12_goes_99 w_1235 w_112 w_74 w_113 (Nat.le_of_ble_eq_true rfl) (by omega) ?_
    refine E_isj 15 dX12_goes_102 (by assumption) rfl (by first | decide | omega) (by rw [n3]; decide) ?_
    refine E_aload_n (i := 0) dX12_goes_103 rfl rfl ?_
    refine E_iload_n (i := 1) dX12_goes_104 rfl rfl ?_
    refine E_iconst (v := 5) dX12_goes_105 (by decide) ?_
    refine E_iconst (v := 1) dX12_goes_106 (by decide) ?_
    refine k_X12_goes_107 (mc' := 0) (ms' := 0) (rc := 0) (rs := 0) (by omega) (Nat.le_of_ble_eq_true rfl) (by assumption) (c_X12_tells (f := 5) hM hx rfl hr8 (by decide) ?_)
    refine E_aload_n (i := 0) dX12_goes_110 rfl rfl ?_
    refine E_iload_n (i := 1) dX12_goes_111 rfl rfl ?_
    refine E_bipush (v := 6) dX12_goes_112 (by decide) ?_
    refine E_iload_n (i := 2) dX12_goes_114 rfl rfl ?_
    refine k_X12_goes_115 (mc' := 0) (ms' := 0) (rc := 0) (rs := 0) (by omega) (Nat.le_of_ble_eq_true rfl) (by assumption) (c_X12_tells (f := 6) hM hx rfl hr8 (by decide) ?_)
    refine E_iconst (v := 0) dX12_goes_118 (by decide) ?_
    refine E_istore_nC (i := 2) dX12_goes_119 rfl (by decide) rfl ?_
    refine E_lv (lv' := [_, _, _, _]) rfl ?_
    refine E_goto (tgt := 131) dX12_goes_120 (by decide) ?_
    refine E_aload_n (i := 0) dX12_goes_131 rfl rfl ?_
    refine E_iload_n (i := 1) dX12_goes_132 rfl rfl ?_
    refine E_iconst (v := 3) dX12_goes_133 (by decide) ?_
    refine E_iload_n (i := 3) dX12_goes_134 rfl rfl ?_
    refine k_X12_goes_135 (mc' := 0) (ms' := 0) (rc := 0) (rs := 0) (by omega) (Nat.le_of_ble_eq_true rfl) (by assumption) (c_X12_tells (f := 3) hM hx rfl hr8 (by decide) ?_)
    refine E_aload_n (i := 0) dX12_goes_138 rfl rfl ?_
    refine E_iload_n (i := 1) dX12_goes_139 rfl rfl ?_
    refine E_iconst (v := 4) dX12_goes_140 (by decide) ?_
    refine E_iload_n (i := 2) dX12_goes_141 rfl rfl ?_
    refine k_X12_goes_142 (mc' := 0) (ms' := 0) (rc := 0) (rs := 0) (by omega) (Nat.le_of_ble_eq_true rfl) (by assumption) (c_X12_tells (f := 4) hM hx rfl hr8 (by decide) ?_)
    refine E_vret dX12_goes_145 rfl ?_
    refine hΦ _ ?_ ?_
    · exact FM.u (FM.u (FM.u (FM.u (FM.u (fun a a1 a2 a3 => hJ a a2 a3)))))
    · rw [u2_row, u2_row, u2_row, u2_row, u2_row, hJ 110 (by decide) (by decide)]
      rfl
  · rw [if_neg c1] at hΦ
    by_cases c2 : I 110 (16 + 7 * r + 3) + p < 0
    · rw [if_pos c2] at hΦ
      refine E_aload_n (i := 0) dX12_goes_0 rfl rfl ?_
      refine E_iload_n (i := 1) dX12_goes_1 rfl rfl ?_
      refine E_iconst (v := 4) dX12_goes_2 (by decide) ?_
      refine k_X12_goes_3 (mc' := 0) (ms' := 0) (rc := 0) (rs := 0) (by omega) (Nat.le_of_ble_eq_true rfl) (by assumption) (c_X12_of (f := 4) hM hx rfl hr8 (by decide) ?_)
      refine E_aload_n (i := 0) dX12_goes_6 rfl rfl ?_
      refine E_iload_n (i := 1) dX12_goes_7 rfl rfl ?_
      refine k_X12_goes_8 (mc' := 0) (ms' := 0) (rc := 0) (rs := 0) (by omega) (Nat.le_of_ble_eq_true rfl) (by assumption) (c_X12_gainOf (by omega) hM hV.2.2.1 hx hr8 q1 q2 hp ?_)
      refine E_iadd dX12_goes_11 ?_
      refine E_aload_n (i := 0) dX12_goes_12 rfl rfl ?_
      refine E_iload_n (i := 1) dX12_goes_13 rfl rfl ?_
      refine k_X12_goes_14 (mc' := 0) (ms' := 0) (rc := 0) (rs := 0) (by omega) (Nat.le_of_ble_eq_true rfl) (by assumption) (c_X12_rubsOf (by omega) hM hx hr8 ?_)
      refine k_X12_goes_17 (mc' := 0) (ms' := 0) (rc := 0) (rs := 0) (by omega) (Nat.le_of_ble_eq_true rfl) (c_X12_nearer (by omega) ?_)
      refine E_sipush (v := -300) dX12_goes_20 (by decide) ?_
      refine E_sipush (v := 300) dX12_goes_23 (by decide) ?_
      refine k_X12_goes_26 (mc' := 0) (ms' := 0) (rc := 0) (rs := 0) (by omega) (Nat.le_of_ble_eq_true rfl) (c_X12_held (by omega) ?_)
      rw [ep ()]
      refine E_istore_nC (i := 2) dX12_goes_29 rfl (by decide) rfl ?_
      refine E_lv (lv' := [_, _, _, _]) rfl ?_
      refine E_aload_n (i := 0) dX12_goes_30 rfl rfl ?_
      refine E_iload_n (i := 1) dX12_goes_31 rfl rfl ?_
      refine E_iconst (v := 3) dX12_goes_32 (by decide) ?_
      refine k_X12_goes_33 (mc' := 0) (ms' := 0) (rc := 0) (rs := 0) (by omega) (Nat.le_of_ble_eq_true rfl) (by assumption) (c_X12_of (f := 3) hM hx rfl hr8 (by decide) ?_)
      refine E_iload_n (i := 2) dX12_goes_36 rfl rfl ?_
      refine E_iadd dX12_goes_37 ?_
      refine E_istore_nC (i := 3) dX12_goes_38 rfl (by decide) rfl ?_
      refine E_lv (lv' := [_, _, _, _]) rfl ?_
      refine E_iload_n (i := 3) dX12_goes_39 rfl rfl ?_
      refine E_bipush (v := 10) dX12_goes_40 (by decide) ?_
      refine E_aload_n (i := 0) dX12_goes_42 rfl rfl ?_
      refine E_gr dX12_goes_43 gf_X12_9_12 rfl (by assumption) (by assumption) ?_
      refine E_bipush (v := 7) dX12_goes_46 (by decide) ?_
      refine E_iaj 7 dX12_goes_48 (by assumption) rfl (by decide) (by rw [n3]; decide) ?_
      refine E_imul dX12_goes_49 ?_
      refine E_icmp_lt (tgt := 123) dX12_goes_50 (by decide) (fun c_50 => ?_) (fun c_50 => absurd (Int32.not_le.mp c1) c_50)
      refine E_iload_n (i := 3) dX12_goes_123 rfl rfl ?_
      refine E_if_ge (tgt := 131) dX12_goes_124 (by decide) (fun c_124 => absurd c_124 (Int32.not_le.mpr c2)) (fun c_124 => ?_)
      refine E_iconst (v := 0) dX12_goes_127 (by decide) ?_
      refine E_istore_nC (i := 3) dX12_goes_128 rfl (by decide) rfl ?_
      refine E_lv (lv' := [_, _, _, _]) rfl ?_
      refine E_iconst (v := 0) dX12_goes_129 (by decide) ?_
      refine E_istore_nC (i := 2) dX12_goes_130 rfl (by decide) rfl ?_
      refine E_lv (lv' := [_, _, _, _]) rfl ?_
      refine E_aload_n (i := 0) dX12_goes_131 rfl rfl ?_
      refine E_iload_n (i := 1) dX12_goes_132 rfl rfl ?_
      refine E_iconst (v := 3) dX12_goes_133 (by decide) ?_
      refine E_iload_n (i := 3) dX12_goes_134 rfl rfl ?_
      refine k_X12_goes_135 (mc' := 0) (ms' := 0) (rc := 0) (rs := 0) (by omega) (Nat.le_of_ble_eq_true rfl) (by assumption) (c_X12_tells (f := 3) hM hx rfl hr8 (by decide) ?_)
      refine E_aload_n (i := 0) dX12_goes_138 rfl rfl ?_
      refine E_iload_n (i := 1) dX12_goes_139 rfl rfl ?_
      refine E_iconst (v := 4) dX12_goes_140 (by decide) ?_
      refine E_iload_n (i := 2) dX12_goes_141 rfl rfl ?_
      refine k_X12_goes_142 (mc' := 0) (ms' := 0) (rc := 0) (rs := 0) (by omega) (Nat.le_of_ble_eq_true rfl) (by assumption) (c_X12_tells (f := 4) hM hx rfl hr8 (by decide) ?_)
      refine E_vret dX12_goes_145 rfl ?_
      refine hΦ _ (FM.u (FM.u (FM.refl _))) ?_
      rw [u2_row, u2_row]
    · rw [if_neg c2] at hΦ
      refine E_aload_n (i := 0) dX12_goes_0 rfl rfl ?_
      refine E_iload_n (i := 1) dX12_goes_1 rfl rfl ?_
      refine E_iconst (v := 4) dX12_goes_2 (by decide) ?_
      refine k_X12_goes_3 (mc' := 0) (ms' := 0) (rc := 0) (rs := 0) (by omega) (Nat.le_of_ble_eq_true rfl) (by assumption) (c_X12_of (f := 4) hM hx rfl hr8 (by decide) ?_)
      refine E_aload_n (i := 0) dX12_goes_6 rfl rfl ?_
      refine E_iload_n (i := 1) dX12_goes_7 rfl rfl ?_
      refine k_X12_goes_8 (mc' := 0) (ms' := 0) (rc := 0) (rs := 0) (by omega) (Nat.le_of_ble_eq_true rfl) (by assumption) (c_X12_gainOf (by omega) hM hV.2.2.1 hx hr8 q1 q2 hp ?_)
      refine E_iadd dX12_goes_11 ?_
      refine E_aload_n (i := 0) dX12_goes_12 rfl rfl ?_
      refine E_iload_n (i := 1) dX12_goes_13 rfl rfl ?_
      refine k_X12_goes_14 (mc' := 0) (ms' := 0) (rc := 0) (rs := 0) (by omega) (Nat.le_of_ble_eq_true rfl) (by assumption) (c_X12_rubsOf (by omega) hM hx hr8 ?_)
      refine k_X12_goes_17 (mc' := 0) (ms' := 0) (rc := 0) (rs := 0) (by omega) (Nat.le_of_ble_eq_true rfl) (c_X12_nearer (by omega) ?_)
      refine E_sipush (v := -300) dX12_goes_20 (by decide) ?_
      refine E_sipush (v := 300) dX12_goes_23 (by decide) ?_
      refine k_X12_goes_26 (mc' := 0) (ms' := 0) (rc := 0) (rs := 0) (by omega) (Nat.le_of_ble_eq_true rfl) (c_X12_held (by omega) ?_)
      rw [ep ()]
      refine E_istore_nC (i := 2) dX12_goes_29 rfl (by decide) rfl ?_
      refine E_lv (lv' := [_, _, _, _]) rfl ?_
      refine E_aload_n (i := 0) dX12_goes_30 rfl rfl ?_
      refine E_iload_n (i := 1) dX12_goes_31 rfl rfl ?_
      refine E_iconst (v := 3) dX12_goes_32 (by decide) ?_
      refine k_X12_goes_33 (mc' := 0) (ms' := 0) (rc := 0) (rs := 0) (by omega) (Nat.le_of_ble_eq_true rfl) (by assumption) (c_X12_of (f := 3) hM hx rfl hr8 (by decide) ?_)
      refine E_iload_n (i := 2) dX12_goes_36 rfl rfl ?_
      refine E_iadd dX12_goes_37 ?_
      refine E_istore_nC (i := 3) dX12_goes_38 rfl (by decide) rfl ?_
      refine E_lv (lv' := [_, _, _, _]) rfl ?_
      refine E_iload_n (i := 3) dX12_goes_39 rfl rfl ?_
      refine E_bipush (v := 10) dX12_goes_40 (by decide) ?_
      refine E_aload_n (i := 0) dX12_goes_42 rfl rfl ?_
      refine E_gr dX12_goes_43 gf_X12_9_12 rfl (by assumption) (by assumption) ?_
      refine E_bipush (v := 7) dX12_goes_46 (by decide) ?_
      refine E_iaj 7 dX12_goes_48 (by assumption) rfl (by decide) (by rw [n3]; decide) ?_
      refine E_imul dX12_goes_49 ?_
      refine E_icmp_lt (tgt := 123) dX12_goes_50 (by decide) (fun c_50 => ?_) (fun c_50 => absurd (Int32.not_le.mp c1) c_50)
      refine E_iload_n (i := 3) dX12_goes_123 rfl rfl ?_
      refine E_if_ge (tgt := 131) dX12_goes_124 (by decide) (fun c_124 => ?_) (fun c_124 => absurd (Int32.not_lt.mp c2) c_124)
      refine E_aload_n (i := 0) dX12_goes_131 rfl rfl ?_
      refine E_iload_n (i := 1) dX12_goes_132 rfl rfl ?_
      refine E_iconst (v := 3) dX12_goes_133 (by decide) ?_
      refine E_iload_n (i := 3) dX12_goes_134 rfl rfl ?_
      refine k_X12_goes_135 (mc' := 0) (ms' := 0) (rc := 0) (rs := 0) (by omega) (Nat.le_of_ble_eq_true rfl) (by assumption) (c_X12_tells (f := 3) hM hx rfl hr8 (by decide) ?_)
      refine E_aload_n (i := 0) dX12_goes_138 rfl rfl ?_
      refine E_iload_n (i := 1) dX12_goes_139 rfl rfl ?_
      refine E_iconst (v := 4) dX12_goes_140 (by decide) ?_
      refine E_iload_n (i := 2) dX12_goes_141 rfl rfl ?_
      refine k_X12_goes_142 (mc' := 0) (ms' := 0) (rc := 0) (rs := 0) (by omega) (Nat.le_of_ble_eq_true rfl) (by assumption) (c_X12_tells (f := 4) hM hx rfl hr8 (by decide) ?_)
      refine E_vret dX12_goes_145 rfl ?_
      refine hΦ _ (FM.u (FM.u (FM.refl _))) ?_
      rw [u2_row, u2_row]
theorem c_X12_tick (hd : 6 ≤ d) (hM : Mo g P) (hV : VM (I 110) k) (hT : TC 0 δ (I 110)) (hΦ : ∀ J, FM I J → J 110 = tkM δ k (I 110) → Φ none g P J) : MM Γ mX12_tick d 0 0 [.ref 109] g P I Φ := by
  refine MM_entry [some _, none] (by decide) (Nat.le_of_ble_eq_true rfl) rfl ?_
  have h0 := hM.1
  obtain ⟨n1, n2, n3⟩ := hM.now
  have hk8 := hV.2.1
  have loop : ∀ (N j : Nat) (x : Int32) (J : HI), k - j ≤ N → j ≤ k → x = nI j → FM I J → J 110 = tkr δ (I 110) j → E Γ mX12_tick d 0 0 (QM Γ 0 0 Φ) 0 0 2 [some (.ref 109), some (.int x)] [] g P J := by
    intro N
    induction N with
    | zero =>
      intro j x J hN hj hx hF hJ
      have hjk : j = k := by omega
      have e1 : J 110 1 = nI k := by rw [hJ]; exact (VM_tkr hV j hj).1
      refine E_iload_n (i := 1) dX12_tick_2 rfl rfl ?_
      refine E_aload_n (i := 0) dX12_tick_3 rfl rfl ?_
      refine E_gr dX12_tick_4 gf_X12_9_12 rfl (by assumption) (by assumption) ?_
      refine E_iconst (v := 1) dX12_tick_7 (by decide) ?_
      refine E_iaj 1 dX12_tick_8 (by assumption) rfl (by decide) (by rw [n3]; decide) ?_
      refine E_icmp_ge (tgt := 31) dX12_tick_9 (by decide) (fun c_9 => ?_) (fun c_9 => absurd (by rw [e1, hx, hjk]; exact Int32.le_refl _) c_9)
      refine E_aload_n (i := 0) dX12_tick_31 rfl rfl ?_
      refine E_gr dX12_tick_32 gf_X12_9_12 rfl (by assumption) (by assumption) ?_
      refine E_iconst (v := 0) dX12_tick_35 (by decide) ?_
      refine E_dup2 dX12_tick_36 rfl rfl ?_
      refine E_iaj 0 dX12_tick_37 (by assumption) rfl (by omega) (by rw [n3]; decide) ?_
      refine E_iconst (v := 1) dX12_tick_38 (by decide) ?_
      refine E_iadd dX12_tick_39 ?_
      refine E_isj 0 dX12_tick_40 (by assumption) rfl (by first | decide | omega) (by rw [n3]; decide) ?_
      refine E_vret dX12_tick_41 rfl ?_
      refine hΦ _ hF.u ?_
      rw [u2_row, hJ, hjk]
      rfl
    | succ N ih =>
      intro j x J hN hj hx hF hJ
      have e1 : J 110 1 = nI k := by rw [hJ]; exact (VM_tkr hV j hj).1
      by_cases hjk : j = k
      · refine E_iload_n (i := 1) dX12_tick_2 rfl rfl ?_
        refine E_aload_n (i := 0) dX12_tick_3 rfl rfl ?_
        refine E_gr dX12_tick_4 gf_X12_9_12 rfl (by assumption) (by assumption) ?_
        refine E_iconst (v := 1) dX12_tick_7 (by decide) ?_
        refine E_iaj 1 dX12_tick_8 (by assumption) rfl (by decide) (by rw [n3]; decide) ?_
        refine E_icmp_ge (tgt := 31) dX12_tick_9 (by decide) (fun c_9 => ?_) (fun c_9 => absurd (by rw [e1, hx, hjk]; exact Int32.le_refl _) c_9)
        refine E_aload_n (i := 0) dX12_tick_31 rfl rfl ?_
        refine E_gr dX12_tick_32 gf_X12_9_12 rfl (by assumption) (by assumption) ?_
        refine E_iconst (v := 0) dX12_tick_35 (by decide) ?_
        refine E_dup2 dX12_tick_36 rfl rfl ?_
        refine E_iaj 0 dX12_tick_37 (by assumption) rfl (by omega) (by rw [n3]; decide) ?_
        refine E_iconst (v := 1) dX12_tick_38 (by decide) ?_
        refine E_iadd dX12_tick_39 ?_
        refine E_isj 0 dX12_tick_40 (by assumption) rfl (by first | decide | omega) (by rw [n3]; decide) ?_
        refine E_vret dX12_tick_41 rfl ?_
        refine hΦ _ hF.u ?_
        rw [u2_row, hJ, hjk]
        rfl
      · have es : tkr δ (I 110) (j + 1) = st1 δ (tkr δ (I 110) j) j := rfl
        unfold st1 at es
        rw [← hJ] at es
        by_cases hi : J 110 (16 + 7 * j + 5) = 1
        · rw [if_pos hi] at es
          refine E_iload_n (i := 1) dX12_tick_2 rfl rfl ?_
          refine E_aload_n (i := 0) dX12_tick_3 rfl rfl ?_
          refine E_gr dX12_tick_4 gf_X12_9_12 rfl (by assumption) (by assumption) ?_
          refine E_iconst (v := 1) dX12_tick_7 (by decide) ?_
          refine E_iaj 1 dX12_tick_8 (by assumption) rfl (by decide) (by rw [n3]; decide) ?_
          refine E_icmp_ge (tgt := 31) dX12_tick_9 (by decide) (fun c_9 => absurd c_9 (by rw [e1, hx]; exact nI_ge (by omega) (by omega))) (fun c_9 => ?_)
          refine E_aload_n (i := 0) dX12_tick_12 rfl rfl ?_
          refine E_iload_n (i := 1) dX12_tick_13 rfl rfl ?_
          refine k_X12_tick_14 (mc' := 0) (ms' := 0) (rc := 0) (rs := 0) (by omega) (Nat.le_of_ble_eq_true rfl) (by assumption) (c_X12_isIn (by omega) hM hx (by omega) ?_)
          rw [bz_t hi]
          refine E_if_ne (tgt := 25) dX12_tick_17 (by decide) (fun c_17 => ?_) (fun c_17 => absurd c_17 (by decide))
          refine E_incC (c := 1) dX12_tick_25 rfl (by decide) (by decide) rfl ?_
          refine E_lv (lv' := [_, _]) rfl ?_
          refine E_goto (tgt := 2) dX12_tick_28 (by decide) ?_
          exact ih (j + 1) _ _ (by omega) (by omega) (by rw [hx, nI_1]) hF es.symm
        · rw [if_neg hi] at es
          refine E_iload_n (i := 1) dX12_tick_2 rfl rfl ?_
          refine E_aload_n (i := 0) dX12_tick_3 rfl rfl ?_
          refine E_gr dX12_tick_4 gf_X12_9_12 rfl (by assumption) (by assumption) ?_
          refine E_iconst (v := 1) dX12_tick_7 (by decide) ?_
          refine E_iaj 1 dX12_tick_8 (by assumption) rfl (by decide) (by rw [n3]; decide) ?_
          refine E_icmp_ge (tgt := 31) dX12_tick_9 (by decide) (fun c_9 => absurd c_9 (by rw [e1, hx]; exact nI_ge (by omega) (by omega))) (fun c_9 => ?_)
          refine E_aload_n (i := 0) dX12_tick_12 rfl rfl ?_
          refine E_iload_n (i := 1) dX12_tick_13 rfl rfl ?_
          refine k_X12_tick_14 (mc' := 0) (ms' := 0) (rc := 0) (rs := 0) (by omega) (Nat.le_of_ble_eq_true rfl) (by assumption) (c_X12_isIn (by omega) hM hx (by omega) ?_)
          rw [bz_f hi]
          refine E_if_ne (tgt := 25) dX12_tick_17 (by decide) (fun c_17 => absurd (rfl) c_17) (fun c_17 => ?_)
          refine E_aload_n (i := 0) dX12_tick_20 rfl rfl ?_
          refine E_iload_n (i := 1) dX12_tick_21 rfl rfl ?_
          refine k_X12_tick_22 (mc' := 0) (ms' := 0) (rc := 0) (rs := 0) (by omega) (Nat.le_of_ble_eq_true rfl) (by assumption) (c_X12_goes (δ := δ) (k := k) (by omega) hM (by rw [hJ]; exact VM_tkr hV j hj) (by rw [hJ]; exact TC_tkr hk8 hT j hj) hx (by omega) (fun K f1 f2 => ?_))
          refine E_incC (c := 1) dX12_tick_25 rfl (by decide) (by decide) rfl ?_
          refine E_lv (lv' := [_, _]) rfl ?_
          refine E_goto (tgt := 2) dX12_tick_28 (by decide) ?_
          exact ih (j + 1) _ _ (by omega) (by omega) (by rw [hx, nI_1]) (hF.trans f1) (by rw [f2, es])
  refine E_iconst (v := 0) dX12_tick_0 (by decide) ?_
  refine E_istore_nC (i := 1) dX12_tick_1 rfl (by decide) rfl ?_
  refine E_lv (lv' := [_, _]) rfl ?_
  exact loop k 0 _ _ (by omega) (by omega) rfl (FM.refl _) rfl
theorem c_X12_ticksGo {n : Nat} {x : Int32} (hd : 7 ≤ d) (hM : Mo g P) (hV : VM (I 110) k) (hT : TC 0 δ (I 110)) (hx : x = nI n) (hn : n ≤ 200) (hΦ : ∀ J, FM I J → J 110 = tks δ k (I 110) n → Φ none g P J) : MM Γ mX12_ticksGo d 0 0 [.ref 109, .int x] g P I Φ := by
  refine MM_entry [some _, some _, none] (by decide) (Nat.le_of_ble_eq_true rfl) rfl ?_
  have h0 := hM.1
  have hk8 := hV.2.1
  have loop : ∀ (N j : Nat) (y : Int32) (J : HI), n - j ≤ N → j ≤ n → y = nI j → FM I J → J 110 = tks δ k (I 110) j → E Γ mX12_ticksGo d 0 0 (QM Γ 0 0 Φ) 0 0 2 [some (.ref 109), some (.int x), some (.int y)] [] g P J := by
    intro N
    induction N with
    | zero =>
      intro j y J hN hj hy hF hJ
      have hjn : j = n := by omega
      refine E_iload_n (i := 2) dX12_ticksGo_2 rfl rfl ?_
      refine E_iload_n (i := 1) dX12_ticksGo_3 rfl rfl ?_
      refine E_icmp_ge (tgt := 17) dX12_ticksGo_4 (by decide) (fun c_4 => ?_) (fun c_4 => absurd (by rw [hx, hy, hjn]; exact Int32.le_refl _) c_4)
      refine E_vret dX12_ticksGo_17 rfl ?_
      exact hΦ J hF (by rw [hJ, hjn])
    | succ N ih =>
      intro j y J hN hj hy hF hJ
      by_cases hjn : j = n
      · refine E_iload_n (i := 2) dX12_ticksGo_2 rfl rfl ?_
        refine E_iload_n (i := 1) dX12_ticksGo_3 rfl rfl ?_
        refine E_icmp_ge (tgt := 17) dX12_ticksGo_4 (by decide) (fun c_4 => ?_) (fun c_4 => absurd (by rw [hx, hy, hjn]; exact Int32.le_refl _) c_4)
        refine E_vret dX12_ticksGo_17 rfl ?_
        exact hΦ J hF (by rw [hJ, hjn])
      · refine E_iload_n (i := 2) dX12_ticksGo_2 rfl rfl ?_
        refine E_iload_n (i := 1) dX12_ticksGo_3 rfl rfl ?_
        refine E_icmp_ge (tgt := 17) dX12_ticksGo_4 (by decide) (fun c_4 => absurd c_4 (by rw [hx, hy]; exact nI_ge (by omega) (by omega))) (fun c_4 => ?_)
        refine E_aload_n (i := 0) dX12_ticksGo_7 rfl rfl ?_
        refine k_X12_ticksGo_8 (mc' := 0) (ms' := 0) (rc := 0) (rs := 0) (by omega) (Nat.le_of_ble_eq_true rfl) (by assumption) (c_X12_tick (δ := δ) (k := k) (by omega) hM (by rw [hJ]; exact VM_tks hV j) (by rw [hJ]; exact TC_tks hk8 (by decide) hT j) (fun K f1 f2 => ?_))
        refine E_incC (c := 1) dX12_ticksGo_11 rfl (by decide) (by decide) rfl ?_
        refine E_lv (lv' := [_, _, _]) rfl ?_
        refine E_goto (tgt := 2) dX12_ticksGo_14 (by decide) ?_
        exact ih (j + 1) _ _ (by omega) (by omega) (by rw [hy, nI_1]) (hF.trans f1) (by rw [f2, hJ]; rfl)
  refine E_iconst (v := 0) dX12_ticksGo_0 (by decide) ?_
  refine E_istore_nC (i := 2) dX12_ticksGo_1 rfl (by decide) rfl ?_
  refine E_lv (lv' := [_, _, _]) rfl ?_
  exact loop n 0 _ _ (by omega) (by omega) rfl (FM.refl _) rfl
/-- whether so many ticks may be -/
abbrev okTk (x : Int32) : Prop := 1 ≤ x ∧ x ≤ 200
theorem okTk_n {x : Int32} (h : okTk x) : ∃ n, x = nI n ∧ 1 ≤ n ∧ n ≤ 200 := by
  obtain ⟨n, h1, h2⟩ := in_04 (n := 200) (by omega) ⟨Int32.le_trans (by decide) h.1, h.2⟩
  refine ⟨n, h1, ?_, h2⟩
  have := i32_le.mp h.1
  rw [h1, nI_toInt (by omega)] at this
  have e : (1 : Int32).toInt = 1 := rfl
  omega
theorem c_X12_whyNot {x : Int32} (hd : 1 ≤ d) (hM : Mo g P) (h1 : ¬ okTk x → Φ (some (.int (er 1))) g P I) (h2 : okTk x → 99999 < I 110 0 + x → Φ (some (.int (er 3))) g P I) (h3 : okTk x → ¬ 99999 < I 110 0 + x → Φ (some (.int 0)) g P I) : MM Γ mX12_whyNot d 0 0 [.ref 109, .int x] g P I Φ := by
  refine MM_entry [some _, some _] (by decide) (Nat.le_of_ble_eq_true rfl) rfl ?_
  have h0 := hM.1
  obtain ⟨n1, n2, n3⟩ := hM.now
  by_cases hc : okTk x
  · by_cases hl : 99999 < I 110 0 + x
    · have hΦ := h2 hc hl
      rw [er3] at hΦ
      refine E_iload_n (i := 1) dX12_whyNot_0 rfl rfl ?_
      refine E_iconst (v := 1) dX12_whyNot_1 (by decide) ?_
      refine E_sipush (v := 200) dX12_whyNot_2 (by decide) ?_
      refine k_X12_whyNot_5 (mc' := 0) (ms' := 0) (rc := 0) (rs := 0) (by omega) (Nat.le_of_ble_eq_true rfl) (c_X12_within ?_)
      rw [bz_t hc]
      refine E_if_ne (tgt := 16) dX12_whyNot_8 (by decide) (fun c_8 => ?_) (fun c_8 => absurd c_8 (by decide))
      refine E_aload_n (i := 0) dX12_whyNot_16 rfl rfl ?_
      refine E_gr dX12_whyNot_17 gf_X12_9_12 rfl (by assumption) (by assumption) ?_
      refine E_iconst (v := 0) dX12_whyNot_20 (by decide) ?_
      refine E_iaj 0 dX12_whyNot_21 (by assumption) rfl (by decide) (by rw [n3]; decide) ?_
      refine E_iload_n (i := 1) dX12_whyNot_22 rfl rfl ?_
      refine E_iadd dX12_whyNot_23 ?_
      refine E_ldc (v := 99999) dX12_whyNot_24 w_1114 ?_
      refine E_icmp_le (tgt := 34) dX12_whyNot_26 (by decide) (fun c_26 => absurd c_26 (Int32.not_le.mpr hl)) (fun c_26 => ?_)
      refine E_ldc (v := -1000000003) dX12_whyNot_29 w_1294 ?_
      refine E_goto (tgt := 35) dX12_whyNot_31 (by decide) ?_
      refine E_iret dX12_whyNot_35 rfl ?_
      exact hΦ
    · have hΦ := h3 hc hl
      refine E_iload_n (i := 1) dX12_whyNot_0 rfl rfl ?_
      refine E_iconst (v := 1) dX12_whyNot_1 (by decide) ?_
      refine E_sipush (v := 200) dX12_whyNot_2 (by decide) ?_
      refine k_X12_whyNot_5 (mc' := 0) (ms' := 0) (rc := 0) (rs := 0) (by omega) (Nat.le_of_ble_eq_true rfl) (c_X12_within ?_)
      rw [bz_t hc]
      refine E_if_ne (tgt := 16) dX12_whyNot_8 (by decide) (fun c_8 => ?_) (fun c_8 => absurd c_8 (by decide))
      refine E_aload_n (i := 0) dX12_whyNot_16 rfl rfl ?_
      refine E_gr dX12_whyNot_17 gf_X12_9_12 rfl (by assumption) (by assumption) ?_
      refine E_iconst (v := 0) dX12_whyNot_20 (by decide) ?_
      refine E_iaj 0 dX12_whyNot_21 (by assumption) rfl (by decide) (by rw [n3]; decide) ?_
      refine E_iload_n (i := 1) dX12_whyNot_22 rfl rfl ?_
      refine E_iadd dX12_whyNot_23 ?_
      refine E_ldc (v := 99999) dX12_whyNot_24 w_1114 ?_
      refine E_icmp_le (tgt := 34) dX12_whyNot_26 (by decide) (fun c_26 => ?_) (fun c_26 => absurd (Int32.not_lt.mp hl) c_26)
      refine E_iconst (v := 0) dX12_whyNot_34 (by decide) ?_
      refine E_iret dX12_whyNot_35 rfl ?_
      exact hΦ
  · have hΦ := h1 hc
    rw [er1] at hΦ
    refine E_iload_n (i := 1) dX12_whyNot_0 rfl rfl ?_
    refine E_iconst (v := 1) dX12_whyNot_1 (by decide) ?_
    refine E_sipush (v := 200) dX12_whyNot_2 (by decide) ?_
    refine k_X12_whyNot_5 (mc' := 0) (ms' := 0) (rc := 0) (rs := 0) (by omega) (Nat.le_of_ble_eq_true rfl) (c_X12_within ?_)
    rw [bz_f hc]
    refine E_if_ne (tgt := 16) dX12_whyNot_8 (by decide) (fun c_8 => absurd (rfl) c_8) (fun c_8 => ?_)
    refine E_ldc (v := -1000000001) dX12_whyNot_11 w_1208 ?_
    refine E_goto (tgt := 35) dX12_whyNot_13 (by decide) ?_
    refine E_iret dX12_whyNot_35 rfl ?_
    exact hΦ
theorem er_ne {j : Nat} (h : 1 ≤ j) (h2 : j ≤ 5) : ¬ er j = 0 := by
  match j, h, h2 with
  | 1, _, _ => decide
  | 2, _, _ => decide
  | 3, _, _ => decide
  | 4, _, _ => decide
  | 5, _, _ => decide
theorem c_findk {j : Nat} (hM : Mo g P) (h : 1 ≤ j) (h2 : j ≤ 5) (hΦ : Φ (some (.int (er j))) g P (flM I j)) : MM Γ mX12_finding d 0 0 [.ref 109, .int (er j)] g P I Φ := c_X12_finding hM (er_is h h2) hΦ
theorem c_X12_ticks {x : Int32} (hd : 8 ≤ d) (hM : Mo g P) (hV : VM (I 110) k) (hT : TC 0 δ (I 110)) (h1 : ∀ n, x = nI n → 1 ≤ n → n ≤ 200 → ¬ 99999 < I 110 0 + x → ∀ J, FM I J → J 110 = tks δ k (I 110) n → Φ (some (.int (I 110 0 + x))) g P J) (h2 : ¬ okTk x → Φ (some (.int (er 1))) g P (flM I 1)) (h3 : okTk x → 99999 < I 110 0 + x → Φ (some (.int (er 3))) g P (flM I 3)) : MM Γ mX12_ticks d 0 0 [.ref 109, .int x] g P I Φ := by
  refine MM_entry [some _, some _, none] (by decide) (Nat.le_of_ble_eq_true rfl) rfl ?_
  have h0 := hM.1
  obtain ⟨n1, n2, n3⟩ := hM.now
  by_cases hc : okTk x
  · by_cases hl : 99999 < I 110 0 + x
    · have hΦ := h3 hc hl
      refine E_aload_n (i := 0) dX12_ticks_0 rfl rfl ?_
      refine E_iload_n (i := 1) dX12_ticks_1 rfl rfl ?_
      refine k_X12_ticks_2 (mc' := 0) (ms' := 0) (rc := 0) (rs := 0) (by omega) (Nat.le_of_ble_eq_true rfl) (by assumption) (c_X12_whyNot (by omega) hM (fun q => absurd hc q) (fun _ _ => ?_) (fun _ q => absurd hl q))
      refine E_istore_nC (i := 2) dX12_ticks_5 rfl (by decide) rfl ?_
      refine E_lv (lv' := [_, _, _]) rfl ?_
      refine E_iload_n (i := 2) dX12_ticks_6 rfl rfl ?_
      refine E_if_eq (tgt := 16) dX12_ticks_7 (by decide) (fun c_7 => absurd c_7 (er_ne (by decide) (by decide))) (fun c_7 => ?_)
      refine E_aload_n (i := 0) dX12_ticks_10 rfl rfl ?_
      refine E_iload_n (i := 2) dX12_ticks_11 rfl rfl ?_
      refine k_X12_ticks_12 (mc' := 0) (ms' := 0) (rc := 0) (rs := 0) (by omega) (Nat.le_of_ble_eq_true rfl) (by assumption) (c_findk hM (by decide) (by decide) ?_)
      refine E_iret dX12_ticks_15 rfl ?_
      exact hΦ
    · obtain ⟨n, hn, hn1, hn2⟩ := okTk_n hc
      refine E_aload_n (i := 0) dX12_ticks_0 rfl rfl ?_
      refine E_iload_n (i := 1) dX12_ticks_1 rfl rfl ?_
      refine k_X12_ticks_2 (mc' := 0) (ms' := 0) (rc := 0) (rs := 0) (by omega) (Nat.le_of_ble_eq_true rfl) (by assumption) (c_X12_whyNot (by omega) hM (fun q => absurd hc q) (fun _ q => absurd q hl) (fun _ _ => ?_))
      refine E_istore_nC (i := 2) dX12_ticks_5 rfl (by decide) rfl ?_
      refine E_lv (lv' := [_, _, _]) rfl ?_
      refine E_iload_n (i := 2) dX12_ticks_6 rfl rfl ?_
      refine E_if_eq (tgt := 16) dX12_ticks_7 (by decide) (fun c_7 => ?_) (fun c_7 => absurd (rfl) c_7)
      refine E_aload_n (i := 0) dX12_ticks_16 rfl rfl ?_
      refine E_iload_n (i := 1) dX12_ticks_17 rfl rfl ?_
      refine k_X12_ticks_18 (mc' := 0) (ms' := 0) (rc := 0) (rs := 0) (by omega) (Nat.le_of_ble_eq_true rfl) (by assumption) (c_X12_ticksGo (δ := δ) (k := k) (by omega) hM hV hT hn hn2 (fun J f1 f2 => ?_))
      refine E_aload_n (i := 0) dX12_ticks_21 rfl rfl ?_
      refine E_gr dX12_ticks_22 gf_X12_9_12 rfl (by assumption) (by assumption) ?_
      refine E_iconst (v := 0) dX12_ticks_25 (by decide) ?_
      refine E_iaj 0 dX12_ticks_26 (by assumption) rfl (by decide) (by rw [n3]; decide) ?_
      rw [f2, tks_0, ← hn]
      refine E_iret dX12_ticks_27 rfl ?_
      exact h1 n hn hn1 hn2 hl J f1 f2
  · have hΦ := h2 hc
    refine E_aload_n (i := 0) dX12_ticks_0 rfl rfl ?_
    refine E_iload_n (i := 1) dX12_ticks_1 rfl rfl ?_
    refine k_X12_ticks_2 (mc' := 0) (ms' := 0) (rc := 0) (rs := 0) (by omega) (Nat.le_of_ble_eq_true rfl) (by assumption) (c_X12_whyNot (by omega) hM (fun _ => ?_) (fun q _ => absurd q hc) (fun q _ => absurd q hc))
    refine E_istore_nC (i := 2) dX12_ticks_5 rfl (by decide) rfl ?_
    refine E_lv (lv' := [_, _, _]) rfl ?_
    refine E_iload_n (i := 2) dX12_ticks_6 rfl rfl ?_
    refine E_if_eq (tgt := 16) dX12_ticks_7 (by decide) (fun c_7 => absurd c_7 (er_ne (by decide) (by decide))) (fun c_7 => ?_)
    refine E_aload_n (i := 0) dX12_ticks_10 rfl rfl ?_
    refine E_iload_n (i := 2) dX12_ticks_11 rfl rfl ?_
    refine k_X12_ticks_12 (mc' := 0) (ms' := 0) (rc := 0) (rs := 0) (by omega) (Nat.le_of_ble_eq_true rfl) (by assumption) (c_findk hM (by decide) (by decide) ?_)
    refine E_iret dX12_ticks_15 rfl ?_
    exact hΦ
theorem c_X12_drawn {y : Int32} (hM : Mo g P) (hy : ¬ y = 0) (hΦ : Φ (some (.int (dv (dz (I 110 6)) - dv (dz (I 110 6)) / y * y))) g P (u2 I 110 6 (dz (I 110 6)))) : MM Γ mX12_drawn d 0 0 [.ref 109, .int y] g P I Φ := by
  refine MM_entry [some _, some _] (by decide) (Nat.le_of_ble_eq_true rfl) rfl ?_
  have h0 := hM.1
  obtain ⟨n1, n2, n3⟩ := hM.now
  unfold dv dz at hΦ
  refine E_aload_n (i := 0) dX12_drawn_0 rfl rfl ?_
  refine E_gr dX12_drawn_1 gf_X12_9_12 rfl (by assumption) (by assumption) ?_
  refine E_bipush (v := 6) dX12_drawn_4 (by decide) ?_
  refine E_aload_n (i := 0) dX12_drawn_6 rfl rfl ?_
  refine E_gr dX12_drawn_7 gf_X12_9_12 rfl (by assumption) (by assumption) ?_
  refine E_bipush (v := 6) dX12_drawn_10 (by decide) ?_
  refine E_iaj 6 dX12_drawn_12 (by assumption) rfl (by decide) (by rw [n3]; decide) ?_
  refine E_ldc (v := 1103515245) dX12_drawn_13 w_1422 ?_
  refine E_imul dX12_drawn_15 ?_
  refine E_sipush (v := 12345) dX12_drawn_16 (by decide) ?_
  refine E_iadd dX12_drawn_19 ?_
  refine E_isj 6 dX12_drawn_20 (by assumption) rfl (by first | decide | omega) (by rw [n3]; decide) ?_
  refine E_aload_n (i := 0) dX12_drawn_21 rfl rfl ?_
  refine E_gr dX12_drawn_22 gf_X12_9_12 rfl (by assumption) (by assumption) ?_
  refine E_bipush (v := 6) dX12_drawn_25 (by decide) ?_
  refine E_iaj 6 dX12_drawn_27 (by assumption) rfl (by decide) (by rw [n3]; decide) ?_
  rw [u2_s]
  refine E_bipush (v := 8) dX12_drawn_28 (by decide) ?_
  refine E_iushr dX12_drawn_30 ?_
  refine E_iload_n (i := 1) dX12_drawn_31 rfl rfl ?_
  refine E_irem dX12_drawn_32 hy ?_
  refine E_iret dX12_drawn_33 rfl ?_
  exact hΦ
/-- WIND by a draw -/
def wnd (z : Int32) : Int32 := dv z - dv z / 41 * 41 - 20
theorem wnd_b (z : Int32) : -20 ≤ (wnd z).toInt ∧ (wnd z).toInt ≤ 20 := by
  have h8 : (dv z).toBitVec.toNat = z.toBitVec.toNat / 2 ^ 8 := pk_ushr z 8 8 (by decide)
  have hz : z.toBitVec.toNat < 2 ^ 32 := z.toBitVec.isLt
  have e : dv z = nI (z.toBitVec.toNat / 2 ^ 8) := by
    apply Int32.toBitVec_inj.mp
    apply BitVec.eq_of_toNat_eq
    rw [h8, pk_tn (by omega)]
  have hlt : z.toBitVec.toNat / 2 ^ 8 < 2 ^ 31 := by omega
  unfold wnd
  rw [e, show nI (z.toBitVec.toNat / 2 ^ 8) - nI (z.toBitVec.toNat / 2 ^ 8) / 41 * 41 = nI (z.toBitVec.toNat / 2 ^ 8 % 41) from pk_rem (d := 41) hlt (by decide) (by decide)]
  have h41 : z.toBitVec.toNat / 2 ^ 8 % 41 < 41 := Nat.mod_lt _ (by decide)
  have := pk_sub_toInt (a := z.toBitVec.toNat / 2 ^ 8 % 41) (b := 20) (by omega) (by decide)
  rw [show (20 : Int32) = nI 20 from rfl, this]
  omega
/-- the row ahead of a gusty tick -/
def gu1 (M : Nat → Int32) : Nat → Int32 := ur (ur M 6 (dz (M 6))) 14 (wnd (dz (M 6)))
def gus (δ : List Int32) (k : Nat) (M : Nat → Int32) : Nat → Nat → Int32
  | 0 => M
  | n + 1 => tkM δ k (gu1 (gus δ k M n))
theorem gu1_o {M : Nat → Int32} {y : Nat} (h : y ≠ 6) (h2 : y ≠ 14) : gu1 M y = M y := by
  unfold gu1
  rw [ur_n _ _ h2, ur_n _ _ h]
theorem VM_gu {M : Nat → Int32} (h : VM M k) : VM (gu1 M) k := by
  refine ⟨by rw [gu1_o (by decide) (by decide)]; exact h.1, h.2.1, fun j hj => ?_, fun r hr => ?_⟩
  · have := h.2.2.1 j hj
    show lst j ≤ gu1 M (7 + j) ∧ gu1 M (7 + j) ≤ grt j
    by_cases e : j = 7
    · subst e
      have e14 : gu1 M (7 + 7) = wnd (dz (M 6)) := ur_s _ _ _
      rw [e14]
      have := wnd_b (dz (M 6))
      exact ⟨i32_le.mpr this.1, i32_le.mpr this.2⟩
    · rw [gu1_o (by omega) (by omega)]
      exact this
  · have := h.2.2.2 r hr
    unfold VR at this ⊢
    rw [gu1_o (y := 16 + 7 * r + 0) (by omega) (by omega), gu1_o (y := 16 + 7 * r + 1) (by omega) (by omega), gu1_o (y := 16 + 7 * r + 2) (by omega) (by omega), gu1_o (y := 16 + 7 * r + 3) (by omega) (by omega), gu1_o (y := 16 + 7 * r + 4) (by omega) (by omega), gu1_o (y := 16 + 7 * r + 5) (by omega) (by omega), gu1_o (y := 7) (by decide) (by decide)]
    exact this
theorem VM_gus {M : Nat → Int32} (h : VM M k) : ∀ n, VM (gus δ k M n) k
  | 0 => h
  | n + 1 => VM_tk (VM_gu (VM_gus h n))
theorem TC_ge {u : Nat} {ε : List Int32} {M M' : Nat → Int32} (he : ∀ y, 168 ≤ y → M' y = M y) (h : TC u ε M) : TC u ε M' := by
  refine ⟨h.1, ?_⟩
  rcases h.2 with ⟨a, b⟩ | ⟨a, b, c⟩
  · exact Or.inl ⟨by rw [he _ (by omega)]; exact a, b⟩
  · exact Or.inr ⟨a, by rw [he _ (by omega)]; exact b, fun i hi => by rw [he _ (by omega)]; exact c i hi⟩
theorem gus_o {M : Nat → Int32} {y : Nat} (h0 : y ≠ 0) (h6 : y ≠ 6) (h14 : y ≠ 14) (h : y ≠ 15) (hy : y < 16 ∨ 16 + 7 * k ≤ y) : ∀ n, gus δ k M n y = M y
  | 0 => rfl
  | n + 1 => by
    show ur (tkr δ (gu1 (gus δ k M n)) k) 0 (tkr δ (gu1 (gus δ k M n)) k 0 + 1) y = M y
    rw [ur_n _ _ h0, tkr_o h hy k (Nat.le_refl _), gu1_o h6 h14, gus_o h0 h6 h14 h hy n]
theorem TC_gus {M : Nat → Int32} {u : Nat} {ε : List Int32} (hk : k ≤ 8) (h : TC u ε M) (n : Nat) : TC u ε (gus δ k M n) := TC_ge (fun y hy => gus_o (by omega) (by omega) (by omega) (by omega) (by omega) n) h
theorem TC_gu1 {M : Nat → Int32} {u : Nat} {ε : List Int32} (h : TC u ε M) : TC u ε (gu1 M) := TC_ge (fun y hy => gu1_o (by omega) (by omega)) h
theorem c_X12_gusts {x : Int32} (hd : 8 ≤ d) (hM : Mo g P) (hV : VM (I 110) k) (hT : TC 0 δ (I 110)) (h1 : ∀ n, x = nI n → 1 ≤ n → n ≤ 200 → ¬ 99999 < I 110 0 + x → ∀ J, FM I J → J 110 = gus δ k (I 110) n → Φ (some (.int (gus δ k (I 110) n 14))) g P J) (h2 : ¬ okTk x → Φ (some (.int (er 1))) g P (flM I 1)) (h3 : okTk x → 99999 < I 110 0 + x → Φ (some (.int (er 3))) g P (flM I 3)) : MM Γ mX12_gusts d 0 0 [.ref 109, .int x] g P I Φ := by
  refine MM_entry [some _, some _, none, none] (by decide) (Nat.le_of_ble_eq_true rfl) rfl ?_
  have h0 := hM.1
  obtain ⟨n1, n2, n3⟩ := hM.now
  have hk8 := hV.2.1
  by_cases hc : okTk x
  · by_cases hl : 99999 < I 110 0 + x
    · have hΦ := h3 hc hl
      refine E_aload_n (i := 0) dX12_gusts_0 rfl rfl ?_
      refine E_iload_n (i := 1) dX12_gusts_1 rfl rfl ?_
      refine k_X12_gusts_2 (mc' := 0) (ms' := 0) (rc := 0) (rs := 0) (by omega) (Nat.le_of_ble_eq_true rfl) (by assumption) (c_X12_whyNot (by omega) hM (fun q => absurd hc q) (fun _ _ => ?_) (fun _ q => absurd hl q))
      refine E_istore_nC (i := 2) dX12_gusts_5 rfl (by decide) rfl ?_
      refine E_lv (lv' := [_, _, _, _]) rfl ?_
      refine E_iload_n (i := 2) dX12_gusts_6 rfl rfl ?_
      refine E_if_eq (tgt := 16) dX12_gusts_7 (by decide) (fun c_7 => absurd c_7 (er_ne (by decide) (by decide))) (fun c_7 => ?_)
      refine E_aload_n (i := 0) dX12_gusts_10 rfl rfl ?_
      refine E_iload_n (i := 2) dX12_gusts_11 rfl rfl ?_
      refine k_X12_gusts_12 (mc' := 0) (ms' := 0) (rc := 0) (rs := 0) (by omega) (Nat.le_of_ble_eq_true rfl) (by assumption) (c_findk hM (by decide) (by decide) ?_)
      refine E_iret dX12_gusts_15 rfl ?_
      exact hΦ
    · obtain ⟨n, hn, hn1, hn2⟩ := okTk_n hc
      have hh1 := h1 n hn hn1 hn2 hl
      have loop : ∀ (N j : Nat) (y : Int32) (J : HI), n - j ≤ N → j ≤ n → y = nI j → FM I J → J 110 = gus δ k (I 110) j → E Γ mX12_gusts d 0 0 (QM Γ 0 0 Φ) 0 0 18 [some (.ref 109), some (.int x), some (.int 0), some (.int y)] [] g P J := by
        intro N
        induction N with
        | zero =>
          intro j y J hN hj hy hF hJ
          have hjn : j = n := by omega
          refine E_iload_n (i := 3) dX12_gusts_18 rfl rfl ?_
          refine E_iload_n (i := 1) dX12_gusts_19 rfl rfl ?_
          refine E_icmp_ge (tgt := 49) dX12_gusts_20 (by decide) (fun c_20 => ?_) (fun c_20 => absurd (by rw [hn, hy, hjn]; exact Int32.le_refl _) c_20)
          refine E_aload_n (i := 0) dX12_gusts_49 rfl rfl ?_
          refine E_gr dX12_gusts_50 gf_X12_9_12 rfl (by assumption) (by assumption) ?_
          refine E_bipush (v := 14) dX12_gusts_53 (by decide) ?_
          refine E_iaj 14 dX12_gusts_55 (by assumption) rfl (by decide) (by rw [n3]; decide) ?_
          rw [hJ, hjn]
          refine E_iret dX12_gusts_56 rfl ?_
          exact hh1 J hF (by rw [hJ, hjn])
        | succ N ih =>
          intro j y J hN hj hy hF hJ
          by_cases hjn : j = n
          · refine E_iload_n (i := 3) dX12_gusts_18 rfl rfl ?_
            refine E_iload_n (i := 1) dX12_gusts_19 rfl rfl ?_
            refine E_icmp_ge (tgt := 49) dX12_gusts_20 (by decide) (fun c_20 => ?_) (fun c_20 => absurd (by rw [hn, hy, hjn]; exact Int32.le_refl _) c_20)
            refine E_aload_n (i := 0) dX12_gusts_49 rfl rfl ?_
            refine E_gr dX12_gusts_50 gf_X12_9_12 rfl (by assumption) (by assumption) ?_
            refine E_bipush (v := 14) dX12_gusts_53 (by decide) ?_
            refine E_iaj 14 dX12_gusts_55 (by assumption) rfl (by decide) (by rw [n3]; decide) ?_
            rw [hJ, hjn]
            refine E_iret dX12_gusts_56 rfl ?_
            exact hh1 J hF (by rw [hJ, hjn])
          · have hrow : (u2 (u2 J 110 6 (dz (J 110 6))) 110 14 (wnd (dz (J 110 6)))) 110 = gu1 (gus δ k (I 110) j) := by
              rw [u2_row, u2_row, hJ]
              rfl
            refine E_iload_n (i := 3) dX12_gusts_18 rfl rfl ?_
            refine E_iload_n (i := 1) dX12_gusts_19 rfl rfl ?_
            refine E_icmp_ge (tgt := 49) dX12_gusts_20 (by decide) (fun c_20 => absurd c_20 (by rw [hn, hy]; exact nI_ge (by omega) (by omega))) (fun c_20 => ?_)
            refine E_aload_n (i := 0) dX12_gusts_23 rfl rfl ?_
            refine E_gr dX12_gusts_24 gf_X12_9_12 rfl (by assumption) (by assumption) ?_
            refine E_bipush (v := 14) dX12_gusts_27 (by decide) ?_
            refine E_aload_n (i := 0) dX12_gusts_29 rfl rfl ?_
            refine E_bipush (v := 41) dX12_gusts_30 (by decide) ?_
            refine k_X12_gusts_32 (mc' := 0) (ms' := 0) (rc := 0) (rs := 0) (by omega) (Nat.le_of_ble_eq_true rfl) (by assumption) (c_X12_drawn hM (by decide) ?_)
            refine E_bipush (v := 20) dX12_gusts_35 (by decide) ?_
            refine E_isub dX12_gusts_37 ?_
            refine E_isj 14 dX12_gusts_38 (by assumption) rfl (by first | decide | omega) (by rw [n3]; decide) ?_
            refine E_aload_n (i := 0) dX12_gusts_39 rfl rfl ?_
            refine k_X12_gusts_40 (mc' := 0) (ms' := 0) (rc := 0) (rs := 0) (by omega) (Nat.le_of_ble_eq_true rfl) (by assumption) (c_X12_tick (δ := δ) (k := k) (I := u2 (u2 J 110 6 (dz (J 110 6))) 110 14 (wnd (dz (J 110 6)))) (by omega) hM (by rw [hrow]; exact VM_gu (VM_gus hV j)) (by rw [hrow]; exact TC_gu1 (TC_gus hk8 hT j)) (fun K f1 f2 => ?_))
            refine E_incC (c := 1) dX12_gusts_43 rfl (by decide) (by decide) rfl ?_
            refine E_lv (lv' := [_, _, _, _]) rfl ?_
            refine E_goto (tgt := 18) dX12_gusts_46 (by decide) ?_
            exact ih (j + 1) _ _ (by omega) (by omega) (by rw [hy, nI_1]) (FM.trans (FM.u (FM.u hF)) f1) (by rw [f2, hrow]; rfl)
      refine E_aload_n (i := 0) dX12_gusts_0 rfl rfl ?_
      refine E_iload_n (i := 1) dX12_gusts_1 rfl rfl ?_
      refine k_X12_gusts_2 (mc' := 0) (ms' := 0) (rc := 0) (rs := 0) (by omega) (Nat.le_of_ble_eq_true rfl) (by assumption) (c_X12_whyNot (by omega) hM (fun q => absurd hc q) (fun _ q => absurd q hl) (fun _ _ => ?_))
      refine E_istore_nC (i := 2) dX12_gusts_5 rfl (by decide) rfl ?_
      refine E_lv (lv' := [_, _, _, _]) rfl ?_
      refine E_iload_n (i := 2) dX12_gusts_6 rfl rfl ?_
      refine E_if_eq (tgt := 16) dX12_gusts_7 (by decide) (fun c_7 => ?_) (fun c_7 => absurd (rfl) c_7)
      refine E_iconst (v := 0) dX12_gusts_16 (by decide) ?_
      refine E_istore_nC (i := 3) dX12_gusts_17 rfl (by decide) rfl ?_
      refine E_lv (lv' := [_, _, _, _]) rfl ?_
      exact loop n 0 _ _ (by omega) (by omega) rfl (FM.refl _) rfl
  · have hΦ := h2 hc
    refine E_aload_n (i := 0) dX12_gusts_0 rfl rfl ?_
    refine E_iload_n (i := 1) dX12_gusts_1 rfl rfl ?_
    refine k_X12_gusts_2 (mc' := 0) (ms' := 0) (rc := 0) (rs := 0) (by omega) (Nat.le_of_ble_eq_true rfl) (by assumption) (c_X12_whyNot (by omega) hM (fun _ => ?_) (fun q _ => absurd q hc) (fun q _ => absurd q hc))
    refine E_istore_nC (i := 2) dX12_gusts_5 rfl (by decide) rfl ?_
    refine E_lv (lv' := [_, _, _, _]) rfl ?_
    refine E_iload_n (i := 2) dX12_gusts_6 rfl rfl ?_
    refine E_if_eq (tgt := 16) dX12_gusts_7 (by decide) (fun c_7 => absurd c_7 (er_ne (by decide) (by decide))) (fun c_7 => ?_)
    refine E_aload_n (i := 0) dX12_gusts_10 rfl rfl ?_
    refine E_iload_n (i := 2) dX12_gusts_11 rfl rfl ?_
    refine k_X12_gusts_12 (mc' := 0) (ms' := 0) (rc := 0) (rs := 0) (by omega) (Nat.le_of_ble_eq_true rfl) (by assumption) (c_findk hM (by decide) (by decide) ?_)
    refine E_iret dX12_gusts_15 rfl ?_
    exact hΦ
end
