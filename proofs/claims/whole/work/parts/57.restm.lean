/-! the model: check, feed, ride -/
/-- on while it holds -/
def chn (p : Nat → Prop) [DecidablePred p] : Nat → Nat → Nat
  | 0, i => i
  | u + 1, i => if p i then chn p u (i + 1) else i
theorem chn_le {p : Nat → Prop} [DecidablePred p] : ∀ {u i : Nat}, chn p u i ≤ i + u
  | 0, _ => Nat.le_refl _
  | u + 1, i => by
    unfold chn
    split
    · have := chn_le (p := p) (u := u) (i := i + 1)
      omega
    · omega
/-- how far what waits is what is -/
def chK (a k : Nat) (f h : Nat → Int32) : Nat := chn (fun j => j < a ∧ j < k ∧ f j = h j) 9 0
def chV (a k : Nat) (f h : Nat → Int32) : Int32 := if chK a k f h = a ∧ chK a k f h = k then 0 else nI (1 + chK a k f h)
/-- byte j of a word -/
def bt (w : Int64) (j : Nat) : Int32 := nI (w.toBitVec.toNat / 2 ^ (8 * j) % 256)
theorem bt_b (w : Int64) (j : Nat) : ∃ b, b < 256 ∧ bt w j = nI b := ⟨_, Nat.mod_lt _ (by decide), rfl⟩
theorem byC_eq (w : Int64) (s : Int32) (n : Nat) (hs : ((s.toInt64.toUInt64 &&& Int64.toUInt64 63).toBitVec % 64).toNat = n) : (w.toUInt64 >>> (s.toInt64.toUInt64 &&& Int64.toUInt64 63)).toInt64.toInt32 &&& 255 = nI (w.toBitVec.toNat / 2 ^ n % 256) := by
  rw [pk_and _ 8 (by decide)]
  have e : (w.toUInt64 >>> (s.toInt64.toUInt64 &&& Int64.toUInt64 63)).toInt64.toInt32.toBitVec = (w.toBitVec >>> n).signExtend 32 := by
    rw [Int64.toBitVec_toInt32, ← hs]
    rfl
  rw [e, BitVec.signExtend_eq_setWidth_of_le _ (by decide), BitVec.toNat_setWidth, BitVec.toNat_ushiftRight, Nat.shiftRight_eq_div_pow]
  generalize w.toBitVec.toNat / 2 ^ n = a
  congr 1
  omega
theorem byM_t (x : BitVec 64) (n a : Nat) (h1 : x.msb = true → (2 ^ 64 - 1 - (2 ^ 64 - 1 - x.toNat) / 2 ^ n) % 256 = a) (h2 : x.msb = false → x.toNat / 2 ^ n % 256 = a) : (x.sshiftRight n).toNat % 2 ^ 8 = a := by
  cases hm : x.msb with
  | true =>
    rw [BitVec.toNat_sshiftRight_of_msb_true hm, Nat.shiftRight_eq_div_pow]
    exact h1 hm
  | false =>
    rw [BitVec.toNat_sshiftRight_of_msb_false hm, Nat.shiftRight_eq_div_pow]
    exact h2 hm
theorem byM_eq (w : Int64) (s : Int32) (n : Nat) (hs : ((s.toInt64 &&& 63).toBitVec.smod 64).toNat = n) (h : (w.toBitVec.sshiftRight n).toNat % 2 ^ 8 = w.toBitVec.toNat / 2 ^ n % 256) : ((w >>> (s.toInt64 &&& 63)) &&& 255).toInt32 = nI (w.toBitVec.toNat / 2 ^ n % 256) := by
  apply Int32.toBitVec_inj.mp
  apply BitVec.eq_of_toNat_eq
  have hlt : w.toBitVec.toNat / 2 ^ n % 256 < 256 := Nat.mod_lt _ (by decide)
  rw [pk_tn (by omega), Int64.toBitVec_toInt32, BitVec.signExtend_eq_setWidth_of_le _ (by decide), BitVec.toNat_setWidth, Int64.toBitVec_and, BitVec.toNat_and, show (255 : Int64).toBitVec.toNat = 2 ^ 8 - 1 from rfl, Nat.and_two_pow_sub_one_eq_mod, Int64.toBitVec_shiftRight, BitVec.sshiftRight_eq', hs, h]
  omega
theorem byC (w : Int64) {j : Nat} (h : j < 8) : (w.toUInt64 >>> ((8 * nI j : Int32).toInt64.toUInt64 &&& Int64.toUInt64 63)).toInt64.toInt32 &&& 255 = bt w j := by
  match j, h with
  | 0, _ => exact byC_eq w _ 0 (by decide)
  | 1, _ => exact byC_eq w _ 8 (by decide)
  | 2, _ => exact byC_eq w _ 16 (by decide)
  | 3, _ => exact byC_eq w _ 24 (by decide)
  | 4, _ => exact byC_eq w _ 32 (by decide)
  | 5, _ => exact byC_eq w _ 40 (by decide)
  | 6, _ => exact byC_eq w _ 48 (by decide)
  | 7, _ => exact byC_eq w _ 56 (by decide)
theorem byM (w : Int64) {j : Nat} (h : j < 8) : ((w >>> ((8 * nI j : Int32).toInt64 &&& 63)) &&& 255).toInt32 = bt w j := by
  have hx := w.toBitVec.isLt
  match j, h with
  | 0, _ => exact byM_eq w _ 0 (by decide) (byM_t _ _ _ (fun _ => by omega) (fun _ => rfl))
  | 1, _ => exact byM_eq w _ 8 (by decide) (byM_t _ _ _ (fun _ => by omega) (fun _ => rfl))
  | 2, _ => exact byM_eq w _ 16 (by decide) (byM_t _ _ _ (fun _ => by omega) (fun _ => rfl))
  | 3, _ => exact byM_eq w _ 24 (by decide) (byM_t _ _ _ (fun _ => by omega) (fun _ => rfl))
  | 4, _ => exact byM_eq w _ 32 (by decide) (byM_t _ _ _ (fun _ => by omega) (fun _ => rfl))
  | 5, _ => exact byM_eq w _ 40 (by decide) (byM_t _ _ _ (fun _ => by omega) (fun _ => rfl))
  | 6, _ => exact byM_eq w _ 48 (by decide) (byM_t _ _ _ (fun _ => by omega) (fun _ => rfl))
  | 7, _ => exact byM_eq w _ 56 (by decide) (byM_t _ _ _ (fun _ => by omega) (fun _ => rfl))
section
variable {Γ : GE} {d : Nat} {g : Sh} {P : HP} {I : HI} {Φ : Option Value → Sh → HP → HI → Prop} {δ : List Int32} {k : Nat}
theorem VM_5 {M : Nat → Int32} {y : Nat} {v : Int32} (h : VM M k) (h1 : 2 ≤ y) (h2 : y ≤ 6) : VM (ur M y v) k := by
  have e : ∀ z, z < 2 ∨ 6 < z → ur M y v z = M z := fun z hz => ur_n _ _ (by omega)
  refine ⟨by rw [e 1 (by omega)]; exact h.1, h.2.1, fun i hi => ?_, fun r hr => ?_⟩
  · show lst i ≤ ur M y v (7 + i) ∧ ur M y v (7 + i) ≤ grt i
    rw [e _ (by omega)]
    exact h.2.2.1 i hi
  · have := h.2.2.2 r hr
    unfold VR at this ⊢
    rw [e (16 + 7 * r + 0) (by omega), e (16 + 7 * r + 1) (by omega), e (16 + 7 * r + 2) (by omega), e (16 + 7 * r + 3) (by omega), e (16 + 7 * r + 4) (by omega), e (16 + 7 * r + 5) (by omega), e 7 (by omega)]
    exact this
theorem c_X12_check {x : Int32} {a : Nat} (hd : 8 ≤ d) (hM : Mo g P) (hV : VM (I 110) k) (hT : TC 0 δ (I 110)) (ha : I 110 5 = nI a) (ha20 : a ≤ 20) (h1 : ∀ n, x = nI n → n ≤ 200 → ∀ J, FA (u2 I 110 5 0) J → Φ (some (.int (chV a k (fun j => I 110 (148 + j)) (fun j => tks δ k (ur (I 110) 5 0) n (16 + 7 * j + 3))))) g P J) (h2 : ¬ okA x → Φ (some (.int (er 1))) g P (flM (u2 I 110 5 0) 1)) : MM Γ mX12_check d 0 0 [.ref 109, .int x] g P I Φ := by
  refine MM_entry [some _, some _, none, none] (by decide) (Nat.le_of_ble_eq_true rfl) rfl ?_
  have h0 := hM.1
  obtain ⟨n1, n2, n3⟩ := hM.now
  obtain ⟨a1, a2, a3⟩ := hM.aside
  have hk8 := hV.2.1
  obtain ⟨I1, hI1⟩ := hid (u2 I 110 5 0)
  have hrow : I1 110 = ur (I 110) 5 0 := by rw [← hI1 (), u2_row]
  have i110 : asd I1 110 = I1 110 := asd_o (by decide)
  by_cases hc : okA x
  · obtain ⟨n, hn, hn2⟩ := okA_n hc
    have hh1 := h1 n hn hn2
    rw [hI1 (), ← hrow] at hh1
    clear h1 h2
    have hV1 : VM (asd I1 110) k := by rw [i110, hrow]; exact VM_5 hV (by omega) (by omega)
    have hT1 : TC 0 δ (asd I1 110) := by rw [i110, hrow]; exact TC_ge (fun y hy => ur_n _ _ (by omega)) hT
    obtain ⟨kk, hkk⟩ := hid (chK a k (fun j => I 110 (148 + j)) (fun j => tks δ k (I1 110) n (16 + 7 * j + 3)))
    have hkl : kk ≤ 9 := by rw [← hkk ()]; exact chn_le
    have tail : ∀ (J : HI), FM (asd I1) J → J 110 = tks δ k (I1 110) n → E Γ mX12_check d 0 0 (QM Γ 0 0 Φ) 0 0 86 [some (.ref 109), some (.int x), some (.int (nI a)), some (.int (nI kk))] [] g P J := by
      intro J hF hJ
      have hΦ := hh1 _ (bk_FA hF hJ (tks_272 hk8 n))
      unfold chV at hΦ
      rw [hkk ()] at hΦ
      have j1 : J 110 1 = nI k := by rw [hJ, ← i110]; exact (VM_tks hV1 n).1
      by_cases q1 : kk = a
      · by_cases q2 : kk = k
        · rw [if_pos ⟨q1, q2⟩] at hΦ
          refine E_aload_n (i := 0) dX12_check_86 rfl rfl ?_
          refine E_iload_n (i := 3) dX12_check_87 rfl rfl ?_
          refine E_iload_n (i := 2) dX12_check_88 rfl rfl ?_
          refine E_icmp_ne (tgt := 106) dX12_check_89 (by decide) (fun c_89 => absurd (by rw [q1]) c_89) (fun c_89 => ?_)
          refine E_iload_n (i := 3) dX12_check_92 rfl rfl ?_
          refine E_aload_n (i := 0) dX12_check_93 rfl rfl ?_
          refine E_gr dX12_check_94 gf_X12_9_12 rfl (by assumption) (by assumption) ?_
          refine E_iconst (v := 1) dX12_check_97 (by decide) ?_
          refine E_iaj 1 dX12_check_98 (by assumption) rfl (by decide) (by rw [n3]; decide) ?_
          refine E_icmp_ne (tgt := 106) dX12_check_99 (by decide) (fun c_99 => absurd (by rw [j1, q2]) c_99) (fun c_99 => ?_)
          refine E_iconst (v := 0) dX12_check_102 (by decide) ?_
          refine E_goto (tgt := 109) dX12_check_103 (by decide) ?_
          refine k_X12_check_109 (mc' := 0) (ms' := 0) (rc := 0) (rs := 0) (by omega) (Nat.le_of_ble_eq_true rfl) (by assumption) (c_X12_back (by omega) hM ?_)
          refine E_iret dX12_check_112 rfl ?_
          exact hΦ
        · rw [if_neg (fun h => q2 h.2), ← nI_add] at hΦ
          refine E_aload_n (i := 0) dX12_check_86 rfl rfl ?_
          refine E_iload_n (i := 3) dX12_check_87 rfl rfl ?_
          refine E_iload_n (i := 2) dX12_check_88 rfl rfl ?_
          refine E_icmp_ne (tgt := 106) dX12_check_89 (by decide) (fun c_89 => absurd (by rw [q1]) c_89) (fun c_89 => ?_)
          refine E_iload_n (i := 3) dX12_check_92 rfl rfl ?_
          refine E_aload_n (i := 0) dX12_check_93 rfl rfl ?_
          refine E_gr dX12_check_94 gf_X12_9_12 rfl (by assumption) (by assumption) ?_
          refine E_iconst (v := 1) dX12_check_97 (by decide) ?_
          refine E_iaj 1 dX12_check_98 (by assumption) rfl (by decide) (by rw [n3]; decide) ?_
          refine E_icmp_ne (tgt := 106) dX12_check_99 (by decide) (fun c_99 => ?_) (fun c_99 => absurd c_99 (by rw [j1]; exact nI_ne (by omega) (by omega) q2))
          refine E_iconst (v := 1) dX12_check_106 (by decide) ?_
          refine E_iload_n (i := 3) dX12_check_107 rfl rfl ?_
          refine E_iadd dX12_check_108 ?_
          refine k_X12_check_109 (mc' := 0) (ms' := 0) (rc := 0) (rs := 0) (by omega) (Nat.le_of_ble_eq_true rfl) (by assumption) (c_X12_back (by omega) hM ?_)
          refine E_iret dX12_check_112 rfl ?_
          exact hΦ
      · rw [if_neg (fun h => q1 h.1), ← nI_add] at hΦ
        refine E_aload_n (i := 0) dX12_check_86 rfl rfl ?_
        refine E_iload_n (i := 3) dX12_check_87 rfl rfl ?_
        refine E_iload_n (i := 2) dX12_check_88 rfl rfl ?_
        refine E_icmp_ne (tgt := 106) dX12_check_89 (by decide) (fun c_89 => ?_) (fun c_89 => absurd c_89 (nI_ne (by omega) (by omega) q1))
        refine E_iconst (v := 1) dX12_check_106 (by decide) ?_
        refine E_iload_n (i := 3) dX12_check_107 rfl rfl ?_
        refine E_iadd dX12_check_108 ?_
        refine k_X12_check_109 (mc' := 0) (ms' := 0) (rc := 0) (rs := 0) (by omega) (Nat.le_of_ble_eq_true rfl) (by assumption) (c_X12_back (by omega) hM ?_)
        refine E_iret dX12_check_112 rfl ?_
        exact hΦ
    have loop : ∀ (u i : Nat) (z : Int32) (J : HI), 9 ≤ u + i → i ≤ 9 → z = nI i → (Unit → kk = chn (fun j => j < a ∧ j < k ∧ I 110 (148 + j) = tks δ k (I1 110) n (16 + 7 * j + 3)) u i) → FM (asd I1) J → J 110 = tks δ k (I1 110) n → E Γ mX12_check d 0 0 (QM Γ 0 0 Φ) 0 0 46 [some (.ref 109), some (.int x), some (.int (nI a)), some (.int z)] [] g P J := by
      intro u
      induction u with
      | zero =>
        intro i z J hu hi hz hf hF hJ
        have e : kk = i := hf ()
        have j1 : J 110 1 = nI k := by rw [hJ, ← i110]; exact (VM_tks hV1 n).1
        have ht := tail J hF hJ
        rw [e, ← hz] at ht
        by_cases q1 : i < a
        · refine E_iload_n (i := 3) dX12_check_46 rfl rfl ?_
          refine E_iload_n (i := 2) dX12_check_47 rfl rfl ?_
          refine E_icmp_ge (tgt := 86) dX12_check_48 (by decide) (fun c_48 => absurd c_48 (by rw [hz]; exact nI_ge q1 (by omega))) (fun c_48 => ?_)
          refine E_iload_n (i := 3) dX12_check_51 rfl rfl ?_
          refine E_aload_n (i := 0) dX12_check_52 rfl rfl ?_
          refine E_gr dX12_check_53 gf_X12_9_12 rfl (by assumption) (by assumption) ?_
          refine E_iconst (v := 1) dX12_check_56 (by decide) ?_
          refine E_iaj 1 dX12_check_57 (by assumption) rfl (by decide) (by rw [n3]; decide) ?_
          refine E_icmp_ge (tgt := 86) dX12_check_58 (by decide) (fun c_58 => ?_) (fun c_58 => absurd (by rw [hz, j1]; exact nI_le (by omega) (by omega)) c_58)
          exact ht
        · refine E_iload_n (i := 3) dX12_check_46 rfl rfl ?_
          refine E_iload_n (i := 2) dX12_check_47 rfl rfl ?_
          refine E_icmp_ge (tgt := 86) dX12_check_48 (by decide) (fun c_48 => ?_) (fun c_48 => absurd (by rw [hz]; exact nI_le (by omega) (by omega)) c_48)
          exact ht
      | succ u ih =>
        intro i z J hu hi hz hf hF hJ
        have j1 : J 110 1 = nI k := by rw [hJ, ← i110]; exact (VM_tks hV1 n).1
        by_cases q1 : i < a
        · by_cases q2 : i < k
          · have j148 : J 110 (148 + i) = I 110 (148 + i) := by rw [hJ, tks_o (by omega) (by omega) (by omega) n, hrow, ur_n _ _ (by omega)]
            have jpl : J 110 (16 + 7 * i + 3) = tks δ k (I1 110) n (16 + 7 * i + 3) := by rw [hJ]
            by_cases q3 : J 110 (148 + i) = J 110 (16 + 7 * i + 3)
            · have hf2 : Unit → kk = chn (fun j => j < a ∧ j < k ∧ I 110 (148 + j) = tks δ k (I1 110) n (16 + 7 * j + 3)) u (i + 1) := fun _ => by rw [hf (), chn, if_pos ⟨q1, q2, by rw [← j148, q3, jpl]⟩]
              refine E_iload_n (i := 3) dX12_check_46 rfl rfl ?_
              refine E_iload_n (i := 2) dX12_check_47 rfl rfl ?_
              refine E_icmp_ge (tgt := 86) dX12_check_48 (by decide) (fun c_48 => absurd c_48 (by rw [hz]; exact nI_ge q1 (by omega))) (fun c_48 => ?_)
              refine E_iload_n (i := 3) dX12_check_51 rfl rfl ?_
              refine E_aload_n (i := 0) dX12_check_52 rfl rfl ?_
              refine E_gr dX12_check_53 gf_X12_9_12 rfl (by assumption) (by assumption) ?_
              refine E_iconst (v := 1) dX12_check_56 (by decide) ?_
              refine E_iaj 1 dX12_check_57 (by assumption) rfl (by decide) (by rw [n3]; decide) ?_
              refine E_icmp_ge (tgt := 86) dX12_check_58 (by decide) (fun c_58 => absurd c_58 (by rw [hz, j1]; exact nI_ge q2 (by omega))) (fun c_58 => ?_)
              refine E_aload_n (i := 0) dX12_check_61 rfl rfl ?_
              refine E_gr dX12_check_62 gf_X12_9_12 rfl (by assumption) (by assumption) ?_
              refine E_sipush (v := 148) dX12_check_65 (by decide) ?_
              refine E_iload_n (i := 3) dX12_check_68 rfl rfl ?_
              refine E_iadd dX12_check_69 ?_
              refine E_iaj (148 + i) dX12_check_70 (by assumption) (by rw [hz]; exact nI_add 148 i) (by omega) (by rw [n3]; omega) ?_
              refine E_aload_n (i := 0) dX12_check_71 rfl rfl ?_
              refine E_iload_n (i := 3) dX12_check_72 rfl rfl ?_
              refine E_iconst (v := 3) dX12_check_73 (by decide) ?_
              refine k_X12_check_74 (mc' := 0) (ms' := 0) (rc := 0) (rs := 0) (by omega) (Nat.le_of_ble_eq_true rfl) (by assumption) (c_X12_of (f := 3) hM hz rfl (by omega) (by decide) ?_)
              refine E_icmp_ne (tgt := 86) dX12_check_77 (by decide) (fun c_77 => absurd (q3) c_77) (fun c_77 => ?_)
              refine E_incC (c := 1) dX12_check_80 rfl (by decide) (by decide) rfl ?_
              refine E_lv (lv' := [_, _, _, _]) rfl ?_
              refine E_goto (tgt := 46) dX12_check_83 (by decide) ?_
              exact ih (i + 1) _ _ (by omega) (by omega) (by rw [hz, nI_1]) hf2 hF hJ
            · have e : kk = i := by rw [hf (), chn, if_neg (fun h => q3 (by rw [j148, jpl]; exact h.2.2))]
              have ht := tail J hF hJ
              rw [e, ← hz] at ht
              refine E_iload_n (i := 3) dX12_check_46 rfl rfl ?_
              refine E_iload_n (i := 2) dX12_check_47 rfl rfl ?_
              refine E_icmp_ge (tgt := 86) dX12_check_48 (by decide) (fun c_48 => absurd c_48 (by rw [hz]; exact nI_ge q1 (by omega))) (fun c_48 => ?_)
              refine E_iload_n (i := 3) dX12_check_51 rfl rfl ?_
              refine E_aload_n (i := 0) dX12_check_52 rfl rfl ?_
              refine E_gr dX12_check_53 gf_X12_9_12 rfl (by assumption) (by assumption) ?_
              refine E_iconst (v := 1) dX12_check_56 (by decide) ?_
              refine E_iaj 1 dX12_check_57 (by assumption) rfl (by decide) (by rw [n3]; decide) ?_
              refine E_icmp_ge (tgt := 86) dX12_check_58 (by decide) (fun c_58 => absurd c_58 (by rw [hz, j1]; exact nI_ge q2 (by omega))) (fun c_58 => ?_)
              refine E_aload_n (i := 0) dX12_check_61 rfl rfl ?_
              refine E_gr dX12_check_62 gf_X12_9_12 rfl (by assumption) (by assumption) ?_
              refine E_sipush (v := 148) dX12_check_65 (by decide) ?_
              refine E_iload_n (i := 3) dX12_check_68 rfl rfl ?_
              refine E_iadd dX12_check_69 ?_
              refine E_iaj (148 + i) dX12_check_70 (by assumption) (by rw [hz]; exact nI_add 148 i) (by omega) (by rw [n3]; omega) ?_
              refine E_aload_n (i := 0) dX12_check_71 rfl rfl ?_
              refine E_iload_n (i := 3) dX12_check_72 rfl rfl ?_
              refine E_iconst (v := 3) dX12_check_73 (by decide) ?_
              refine k_X12_check_74 (mc' := 0) (ms' := 0) (rc := 0) (rs := 0) (by omega) (Nat.le_of_ble_eq_true rfl) (by assumption) (c_X12_of (f := 3) hM hz rfl (by omega) (by decide) ?_)
              refine E_icmp_ne (tgt := 86) dX12_check_77 (by decide) (fun c_77 => ?_) (fun c_77 => absurd c_77 (q3))
              exact ht
          · have e : kk = i := by rw [hf (), chn, if_neg (fun h => q2 h.2.1)]
            have ht := tail J hF hJ
            rw [e, ← hz] at ht
            refine E_iload_n (i := 3) dX12_check_46 rfl rfl ?_
            refine E_iload_n (i := 2) dX12_check_47 rfl rfl ?_
            refine E_icmp_ge (tgt := 86) dX12_check_48 (by decide) (fun c_48 => absurd c_48 (by rw [hz]; exact nI_ge q1 (by omega))) (fun c_48 => ?_)
            refine E_iload_n (i := 3) dX12_check_51 rfl rfl ?_
            refine E_aload_n (i := 0) dX12_check_52 rfl rfl ?_
            refine E_gr dX12_check_53 gf_X12_9_12 rfl (by assumption) (by assumption) ?_
            refine E_iconst (v := 1) dX12_check_56 (by decide) ?_
            refine E_iaj 1 dX12_check_57 (by assumption) rfl (by decide) (by rw [n3]; decide) ?_
            refine E_icmp_ge (tgt := 86) dX12_check_58 (by decide) (fun c_58 => ?_) (fun c_58 => absurd (by rw [hz, j1]; exact nI_le (by omega) (by omega)) c_58)
            exact ht
        · have e : kk = i := by rw [hf (), chn, if_neg (fun h => q1 h.1)]
          have ht := tail J hF hJ
          rw [e, ← hz] at ht
          refine E_iload_n (i := 3) dX12_check_46 rfl rfl ?_
          refine E_iload_n (i := 2) dX12_check_47 rfl rfl ?_
          refine E_icmp_ge (tgt := 86) dX12_check_48 (by decide) (fun c_48 => ?_) (fun c_48 => absurd (by rw [hz]; exact nI_le (by omega) (by omega)) c_48)
          exact ht
    refine E_aload_n (i := 0) dX12_check_0 rfl rfl ?_
    refine E_gr dX12_check_1 gf_X12_9_12 rfl (by assumption) (by assumption) ?_
    refine E_iconst (v := 5) dX12_check_4 (by decide) ?_
    refine E_iaj 5 dX12_check_5 (by assumption) rfl (by decide) (by rw [n3]; decide) ?_
    rw [ha]
    refine E_istore_nC (i := 2) dX12_check_6 rfl (by decide) rfl ?_
    refine E_lv (lv' := [_, _, _, _]) rfl ?_
    refine E_aload_n (i := 0) dX12_check_7 rfl rfl ?_
    refine E_gr dX12_check_8 gf_X12_9_12 rfl (by assumption) (by assumption) ?_
    refine E_iconst (v := 5) dX12_check_11 (by decide) ?_
    refine E_iconst (v := 0) dX12_check_12 (by decide) ?_
    refine E_isj 5 dX12_check_13 (by assumption) rfl (by first | decide | omega) (by rw [n3]; decide) ?_
    rw [hI1 ()]
    refine E_iload_n (i := 1) dX12_check_14 rfl rfl ?_
    refine k_X12_check_15 (mc' := 0) (ms' := 0) (rc := 0) (rs := 0) (by omega) (Nat.le_of_ble_eq_true rfl) (c_X12_isAhead (by omega) ?_)
    rw [bz_t hc]
    refine E_if_ne (tgt := 28) dX12_check_18 (by decide) (fun c_18 => ?_) (fun c_18 => absurd c_18 (by decide))
    refine E_aload_n (i := 0) dX12_check_28 rfl rfl ?_
    refine E_gr dX12_check_29 gf_X12_9_12 rfl (by assumption) (by assumption) ?_
    refine E_aload_n (i := 0) dX12_check_32 rfl rfl ?_
    refine E_gr dX12_check_33 gf_X12_16_12 rfl (by assumption) (by assumption) ?_
    refine k_X12_check_36 (mc' := 0) (ms' := 0) (rc := 0) (rs := 0) (by omega) (Nat.le_of_ble_eq_true rfl) (c_X12_copy n2 n3 a2 a3 (by decide) ?_)
    refine E_aload_n (i := 0) dX12_check_39 rfl rfl ?_
    refine E_iload_n (i := 1) dX12_check_40 rfl rfl ?_
    refine k_X12_check_41 (mc' := 0) (ms' := 0) (rc := 0) (rs := 0) (by omega) (Nat.le_of_ble_eq_true rfl) (by assumption) (c_X12_ticksGo (δ := δ) (k := k) (I := asd I1) (by omega) hM hV1 hT1 hn hn2 (fun J f1 f2 => ?_))
    refine E_iconst (v := 0) dX12_check_44 (by decide) ?_
    refine E_istore_nC (i := 3) dX12_check_45 rfl (by decide) rfl ?_
    refine E_lv (lv' := [_, _, _, _]) rfl ?_
    exact loop 9 0 _ _ (by omega) (by omega) rfl (fun _ => (hkk ()).symm) f1 (by rw [f2, i110])
  · have hΦ := h2 hc
    rw [hI1 ()] at hΦ
    refine E_aload_n (i := 0) dX12_check_0 rfl rfl ?_
    refine E_gr dX12_check_1 gf_X12_9_12 rfl (by assumption) (by assumption) ?_
    refine E_iconst (v := 5) dX12_check_4 (by decide) ?_
    refine E_iaj 5 dX12_check_5 (by assumption) rfl (by decide) (by rw [n3]; decide) ?_
    refine E_istore_nC (i := 2) dX12_check_6 rfl (by decide) rfl ?_
    refine E_lv (lv' := [_, _, _, _]) rfl ?_
    refine E_aload_n (i := 0) dX12_check_7 rfl rfl ?_
    refine E_gr dX12_check_8 gf_X12_9_12 rfl (by assumption) (by assumption) ?_
    refine E_iconst (v := 5) dX12_check_11 (by decide) ?_
    refine E_iconst (v := 0) dX12_check_12 (by decide) ?_
    refine E_isj 5 dX12_check_13 (by assumption) rfl (by first | decide | omega) (by rw [n3]; decide) ?_
    rw [hI1 ()]
    refine E_iload_n (i := 1) dX12_check_14 rfl rfl ?_
    refine k_X12_check_15 (mc' := 0) (ms' := 0) (rc := 0) (rs := 0) (by omega) (Nat.le_of_ble_eq_true rfl) (c_X12_isAhead (by omega) ?_)
    rw [bz_f hc]
    refine E_if_ne (tgt := 28) dX12_check_18 (by decide) (fun c_18 => absurd (rfl) c_18) (fun c_18 => ?_)
    refine E_aload_n (i := 0) dX12_check_21 rfl rfl ?_
    refine E_ldc (v := -1000000001) dX12_check_22 w_1208 ?_
    refine k_X12_check_24 (mc' := 0) (ms' := 0) (rc := 0) (rs := 0) (by omega) (Nat.le_of_ble_eq_true rfl) (by assumption) (c_find1 hM ?_)
    refine E_iret dX12_check_27 rfl ?_
    exact hΦ
theorem c_X12_feed {w : Int64} {y : Int32} {t : Nat} (hd : 1 ≤ d) (hM : Mo g P) (ht : I 110 4 = nI t) (t50 : t ≤ 50) (h1 : ∀ n, y = nI n → 1 ≤ n → n ≤ 8 → t + n ≤ 50 → ∀ J, (∀ a, a ≠ 110 → J a = I a) → J 110 4 = nI (t + n) → (∀ j, j < n → J 110 (98 + t + j) = bt w j) → (∀ z, z ≠ 4 → (z < 98 + t ∨ 98 + t + n ≤ z) → J 110 z = I 110 z) → Φ (some (.int (nI (t + n)))) g P J) (h2 : ¬ (1 ≤ y ∧ y ≤ 8) → Φ (some (.int (er 1))) g P (flM I 1)) (h3 : ∀ n, y = nI n → 1 ≤ n → n ≤ 8 → 50 < t + n → Φ (some (.int (er 4))) g P (flM I 4)) : MM Γ mX12_feed d 0 0 [.ref 109, .long w, .int y] g P I Φ := by
  refine MM_entry [some _, some _, none, some _, none] (by decide) (Nat.le_of_ble_eq_true rfl) rfl ?_
  have h0 := hM.1
  obtain ⟨n1, n2, n3⟩ := hM.now
  by_cases hc : 1 ≤ y ∧ y ≤ 8
  · obtain ⟨n, hn, hn8⟩ := in_04 (n := 8) (by omega) ⟨Int32.le_trans (by decide) hc.1, hc.2⟩
    have hn1 : 1 ≤ n := by
      have := i32_le.mp hc.1
      rw [hn, nI_toInt (by omega)] at this
      have e : (1 : Int32).toInt = 1 := rfl
      omega
    have hsum : I 110 4 + y = nI (t + n) := by rw [ht, hn, nI_add]
    by_cases hl : t + n ≤ 50
    · have hh1 := h1 n hn hn1 hn8 hl
      clear h1 h2 h3
      have loop : ∀ (N i : Nat) (z : Int32) (J : HI), n - i ≤ N → i ≤ n → z = nI i → (∀ a, a ≠ 110 → J a = I a) → J 110 4 = nI (t + i) → (∀ j, j < i → J 110 (98 + t + j) = bt w j) → (∀ z, z ≠ 4 → (z < 98 + t ∨ 98 + t + i ≤ z) → J 110 z = I 110 z) → E Γ mX12_feed d 0 0 (QM Γ 0 0 Φ) 0 0 40 [some (.ref 109), some (.long w), none, some (.int y), some (.int z)] [] g P J := by
        intro N
        induction N with
        | zero =>
          intro i z J hN hi hz q1 q2 q3 q4
          have hin : i = n := by omega
          subst hin
          have hΦ := hh1 J q1 q2 q3 q4
          refine E_iload dX12_feed_40 rfl ?_
          refine E_iload_n (i := 3) dX12_feed_42 rfl rfl ?_
          refine E_icmp_ge (tgt := 88) dX12_feed_43 (by decide) (fun c_43 => ?_) (fun c_43 => absurd (by rw [hz, hn]; exact Int32.le_refl _) c_43)
          refine E_aload_n (i := 0) dX12_feed_88 rfl rfl ?_
          refine E_gr dX12_feed_89 gf_X12_9_12 rfl (by assumption) (by assumption) ?_
          refine E_iconst (v := 4) dX12_feed_92 (by decide) ?_
          refine E_iaj 4 dX12_feed_93 (by assumption) rfl (by decide) (by rw [n3]; decide) ?_
          rw [q2]
          refine E_iret dX12_feed_94 rfl ?_
          exact hΦ
        | succ N ih =>
          intro i z J hN hi hz q1 q2 q3 q4
          by_cases hin : i = n
          · subst hin
            have hΦ := hh1 J q1 q2 q3 q4
            refine E_iload dX12_feed_40 rfl ?_
            refine E_iload_n (i := 3) dX12_feed_42 rfl rfl ?_
            refine E_icmp_ge (tgt := 88) dX12_feed_43 (by decide) (fun c_43 => ?_) (fun c_43 => absurd (by rw [hz, hn]; exact Int32.le_refl _) c_43)
            refine E_aload_n (i := 0) dX12_feed_88 rfl rfl ?_
            refine E_gr dX12_feed_89 gf_X12_9_12 rfl (by assumption) (by assumption) ?_
            refine E_iconst (v := 4) dX12_feed_92 (by decide) ?_
            refine E_iaj 4 dX12_feed_93 (by assumption) rfl (by decide) (by rw [n3]; decide) ?_
            rw [q2]
            refine E_iret dX12_feed_94 rfl ?_
            exact hΦ
          · have hb : Unit → ((w >>> ((8 * z : Int32).toInt64 &&& 63)) &&& 255).toInt32 = bt w i := fun _ => by rw [hz]; exact byM w (by omega)
            have hix : (98 : Int32) + J 110 4 = nI (98 + t + i) := by
              rw [q2, show (98 : Int32) + nI (t + i) = nI (98 + (t + i)) from nI_add 98 _]
              congr 1
              omega
            have e4 : (u2 J 110 (98 + t + i) (bt w i)) 110 4 = nI (t + i) := by rw [u2_o (fun q => by omega)]; exact q2
            refine E_iload dX12_feed_40 rfl ?_
            refine E_iload_n (i := 3) dX12_feed_42 rfl rfl ?_
            refine E_icmp_ge (tgt := 88) dX12_feed_43 (by decide) (fun c_43 => absurd c_43 (by rw [hz, hn]; exact nI_ge (by omega) (by omega))) (fun c_43 => ?_)
            refine E_aload_n (i := 0) dX12_feed_46 rfl rfl ?_
            refine E_gr dX12_feed_47 gf_X12_9_12 rfl (by assumption) (by assumption) ?_
            refine E_bipush (v := 98) dX12_feed_50 (by decide) ?_
            refine E_aload_n (i := 0) dX12_feed_52 rfl rfl ?_
            refine E_gr dX12_feed_53 gf_X12_9_12 rfl (by assumption) (by assumption) ?_
            refine E_iconst (v := 4) dX12_feed_56 (by decide) ?_
            refine E_iaj 4 dX12_feed_57 (by assumption) rfl (by decide) (by rw [n3]; decide) ?_
            refine E_iadd dX12_feed_58 ?_
            refine E_lload_n (i := 1) dX12_feed_59 rfl rfl ?_
            refine E_bipush (v := 8) dX12_feed_60 (by decide) ?_
            refine E_iload dX12_feed_62 rfl ?_
            refine E_imul dX12_feed_64 ?_
            refine E_lshr dX12_feed_65 ?_
            refine E_ldc2 (v := 255) dX12_feed_66 w_1336 ?_
            refine E_land dX12_feed_69 ?_
            refine E_l2i dX12_feed_70 ?_
            rw [hb ()]
            refine E_isj (98 + t + i) dX12_feed_71 (by assumption) hix (by first | decide | omega) (by rw [n3]; omega) ?_
            refine E_aload_n (i := 0) dX12_feed_72 rfl rfl ?_
            refine E_gr dX12_feed_73 gf_X12_9_12 rfl (by assumption) (by assumption) ?_
            refine E_iconst (v := 4) dX12_feed_76 (by decide) ?_
            refine E_dup2 dX12_feed_77 rfl rfl ?_
            refine E_iaj 4 dX12_feed_78 (by assumption) rfl (by omega) (by rw [n3]; decide) ?_
            refine E_iconst (v := 1) dX12_feed_79 (by decide) ?_
            refine E_iadd dX12_feed_80 ?_
            refine E_isj 4 dX12_feed_81 (by assumption) rfl (by first | decide | omega) (by rw [n3]; decide) ?_
            refine E_incC (c := 1) dX12_feed_82 rfl (by decide) (by decide) rfl ?_
            refine E_lv (lv' := [_, _, _, _, _]) rfl ?_
            refine E_goto (tgt := 40) dX12_feed_85 (by decide) ?_
            refine ih (i + 1) _ _ (by omega) (by omega) (by rw [hz, nI_1]) (fun a ha => by rw [u2_oth _ ha, u2_oth _ ha]; exact q1 a ha) ?_ (fun j hj => ?_) (fun z z1 z2 => ?_)
            · rw [u2_s, e4, nI_1]
              rfl
            · rw [u2_o (fun q => by omega)]
              by_cases e : j = i
              · rw [e, u2_s]
              · rw [u2_o (fun q => by omega)]
                exact q3 j (by omega)
            · rw [u2_o (fun q => z1 q.2), u2_o (fun q => by omega)]
              exact q4 z z1 (by omega)
      refine E_iload_n (i := 3) dX12_feed_0 rfl rfl ?_
      refine E_iconst (v := 1) dX12_feed_1 (by decide) ?_
      refine E_bipush (v := 8) dX12_feed_2 (by decide) ?_
      refine k_X12_feed_4 (mc' := 0) (ms' := 0) (rc := 0) (rs := 0) (by omega) (Nat.le_of_ble_eq_true rfl) (c_X12_within ?_)
      rw [bz_t hc]
      refine E_if_ne (tgt := 17) dX12_feed_7 (by decide) (fun c_7 => ?_) (fun c_7 => absurd c_7 (by decide))
      refine E_aload_n (i := 0) dX12_feed_17 rfl rfl ?_
      refine E_gr dX12_feed_18 gf_X12_9_12 rfl (by assumption) (by assumption) ?_
      refine E_iconst (v := 4) dX12_feed_21 (by decide) ?_
      refine E_iaj 4 dX12_feed_22 (by assumption) rfl (by decide) (by rw [n3]; decide) ?_
      refine E_iload_n (i := 3) dX12_feed_23 rfl rfl ?_
      refine E_iadd dX12_feed_24 ?_
      refine E_bipush (v := 50) dX12_feed_25 (by decide) ?_
      rw [hsum]
      refine E_icmp_le (tgt := 37) dX12_feed_27 (by decide) (fun c_27 => ?_) (fun c_27 => absurd (nI_le (b := 50) hl (by omega)) c_27)
      refine E_iconst (v := 0) dX12_feed_37 (by decide) ?_
      refine E_istoreC dX12_feed_38 (by decide) rfl ?_
      refine E_lv (lv' := [_, _, _, _, _]) rfl ?_
      exact loop n 0 _ _ (by omega) (by omega) rfl (fun _ _ => rfl) ht (fun j hj => absurd hj (Nat.not_lt_zero _)) (fun _ _ _ => rfl)
    · have hΦ := h3 n hn hn1 hn8 (by omega)
      refine E_iload_n (i := 3) dX12_feed_0 rfl rfl ?_
      refine E_iconst (v := 1) dX12_feed_1 (by decide) ?_
      refine E_bipush (v := 8) dX12_feed_2 (by decide) ?_
      refine k_X12_feed_4 (mc' := 0) (ms' := 0) (rc := 0) (rs := 0) (by omega) (Nat.le_of_ble_eq_true rfl) (c_X12_within ?_)
      rw [bz_t hc]
      refine E_if_ne (tgt := 17) dX12_feed_7 (by decide) (fun c_7 => ?_) (fun c_7 => absurd c_7 (by decide))
      refine E_aload_n (i := 0) dX12_feed_17 rfl rfl ?_
      refine E_gr dX12_feed_18 gf_X12_9_12 rfl (by assumption) (by assumption) ?_
      refine E_iconst (v := 4) dX12_feed_21 (by decide) ?_
      refine E_iaj 4 dX12_feed_22 (by assumption) rfl (by decide) (by rw [n3]; decide) ?_
      refine E_iload_n (i := 3) dX12_feed_23 rfl rfl ?_
      refine E_iadd dX12_feed_24 ?_
      refine E_bipush (v := 50) dX12_feed_25 (by decide) ?_
      rw [hsum]
      refine E_icmp_le (tgt := 37) dX12_feed_27 (by decide) (fun c_27 => absurd c_27 (nI_ge (a := 50) (by omega) (by omega))) (fun c_27 => ?_)
      refine E_aload_n (i := 0) dX12_feed_30 rfl rfl ?_
      refine E_ldc (v := -1000000004) dX12_feed_31 w_1295 ?_
      refine k_X12_feed_33 (mc' := 0) (ms' := 0) (rc := 0) (rs := 0) (by omega) (Nat.le_of_ble_eq_true rfl) (by assumption) (c_find4 hM ?_)
      refine E_iret dX12_feed_36 rfl ?_
      exact hΦ
  · have hΦ := h2 hc
    refine E_iload_n (i := 3) dX12_feed_0 rfl rfl ?_
    refine E_iconst (v := 1) dX12_feed_1 (by decide) ?_
    refine E_bipush (v := 8) dX12_feed_2 (by decide) ?_
    refine k_X12_feed_4 (mc' := 0) (ms' := 0) (rc := 0) (rs := 0) (by omega) (Nat.le_of_ble_eq_true rfl) (c_X12_within ?_)
    rw [bz_f hc]
    refine E_if_ne (tgt := 17) dX12_feed_7 (by decide) (fun c_7 => absurd (rfl) c_7) (fun c_7 => ?_)
    refine E_aload_n (i := 0) dX12_feed_10 rfl rfl ?_
    refine E_ldc (v := -1000000001) dX12_feed_11 w_1208 ?_
    refine k_X12_feed_13 (mc' := 0) (ms' := 0) (rc := 0) (rs := 0) (by omega) (Nat.le_of_ble_eq_true rfl) (by assumption) (c_find1 hM ?_)
    refine E_iret dX12_feed_16 rfl ?_
    exact hΦ
abbrev okR (x y z : Int32) : Prop := (0 ≤ x ∧ x ≤ 6) ∧ (1 ≤ y ∧ y ≤ 300) ∧ (0 ≤ z ∧ z ≤ 99)
theorem c_X12_ride {x y z : Int32} {ε : List Int32} (hd : 4 ≤ d) (hM : Mo g P) (hk : I 110 1 = nI k) (hk8 : k ≤ 8) (hT : TC 1 ε (I 110)) (h1 : okR x y z → (Unit → ¬ gvl 1 ε y (I 110 14) (I 110 15) (I 110 0) = 0) → k < 8 → ∀ J, FM I J → J 110 1 = nI (k + 1) → J 110 (16 + 7 * k + 0) = x → J 110 (16 + 7 * k + 1) = y → J 110 (16 + 7 * k + 2) = z → (∀ f, 3 ≤ f → f < 7 → J 110 (16 + 7 * k + f) = 0) → (∀ w, w ≠ 1 → (w < 16 + 7 * k ∨ 16 + 7 * k + 7 ≤ w) → J 110 w = I 110 w) → Φ (some (.int (nI k))) g P J) (h2 : ¬ okR x y z → Φ (some (.int (er 1))) g P (flM I 1)) (h3 : okR x y z → (Unit → gvl 1 ε y (I 110 14) (I 110 15) (I 110 0) = 0) → ∀ J, (∀ a, a ≠ 118 → a ≠ 119 → J a = I a) → Φ (some (.int (er 3))) g P (flM J 3)) (h4 : okR x y z → (Unit → ¬ gvl 1 ε y (I 110 14) (I 110 15) (I 110 0) = 0) → k = 8 → ∀ J, (∀ a, a ≠ 118 → a ≠ 119 → J a = I a) → Φ (some (.int (er 4))) g P (flM J 4)) : MM Γ mX12_ride d 0 0 [.ref 109, .int x, .int y, .int z] g P I Φ := by
  refine MM_entry [some _, some _, some _, some _, none, none] (by decide) (Nat.le_of_ble_eq_true rfl) rfl ?_
  have h0 := hM.1
  obtain ⟨n1, n2, n3⟩ := hM.now
  by_cases hc : 0 ≤ x ∧ x ≤ 6
  · by_cases hc2 : 1 ≤ y ∧ y ≤ 300
    · by_cases hc3 : 0 ≤ z ∧ z ≤ 99
      · obtain ⟨v, hv⟩ := hid (gvl 1 ε y (I 110 14) (I 110 15) (I 110 0))
        rw [hv ()] at h1 h3 h4
        have h1 := h1 ⟨hc, hc2, hc3⟩
        have h3 := h3 ⟨hc, hc2, hc3⟩
        have h4 := h4 ⟨hc, hc2, hc3⟩
        by_cases hz : v = 0
        · have hΦ := h3 (fun _ => hz)
          refine E_iload_n (i := 1) dX12_ride_0 rfl rfl ?_
          refine E_iconst (v := 0) dX12_ride_1 (by decide) ?_
          refine E_bipush (v := 6) dX12_ride_2 (by decide) ?_
          refine k_X12_ride_4 (mc' := 0) (ms' := 0) (rc := 0) (rs := 0) (by omega) (Nat.le_of_ble_eq_true rfl) (c_X12_within ?_)
          rw [bz_t hc]
          refine E_if_eq (tgt := 31) dX12_ride_7 (by decide) (fun c_7 => absurd c_7 (by decide)) (fun c_7 => ?_)
          refine E_iload_n (i := 2) dX12_ride_10 rfl rfl ?_
          refine E_iconst (v := 1) dX12_ride_11 (by decide) ?_
          refine E_sipush (v := 300) dX12_ride_12 (by decide) ?_
          refine k_X12_ride_15 (mc' := 0) (ms' := 0) (rc := 0) (rs := 0) (by omega) (Nat.le_of_ble_eq_true rfl) (c_X12_within ?_)
          rw [bz_t hc2]
          refine E_if_eq (tgt := 31) dX12_ride_18 (by decide) (fun c_18 => absurd c_18 (by decide)) (fun c_18 => ?_)
          refine E_iload_n (i := 3) dX12_ride_21 rfl rfl ?_
          refine E_iconst (v := 0) dX12_ride_22 (by decide) ?_
          refine E_bipush (v := 99) dX12_ride_23 (by decide) ?_
          refine k_X12_ride_25 (mc' := 0) (ms' := 0) (rc := 0) (rs := 0) (by omega) (Nat.le_of_ble_eq_true rfl) (c_X12_within ?_)
          rw [bz_t hc3]
          refine E_if_ne (tgt := 38) dX12_ride_28 (by decide) (fun c_28 => ?_) (fun c_28 => absurd c_28 (by decide))
          refine E_aload_n (i := 0) dX12_ride_38 rfl rfl ?_
          refine E_iconst (v := 1) dX12_ride_39 (by decide) ?_
          refine E_iload_n (i := 2) dX12_ride_40 rfl rfl ?_
          refine E_aload_n (i := 0) dX12_ride_41 rfl rfl ?_
          refine E_gr dX12_ride_42 gf_X12_9_12 rfl (by assumption) (by assumption) ?_
          refine E_bipush (v := 14) dX12_ride_45 (by decide) ?_
          refine E_iaj 14 dX12_ride_47 (by assumption) rfl (by decide) (by rw [n3]; decide) ?_
          refine E_aload_n (i := 0) dX12_ride_48 rfl rfl ?_
          refine E_gr dX12_ride_49 gf_X12_9_12 rfl (by assumption) (by assumption) ?_
          refine E_bipush (v := 15) dX12_ride_52 (by decide) ?_
          refine E_iaj 15 dX12_ride_54 (by assumption) rfl (by decide) (by rw [n3]; decide) ?_
          refine E_aload_n (i := 0) dX12_ride_55 rfl rfl ?_
          refine E_gr dX12_ride_56 gf_X12_9_12 rfl (by assumption) (by assumption) ?_
          refine E_iconst (v := 0) dX12_ride_59 (by decide) ?_
          refine E_iaj 0 dX12_ride_60 (by assumption) rfl (by decide) (by rw [n3]; decide) ?_
          refine k_X12_ride_61 (mc' := 0) (ms' := 0) (rc := 0) (rs := 0) (by omega) (Nat.le_of_ble_eq_true rfl) (by assumption) (c_X12_given (u := 1) (by omega) hM (by decide) rfl hT (fun J hJ => ?_))
          rw [hv ()]
          refine E_if_ne (tgt := 74) dX12_ride_64 (by decide) (fun c_64 => absurd (hz) c_64) (fun c_64 => ?_)
          refine E_aload_n (i := 0) dX12_ride_67 rfl rfl ?_
          refine E_ldc (v := -1000000003) dX12_ride_68 w_1294 ?_
          refine k_X12_ride_70 (mc' := 0) (ms' := 0) (rc := 0) (rs := 0) (by omega) (Nat.le_of_ble_eq_true rfl) (by assumption) (c_find3 hM ?_)
          refine E_iret dX12_ride_73 rfl ?_
          exact hΦ J hJ
        · have h1 := h1 (fun _ => hz)
          have h4 := h4 (fun _ => hz)
          by_cases h8 : k = 8
          · have hΦ := h4 h8
            refine E_iload_n (i := 1) dX12_ride_0 rfl rfl ?_
            refine E_iconst (v := 0) dX12_ride_1 (by decide) ?_
            refine E_bipush (v := 6) dX12_ride_2 (by decide) ?_
            refine k_X12_ride_4 (mc' := 0) (ms' := 0) (rc := 0) (rs := 0) (by omega) (Nat.le_of_ble_eq_true rfl) (c_X12_within ?_)
            rw [bz_t hc]
            refine E_if_eq (tgt := 31) dX12_ride_7 (by decide) (fun c_7 => absurd c_7 (by decide)) (fun c_7 => ?_)
            refine E_iload_n (i := 2) dX12_ride_10 rfl rfl ?_
            refine E_iconst (v := 1) dX12_ride_11 (by decide) ?_
            refine E_sipush (v := 300) dX12_ride_12 (by decide) ?_
            refine k_X12_ride_15 (mc' := 0) (ms' := 0) (rc := 0) (rs := 0) (by omega) (Nat.le_of_ble_eq_true rfl) (c_X12_within ?_)
            rw [bz_t hc2]
            refine E_if_eq (tgt := 31) dX12_ride_18 (by decide) (fun c_18 => absurd c_18 (by decide)) (fun c_18 => ?_)
            refine E_iload_n (i := 3) dX12_ride_21 rfl rfl ?_
            refine E_iconst (v := 0) dX12_ride_22 (by decide) ?_
            refine E_bipush (v := 99) dX12_ride_23 (by decide) ?_
            refine k_X12_ride_25 (mc' := 0) (ms' := 0) (rc := 0) (rs := 0) (by omega) (Nat.le_of_ble_eq_true rfl) (c_X12_within ?_)
            rw [bz_t hc3]
            refine E_if_ne (tgt := 38) dX12_ride_28 (by decide) (fun c_28 => ?_) (fun c_28 => absurd c_28 (by decide))
            refine E_aload_n (i := 0) dX12_ride_38 rfl rfl ?_
            refine E_iconst (v := 1) dX12_ride_39 (by decide) ?_
            refine E_iload_n (i := 2) dX12_ride_40 rfl rfl ?_
            refine E_aload_n (i := 0) dX12_ride_41 rfl rfl ?_
            refine E_gr dX12_ride_42 gf_X12_9_12 rfl (by assumption) (by assumption) ?_
            refine E_bipush (v := 14) dX12_ride_45 (by decide) ?_
            refine E_iaj 14 dX12_ride_47 (by assumption) rfl (by decide) (by rw [n3]; decide) ?_
            refine E_aload_n (i := 0) dX12_ride_48 rfl rfl ?_
            refine E_gr dX12_ride_49 gf_X12_9_12 rfl (by assumption) (by assumption) ?_
            refine E_bipush (v := 15) dX12_ride_52 (by decide) ?_
            refine E_iaj 15 dX12_ride_54 (by assumption) rfl (by decide) (by rw [n3]; decide) ?_
            refine E_aload_n (i := 0) dX12_ride_55 rfl rfl ?_
            refine E_gr dX12_ride_56 gf_X12_9_12 rfl (by assumption) (by assumption) ?_
            refine E_iconst (v := 0) dX12_ride_59 (by decide) ?_
            refine E_iaj 0 dX12_ride_60 (by assumption) rfl (by decide) (by rw [n3]; decide) ?_
            refine k_X12_ride_61 (mc' := 0) (ms' := 0) (rc := 0) (rs := 0) (by omega) (Nat.le_of_ble_eq_true rfl) (by assumption) (c_X12_given (u := 1) (by omega) hM (by decide) rfl hT (fun J hJ => ?_))
            rw [hv ()]
            refine E_if_ne (tgt := 74) dX12_ride_64 (by decide) (fun c_64 => ?_) (fun c_64 => absurd c_64 (hz))
            refine E_aload_n (i := 0) dX12_ride_74 rfl rfl ?_
            refine E_gr dX12_ride_75 gf_X12_9_12 rfl (by assumption) (by assumption) ?_
            refine E_iconst (v := 1) dX12_ride_78 (by decide) ?_
            refine E_iaj 1 dX12_ride_79 (by assumption) rfl (by decide) (by rw [n3]; decide) ?_
            rw [hJ 110 (by decide) (by decide), hk]
            refine E_istoreC dX12_ride_80 (by decide) rfl ?_
            refine E_lv (lv' := [_, _, _, _, _, _]) rfl ?_
            refine E_iload dX12_ride_82 rfl ?_
            refine E_bipush (v := 8) dX12_ride_84 (by decide) ?_
            refine E_icmp_ne (tgt := 96) dX12_ride_86 (by decide) (fun c_86 => absurd (by rw [h8]; rfl) c_86) (fun c_86 => ?_)
            refine E_aload_n (i := 0) dX12_ride_89 rfl rfl ?_
            refine E_ldc (v := -1000000004) dX12_ride_90 w_1295 ?_
            refine k_X12_ride_92 (mc' := 0) (ms' := 0) (rc := 0) (rs := 0) (by omega) (Nat.le_of_ble_eq_true rfl) (by assumption) (c_find4 hM ?_)
            refine E_iret dX12_ride_95 rfl ?_
            exact hΦ J hJ
          · have hk7 : k < 8 := by omega
            have hh1 := h1 hk7
            clear h1 h2 h3 h4
            have loop : ∀ (N j : Nat) (u : Int32) (J : HI), 7 - j ≤ N → j ≤ 7 → u = nI j → FM I J → (∀ f, f < j → J 110 (16 + 7 * k + f) = 0) → (∀ w, (w < 16 + 7 * k ∨ 16 + 7 * k + 7 ≤ w) → J 110 w = I 110 w) → E Γ mX12_ride d 0 0 (QM Γ 0 0 Φ) 0 0 99 [some (.ref 109), some (.int x), some (.int y), some (.int z), some (.int (nI k)), some (.int u)] [] g P J := by
              intro N
              induction N with
              | zero =>
                intro j u J hN hj hu q1 q2 q3
                have hj7 : j = 7 := by omega
                subst hj7
                have e1 : J 110 1 = nI k := by rw [q3 1 (by omega)]; exact hk
                refine E_iload dX12_ride_99 rfl ?_
                refine E_bipush (v := 7) dX12_ride_101 (by decide) ?_
                refine E_icmp_ge (tgt := 121) dX12_ride_103 (by decide) (fun c_103 => ?_) (fun c_103 => absurd (by rw [hu]; decide) c_103)
                refine E_aload_n (i := 0) dX12_ride_121 rfl rfl ?_
                refine E_iload dX12_ride_122 rfl ?_
                refine E_iconst (v := 0) dX12_ride_124 (by decide) ?_
                refine E_iload_n (i := 1) dX12_ride_125 rfl rfl ?_
                refine k_X12_ride_126 (mc' := 0) (ms' := 0) (rc := 0) (rs := 0) (by omega) (Nat.le_of_ble_eq_true rfl) (by assumption) (c_X12_tells (f := 0) hM rfl rfl hk7 (by decide) ?_)
                refine E_aload_n (i := 0) dX12_ride_129 rfl rfl ?_
                refine E_iload dX12_ride_130 rfl ?_
                refine E_iconst (v := 1) dX12_ride_132 (by decide) ?_
                refine E_iload_n (i := 2) dX12_ride_133 rfl rfl ?_
                refine k_X12_ride_134 (mc' := 0) (ms' := 0) (rc := 0) (rs := 0) (by omega) (Nat.le_of_ble_eq_true rfl) (by assumption) (c_X12_tells (f := 1) hM rfl rfl hk7 (by decide) ?_)
                refine E_aload_n (i := 0) dX12_ride_137 rfl rfl ?_
                refine E_iload dX12_ride_138 rfl ?_
                refine E_iconst (v := 2) dX12_ride_140 (by decide) ?_
                refine E_iload_n (i := 3) dX12_ride_141 rfl rfl ?_
                refine k_X12_ride_142 (mc' := 0) (ms' := 0) (rc := 0) (rs := 0) (by omega) (Nat.le_of_ble_eq_true rfl) (by assumption) (c_X12_tells (f := 2) hM rfl rfl hk7 (by decide) ?_)
                refine E_aload_n (i := 0) dX12_ride_145 rfl rfl ?_
                refine E_gr dX12_ride_146 gf_X12_9_12 rfl (by assumption) (by assumption) ?_
                refine E_iconst (v := 1) dX12_ride_149 (by decide) ?_
                refine E_dup2 dX12_ride_150 rfl rfl ?_
                refine E_iaj 1 dX12_ride_151 (by assumption) rfl (by omega) (by rw [n3]; decide) ?_
                refine E_iconst (v := 1) dX12_ride_152 (by decide) ?_
                refine E_iadd dX12_ride_153 ?_
                refine E_isj 1 dX12_ride_154 (by assumption) rfl (by first | decide | omega) (by rw [n3]; decide) ?_
                rw [u2_o (b := 110) (j := 1) (fun q => by omega), u2_o (b := 110) (j := 1) (fun q => by omega), u2_o (b := 110) (j := 1) (fun q => by omega), e1, nI_1]
                refine E_iload dX12_ride_155 rfl ?_
                refine E_iret dX12_ride_157 rfl ?_
                refine hh1 _ (FM.u (FM.u (FM.u (FM.u q1)))) (u2_s _ _ _ _) ?_ ?_ ?_ (fun f f1 f2 => ?_) (fun w w1 w2 => ?_)
                · rw [u2_o (fun q => by omega), u2_o (fun q => by omega), u2_o (fun q => by omega), u2_s]
                · rw [u2_o (fun q => by omega), u2_o (fun q => by omega), u2_s]
                · rw [u2_o (fun q => by omega), u2_s]
                · rw [u2_o (fun q => by omega), u2_o (fun q => by omega), u2_o (fun q => by omega), u2_o (fun q => by omega)]
                  exact q2 f f2
                · rw [u2_o (fun q => w1 q.2), u2_o (fun q => by omega), u2_o (fun q => by omega), u2_o (fun q => by omega)]
                  exact q3 w w2
              | succ N ih =>
                intro j u J hN hj hu q1 q2 q3
                by_cases hj7 : j = 7
                · subst hj7
                  have e1 : J 110 1 = nI k := by rw [q3 1 (by omega)]; exact hk
                  refine E_iload dX12_ride_99 rfl ?_
                  refine E_bipush (v := 7) dX12_ride_101 (by decide) ?_
                  refine E_icmp_ge (tgt := 121) dX12_ride_103 (by decide) (fun c_103 => ?_) (fun c_103 => absurd (by rw [hu]; decide) c_103)
                  refine E_aload_n (i := 0) dX12_ride_121 rfl rfl ?_
                  refine E_iload dX12_ride_122 rfl ?_
                  refine E_iconst (v := 0) dX12_ride_124 (by decide) ?_
                  refine E_iload_n (i := 1) dX12_ride_125 rfl rfl ?_
                  refine k_X12_ride_126 (mc' := 0) (ms' := 0) (rc := 0) (rs := 0) (by omega) (Nat.le_of_ble_eq_true rfl) (by assumption) (c_X12_tells (f := 0) hM rfl rfl hk7 (by decide) ?_)
                  refine E_aload_n (i := 0) dX12_ride_129 rfl rfl ?_
                  refine E_iload dX12_ride_130 rfl ?_
                  refine E_iconst (v := 1) dX12_ride_132 (by decide) ?_
                  refine E_iload_n (i := 2) dX12_ride_133 rfl rfl ?_
                  refine k_X12_ride_134 (mc' := 0) (ms' := 0) (rc := 0) (rs := 0) (by omega) (Nat.le_of_ble_eq_true rfl) (by assumption) (c_X12_tells (f := 1) hM rfl rfl hk7 (by decide) ?_)
                  refine E_aload_n (i := 0) dX12_ride_137 rfl rfl ?_
                  refine E_iload dX12_ride_138 rfl ?_
                  refine E_iconst (v := 2) dX12_ride_140 (by decide) ?_
                  refine E_iload_n (i := 3) dX12_ride_141 rfl rfl ?_
                  refine k_X12_ride_142 (mc' := 0) (ms' := 0) (rc := 0) (rs := 0) (by omega) (Nat.le_of_ble_eq_true rfl) (by assumption) (c_X12_tells (f := 2) hM rfl rfl hk7 (by decide) ?_)
                  refine E_aload_n (i := 0) dX12_ride_145 rfl rfl ?_
                  refine E_gr dX12_ride_146 gf_X12_9_12 rfl (by assumption) (by assumption) ?_
                  refine E_iconst (v := 1) dX12_ride_149 (by decide) ?_
                  refine E_dup2 dX12_ride_150 rfl rfl ?_
                  refine E_iaj 1 dX12_ride_151 (by assumption) rfl (by omega) (by rw [n3]; decide) ?_
                  refine E_iconst (v := 1) dX12_ride_152 (by decide) ?_
                  refine E_iadd dX12_ride_153 ?_
                  refine E_isj 1 dX12_ride_154 (by assumption) rfl (by first | decide | omega) (by rw [n3]; decide) ?_
                  rw [u2_o (b := 110) (j := 1) (fun q => by omega), u2_o (b := 110) (j := 1) (fun q => by omega), u2_o (b := 110) (j := 1) (fun q => by omega), e1, nI_1]
                  refine E_iload dX12_ride_155 rfl ?_
                  refine E_iret dX12_ride_157 rfl ?_
                  refine hh1 _ (FM.u (FM.u (FM.u (FM.u q1)))) (u2_s _ _ _ _) ?_ ?_ ?_ (fun f f1 f2 => ?_) (fun w w1 w2 => ?_)
                  · rw [u2_o (fun q => by omega), u2_o (fun q => by omega), u2_o (fun q => by omega), u2_s]
                  · rw [u2_o (fun q => by omega), u2_o (fun q => by omega), u2_s]
                  · rw [u2_o (fun q => by omega), u2_s]
                  · rw [u2_o (fun q => by omega), u2_o (fun q => by omega), u2_o (fun q => by omega), u2_o (fun q => by omega)]
                    exact q2 f f2
                  · rw [u2_o (fun q => w1 q.2), u2_o (fun q => by omega), u2_o (fun q => by omega), u2_o (fun q => by omega)]
                    exact q3 w w2
                · refine E_iload dX12_ride_99 rfl ?_
                  refine E_bipush (v := 7) dX12_ride_101 (by decide) ?_
                  refine E_icmp_ge (tgt := 121) dX12_ride_103 (by decide) (fun c_103 => absurd c_103 (by rw [hu]; exact nI_ge (b := 7) (by omega) (by omega))) (fun c_103 => ?_)
                  refine E_aload_n (i := 0) dX12_ride_106 rfl rfl ?_
                  refine E_iload dX12_ride_107 rfl ?_
                  refine E_iload dX12_ride_109 rfl ?_
                  refine E_iconst (v := 0) dX12_ride_111 (by decide) ?_
                  refine k_X12_ride_112 (mc' := 0) (ms' := 0) (rc := 0) (rs := 0) (by omega) (Nat.le_of_ble_eq_true rfl) (by assumption) (c_X12_tells (f := j) hM rfl hu hk7 (by omega) ?_)
                  refine E_incC (c := 1) dX12_ride_115 rfl (by decide) (by decide) rfl ?_
                  refine E_lv (lv' := [_, _, _, _, _, _]) rfl ?_
                  refine E_goto (tgt := 99) dX12_ride_118 (by decide) ?_
                  refine ih (j + 1) _ _ (by omega) (by omega) (by rw [hu, nI_1]) (FM.u q1) (fun f hf => ?_) (fun w hw => by rw [u2_o (fun q => by omega)]; exact q3 w hw)
                  by_cases e : f = j
                  · rw [e, u2_s]
                  · rw [u2_o (fun q => by omega)]
                    exact q2 f (by omega)
            refine E_iload_n (i := 1) dX12_ride_0 rfl rfl ?_
            refine E_iconst (v := 0) dX12_ride_1 (by decide) ?_
            refine E_bipush (v := 6) dX12_ride_2 (by decide) ?_
            refine k_X12_ride_4 (mc' := 0) (ms' := 0) (rc := 0) (rs := 0) (by omega) (Nat.le_of_ble_eq_true rfl) (c_X12_within ?_)
            rw [bz_t hc]
            refine E_if_eq (tgt := 31) dX12_ride_7 (by decide) (fun c_7 => absurd c_7 (by decide)) (fun c_7 => ?_)
            refine E_iload_n (i := 2) dX12_ride_10 rfl rfl ?_
            refine E_iconst (v := 1) dX12_ride_11 (by decide) ?_
            refine E_sipush (v := 300) dX12_ride_12 (by decide) ?_
            refine k_X12_ride_15 (mc' := 0) (ms' := 0) (rc := 0) (rs := 0) (by omega) (Nat.le_of_ble_eq_true rfl) (c_X12_within ?_)
            rw [bz_t hc2]
            refine E_if_eq (tgt := 31) dX12_ride_18 (by decide) (fun c_18 => absurd c_18 (by decide)) (fun c_18 => ?_)
            refine E_iload_n (i := 3) dX12_ride_21 rfl rfl ?_
            refine E_iconst (v := 0) dX12_ride_22 (by decide) ?_
            refine E_bipush (v := 99) dX12_ride_23 (by decide) ?_
            refine k_X12_ride_25 (mc' := 0) (ms' := 0) (rc := 0) (rs := 0) (by omega) (Nat.le_of_ble_eq_true rfl) (c_X12_within ?_)
            rw [bz_t hc3]
            refine E_if_ne (tgt := 38) dX12_ride_28 (by decide) (fun c_28 => ?_) (fun c_28 => absurd c_28 (by decide))
            refine E_aload_n (i := 0) dX12_ride_38 rfl rfl ?_
            refine E_iconst (v := 1) dX12_ride_39 (by decide) ?_
            refine E_iload_n (i := 2) dX12_ride_40 rfl rfl ?_
            refine E_aload_n (i := 0) dX12_ride_41 rfl rfl ?_
            refine E_gr dX12_ride_42 gf_X12_9_12 rfl (by assumption) (by assumption) ?_
            refine E_bipush (v := 14) dX12_ride_45 (by decide) ?_
            refine E_iaj 14 dX12_ride_47 (by assumption) rfl (by decide) (by rw [n3]; decide) ?_
            refine E_aload_n (i := 0) dX12_ride_48 rfl rfl ?_
            refine E_gr dX12_ride_49 gf_X12_9_12 rfl (by assumption) (by assumption) ?_
            refine E_bipush (v := 15) dX12_ride_52 (by decide) ?_
            refine E_iaj 15 dX12_ride_54 (by assumption) rfl (by decide) (by rw [n3]; decide) ?_
            refine E_aload_n (i := 0) dX12_ride_55 rfl rfl ?_
            refine E_gr dX12_ride_56 gf_X12_9_12 rfl (by assumption) (by assumption) ?_
            refine E_iconst (v := 0) dX12_ride_59 (by decide) ?_
            refine E_iaj 0 dX12_ride_60 (by assumption) rfl (by decide) (by rw [n3]; decide) ?_
            refine k_X12_ride_61 (mc' := 0) (ms' := 0) (rc := 0) (rs := 0) (by omega) (Nat.le_of_ble_eq_true rfl) (by assumption) (c_X12_given (u := 1) (by omega) hM (by decide) rfl hT (fun J hJ => ?_))
            rw [hv ()]
            refine E_if_ne (tgt := 74) dX12_ride_64 (by decide) (fun c_64 => ?_) (fun c_64 => absurd c_64 (hz))
            refine E_aload_n (i := 0) dX12_ride_74 rfl rfl ?_
            refine E_gr dX12_ride_75 gf_X12_9_12 rfl (by assumption) (by assumption) ?_
            refine E_iconst (v := 1) dX12_ride_78 (by decide) ?_
            refine E_iaj 1 dX12_ride_79 (by assumption) rfl (by decide) (by rw [n3]; decide) ?_
            rw [hJ 110 (by decide) (by decide), hk]
            refine E_istoreC dX12_ride_80 (by decide) rfl ?_
            refine E_lv (lv' := [_, _, _, _, _, _]) rfl ?_
            refine E_iload dX12_ride_82 rfl ?_
            refine E_bipush (v := 8) dX12_ride_84 (by decide) ?_
            refine E_icmp_ne (tgt := 96) dX12_ride_86 (by decide) (fun c_86 => ?_) (fun c_86 => absurd c_86 (nI_ne (a := k) (b := 8) (by omega) (by omega) h8))
            refine E_iconst (v := 0) dX12_ride_96 (by decide) ?_
            refine E_istoreC dX12_ride_97 (by decide) rfl ?_
            refine E_lv (lv' := [_, _, _, _, _, _]) rfl ?_
            exact loop 7 0 _ _ (by omega) (by omega) rfl (fun a a1 a2 a3 => hJ a a2 a3) (fun f hf => absurd hf (Nat.not_lt_zero _)) (fun w hw => by rw [hJ 110 (by decide) (by decide)])
      · have hΦ := h2 (fun h => hc3 h.2.2)
        refine E_iload_n (i := 1) dX12_ride_0 rfl rfl ?_
        refine E_iconst (v := 0) dX12_ride_1 (by decide) ?_
        refine E_bipush (v := 6) dX12_ride_2 (by decide) ?_
        refine k_X12_ride_4 (mc' := 0) (ms' := 0) (rc := 0) (rs := 0) (by omega) (Nat.le_of_ble_eq_true rfl) (c_X12_within ?_)
        rw [bz_t hc]
        refine E_if_eq (tgt := 31) dX12_ride_7 (by decide) (fun c_7 => absurd c_7 (by decide)) (fun c_7 => ?_)
        refine E_iload_n (i := 2) dX12_ride_10 rfl rfl ?_
        refine E_iconst (v := 1) dX12_ride_11 (by decide) ?_
        refine E_sipush (v := 300) dX12_ride_12 (by decide) ?_
        refine k_X12_ride_15 (mc' := 0) (ms' := 0) (rc := 0) (rs := 0) (by omega) (Nat.le_of_ble_eq_true rfl) (c_X12_within ?_)
        rw [bz_t hc2]
        refine E_if_eq (tgt := 31) dX12_ride_18 (by decide) (fun c_18 => absurd c_18 (by decide)) (fun c_18 => ?_)
        refine E_iload_n (i := 3) dX12_ride_21 rfl rfl ?_
        refine E_iconst (v := 0) dX12_ride_22 (by decide) ?_
        refine E_bipush (v := 99) dX12_ride_23 (by decide) ?_
        refine k_X12_ride_25 (mc' := 0) (ms' := 0) (rc := 0) (rs := 0) (by omega) (Nat.le_of_ble_eq_true rfl) (c_X12_within ?_)
        rw [bz_f hc3]
        refine E_if_ne (tgt := 38) dX12_ride_28 (by decide) (fun c_28 => absurd (rfl) c_28) (fun c_28 => ?_)
        refine E_aload_n (i := 0) dX12_ride_31 rfl rfl ?_
        refine E_ldc (v := -1000000001) dX12_ride_32 w_1208 ?_
        refine k_X12_ride_34 (mc' := 0) (ms' := 0) (rc := 0) (rs := 0) (by omega) (Nat.le_of_ble_eq_true rfl) (by assumption) (c_find1 hM ?_)
        refine E_iret dX12_ride_37 rfl ?_
        exact hΦ
    · have hΦ := h2 (fun h => hc2 h.2.1)
      refine E_iload_n (i := 1) dX12_ride_0 rfl rfl ?_
      refine E_iconst (v := 0) dX12_ride_1 (by decide) ?_
      refine E_bipush (v := 6) dX12_ride_2 (by decide) ?_
      refine k_X12_ride_4 (mc' := 0) (ms' := 0) (rc := 0) (rs := 0) (by omega) (Nat.le_of_ble_eq_true rfl) (c_X12_within ?_)
      rw [bz_t hc]
      refine E_if_eq (tgt := 31) dX12_ride_7 (by decide) (fun c_7 => absurd c_7 (by decide)) (fun c_7 => ?_)
      refine E_iload_n (i := 2) dX12_ride_10 rfl rfl ?_
      refine E_iconst (v := 1) dX12_ride_11 (by decide) ?_
      refine E_sipush (v := 300) dX12_ride_12 (by decide) ?_
      refine k_X12_ride_15 (mc' := 0) (ms' := 0) (rc := 0) (rs := 0) (by omega) (Nat.le_of_ble_eq_true rfl) (c_X12_within ?_)
      rw [bz_f hc2]
      refine E_if_eq (tgt := 31) dX12_ride_18 (by decide) (fun c_18 => ?_) (fun c_18 => absurd (rfl) c_18)
      refine E_aload_n (i := 0) dX12_ride_31 rfl rfl ?_
      refine E_ldc (v := -1000000001) dX12_ride_32 w_1208 ?_
      refine k_X12_ride_34 (mc' := 0) (ms' := 0) (rc := 0) (rs := 0) (by omega) (Nat.le_of_ble_eq_true rfl) (by assumption) (c_find1 hM ?_)
      refine E_iret dX12_ride_37 rfl ?_
      exact hΦ
  · have hΦ := h2 (fun h => hc h.1)
    refine E_iload_n (i := 1) dX12_ride_0 rfl rfl ?_
    refine E_iconst (v := 0) dX12_ride_1 (by decide) ?_
    refine E_bipush (v := 6) dX12_ride_2 (by decide) ?_
    refine k_X12_ride_4 (mc' := 0) (ms' := 0) (rc := 0) (rs := 0) (by omega) (Nat.le_of_ble_eq_true rfl) (c_X12_within ?_)
    rw [bz_f hc]
    refine E_if_eq (tgt := 31) dX12_ride_7 (by decide) (fun c_7 => ?_) (fun c_7 => absurd (rfl) c_7)
    refine E_aload_n (i := 0) dX12_ride_31 rfl rfl ?_
    refine E_ldc (v := -1000000001) dX12_ride_32 w_1208 ?_
    refine k_X12_ride_34 (mc' := 0) (ms' := 0) (rc := 0) (rs := 0) (by omega) (Nat.le_of_ble_eq_true rfl) (by assumption) (c_find1 hM ?_)
    refine E_iret dX12_ride_37 rfl ?_
    exact hΦ
end
