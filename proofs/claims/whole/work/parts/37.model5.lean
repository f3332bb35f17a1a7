/-! count, rides told, kinds, lines from a sheet, the wire's change: both -/
/-- how many of the first k rides of the row are not in -/
def czM (M : Nat → Int32) : Nat → Nat
  | 0 => 0
  | k + 1 => czM M k + (if M (16 + 7 * k + 5) = 1 then 0 else 1)
section
variable {Γ : GE} {d : Nat} {g : Sh} {P : HP} {I : HI} {Φ : Option Value → Sh → HP → HI → Prop}

def cntM (I : HI) (k : Nat) (x : Int32) : Option Int32 := if x = 0 then some (I 110 0) else if x = 1 then some (I 110 1) else if x = 2 then some (nI (czM (I 110) k)) else if x = 3 then some (I 110 2) else if x = 4 then some (I 110 3) else if x = 5 then some (I 110 4) else if x = 6 then some (I 110 5) else if x = 7 then some (I 109 21) else if x = 8 then some (I 110 6) else none
theorem c_X12_count {x : Int32} {k : Nat} (hd : 2 ≤ d) (hM : Mo g P) (hk : I 110 1 = nI k) (hk8 : k ≤ 8) (h1 : ∀ v, cntM I k x = some v → Φ (some (.int v)) g P I) (h2 : cntM I k x = none → Φ (some (.int (er 1))) g P (flM I 1)) : MM Γ mX12_count d 0 0 [.ref 109, .int x] g P I Φ := by
  refine MM_entry [some _, some _, none, none] (by decide) (Nat.le_of_ble_eq_true rfl) rfl ?_
  obtain ⟨n1, n2, n3⟩ := hM.now
  have h0 := hM.1
  unfold cntM at h1 h2
  by_cases q0 : x = 0
  · subst q0
    have hΦ := h1 _ rfl
    refine E_iconst (v := 0) dX12_count_0 (by decide) ?_
    refine E_istore_nC (i := 2) dX12_count_1 rfl (by decide) rfl ?_
    refine E_lv (lv' := [_, _, _, _]) rfl ?_
    refine E_iload_n (i := 1) dX12_count_2 rfl rfl ?_
    refine E_tswIn (tgt := 52) dX12_count_3 (by decide) (by decide) rfl (by decide) ?_
    refine E_aload_n (i := 0) dX12_count_52 rfl rfl ?_
    refine E_gr dX12_count_53 gf_X12_9_12 rfl (by assumption) (by assumption) ?_
    refine E_iload_n (i := 1) dX12_count_56 rfl rfl ?_
    refine E_iaj 0 dX12_count_57 (by assumption) rfl (by decide) (by rw [n3]; decide) ?_
    refine E_iret dX12_count_58 rfl ?_
    exact hΦ
  by_cases q1 : x = 1
  · subst q1
    have hΦ := h1 _ rfl
    refine E_iconst (v := 0) dX12_count_0 (by decide) ?_
    refine E_istore_nC (i := 2) dX12_count_1 rfl (by decide) rfl ?_
    refine E_lv (lv' := [_, _, _, _]) rfl ?_
    refine E_iload_n (i := 1) dX12_count_2 rfl rfl ?_
    refine E_tswIn (tgt := 52) dX12_count_3 (by decide) (by decide) rfl (by decide) ?_
    refine E_aload_n (i := 0) dX12_count_52 rfl rfl ?_
    refine E_gr dX12_count_53 gf_X12_9_12 rfl (by assumption) (by assumption) ?_
    refine E_iload_n (i := 1) dX12_count_56 rfl rfl ?_
    refine E_iaj 1 dX12_count_57 (by assumption) rfl (by decide) (by rw [n3]; decide) ?_
    refine E_iret dX12_count_58 rfl ?_
    exact hΦ
  by_cases q2 : x = 2
  · subst q2
    have hΦ := h1 _ rfl
    have loop : ∀ (N j : Nat) (y z : Int32), k - j ≤ N → j ≤ k → y = nI j → z = nI (czM (I 110) j) → E Γ mX12_count d 0 0 (QM Γ 0 0 Φ) 0 0 61 [some (.ref 109), some (.int 2), some (.int z), some (.int y)] [] g P I := by
      intro N
      induction N with
      | zero =>
        intro j y z hN hj hy hz
        have : j = k := by omega
        subst this
        refine E_iload_n (i := 3) dX12_count_61 rfl rfl ?_
        refine E_aload_n (i := 0) dX12_count_62 rfl rfl ?_
        refine E_gr dX12_count_63 gf_X12_9_12 rfl (by assumption) (by assumption) ?_
        refine E_iconst (v := 1) dX12_count_66 (by decide) ?_
        refine E_iaj 1 dX12_count_67 (by assumption) rfl (by decide) (by rw [n3]; decide) ?_
        refine E_icmp_ge (tgt := 93) dX12_count_68 (by decide) (fun c_68 => ?_) (fun c_68 => absurd (by rw [hk, hy]; exact Int32.le_refl _) c_68)
        refine E_iload_n (i := 2) dX12_count_93 rfl rfl ?_
        refine E_iret dX12_count_94 rfl ?_
        rw [hz]
        exact hΦ
      | succ N ih =>
        intro j y z hN hj hy hz
        by_cases hjk : j = k
        · subst hjk
          refine E_iload_n (i := 3) dX12_count_61 rfl rfl ?_
          refine E_aload_n (i := 0) dX12_count_62 rfl rfl ?_
          refine E_gr dX12_count_63 gf_X12_9_12 rfl (by assumption) (by assumption) ?_
          refine E_iconst (v := 1) dX12_count_66 (by decide) ?_
          refine E_iaj 1 dX12_count_67 (by assumption) rfl (by decide) (by rw [n3]; decide) ?_
          refine E_icmp_ge (tgt := 93) dX12_count_68 (by decide) (fun c_68 => ?_) (fun c_68 => absurd (by rw [hk, hy]; exact Int32.le_refl _) c_68)
          refine E_iload_n (i := 2) dX12_count_93 rfl rfl ?_
          refine E_iret dX12_count_94 rfl ?_
          rw [hz]
          exact hΦ
        · by_cases hin : I 110 (16 + 7 * j + 5) = 1
          · refine E_iload_n (i := 3) dX12_count_61 rfl rfl ?_
            refine E_aload_n (i := 0) dX12_count_62 rfl rfl ?_
            refine E_gr dX12_count_63 gf_X12_9_12 rfl (by assumption) (by assumption) ?_
            refine E_iconst (v := 1) dX12_count_66 (by decide) ?_
            refine E_iaj 1 dX12_count_67 (by assumption) rfl (by decide) (by rw [n3]; decide) ?_
            refine E_icmp_ge (tgt := 93) dX12_count_68 (by decide) (fun c_68 => absurd c_68 (by rw [hk, hy]; exact nI_ge (by omega) (by omega))) (fun c_68 => ?_)
            refine E_iload_n (i := 2) dX12_count_71 rfl rfl ?_
            refine E_aload_n (i := 0) dX12_count_72 rfl rfl ?_
            refine E_iload_n (i := 3) dX12_count_73 rfl rfl ?_
            refine k_X12_count_74 (mc' := 0) (ms' := 0) (rc := 0) (rs := 0) (by omega) (Nat.le_of_ble_eq_true rfl) (by assumption) (c_X12_isIn (by omega) hM hy (by omega) ?_)
            rw [bz_t hin]
            refine E_if_eq (tgt := 84) dX12_count_77 (by decide) (fun c_77 => absurd c_77 (by decide)) (fun c_77 => ?_)
            refine E_iconst (v := 0) dX12_count_80 (by decide) ?_
            refine E_goto (tgt := 85) dX12_count_81 (by decide) ?_
            refine E_iadd dX12_count_85 ?_
            refine E_istore_nC (i := 2) dX12_count_86 rfl (by decide) rfl ?_
            refine E_lv (lv' := [_, _, _, _]) rfl ?_
            refine E_incC (c := 1) dX12_count_87 rfl (by decide) (by decide) rfl ?_
            refine E_lv (lv' := [_, _, _, _]) rfl ?_
            refine E_goto (tgt := 61) dX12_count_90 (by decide) ?_
            refine ih (j + 1) _ _ (by omega) (by omega) (by rw [hy, nI_1]) ?_
            unfold czM
            rw [hz, if_pos hin]
            exact nI_add _ 0
          · refine E_iload_n (i := 3) dX12_count_61 rfl rfl ?_
            refine E_aload_n (i := 0) dX12_count_62 rfl rfl ?_
            refine E_gr dX12_count_63 gf_X12_9_12 rfl (by assumption) (by assumption) ?_
            refine E_iconst (v := 1) dX12_count_66 (by decide) ?_
            refine E_iaj 1 dX12_count_67 (by assumption) rfl (by decide) (by rw [n3]; decide) ?_
            refine E_icmp_ge (tgt := 93) dX12_count_68 (by decide) (fun c_68 => absurd c_68 (by rw [hk, hy]; exact nI_ge (by omega) (by omega))) (fun c_68 => ?_)
            refine E_iload_n (i := 2) dX12_count_71 rfl rfl ?_
            refine E_aload_n (i := 0) dX12_count_72 rfl rfl ?_
            refine E_iload_n (i := 3) dX12_count_73 rfl rfl ?_
            refine k_X12_count_74 (mc' := 0) (ms' := 0) (rc := 0) (rs := 0) (by omega) (Nat.le_of_ble_eq_true rfl) (by assumption) (c_X12_isIn (by omega) hM hy (by omega) ?_)
            rw [bz_f hin]
            refine E_if_eq (tgt := 84) dX12_count_77 (by decide) (fun c_77 => ?_) (fun c_77 => absurd (rfl) c_77)
            refine E_iconst (v := 1) dX12_count_84 (by decide) ?_
            refine E_iadd dX12_count_85 ?_
            refine E_istore_nC (i := 2) dX12_count_86 rfl (by decide) rfl ?_
            refine E_lv (lv' := [_, _, _, _]) rfl ?_
            refine E_incC (c := 1) dX12_count_87 rfl (by decide) (by decide) rfl ?_
            refine E_lv (lv' := [_, _, _, _]) rfl ?_
            refine E_goto (tgt := 61) dX12_count_90 (by decide) ?_
            refine ih (j + 1) _ _ (by omega) (by omega) (by rw [hy, nI_1]) ?_
            unfold czM
            rw [hz, if_neg hin, nI_1]
    refine E_iconst (v := 0) dX12_count_0 (by decide) ?_
    refine E_istore_nC (i := 2) dX12_count_1 rfl (by decide) rfl ?_
    refine E_lv (lv' := [_, _, _, _]) rfl ?_
    refine E_iload_n (i := 1) dX12_count_2 rfl rfl ?_
    refine E_tswIn (tgt := 59) dX12_count_3 (by decide) (by decide) rfl (by decide) ?_
    refine E_iconst (v := 0) dX12_count_59 (by decide) ?_
    refine E_istore_nC (i := 3) dX12_count_60 rfl (by decide) rfl ?_
    refine E_lv (lv' := [_, _, _, _]) rfl ?_
    exact loop k 0 _ _ (by omega) (by omega) rfl rfl
  by_cases q3 : x = 3
  · subst q3
    have hΦ := h1 _ rfl
    refine E_iconst (v := 0) dX12_count_0 (by decide) ?_
    refine E_istore_nC (i := 2) dX12_count_1 rfl (by decide) rfl ?_
    refine E_lv (lv' := [_, _, _, _]) rfl ?_
    refine E_iload_n (i := 1) dX12_count_2 rfl rfl ?_
    refine E_tswIn (tgt := 95) dX12_count_3 (by decide) (by decide) rfl (by decide) ?_
    refine E_aload_n (i := 0) dX12_count_95 rfl rfl ?_
    refine E_gr dX12_count_96 gf_X12_9_12 rfl (by assumption) (by assumption) ?_
    refine E_iload_n (i := 1) dX12_count_99 rfl rfl ?_
    refine E_iconst (v := 1) dX12_count_100 (by decide) ?_
    refine E_isub dX12_count_101 ?_
    refine E_iaj 2 dX12_count_102 (by assumption) rfl (by decide) (by rw [n3]; decide) ?_
    refine E_iret dX12_count_103 rfl ?_
    exact hΦ
  by_cases q4 : x = 4
  · subst q4
    have hΦ := h1 _ rfl
    refine E_iconst (v := 0) dX12_count_0 (by decide) ?_
    refine E_istore_nC (i := 2) dX12_count_1 rfl (by decide) rfl ?_
    refine E_lv (lv' := [_, _, _, _]) rfl ?_
    refine E_iload_n (i := 1) dX12_count_2 rfl rfl ?_
    refine E_tswIn (tgt := 95) dX12_count_3 (by decide) (by decide) rfl (by decide) ?_
    refine E_aload_n (i := 0) dX12_count_95 rfl rfl ?_
    refine E_gr dX12_count_96 gf_X12_9_12 rfl (by assumption) (by assumption) ?_
    refine E_iload_n (i := 1) dX12_count_99 rfl rfl ?_
    refine E_iconst (v := 1) dX12_count_100 (by decide) ?_
    refine E_isub dX12_count_101 ?_
    refine E_iaj 3 dX12_count_102 (by assumption) rfl (by decide) (by rw [n3]; decide) ?_
    refine E_iret dX12_count_103 rfl ?_
    exact hΦ
  by_cases q5 : x = 5
  · subst q5
    have hΦ := h1 _ rfl
    refine E_iconst (v := 0) dX12_count_0 (by decide) ?_
    refine E_istore_nC (i := 2) dX12_count_1 rfl (by decide) rfl ?_
    refine E_lv (lv' := [_, _, _, _]) rfl ?_
    refine E_iload_n (i := 1) dX12_count_2 rfl rfl ?_
    refine E_tswIn (tgt := 95) dX12_count_3 (by decide) (by decide) rfl (by decide) ?_
    refine E_aload_n (i := 0) dX12_count_95 rfl rfl ?_
    refine E_gr dX12_count_96 gf_X12_9_12 rfl (by assumption) (by assumption) ?_
    refine E_iload_n (i := 1) dX12_count_99 rfl rfl ?_
    refine E_iconst (v := 1) dX12_count_100 (by decide) ?_
    refine E_isub dX12_count_101 ?_
    refine E_iaj 4 dX12_count_102 (by assumption) rfl (by decide) (by rw [n3]; decide) ?_
    refine E_iret dX12_count_103 rfl ?_
    exact hΦ
  by_cases q6 : x = 6
  · subst q6
    have hΦ := h1 _ rfl
    refine E_iconst (v := 0) dX12_count_0 (by decide) ?_
    refine E_istore_nC (i := 2) dX12_count_1 rfl (by decide) rfl ?_
    refine E_lv (lv' := [_, _, _, _]) rfl ?_
    refine E_iload_n (i := 1) dX12_count_2 rfl rfl ?_
    refine E_tswIn (tgt := 95) dX12_count_3 (by decide) (by decide) rfl (by decide) ?_
    refine E_aload_n (i := 0) dX12_count_95 rfl rfl ?_
    refine E_gr dX12_count_96 gf_X12_9_12 rfl (by assumption) (by assumption) ?_
    refine E_iload_n (i := 1) dX12_count_99 rfl rfl ?_
    refine E_iconst (v := 1) dX12_count_100 (by decide) ?_
    refine E_isub dX12_count_101 ?_
    refine E_iaj 5 dX12_count_102 (by assumption) rfl (by decide) (by rw [n3]; decide) ?_
    refine E_iret dX12_count_103 rfl ?_
    exact hΦ
  by_cases q7 : x = 7
  · subst q7
    have hΦ := h1 _ rfl
    refine E_iconst (v := 0) dX12_count_0 (by decide) ?_
    refine E_istore_nC (i := 2) dX12_count_1 rfl (by decide) rfl ?_
    refine E_lv (lv' := [_, _, _, _]) rfl ?_
    refine E_iload_n (i := 1) dX12_count_2 rfl rfl ?_
    refine E_tswIn (tgt := 104) dX12_count_3 (by decide) (by decide) rfl (by decide) ?_
    refine E_aload_n (i := 0) dX12_count_104 rfl rfl ?_
    refine E_gi dX12_count_105 gf_X12_282_12 rfl (by assumption) ?_
    refine E_iret dX12_count_108 rfl ?_
    exact hΦ
  by_cases q8 : x = 8
  · subst q8
    have hΦ := h1 _ rfl
    refine E_iconst (v := 0) dX12_count_0 (by decide) ?_
    refine E_istore_nC (i := 2) dX12_count_1 rfl (by decide) rfl ?_
    refine E_lv (lv' := [_, _, _, _]) rfl ?_
    refine E_iload_n (i := 1) dX12_count_2 rfl rfl ?_
    refine E_tswIn (tgt := 109) dX12_count_3 (by decide) (by decide) rfl (by decide) ?_
    refine E_aload_n (i := 0) dX12_count_109 rfl rfl ?_
    refine E_gr dX12_count_110 gf_X12_9_12 rfl (by assumption) (by assumption) ?_
    refine E_bipush (v := 6) dX12_count_113 (by decide) ?_
    refine E_iaj 6 dX12_count_115 (by assumption) rfl (by decide) (by rw [n3]; decide) ?_
    refine E_iret dX12_count_116 rfl ?_
    exact hΦ
  have hΦ := h2 (by rw [if_neg q0, if_neg q1, if_neg q2, if_neg q3, if_neg q4, if_neg q5, if_neg q6, if_neg q7, if_neg q8])
  have out := out_n (n := 9) (by omega) (show ∀ j, j < 9 → ¬ x = nI j from fun j hj => by
    rcases (by omega : j = 0 ∨ j = 1 ∨ j = 2 ∨ j = 3 ∨ j = 4 ∨ j = 5 ∨ j = 6 ∨ j = 7 ∨ j = 8) with rfl | rfl | rfl | rfl | rfl | rfl | rfl | rfl | rfl <;> assumption)
  refine E_iconst (v := 0) dX12_count_0 (by decide) ?_
  refine E_istore_nC (i := 2) dX12_count_1 rfl (by decide) rfl ?_
  refine E_lv (lv' := [_, _, _, _]) rfl ?_
  refine E_iload_n (i := 1) dX12_count_2 rfl rfl ?_
  refine E_tswOut (tgt := 117) dX12_count_3 out (by decide) ?_
  refine E_aload_n (i := 0) dX12_count_117 rfl rfl ?_
  refine E_ldc (v := -1000000001) dX12_count_118 w_1208 ?_
  refine k_X12_count_120 (mc' := 0) (ms' := 0) (rc := 0) (rs := 0) (by omega) (Nat.le_of_ble_eq_true rfl) (by assumption) (c_find1 hM ?_)
  refine E_iret dX12_count_123 rfl ?_
  exact hΦ
/-- what the model tells of a ride -/
def tolM (kd : Nat) (M : Nat → Int32) (r f : Nat) : Int32 := if f < 7 then M (16 + 7 * r + f) else if f = 7 then gnM kd M r else (if M (16 + 7 * r + 0) = 6 then M 13 / 2 else M 13)
theorem c_X12_rideTold {x y : Int32} {r f kd : Nat} (hd : 5 ≤ d) (hM : Mo g P) (hO : WOK (wm (I 110))) (hx : x = nI r) (hr : r < 8) (hy : y = nI f) (hf : f ≤ 8) (hkd : kd ≤ 6) (hk : I 110 (16 + 7 * r + 0) = nI kd) (hp : 0 ≤ (I 110 (16 + 7 * r + 3) / 10).toInt) (hΦ : Φ (some (.int (tolM kd (I 110) r f))) g P I) : MM Γ mX12_rideTold d 0 0 [.ref 109, .int x, .int y] g P I Φ := by
  refine MM_entry [some _, some _, some _] (by decide) (Nat.le_of_ble_eq_true rfl) rfl ?_
  have h0 := hM.1
  unfold tolM at hΦ
  by_cases h7 : f < 7
  · rw [if_pos h7] at hΦ
    refine E_iload_n (i := 2) dX12_rideTold_0 rfl rfl ?_
    refine E_bipush (v := 7) dX12_rideTold_1 (by decide) ?_
    refine E_icmp_ge (tgt := 15) dX12_rideTold_3 (by decide) (fun c_3 => absurd c_3 (by rw [hy]; exact nI_ge (b := 7) (by omega) (by omega))) (fun c_3 => ?_)
    refine E_aload_n (i := 0) dX12_rideTold_6 rfl rfl ?_
    refine E_iload_n (i := 1) dX12_rideTold_7 rfl rfl ?_
    refine E_iload_n (i := 2) dX12_rideTold_8 rfl rfl ?_
    refine k_X12_rideTold_9 (mc' := 0) (ms' := 0) (rc := 0) (rs := 0) (by omega) (Nat.le_of_ble_eq_true rfl) (by assumption) (c_X12_of hM hx hy hr h7 ?_)
    refine E_goto (tgt := 34) dX12_rideTold_12 (by decide) ?_
    refine E_iret dX12_rideTold_34 rfl ?_
    exact hΦ
  · rw [if_neg h7] at hΦ
    by_cases h8 : f = 7
    · rw [if_pos h8] at hΦ
      subst h8
      refine E_iload_n (i := 2) dX12_rideTold_0 rfl rfl ?_
      refine E_bipush (v := 7) dX12_rideTold_1 (by decide) ?_
      refine E_icmp_ge (tgt := 15) dX12_rideTold_3 (by decide) (fun c_3 => ?_) (fun c_3 => absurd (by rw [hy]; decide) c_3)
      refine E_iload_n (i := 2) dX12_rideTold_15 rfl rfl ?_
      refine E_bipush (v := 7) dX12_rideTold_16 (by decide) ?_
      refine E_icmp_ne (tgt := 29) dX12_rideTold_18 (by decide) (fun c_18 => absurd (by rw [hy]; rfl) c_18) (fun c_18 => ?_)
      refine E_aload_n (i := 0) dX12_rideTold_21 rfl rfl ?_
      refine E_iload_n (i := 1) dX12_rideTold_22 rfl rfl ?_
      refine k_X12_rideTold_23 (mc' := 0) (ms' := 0) (rc := 0) (rs := 0) (by omega) (Nat.le_of_ble_eq_true rfl) (by assumption) (c_X12_gainOf (by omega) hM hO hx hr hkd hk hp ?_)
      refine E_goto (tgt := 34) dX12_rideTold_26 (by decide) ?_
      refine E_iret dX12_rideTold_34 rfl ?_
      exact hΦ
    · rw [if_neg h8] at hΦ
      have h9 : f = 8 := by omega
      subst h9
      refine E_iload_n (i := 2) dX12_rideTold_0 rfl rfl ?_
      refine E_bipush (v := 7) dX12_rideTold_1 (by decide) ?_
      refine E_icmp_ge (tgt := 15) dX12_rideTold_3 (by decide) (fun c_3 => ?_) (fun c_3 => absurd (by rw [hy]; decide) c_3)
      refine E_iload_n (i := 2) dX12_rideTold_15 rfl rfl ?_
      refine E_bipush (v := 7) dX12_rideTold_16 (by decide) ?_
      refine E_icmp_ne (tgt := 29) dX12_rideTold_18 (by decide) (fun c_18 => ?_) (fun c_18 => absurd c_18 (by rw [hy]; decide))
      refine E_aload_n (i := 0) dX12_rideTold_29 rfl rfl ?_
      refine E_iload_n (i := 1) dX12_rideTold_30 rfl rfl ?_
      refine k_X12_rideTold_31 (mc' := 0) (ms' := 0) (rc := 0) (rs := 0) (by omega) (Nat.le_of_ble_eq_true rfl) (by assumption) (c_X12_rubsOf (by omega) hM hx hr ?_)
      refine E_iret dX12_rideTold_34 rfl ?_
      exact hΦ
/-- a row's rides are as they may be, for the model's reads -/
def rdM (M : Nat → Int32) (k : Nat) (kd : Nat → Nat) : Prop := ∀ r, r < k → kd r ≤ 6 ∧ M (16 + 7 * r + 0) = nI (kd r) ∧ 0 ≤ (M (16 + 7 * r + 3) / 10).toInt
theorem c_X12_ofRide {x y : Int32} {k : Nat} {kd : Nat → Nat} (hd : 6 ≤ d) (hM : Mo g P) (hO : WOK (wm (I 110))) (hk : I 110 1 = nI k) (hk8 : k ≤ 8) (hR : rdM (I 110) k kd) (h1 : ∀ r f, x = nI r → r < k → y = nI f → f ≤ 8 → Φ (some (.int (tolM (kd r) (I 110) r f))) g P I) (h2 : ¬ ((0 ≤ x ∧ x ≤ nI k - 1) ∧ (0 ≤ y ∧ y ≤ 8)) → Φ (some (.int (er 1))) g P (flM I 1)) : MM Γ mX12_ofRide d 0 0 [.ref 109, .int x, .int y] g P I Φ := by
  refine MM_entry [some _, some _, some _] (by decide) (Nat.le_of_ble_eq_true rfl) rfl ?_
  have h0 := hM.1
  by_cases hc : 0 ≤ x ∧ x ≤ nI k - 1
  · by_cases hc2 : 0 ≤ y ∧ y ≤ 8
    · obtain ⟨r, hx, hr⟩ := in_nat (by omega) hc
      obtain ⟨f, hy, hf⟩ := in_04 (n := 8) (by omega) hc2
      obtain ⟨q1, q2, q3⟩ := hR r hr
      have hΦ := h1 r f hx hr hy hf
      refine E_aload_n (i := 0) dX12_ofRide_0 rfl rfl ?_
      refine E_iload_n (i := 1) dX12_ofRide_1 rfl rfl ?_
      refine E_iconst (v := 1) dX12_ofRide_2 (by decide) ?_
      refine k_X12_ofRide_3 (mc' := 0) (ms' := 0) (rc := 0) (rs := 0) (by omega) (Nat.le_of_ble_eq_true rfl) (by assumption) (c_X12_is (k := 1) (by omega) hM rfl (by decide) ?_)
      rw [hk, bz_t hc]
      refine E_if_eq (tgt := 28) dX12_ofRide_6 (by decide) (fun c_6 => absurd c_6 (by decide)) (fun c_6 => ?_)
      refine E_iload_n (i := 2) dX12_ofRide_9 rfl rfl ?_
      refine E_iconst (v := 0) dX12_ofRide_10 (by decide) ?_
      refine E_bipush (v := 8) dX12_ofRide_11 (by decide) ?_
      refine k_X12_ofRide_13 (mc' := 0) (ms' := 0) (rc := 0) (rs := 0) (by omega) (Nat.le_of_ble_eq_true rfl) (c_X12_within ?_)
      rw [bz_t hc2]
      refine E_if_eq (tgt := 28) dX12_ofRide_16 (by decide) (fun c_16 => absurd c_16 (by decide)) (fun c_16 => ?_)
      refine E_aload_n (i := 0) dX12_ofRide_19 rfl rfl ?_
      refine E_iload_n (i := 1) dX12_ofRide_20 rfl rfl ?_
      refine E_iload_n (i := 2) dX12_ofRide_21 rfl rfl ?_
      refine k_X12_ofRide_22 (mc' := 0) (ms' := 0) (rc := 0) (rs := 0) (by omega) (Nat.le_of_ble_eq_true rfl) (by assumption) (c_X12_rideTold (by omega) hM hO hx (by omega) hy hf q1 q2 q3 ?_)
      refine E_goto (tgt := 34) dX12_ofRide_25 (by decide) ?_
      refine E_iret dX12_ofRide_34 rfl ?_
      exact hΦ
    · have hΦ := h2 (fun h => hc2 h.2)
      refine E_aload_n (i := 0) dX12_ofRide_0 rfl rfl ?_
      refine E_iload_n (i := 1) dX12_ofRide_1 rfl rfl ?_
      refine E_iconst (v := 1) dX12_ofRide_2 (by decide) ?_
      refine k_X12_ofRide_3 (mc' := 0) (ms' := 0) (rc := 0) (rs := 0) (by omega) (Nat.le_of_ble_eq_true rfl) (by assumption) (c_X12_is (k := 1) (by omega) hM rfl (by decide) ?_)
      rw [hk, bz_t hc]
      refine E_if_eq (tgt := 28) dX12_ofRide_6 (by decide) (fun c_6 => absurd c_6 (by decide)) (fun c_6 => ?_)
      refine E_iload_n (i := 2) dX12_ofRide_9 rfl rfl ?_
      refine E_iconst (v := 0) dX12_ofRide_10 (by decide) ?_
      refine E_bipush (v := 8) dX12_ofRide_11 (by decide) ?_
      refine k_X12_ofRide_13 (mc' := 0) (ms' := 0) (rc := 0) (rs := 0) (by omega) (Nat.le_of_ble_eq_true rfl) (c_X12_within ?_)
      rw [bz_f hc2]
      refine E_if_eq (tgt := 28) dX12_ofRide_16 (by decide) (fun c_16 => ?_) (fun c_16 => absurd (rfl) c_16)
      refine E_aload_n (i := 0) dX12_ofRide_28 rfl rfl ?_
      refine E_ldc (v := -1000000001) dX12_ofRide_29 w_1208 ?_
      refine k_X12_ofRide_31 (mc' := 0) (ms' := 0) (rc := 0) (rs := 0) (by omega) (Nat.le_of_ble_eq_true rfl) (by assumption) (c_find1 hM ?_)
      refine E_iret dX12_ofRide_34 rfl ?_
      exact hΦ
  · have hΦ := h2 (fun h => hc h.1)
    refine E_aload_n (i := 0) dX12_ofRide_0 rfl rfl ?_
    refine E_iload_n (i := 1) dX12_ofRide_1 rfl rfl ?_
    refine E_iconst (v := 1) dX12_ofRide_2 (by decide) ?_
    refine k_X12_ofRide_3 (mc' := 0) (ms' := 0) (rc := 0) (rs := 0) (by omega) (Nat.le_of_ble_eq_true rfl) (by assumption) (c_X12_is (k := 1) (by omega) hM rfl (by decide) ?_)
    rw [hk, bz_f hc]
    refine E_if_eq (tgt := 28) dX12_ofRide_6 (by decide) (fun c_6 => ?_) (fun c_6 => absurd (rfl) c_6)
    refine E_aload_n (i := 0) dX12_ofRide_28 rfl rfl ?_
    refine E_ldc (v := -1000000001) dX12_ofRide_29 w_1208 ?_
    refine k_X12_ofRide_31 (mc' := 0) (ms' := 0) (rc := 0) (rs := 0) (by omega) (Nat.le_of_ble_eq_true rfl) (by assumption) (c_find1 hM ?_)
    refine E_iret dX12_ofRide_34 rfl ?_
    exact hΦ
def abv (x : Int32) : Int32 := if x = 0 then -1 else if x = 3 then 1 else if x = 5 then 3 else if x = 6 then 2 else 0
theorem c_X12_above {x : Int32} (hΦ : Φ (some (.int (abv x))) g P I) : MM Γ mX12_above d 0 0 [.int x] g P I Φ := by
  refine MM_entry [some _] (by decide) (Nat.le_of_ble_eq_true rfl) rfl ?_
  unfold abv at hΦ
  by_cases q0 : x = 0
  · rw [if_pos q0] at hΦ
    refine E_iload_n (i := 0) dX12_above_0 rfl rfl ?_
    refine E_if_ne (tgt := 8) dX12_above_1 (by decide) (fun c_1 => absurd (q0) c_1) (fun c_1 => ?_)
    refine E_iconst (v := -1) dX12_above_4 (by decide) ?_
    refine E_goto (tgt := 37) dX12_above_5 (by decide) ?_
    refine E_iret dX12_above_37 rfl ?_
    exact hΦ
  · rw [if_neg q0] at hΦ
    by_cases q3 : x = 3
    · rw [if_pos q3] at hΦ
      refine E_iload_n (i := 0) dX12_above_0 rfl rfl ?_
      refine E_if_ne (tgt := 8) dX12_above_1 (by decide) (fun c_1 => ?_) (fun c_1 => absurd c_1 (q0))
      refine E_iload_n (i := 0) dX12_above_8 rfl rfl ?_
      refine E_iconst (v := 3) dX12_above_9 (by decide) ?_
      refine E_icmp_ne (tgt := 17) dX12_above_10 (by decide) (fun c_10 => absurd (q3) c_10) (fun c_10 => ?_)
      refine E_iconst (v := 1) dX12_above_13 (by decide) ?_
      refine E_goto (tgt := 37) dX12_above_14 (by decide) ?_
      refine E_iret dX12_above_37 rfl ?_
      exact hΦ
    · rw [if_neg q3] at hΦ
      by_cases q5 : x = 5
      · rw [if_pos q5] at hΦ
        refine E_iload_n (i := 0) dX12_above_0 rfl rfl ?_
        refine E_if_ne (tgt := 8) dX12_above_1 (by decide) (fun c_1 => ?_) (fun c_1 => absurd c_1 (q0))
        refine E_iload_n (i := 0) dX12_above_8 rfl rfl ?_
        refine E_iconst (v := 3) dX12_above_9 (by decide) ?_
        refine E_icmp_ne (tgt := 17) dX12_above_10 (by decide) (fun c_10 => ?_) (fun c_10 => absurd c_10 (q3))
        refine E_iload_n (i := 0) dX12_above_17 rfl rfl ?_
        refine E_iconst (v := 5) dX12_above_18 (by decide) ?_
        refine E_icmp_ne (tgt := 26) dX12_above_19 (by decide) (fun c_19 => absurd (q5) c_19) (fun c_19 => ?_)
        refine E_iconst (v := 3) dX12_above_22 (by decide) ?_
        refine E_goto (tgt := 37) dX12_above_23 (by decide) ?_
        refine E_iret dX12_above_37 rfl ?_
        exact hΦ
      · rw [if_neg q5] at hΦ
        by_cases q6 : x = 6
        · rw [if_pos q6] at hΦ
          refine E_iload_n (i := 0) dX12_above_0 rfl rfl ?_
          refine E_if_ne (tgt := 8) dX12_above_1 (by decide) (fun c_1 => ?_) (fun c_1 => absurd c_1 (q0))
          refine E_iload_n (i := 0) dX12_above_8 rfl rfl ?_
          refine E_iconst (v := 3) dX12_above_9 (by decide) ?_
          refine E_icmp_ne (tgt := 17) dX12_above_10 (by decide) (fun c_10 => ?_) (fun c_10 => absurd c_10 (q3))
          refine E_iload_n (i := 0) dX12_above_17 rfl rfl ?_
          refine E_iconst (v := 5) dX12_above_18 (by decide) ?_
          refine E_icmp_ne (tgt := 26) dX12_above_19 (by decide) (fun c_19 => ?_) (fun c_19 => absurd c_19 (q5))
          refine E_iload_n (i := 0) dX12_above_26 rfl rfl ?_
          refine E_bipush (v := 6) dX12_above_27 (by decide) ?_
          refine E_icmp_ne (tgt := 36) dX12_above_29 (by decide) (fun c_29 => absurd (q6) c_29) (fun c_29 => ?_)
          refine E_iconst (v := 2) dX12_above_32 (by decide) ?_
          refine E_goto (tgt := 37) dX12_above_33 (by decide) ?_
          refine E_iret dX12_above_37 rfl ?_
          exact hΦ
        · rw [if_neg q6] at hΦ
          refine E_iload_n (i := 0) dX12_above_0 rfl rfl ?_
          refine E_if_ne (tgt := 8) dX12_above_1 (by decide) (fun c_1 => ?_) (fun c_1 => absurd c_1 (q0))
          refine E_iload_n (i := 0) dX12_above_8 rfl rfl ?_
          refine E_iconst (v := 3) dX12_above_9 (by decide) ?_
          refine E_icmp_ne (tgt := 17) dX12_above_10 (by decide) (fun c_10 => ?_) (fun c_10 => absurd c_10 (q3))
          refine E_iload_n (i := 0) dX12_above_17 rfl rfl ?_
          refine E_iconst (v := 5) dX12_above_18 (by decide) ?_
          refine E_icmp_ne (tgt := 26) dX12_above_19 (by decide) (fun c_19 => ?_) (fun c_19 => absurd c_19 (q5))
          refine E_iload_n (i := 0) dX12_above_26 rfl rfl ?_
          refine E_bipush (v := 6) dX12_above_27 (by decide) ?_
          refine E_icmp_ne (tgt := 36) dX12_above_29 (by decide) (fun c_29 => ?_) (fun c_29 => absurd c_29 (q6))
          refine E_iconst (v := 0) dX12_above_36 (by decide) ?_
          refine E_iret dX12_above_37 rfl ?_
          exact hΦ
/-- a kind and those above it -/
def ups : Nat → List Nat
  | 0 => [0]
  | 1 => [1, 0]
  | 2 => [2, 0]
  | 3 => [3, 1, 0]
  | 4 => [4, 0]
  | 5 => [5, 3, 1, 0]
  | _ => [6, 2, 0]
theorem c_X12_as {x y : Int32} {k : Nat} {kd : Nat → Nat} (hd : 2 ≤ d) (hM : Mo g P) (hk : I 110 1 = nI k) (hk8 : k ≤ 8) (hR : rdM (I 110) k kd) (h1 : ∀ r f, x = nI r → r < k → y = nI f → f ≤ 6 → f ∈ ups (kd r) → Φ (some (.int (I 110 (16 + 7 * r + 1)))) g P I) (h3 : ∀ r f, x = nI r → r < k → y = nI f → f ≤ 6 → ¬ f ∈ ups (kd r) → Φ (some (.int (er 5))) g P (flM I 5)) (h2 : ¬ ((0 ≤ x ∧ x ≤ nI k - 1) ∧ (0 ≤ y ∧ y ≤ 6)) → Φ (some (.int (er 1))) g P (flM I 1)) : MM Γ mX12_as d 0 0 [.ref 109, .int x, .int y] g P I Φ := by
  refine MM_entry [some _, some _, some _, none] (by decide) (Nat.le_of_ble_eq_true rfl) rfl ?_
  have h0 := hM.1
  by_cases hc : 0 ≤ x ∧ x ≤ nI k - 1
  · by_cases hc2 : 0 ≤ y ∧ y ≤ 6
    · obtain ⟨r, hx, hr⟩ := in_nat (by omega) hc
      obtain ⟨f, hy, hf⟩ := in_04 (n := 6) (by omega) hc2
      obtain ⟨q1, q2, q3⟩ := hR r hr
      have g1 := h1 r f hx hr hy hf
      have g2 := h3 r f hx hr hy hf
      have hit : ∀ a, a ≤ 6 → f = a → Φ (some (.int (I 110 (16 + 7 * r + 1)))) g P I → E Γ mX12_as d 0 0 (QM Γ 0 0 Φ) 0 0 33 [some (.ref 109), some (.int x), some (.int y), some (.int (nI a))] [] g P I := by
        intro a ha hfa hΦ
        refine E_iload_n (i := 3) dX12_as_33 rfl rfl ?_
        refine E_if_lt (tgt := 50) dX12_as_34 (by decide) (fun c_34 => absurd c_34 (nI_pos (by omega))) (fun c_34 => ?_)
        refine E_iload_n (i := 3) dX12_as_37 rfl rfl ?_
        refine E_iload_n (i := 2) dX12_as_38 rfl rfl ?_
        refine E_icmp_eq (tgt := 50) dX12_as_39 (by decide) (fun c_39 => ?_) (fun c_39 => absurd (by rw [hy, hfa]) c_39)
        refine E_iload_n (i := 3) dX12_as_50 rfl rfl ?_
        refine E_if_ge (tgt := 63) dX12_as_51 (by decide) (fun c_51 => ?_) (fun c_51 => absurd (nI_pos' (by omega)) c_51)
        refine E_aload_n (i := 0) dX12_as_63 rfl rfl ?_
        refine E_iload_n (i := 1) dX12_as_64 rfl rfl ?_
        refine E_iconst (v := 1) dX12_as_65 (by decide) ?_
        refine k_X12_as_66 (mc' := 0) (ms' := 0) (rc := 0) (rs := 0) (by omega) (Nat.le_of_ble_eq_true rfl) (by assumption) (c_X12_of (f := 1) hM hx rfl (by omega) (by decide) ?_)
        refine E_iret dX12_as_69 rfl ?_
        exact hΦ
      have stp1 : ∀ a b, a ≤ 6 → ¬ f = a → abv (nI a) = nI b → E Γ mX12_as d 0 0 (QM Γ 0 0 Φ) 0 0 33 [some (.ref 109), some (.int x), some (.int y), some (.int (nI b))] [] g P I → E Γ mX12_as d 0 0 (QM Γ 0 0 Φ) 0 0 33 [some (.ref 109), some (.int x), some (.int y), some (.int (nI a))] [] g P I := by
        intro a b ha hfa hab next
        refine E_iload_n (i := 3) dX12_as_33 rfl rfl ?_
        refine E_if_lt (tgt := 50) dX12_as_34 (by decide) (fun c_34 => absurd c_34 (nI_pos (by omega))) (fun c_34 => ?_)
        refine E_iload_n (i := 3) dX12_as_37 rfl rfl ?_
        refine E_iload_n (i := 2) dX12_as_38 rfl rfl ?_
        refine E_icmp_eq (tgt := 50) dX12_as_39 (by decide) (fun c_39 => absurd c_39 (by rw [hy]; exact nI_ne (by omega) (by omega) (fun e => hfa e.symm))) (fun c_39 => ?_)
        refine E_iload_n (i := 3) dX12_as_42 rfl rfl ?_
        refine k_X12_as_43 (mc' := 0) (ms' := 0) (rc := 0) (rs := 0) (by omega) (Nat.le_of_ble_eq_true rfl) (c_X12_above ?_)
        rw [hab]
        refine E_istore_nC (i := 3) dX12_as_46 rfl (by decide) rfl ?_
        refine E_lv (lv' := [_, _, _, _]) rfl ?_
        refine E_goto (tgt := 33) dX12_as_47 (by decide) ?_
        exact next
      have miss : ¬ f = 0 → Φ (some (.int (er 5))) g P (flM I 5) → E Γ mX12_as d 0 0 (QM Γ 0 0 Φ) 0 0 33 [some (.ref 109), some (.int x), some (.int y), some (.int (nI 0))] [] g P I := by
        intro hf0 hΦ
        have last : E Γ mX12_as d 0 0 (QM Γ 0 0 Φ) 0 0 33 [some (.ref 109), some (.int x), some (.int y), some (.int (-1))] [] g P I := by
          refine E_iload_n (i := 3) dX12_as_33 rfl rfl ?_
          refine E_if_lt (tgt := 50) dX12_as_34 (by decide) (fun c_34 => ?_) (fun c_34 => absurd (by decide) c_34)
          refine E_iload_n (i := 3) dX12_as_50 rfl rfl ?_
          refine E_if_ge (tgt := 63) dX12_as_51 (by decide) (fun c_51 => absurd c_51 (by decide)) (fun c_51 => ?_)
          refine E_aload_n (i := 0) dX12_as_54 rfl rfl ?_
          refine E_ldc (v := -1000000005) dX12_as_55 w_1327 ?_
          refine k_X12_as_57 (mc' := 0) (ms' := 0) (rc := 0) (rs := 0) (by omega) (Nat.le_of_ble_eq_true rfl) (by assumption) (c_find5 hM ?_)
          refine E_goto (tgt := 69) dX12_as_60 (by decide) ?_
          refine E_iret dX12_as_69 rfl ?_
          exact hΦ
        refine E_iload_n (i := 3) dX12_as_33 rfl rfl ?_
        refine E_if_lt (tgt := 50) dX12_as_34 (by decide) (fun c_34 => absurd c_34 (by decide)) (fun c_34 => ?_)
        refine E_iload_n (i := 3) dX12_as_37 rfl rfl ?_
        refine E_iload_n (i := 2) dX12_as_38 rfl rfl ?_
        refine E_icmp_eq (tgt := 50) dX12_as_39 (by decide) (fun c_39 => absurd c_39 (by rw [hy]; exact nI_ne (a := 0) (by omega) (by omega) (fun e => hf0 e.symm))) (fun c_39 => ?_)
        refine E_iload_n (i := 3) dX12_as_42 rfl rfl ?_
        refine k_X12_as_43 (mc' := 0) (ms' := 0) (rc := 0) (rs := 0) (by omega) (Nat.le_of_ble_eq_true rfl) (c_X12_above ?_)
        rw [show abv (nI 0) = -1 from by decide]
        refine E_istore_nC (i := 3) dX12_as_46 rfl (by decide) rfl ?_
        refine E_lv (lv' := [_, _, _, _]) rfl ?_
        refine E_goto (tgt := 33) dX12_as_47 (by decide) ?_
        exact last
      have l0 : ∀ L : List Nat, (∀ a, a ∈ L ↔ a ∈ ups (kd r)) → (0 ∈ L) → (∀ a, a ∈ L → ¬ a = 0 → ¬ f = a) → E Γ mX12_as d 0 0 (QM Γ 0 0 Φ) 0 0 33 [some (.ref 109), some (.int x), some (.int y), some (.int (nI 0))] [] g P I := by
        intro L hL h0L hne
        by_cases e : f = 0
        · exact hit 0 (by omega) e (g1 ((hL f).mp (by rw [e]; exact h0L)))
        · exact miss e (g2 (fun hm => by
            have h1 := (hL f).mpr hm
            exact hne f h1 e rfl))
      have go : E Γ mX12_as d 0 0 (QM Γ 0 0 Φ) 0 0 33 [some (.ref 109), some (.int x), some (.int y), some (.int (nI (kd r)))] [] g P I := by
        generalize hkr : kd r = kk at g1 g2 l0
        rcases (show kk = 0 ∨ kk = 1 ∨ kk = 2 ∨ kk = 3 ∨ kk = 4 ∨ kk = 5 ∨ kk = 6 by omega) with rfl | rfl | rfl | rfl | rfl | rfl | rfl
        · exact l0 _ (fun _ => Iff.rfl) (by decide) (by
            intro a ha h0 e
            simp [ups] at ha
            omega)
        · by_cases e1 : f = 1
          · exact hit 1 (by omega) e1 (g1 (by rw [e1]; decide))
          refine stp1 1 0 (by omega) e1 (by decide) ?_
          exact l0 _ (fun _ => Iff.rfl) (by decide) (by
            intro a ha h0 e
            simp [ups] at ha
            omega)
        · by_cases e2 : f = 2
          · exact hit 2 (by omega) e2 (g1 (by rw [e2]; decide))
          refine stp1 2 0 (by omega) e2 (by decide) ?_
          exact l0 _ (fun _ => Iff.rfl) (by decide) (by
            intro a ha h0 e
            simp [ups] at ha
            omega)
        · by_cases e3 : f = 3
          · exact hit 3 (by omega) e3 (g1 (by rw [e3]; decide))
          refine stp1 3 1 (by omega) e3 (by decide) ?_
          by_cases e1 : f = 1
          · exact hit 1 (by omega) e1 (g1 (by rw [e1]; decide))
          refine stp1 1 0 (by omega) e1 (by decide) ?_
          exact l0 _ (fun _ => Iff.rfl) (by decide) (by
            intro a ha h0 e
            simp [ups] at ha
            omega)
        · by_cases e4 : f = 4
          · exact hit 4 (by omega) e4 (g1 (by rw [e4]; decide))
          refine stp1 4 0 (by omega) e4 (by decide) ?_
          exact l0 _ (fun _ => Iff.rfl) (by decide) (by
            intro a ha h0 e
            simp [ups] at ha
            omega)
        · by_cases e5 : f = 5
          · exact hit 5 (by omega) e5 (g1 (by rw [e5]; decide))
          refine stp1 5 3 (by omega) e5 (by decide) ?_
          by_cases e3 : f = 3
          · exact hit 3 (by omega) e3 (g1 (by rw [e3]; decide))
          refine stp1 3 1 (by omega) e3 (by decide) ?_
          by_cases e1 : f = 1
          · exact hit 1 (by omega) e1 (g1 (by rw [e1]; decide))
          refine stp1 1 0 (by omega) e1 (by decide) ?_
          exact l0 _ (fun _ => Iff.rfl) (by decide) (by
            intro a ha h0 e
            simp [ups] at ha
            omega)
        · by_cases e6 : f = 6
          · exact hit 6 (by omega) e6 (g1 (by rw [e6]; decide))
          refine stp1 6 2 (by omega) e6 (by decide) ?_
          by_cases e2 : f = 2
          · exact hit 2 (by omega) e2 (g1 (by rw [e2]; decide))
          refine stp1 2 0 (by omega) e2 (by decide) ?_
          exact l0 _ (fun _ => Iff.rfl) (by decide) (by
            intro a ha h0 e
            simp [ups] at ha
            omega)
      refine E_aload_n (i := 0) dX12_as_0 rfl rfl ?_
      refine E_iload_n (i := 1) dX12_as_1 rfl rfl ?_
      refine E_iconst (v := 1) dX12_as_2 (by decide) ?_
      refine k_X12_as_3 (mc' := 0) (ms' := 0) (rc := 0) (rs := 0) (by omega) (Nat.le_of_ble_eq_true rfl) (by assumption) (c_X12_is (k := 1) (by omega) hM rfl (by decide) ?_)
      rw [hk, bz_t hc]
      refine E_if_eq (tgt := 19) dX12_as_6 (by decide) (fun c_6 => absurd c_6 (by decide)) (fun c_6 => ?_)
      refine E_iload_n (i := 2) dX12_as_9 rfl rfl ?_
      refine E_iconst (v := 0) dX12_as_10 (by decide) ?_
      refine E_bipush (v := 6) dX12_as_11 (by decide) ?_
      refine k_X12_as_13 (mc' := 0) (ms' := 0) (rc := 0) (rs := 0) (by omega) (Nat.le_of_ble_eq_true rfl) (c_X12_within ?_)
      rw [bz_t hc2]
      refine E_if_ne (tgt := 26) dX12_as_16 (by decide) (fun c_16 => ?_) (fun c_16 => absurd c_16 (by decide))
      refine E_aload_n (i := 0) dX12_as_26 rfl rfl ?_
      refine E_iload_n (i := 1) dX12_as_27 rfl rfl ?_
      refine E_iconst (v := 0) dX12_as_28 (by decide) ?_
      refine k_X12_as_29 (mc' := 0) (ms' := 0) (rc := 0) (rs := 0) (by omega) (Nat.le_of_ble_eq_true rfl) (by assumption) (c_X12_of (f := 0) hM hx rfl (by omega) (by decide) ?_)
      rw [q2]
      refine E_istore_nC (i := 3) dX12_as_32 rfl (by decide) rfl ?_
      refine E_lv (lv' := [_, _, _, _]) rfl ?_
      exact go
    · have hΦ := h2 (fun h => hc2 h.2)
      refine E_aload_n (i := 0) dX12_as_0 rfl rfl ?_
      refine E_iload_n (i := 1) dX12_as_1 rfl rfl ?_
      refine E_iconst (v := 1) dX12_as_2 (by decide) ?_
      refine k_X12_as_3 (mc' := 0) (ms' := 0) (rc := 0) (rs := 0) (by omega) (Nat.le_of_ble_eq_true rfl) (by assumption) (c_X12_is (k := 1) (by omega) hM rfl (by decide) ?_)
      rw [hk, bz_t hc]
      refine E_if_eq (tgt := 19) dX12_as_6 (by decide) (fun c_6 => absurd c_6 (by decide)) (fun c_6 => ?_)
      refine E_iload_n (i := 2) dX12_as_9 rfl rfl ?_
      refine E_iconst (v := 0) dX12_as_10 (by decide) ?_
      refine E_bipush (v := 6) dX12_as_11 (by decide) ?_
      refine k_X12_as_13 (mc' := 0) (ms' := 0) (rc := 0) (rs := 0) (by omega) (Nat.le_of_ble_eq_true rfl) (c_X12_within ?_)
      rw [bz_f hc2]
      refine E_if_ne (tgt := 26) dX12_as_16 (by decide) (fun c_16 => absurd (rfl) c_16) (fun c_16 => ?_)
      refine E_aload_n (i := 0) dX12_as_19 rfl rfl ?_
      refine E_ldc (v := -1000000001) dX12_as_20 w_1208 ?_
      refine k_X12_as_22 (mc' := 0) (ms' := 0) (rc := 0) (rs := 0) (by omega) (Nat.le_of_ble_eq_true rfl) (by assumption) (c_find1 hM ?_)
      refine E_iret dX12_as_25 rfl ?_
      exact hΦ
  · have hΦ := h2 (fun h => hc h.1)
    refine E_aload_n (i := 0) dX12_as_0 rfl rfl ?_
    refine E_iload_n (i := 1) dX12_as_1 rfl rfl ?_
    refine E_iconst (v := 1) dX12_as_2 (by decide) ?_
    refine k_X12_as_3 (mc' := 0) (ms' := 0) (rc := 0) (rs := 0) (by omega) (Nat.le_of_ble_eq_true rfl) (by assumption) (c_X12_is (k := 1) (by omega) hM rfl (by decide) ?_)
    rw [hk, bz_f hc]
    refine E_if_eq (tgt := 19) dX12_as_6 (by decide) (fun c_6 => ?_) (fun c_6 => absurd (rfl) c_6)
    refine E_aload_n (i := 0) dX12_as_19 rfl rfl ?_
    refine E_ldc (v := -1000000001) dX12_as_20 w_1208 ?_
    refine k_X12_as_22 (mc' := 0) (ms' := 0) (rc := 0) (rs := 0) (by omega) (Nat.le_of_ble_eq_true rfl) (by assumption) (c_find1 hM ?_)
    refine E_iret dX12_as_25 rfl ?_
    exact hΦ
end
