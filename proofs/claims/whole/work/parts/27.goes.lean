/-! a ride's tick -/
/-- the heap behind a ride's tick, its pace being p -/
def rsI (I : HI) (B i : Nat) (p : Int32) : HI :=
  if 10 * I (B + 2) 0 ≤ I (B + 4) i + p then u2 (u2 (u2 (u2 I (B + 4) i (10 * I (B + 2) 0)) (B + 6) i p) (B + 5) i 0) (B + 7) i 1
  else if I (B + 4) i + p < 0 then u2 (u2 I (B + 4) i 0) (B + 5) i 0
  else u2 (u2 I (B + 4) i (I (B + 4) i + p)) (B + 5) i p
theorem rs_a (I : HI) (B i : Nat) (p l e : Int32) : u2 (u2 (u2 (u2 (u2 (u2 I (B + 5) i p) (B + 4) i l) (B + 4) i e) (B + 6) i p) (B + 5) i 0) (B + 7) i 1 = u2 (u2 (u2 (u2 I (B + 4) i e) (B + 6) i p) (B + 5) i 0) (B + 7) i 1 := by
  funext a j
  simp only [u2_at]
  by_cases h : j = i
  · by_cases h4 : a = B + 4
    · subst h4; simp [h]
    · by_cases h5 : a = B + 5
      · subst h5; simp [h]
      · simp [h, h4, h5]
  · simp [h]
theorem rs_b (I : HI) (B i : Nat) (p l : Int32) : u2 (u2 (u2 (u2 I (B + 5) i p) (B + 4) i l) (B + 4) i 0) (B + 5) i 0 = u2 (u2 I (B + 4) i 0) (B + 5) i 0 := by
  funext a j
  simp only [u2_at]
  by_cases h : j = i
  · by_cases h4 : a = B + 4
    · subst h4; simp [h]
    · by_cases h5 : a = B + 5
      · subst h5; simp [h]
      · simp [h, h4, h5]
  · simp [h]
theorem rs_c (I : HI) (B i : Nat) (p l : Int32) : u2 (u2 I (B + 5) i p) (B + 4) i l = u2 (u2 I (B + 4) i l) (B + 5) i p := by
  funext a j
  simp only [u2_at]
  by_cases h : j = i
  · by_cases h4 : a = B + 4
    · subst h4; simp [h]
    · by_cases h5 : a = B + 5
      · subst h5; simp [h]
      · simp [h, h4, h5]
  · simp [h]
/-- whether a ride goes on: it is in, or was changed -/
abbrev goB (J : HI) (B i : Nat) (pl pa : Int32) : Prop := ¬ J (B + 7) i = 0 ∨ ¬ J (B + 4) i = pl ∨ ¬ J (B + 5) i = pa
section
variable {Γ : GE} {d : Nat} {g : Sh} {P : HP} {I : HI} {Φ : Option Value → Sh → HP → HI → Prop}
theorem goes_tail {B i r : Nat} {x q rb : Int32} (hd : 3 ≤ d) (hS : St g P B) (hx : x = nI i) (hi : i < 8) (hΦ : Φ (some (.int (bz (goB (rsI I B i (hel (rub q rb) (-300) 300)) B i (I (B + 4) i) (I (B + 5) i))))) g P (rsI I B i (hel (rub q rb) (-300) 300))) :
    E Γ mX8_goesOn d 0 0 (QM Γ 0 0 Φ) 0 0 49 [some (.ref B), some (.int x), some (.ref r), some (.int (I (B + 4) i)), some (.int (I (B + 5) i)), none] [.int rb, .int q] g P I := by
  have s1 := hS.c
  have s2 := hS.wp
  have s3 := hS.wi
  have s4 := s3.1
  obtain ⟨p1, p2, p3⟩ := hS.pl
  obtain ⟨q1, q2, q3⟩ := hS.pa
  obtain ⟨u1, v2, u3⟩ := hS.in
  have t2 : ∀ (J : HI) (z : Int32), Φ (some (.int (bz (goB J B i (I (B + 4) i) (I (B + 5) i))))) g P J → E Γ mX8_goesOn d 0 0 (QM Γ 0 0 Φ) 0 0 132 [some (.ref B), some (.int x), some (.ref r), some (.int (I (B + 4) i)), some (.int (I (B + 5) i)), some (.int z)] [] g P J := by
    intro J z hJ
    by_cases c7 : J (B + 7) i = 0
    · by_cases c4 : J (B + 4) i = I (B + 4) i
      · by_cases c5 : J (B + 5) i = I (B + 5) i
        · rw [bz_f (fun h => h.elim (fun h => h c7) (fun h => h.elim (fun h => h c4) (fun h => h c5)))] at hJ
          refine E_aload_n (i := 0) dX8_goesOn_132 rfl rfl ?_
          refine E_gr dX8_goesOn_133 gf_X8_34_8 rfl (by assumption) (by assumption) ?_
          refine E_iload_n (i := 1) dX8_goesOn_136 rfl rfl ?_
          refine E_zaj i dX8_goesOn_137 (by assumption) hx (by omega) (by rw [u3]; omega) ?_
          refine E_if_ne (tgt := 162) dX8_goesOn_138 (by decide) (fun c_138 => absurd (c7) c_138) (fun c_138 => ?_)
          refine E_aload_n (i := 0) dX8_goesOn_141 rfl rfl ?_
          refine E_gr dX8_goesOn_142 gf_X8_24_8 rfl (by assumption) (by assumption) ?_
          refine E_iload_n (i := 1) dX8_goesOn_145 rfl rfl ?_
          refine E_iaj i dX8_goesOn_146 (by assumption) hx (by omega) (by rw [p3]; omega) ?_
          refine E_iload_n (i := 3) dX8_goesOn_147 rfl rfl ?_
          refine E_icmp_ne (tgt := 162) dX8_goesOn_148 (by decide) (fun c_148 => absurd (c4) c_148) (fun c_148 => ?_)
          refine E_aload_n (i := 0) dX8_goesOn_151 rfl rfl ?_
          refine E_gr dX8_goesOn_152 gf_X8_28_8 rfl (by assumption) (by assumption) ?_
          refine E_iload_n (i := 1) dX8_goesOn_155 rfl rfl ?_
          refine E_iaj i dX8_goesOn_156 (by assumption) hx (by omega) (by rw [q3]; omega) ?_
          refine E_iload dX8_goesOn_157 rfl ?_
          refine E_icmp_eq (tgt := 166) dX8_goesOn_159 (by decide) (fun c_159 => ?_) (fun c_159 => absurd (c5) c_159)
          refine E_iconst (v := 0) dX8_goesOn_166 (by decide) ?_
          refine E_zret dX8_goesOn_167 rfl rfl ?_
          exact hJ
        · rw [bz_t (show goB J B i (I (B + 4) i) (I (B + 5) i) from Or.inr (Or.inr c5))] at hJ
          refine E_aload_n (i := 0) dX8_goesOn_132 rfl rfl ?_
          refine E_gr dX8_goesOn_133 gf_X8_34_8 rfl (by assumption) (by assumption) ?_
          refine E_iload_n (i := 1) dX8_goesOn_136 rfl rfl ?_
          refine E_zaj i dX8_goesOn_137 (by assumption) hx (by omega) (by rw [u3]; omega) ?_
          refine E_if_ne (tgt := 162) dX8_goesOn_138 (by decide) (fun c_138 => absurd (c7) c_138) (fun c_138 => ?_)
          refine E_aload_n (i := 0) dX8_goesOn_141 rfl rfl ?_
          refine E_gr dX8_goesOn_142 gf_X8_24_8 rfl (by assumption) (by assumption) ?_
          refine E_iload_n (i := 1) dX8_goesOn_145 rfl rfl ?_
          refine E_iaj i dX8_goesOn_146 (by assumption) hx (by omega) (by rw [p3]; omega) ?_
          refine E_iload_n (i := 3) dX8_goesOn_147 rfl rfl ?_
          refine E_icmp_ne (tgt := 162) dX8_goesOn_148 (by decide) (fun c_148 => absurd (c4) c_148) (fun c_148 => ?_)
          refine E_aload_n (i := 0) dX8_goesOn_151 rfl rfl ?_
          refine E_gr dX8_goesOn_152 gf_X8_28_8 rfl (by assumption) (by assumption) ?_
          refine E_iload_n (i := 1) dX8_goesOn_155 rfl rfl ?_
          refine E_iaj i dX8_goesOn_156 (by assumption) hx (by omega) (by rw [q3]; omega) ?_
          refine E_iload dX8_goesOn_157 rfl ?_
          refine E_icmp_eq (tgt := 166) dX8_goesOn_159 (by decide) (fun c_159 => absurd c_159 (c5)) (fun c_159 => ?_)
          refine E_iconst (v := 1) dX8_goesOn_162 (by decide) ?_
          refine E_goto (tgt := 167) dX8_goesOn_163 (by decide) ?_
          refine E_zret dX8_goesOn_167 rfl rfl ?_
          exact hJ
      · rw [bz_t (show goB J B i (I (B + 4) i) (I (B + 5) i) from Or.inr (Or.inl c4))] at hJ
        refine E_aload_n (i := 0) dX8_goesOn_132 rfl rfl ?_
        refine E_gr dX8_goesOn_133 gf_X8_34_8 rfl (by assumption) (by assumption) ?_
        refine E_iload_n (i := 1) dX8_goesOn_136 rfl rfl ?_
        refine E_zaj i dX8_goesOn_137 (by assumption) hx (by omega) (by rw [u3]; omega) ?_
        refine E_if_ne (tgt := 162) dX8_goesOn_138 (by decide) (fun c_138 => absurd (c7) c_138) (fun c_138 => ?_)
        refine E_aload_n (i := 0) dX8_goesOn_141 rfl rfl ?_
        refine E_gr dX8_goesOn_142 gf_X8_24_8 rfl (by assumption) (by assumption) ?_
        refine E_iload_n (i := 1) dX8_goesOn_145 rfl rfl ?_
        refine E_iaj i dX8_goesOn_146 (by assumption) hx (by omega) (by rw [p3]; omega) ?_
        refine E_iload_n (i := 3) dX8_goesOn_147 rfl rfl ?_
        refine E_icmp_ne (tgt := 162) dX8_goesOn_148 (by decide) (fun c_148 => ?_) (fun c_148 => absurd c_148 (c4))
        refine E_iconst (v := 1) dX8_goesOn_162 (by decide) ?_
        refine E_goto (tgt := 167) dX8_goesOn_163 (by decide) ?_
        refine E_zret dX8_goesOn_167 rfl rfl ?_
        exact hJ
    · rw [bz_t (show goB J B i (I (B + 4) i) (I (B + 5) i) from Or.inl c7)] at hJ
      refine E_aload_n (i := 0) dX8_goesOn_132 rfl rfl ?_
      refine E_gr dX8_goesOn_133 gf_X8_34_8 rfl (by assumption) (by assumption) ?_
      refine E_iload_n (i := 1) dX8_goesOn_136 rfl rfl ?_
      refine E_zaj i dX8_goesOn_137 (by assumption) hx (by omega) (by rw [u3]; omega) ?_
      refine E_if_ne (tgt := 162) dX8_goesOn_138 (by decide) (fun c_138 => ?_) (fun c_138 => absurd c_138 (c7))
      refine E_iconst (v := 1) dX8_goesOn_162 (by decide) ?_
      refine E_goto (tgt := 167) dX8_goesOn_163 (by decide) ?_
      refine E_zret dX8_goesOn_167 rfl rfl ?_
      exact hJ
  generalize hp : hel (rub q rb) (-300) 300 = p at hΦ
  have n45 : B + 4 ≠ B + 5 := by omega
  have n24 : B + 2 ≠ B + 4 := by omega
  have n25 : B + 2 ≠ B + 5 := by omega
  unfold rsI at hΦ
  by_cases c1 : 10 * I (B + 2) 0 ≤ I (B + 4) i + p
  · rw [if_pos c1] at hΦ
    refine k_X8_goesOn_49 (mc' := 0) (ms' := 0) (rc := 0) (rs := 0) (by omega) (Nat.le_of_ble_eq_true rfl) (c_X8_rubbed (by omega) ?_)
    refine E_istoreC dX8_goesOn_52 (by decide) rfl ?_
    refine E_lv (lv' := [_, _, _, _, _, _]) rfl ?_
    refine E_aload_n (i := 0) dX8_goesOn_54 rfl rfl ?_
    refine E_gr dX8_goesOn_55 gf_X8_28_8 rfl (by assumption) (by assumption) ?_
    refine E_iload_n (i := 1) dX8_goesOn_58 rfl rfl ?_
    refine E_iload dX8_goesOn_59 rfl ?_
    refine E_sipush (v := -300) dX8_goesOn_61 (by decide) ?_
    refine E_sipush (v := 300) dX8_goesOn_64 (by decide) ?_
    refine k_X8_goesOn_67 (mc' := 0) (ms' := 0) (rc := 0) (rs := 0) (by omega) (Nat.le_of_ble_eq_true rfl) (c_X11_held (by omega) ?_)
    rw [hp]
    refine E_isj i dX8_goesOn_70 (by assumption) hx (by first | decide | omega) (by rw [q3]; omega) ?_
    refine E_aload_n (i := 0) dX8_goesOn_71 rfl rfl ?_
    refine E_gr dX8_goesOn_72 gf_X8_24_8 rfl (by assumption) (by assumption) ?_
    refine E_iload_n (i := 1) dX8_goesOn_75 rfl rfl ?_
    refine E_iload_n (i := 3) dX8_goesOn_76 rfl rfl ?_
    refine E_aload_n (i := 0) dX8_goesOn_77 rfl rfl ?_
    refine E_gr dX8_goesOn_78 gf_X8_28_8 rfl (by assumption) (by assumption) ?_
    refine E_iload_n (i := 1) dX8_goesOn_81 rfl rfl ?_
    refine E_iaj i dX8_goesOn_82 (by assumption) hx (by omega) (by rw [q3]; omega) ?_
    rw [u2_s]
    refine E_iadd dX8_goesOn_83 ?_
    refine E_isj i dX8_goesOn_84 (by assumption) hx (by first | decide | omega) (by rw [p3]; omega) ?_
    refine E_aload_n (i := 0) dX8_goesOn_85 rfl rfl ?_
    refine E_gr dX8_goesOn_86 gf_X8_24_8 rfl (by assumption) (by assumption) ?_
    refine E_iload_n (i := 1) dX8_goesOn_89 rfl rfl ?_
    refine E_iaj i dX8_goesOn_90 (by assumption) hx (by omega) (by rw [p3]; omega) ?_
    rw [u2_s]
    refine E_aload_n (i := 0) dX8_goesOn_91 rfl rfl ?_
    refine E_gr dX8_goesOn_92 gf_X8_12_8 rfl (by assumption) (by assumption) ?_
    refine k_X8_goesOn_95 (mc' := 0) (ms' := 0) (rc := 0) (rs := 0) (by omega) (Nat.le_of_ble_eq_true rfl) (by assumption) (c_X10_end s3 ?_)
    rw [u2_oth _ n24, u2_oth _ n25]
    refine E_icmp_lt (tgt := 109) dX8_goesOn_98 (by decide) (fun c_98 => absurd c_98 (Int32.not_lt.mpr c1)) (fun c_98 => ?_)
    refine E_aload_n (i := 0) dX8_goesOn_101 rfl rfl ?_
    refine E_iload_n (i := 1) dX8_goesOn_102 rfl rfl ?_
    refine k_X8_goesOn_103 (mc' := 0) (ms' := 0) (rc := 0) (rs := 0) (by omega) (Nat.le_of_ble_eq_true rfl) (by assumption) (c_X8_comeIn (by omega) hS hx hi ?_)
    refine E_goto (tgt := 132) dX8_goesOn_106 (by decide) ?_
    refine t2 _ _ ?_
    rw [u2_oth _ n24, u2_oth _ n25, u2_oth _ (Ne.symm n45), u2_s, rs_a]
    exact hΦ
  · rw [if_neg c1] at hΦ
    by_cases c2 : I (B + 4) i + p < 0
    · rw [if_pos c2] at hΦ
      refine k_X8_goesOn_49 (mc' := 0) (ms' := 0) (rc := 0) (rs := 0) (by omega) (Nat.le_of_ble_eq_true rfl) (c_X8_rubbed (by omega) ?_)
      refine E_istoreC dX8_goesOn_52 (by decide) rfl ?_
      refine E_lv (lv' := [_, _, _, _, _, _]) rfl ?_
      refine E_aload_n (i := 0) dX8_goesOn_54 rfl rfl ?_
      refine E_gr dX8_goesOn_55 gf_X8_28_8 rfl (by assumption) (by assumption) ?_
      refine E_iload_n (i := 1) dX8_goesOn_58 rfl rfl ?_
      refine E_iload dX8_goesOn_59 rfl ?_
      refine E_sipush (v := -300) dX8_goesOn_61 (by decide) ?_
      refine E_sipush (v := 300) dX8_goesOn_64 (by decide) ?_
      refine k_X8_goesOn_67 (mc' := 0) (ms' := 0) (rc := 0) (rs := 0) (by omega) (Nat.le_of_ble_eq_true rfl) (c_X11_held (by omega) ?_)
      rw [hp]
      refine E_isj i dX8_goesOn_70 (by assumption) hx (by first | decide | omega) (by rw [q3]; omega) ?_
      refine E_aload_n (i := 0) dX8_goesOn_71 rfl rfl ?_
      refine E_gr dX8_goesOn_72 gf_X8_24_8 rfl (by assumption) (by assumption) ?_
      refine E_iload_n (i := 1) dX8_goesOn_75 rfl rfl ?_
      refine E_iload_n (i := 3) dX8_goesOn_76 rfl rfl ?_
      refine E_aload_n (i := 0) dX8_goesOn_77 rfl rfl ?_
      refine E_gr dX8_goesOn_78 gf_X8_28_8 rfl (by assumption) (by assumption) ?_
      refine E_iload_n (i := 1) dX8_goesOn_81 rfl rfl ?_
      refine E_iaj i dX8_goesOn_82 (by assumption) hx (by omega) (by rw [q3]; omega) ?_
      rw [u2_s]
      refine E_iadd dX8_goesOn_83 ?_
      refine E_isj i dX8_goesOn_84 (by assumption) hx (by first | decide | omega) (by rw [p3]; omega) ?_
      refine E_aload_n (i := 0) dX8_goesOn_85 rfl rfl ?_
      refine E_gr dX8_goesOn_86 gf_X8_24_8 rfl (by assumption) (by assumption) ?_
      refine E_iload_n (i := 1) dX8_goesOn_89 rfl rfl ?_
      refine E_iaj i dX8_goesOn_90 (by assumption) hx (by omega) (by rw [p3]; omega) ?_
      rw [u2_s]
      refine E_aload_n (i := 0) dX8_goesOn_91 rfl rfl ?_
      refine E_gr dX8_goesOn_92 gf_X8_12_8 rfl (by assumption) (by assumption) ?_
      refine k_X8_goesOn_95 (mc' := 0) (ms' := 0) (rc := 0) (rs := 0) (by omega) (Nat.le_of_ble_eq_true rfl) (by assumption) (c_X10_end s3 ?_)
      rw [u2_oth _ n24, u2_oth _ n25]
      refine E_icmp_lt (tgt := 109) dX8_goesOn_98 (by decide) (fun c_98 => ?_) (fun c_98 => absurd (Int32.not_le.mp c1) c_98)
      refine E_aload_n (i := 0) dX8_goesOn_109 rfl rfl ?_
      refine E_gr dX8_goesOn_110 gf_X8_24_8 rfl (by assumption) (by assumption) ?_
      refine E_iload_n (i := 1) dX8_goesOn_113 rfl rfl ?_
      refine E_iaj i dX8_goesOn_114 (by assumption) hx (by omega) (by rw [p3]; omega) ?_
      rw [u2_s]
      refine E_if_ge (tgt := 132) dX8_goesOn_115 (by decide) (fun c_115 => absurd c_115 (Int32.not_le.mpr c2)) (fun c_115 => ?_)
      refine E_aload_n (i := 0) dX8_goesOn_118 rfl rfl ?_
      refine E_gr dX8_goesOn_119 gf_X8_24_8 rfl (by assumption) (by assumption) ?_
      refine E_iload_n (i := 1) dX8_goesOn_122 rfl rfl ?_
      refine E_iconst (v := 0) dX8_goesOn_123 (by decide) ?_
      refine E_isj i dX8_goesOn_124 (by assumption) hx (by first | decide | omega) (by rw [p3]; omega) ?_
      refine E_aload_n (i := 0) dX8_goesOn_125 rfl rfl ?_
      refine E_gr dX8_goesOn_126 gf_X8_28_8 rfl (by assumption) (by assumption) ?_
      refine E_iload_n (i := 1) dX8_goesOn_129 rfl rfl ?_
      refine E_iconst (v := 0) dX8_goesOn_130 (by decide) ?_
      refine E_isj i dX8_goesOn_131 (by assumption) hx (by first | decide | omega) (by rw [q3]; omega) ?_
      refine t2 _ _ ?_
      rw [rs_b]
      exact hΦ
    · rw [if_neg c2] at hΦ
      refine k_X8_goesOn_49 (mc' := 0) (ms' := 0) (rc := 0) (rs := 0) (by omega) (Nat.le_of_ble_eq_true rfl) (c_X8_rubbed (by omega) ?_)
      refine E_istoreC dX8_goesOn_52 (by decide) rfl ?_
      refine E_lv (lv' := [_, _, _, _, _, _]) rfl ?_
      refine E_aload_n (i := 0) dX8_goesOn_54 rfl rfl ?_
      refine E_gr dX8_goesOn_55 gf_X8_28_8 rfl (by assumption) (by assumption) ?_
      refine E_iload_n (i := 1) dX8_goesOn_58 rfl rfl ?_
      refine E_iload dX8_goesOn_59 rfl ?_
      refine E_sipush (v := -300) dX8_goesOn_61 (by decide) ?_
      refine E_sipush (v := 300) dX8_goesOn_64 (by decide) ?_
      refine k_X8_goesOn_67 (mc' := 0) (ms' := 0) (rc := 0) (rs := 0) (by omega) (Nat.le_of_ble_eq_true rfl) (c_X11_held (by omega) ?_)
      rw [hp]
      refine E_isj i dX8_goesOn_70 (by assumption) hx (by first | decide | omega) (by rw [q3]; omega) ?_
      refine E_aload_n (i := 0) dX8_goesOn_71 rfl rfl ?_
      refine E_gr dX8_goesOn_72 gf_X8_24_8 rfl (by assumption) (by assumption) ?_
      refine E_iload_n (i := 1) dX8_goesOn_75 rfl rfl ?_
      refine E_iload_n (i := 3) dX8_goesOn_76 rfl rfl ?_
      refine E_aload_n (i := 0) dX8_goesOn_77 rfl rfl ?_
      refine E_gr dX8_goesOn_78 gf_X8_28_8 rfl (by assumption) (by assumption) ?_
      refine E_iload_n (i := 1) dX8_goesOn_81 rfl rfl ?_
      refine E_iaj i dX8_goesOn_82 (by assumption) hx (by omega) (by rw [q3]; omega) ?_
      rw [u2_s]
      refine E_iadd dX8_goesOn_83 ?_
      refine E_isj i dX8_goesOn_84 (by assumption) hx (by first | decide | omega) (by rw [p3]; omega) ?_
      refine E_aload_n (i := 0) dX8_goesOn_85 rfl rfl ?_
      refine E_gr dX8_goesOn_86 gf_X8_24_8 rfl (by assumption) (by assumption) ?_
      refine E_iload_n (i := 1) dX8_goesOn_89 rfl rfl ?_
      refine E_iaj i dX8_goesOn_90 (by assumption) hx (by omega) (by rw [p3]; omega) ?_
      rw [u2_s]
      refine E_aload_n (i := 0) dX8_goesOn_91 rfl rfl ?_
      refine E_gr dX8_goesOn_92 gf_X8_12_8 rfl (by assumption) (by assumption) ?_
      refine k_X8_goesOn_95 (mc' := 0) (ms' := 0) (rc := 0) (rs := 0) (by omega) (Nat.le_of_ble_eq_true rfl) (by assumption) (c_X10_end s3 ?_)
      rw [u2_oth _ n24, u2_oth _ n25]
      refine E_icmp_lt (tgt := 109) dX8_goesOn_98 (by decide) (fun c_98 => ?_) (fun c_98 => absurd (Int32.not_le.mp c1) c_98)
      refine E_aload_n (i := 0) dX8_goesOn_109 rfl rfl ?_
      refine E_gr dX8_goesOn_110 gf_X8_24_8 rfl (by assumption) (by assumption) ?_
      refine E_iload_n (i := 1) dX8_goesOn_113 rfl rfl ?_
      refine E_iaj i dX8_goesOn_114 (by assumption) hx (by omega) (by rw [p3]; omega) ?_
      rw [u2_s]
      refine E_if_ge (tgt := 132) dX8_goesOn_115 (by decide) (fun c_115 => ?_) (fun c_115 => absurd (Int32.not_lt.mp c2) c_115)
      refine t2 _ _ ?_
      rw [rs_c]
      exact hΦ
/-- a ride's new pace -/
def pcn (ci : Nat) (w : Nat → Int32) (wt m pl pa : Int32) : Int32 := hel (rub (pa + gnc ci w wt m pl pa) (rbc ci w)) (-300) 300
theorem c_goesOn_5 {B k i r : Nat} {x : Int32} (hd : 6 ≤ d) (hS : St g P B) (hO : WOK (I (B + 2))) (hk : I B 7 = nI k) (hk8 : k ≤ 8) (hi : i < k) (hx : x = nI i) (hp : P (B + 3) i = some r) (hr : Cel g r 5) (hΦ : Φ (some (.int (bz (goB (rsI I B i (pcn 5 (I (B + 2)) (I r 2) (I r 3) (I (B + 4) i) (I (B + 5) i))) B i (I (B + 4) i) (I (B + 5) i))))) g P (rsI I B i (pcn 5 (I (B + 2)) (I r 2) (I r 3) (I (B + 4) i) (I (B + 5) i)))) : MM Γ mX8_goesOn d 0 0 [.ref B, .int x] g P I Φ := by
  refine MM_entry [some _, some _, none, none, none, none] (by decide) (Nat.le_of_ble_eq_true rfl) rfl ?_
  have s1 := hS.c
  have s2 := hS.wp
  have s3 := hS.wi
  have s4 := s3.1
  obtain ⟨p1, p2, p3⟩ := hS.pl
  obtain ⟨q1, q2, q3⟩ := hS.pa
  unfold pcn rbc at hΦ
  rw [if_neg (by decide)] at hΦ
  refine E_aload_n (i := 0) dX8_goesOn_0 rfl rfl ?_
  refine E_iload_n (i := 1) dX8_goesOn_1 rfl rfl ?_
  refine k_X8_goesOn_2 (mc' := 0) (ms' := 0) (rc := 0) (rs := 0) (by omega) (Nat.le_of_ble_eq_true rfl) (by assumption) (c_rideAt_in (by omega) hS hk hk8 hi hx hp ?_)
  refine E_astore_nC (i := 2) dX8_goesOn_5 rfl (by decide) rfl ?_
  refine E_lv (lv' := [_, _, _, _, _, _]) rfl ?_
  refine E_aload_n (i := 2) dX8_goesOn_6 rfl rfl ?_
  refine E_ifnonnull (tgt := 12) dX8_goesOn_7 (by decide) ?_
  refine E_aload_n (i := 0) dX8_goesOn_12 rfl rfl ?_
  refine E_gr dX8_goesOn_13 gf_X8_24_8 rfl (by assumption) (by assumption) ?_
  refine E_iload_n (i := 1) dX8_goesOn_16 rfl rfl ?_
  refine E_iaj i dX8_goesOn_17 (by assumption) hx (by omega) (by rw [p3]; omega) ?_
  refine E_istore_nC (i := 3) dX8_goesOn_18 rfl (by decide) rfl ?_
  refine E_lv (lv' := [_, _, _, _, _, _]) rfl ?_
  refine E_aload_n (i := 0) dX8_goesOn_19 rfl rfl ?_
  refine E_gr dX8_goesOn_20 gf_X8_28_8 rfl (by assumption) (by assumption) ?_
  refine E_iload_n (i := 1) dX8_goesOn_23 rfl rfl ?_
  refine E_iaj i dX8_goesOn_24 (by assumption) hx (by omega) (by rw [q3]; omega) ?_
  refine E_istoreC dX8_goesOn_25 (by decide) rfl ?_
  refine E_lv (lv' := [_, _, _, _, _, _]) rfl ?_
  refine E_iload dX8_goesOn_27 rfl ?_
  refine E_aload_n (i := 2) dX8_goesOn_29 rfl rfl ?_
  refine E_aload_n (i := 0) dX8_goesOn_30 rfl rfl ?_
  refine E_gr dX8_goesOn_31 gf_X8_12_8 rfl (by assumption) (by assumption) ?_
  refine E_iload_n (i := 3) dX8_goesOn_34 rfl rfl ?_
  refine E_iload dX8_goesOn_35 rfl ?_
  refine k_X8_goesOn_37_5 (mc' := 0) (ms' := 0) (rc := 0) (rs := 0) (by omega) (Nat.le_of_ble_eq_true rfl) hr (c_X5_gain_5 (by omega) hr s3 hO ?_)
  refine E_iadd dX8_goesOn_40 ?_
  refine E_aload_n (i := 2) dX8_goesOn_41 rfl rfl ?_
  refine E_aload_n (i := 0) dX8_goesOn_42 rfl rfl ?_
  refine E_gr dX8_goesOn_43 gf_X8_12_8 rfl (by assumption) (by assumption) ?_
  refine k_X8_goesOn_46_5 (mc' := 0) (ms' := 0) (rc := 0) (rs := 0) (by omega) (Nat.le_of_ble_eq_true rfl) hr (c_X5_rubs (by omega) s3 ?_)
  exact goes_tail (by omega) hS hx (by omega) hΦ
theorem c_goesOn_6 {B k i r : Nat} {x : Int32} (hd : 6 ≤ d) (hS : St g P B) (hO : WOK (I (B + 2))) (hk : I B 7 = nI k) (hk8 : k ≤ 8) (hi : i < k) (hx : x = nI i) (hp : P (B + 3) i = some r) (hr : Cel g r 6) (hΦ : Φ (some (.int (bz (goB (rsI I B i (pcn 6 (I (B + 2)) (I r 2) (I r 3) (I (B + 4) i) (I (B + 5) i))) B i (I (B + 4) i) (I (B + 5) i))))) g P (rsI I B i (pcn 6 (I (B + 2)) (I r 2) (I r 3) (I (B + 4) i) (I (B + 5) i)))) : MM Γ mX8_goesOn d 0 0 [.ref B, .int x] g P I Φ := by
  refine MM_entry [some _, some _, none, none, none, none] (by decide) (Nat.le_of_ble_eq_true rfl) rfl ?_
  have s1 := hS.c
  have s2 := hS.wp
  have s3 := hS.wi
  have s4 := s3.1
  obtain ⟨p1, p2, p3⟩ := hS.pl
  obtain ⟨q1, q2, q3⟩ := hS.pa
  unfold pcn rbc at hΦ
  rw [if_neg (by decide)] at hΦ
  refine E_aload_n (i := 0) dX8_goesOn_0 rfl rfl ?_
  refine E_iload_n (i := 1) dX8_goesOn_1 rfl rfl ?_
  refine k_X8_goesOn_2 (mc' := 0) (ms' := 0) (rc := 0) (rs := 0) (by omega) (Nat.le_of_ble_eq_true rfl) (by assumption) (c_rideAt_in (by omega) hS hk hk8 hi hx hp ?_)
  refine E_astore_nC (i := 2) dX8_goesOn_5 rfl (by decide) rfl ?_
  refine E_lv (lv' := [_, _, _, _, _, _]) rfl ?_
  refine E_aload_n (i := 2) dX8_goesOn_6 rfl rfl ?_
  refine E_ifnonnull (tgt := 12) dX8_goesOn_7 (by decide) ?_
  refine E_aload_n (i := 0) dX8_goesOn_12 rfl rfl ?_
  refine E_gr dX8_goesOn_13 gf_X8_24_8 rfl (by assumption) (by assumption) ?_
  refine E_iload_n (i := 1) dX8_goesOn_16 rfl rfl ?_
  refine E_iaj i dX8_goesOn_17 (by assumption) hx (by omega) (by rw [p3]; omega) ?_
  refine E_istore_nC (i := 3) dX8_goesOn_18 rfl (by decide) rfl ?_
  refine E_lv (lv' := [_, _, _, _, _, _]) rfl ?_
  refine E_aload_n (i := 0) dX8_goesOn_19 rfl rfl ?_
  refine E_gr dX8_goesOn_20 gf_X8_28_8 rfl (by assumption) (by assumption) ?_
  refine E_iload_n (i := 1) dX8_goesOn_23 rfl rfl ?_
  refine E_iaj i dX8_goesOn_24 (by assumption) hx (by omega) (by rw [q3]; omega) ?_
  refine E_istoreC dX8_goesOn_25 (by decide) rfl ?_
  refine E_lv (lv' := [_, _, _, _, _, _]) rfl ?_
  refine E_iload dX8_goesOn_27 rfl ?_
  refine E_aload_n (i := 2) dX8_goesOn_29 rfl rfl ?_
  refine E_aload_n (i := 0) dX8_goesOn_30 rfl rfl ?_
  refine E_gr dX8_goesOn_31 gf_X8_12_8 rfl (by assumption) (by assumption) ?_
  refine E_iload_n (i := 3) dX8_goesOn_34 rfl rfl ?_
  refine E_iload dX8_goesOn_35 rfl ?_
  refine k_X8_goesOn_37_6 (mc' := 0) (ms' := 0) (rc := 0) (rs := 0) (by omega) (Nat.le_of_ble_eq_true rfl) hr (c_X5_gain_6 (by omega) hr s3 hO ?_)
  refine E_iadd dX8_goesOn_40 ?_
  refine E_aload_n (i := 2) dX8_goesOn_41 rfl rfl ?_
  refine E_aload_n (i := 0) dX8_goesOn_42 rfl rfl ?_
  refine E_gr dX8_goesOn_43 gf_X8_12_8 rfl (by assumption) (by assumption) ?_
  refine k_X8_goesOn_46_6 (mc' := 0) (ms' := 0) (rc := 0) (rs := 0) (by omega) (Nat.le_of_ble_eq_true rfl) hr (c_X5_rubs (by omega) s3 ?_)
  exact goes_tail (by omega) hS hx (by omega) hΦ
theorem c_goesOn_2 {B k i r : Nat} {x : Int32} (hd : 6 ≤ d) (hS : St g P B) (hO : WOK (I (B + 2))) (hk : I B 7 = nI k) (hk8 : k ≤ 8) (hi : i < k) (hx : x = nI i) (hp : P (B + 3) i = some r) (hr : Cel g r 2) (hΦ : Φ (some (.int (bz (goB (rsI I B i (pcn 2 (I (B + 2)) (I r 2) (I r 3) (I (B + 4) i) (I (B + 5) i))) B i (I (B + 4) i) (I (B + 5) i))))) g P (rsI I B i (pcn 2 (I (B + 2)) (I r 2) (I r 3) (I (B + 4) i) (I (B + 5) i)))) : MM Γ mX8_goesOn d 0 0 [.ref B, .int x] g P I Φ := by
  refine MM_entry [some _, some _, none, none, none, none] (by decide) (Nat.le_of_ble_eq_true rfl) rfl ?_
  have s1 := hS.c
  have s2 := hS.wp
  have s3 := hS.wi
  have s4 := s3.1
  obtain ⟨p1, p2, p3⟩ := hS.pl
  obtain ⟨q1, q2, q3⟩ := hS.pa
  unfold pcn rbc at hΦ
  rw [if_neg (by decide)] at hΦ
  refine E_aload_n (i := 0) dX8_goesOn_0 rfl rfl ?_
  refine E_iload_n (i := 1) dX8_goesOn_1 rfl rfl ?_
  refine k_X8_goesOn_2 (mc' := 0) (ms' := 0) (rc := 0) (rs := 0) (by omega) (Nat.le_of_ble_eq_true rfl) (by assumption) (c_rideAt_in (by omega) hS hk hk8 hi hx hp ?_)
  refine E_astore_nC (i := 2) dX8_goesOn_5 rfl (by decide) rfl ?_
  refine E_lv (lv' := [_, _, _, _, _, _]) rfl ?_
  refine E_aload_n (i := 2) dX8_goesOn_6 rfl rfl ?_
  refine E_ifnonnull (tgt := 12) dX8_goesOn_7 (by decide) ?_
  refine E_aload_n (i := 0) dX8_goesOn_12 rfl rfl ?_
  refine E_gr dX8_goesOn_13 gf_X8_24_8 rfl (by assumption) (by assumption) ?_
  refine E_iload_n (i := 1) dX8_goesOn_16 rfl rfl ?_
  refine E_iaj i dX8_goesOn_17 (by assumption) hx (by omega) (by rw [p3]; omega) ?_
  refine E_istore_nC (i := 3) dX8_goesOn_18 rfl (by decide) rfl ?_
  refine E_lv (lv' := [_, _, _, _, _, _]) rfl ?_
  refine E_aload_n (i := 0) dX8_goesOn_19 rfl rfl ?_
  refine E_gr dX8_goesOn_20 gf_X8_28_8 rfl (by assumption) (by assumption) ?_
  refine E_iload_n (i := 1) dX8_goesOn_23 rfl rfl ?_
  refine E_iaj i dX8_goesOn_24 (by assumption) hx (by omega) (by rw [q3]; omega) ?_
  refine E_istoreC dX8_goesOn_25 (by decide) rfl ?_
  refine E_lv (lv' := [_, _, _, _, _, _]) rfl ?_
  refine E_iload dX8_goesOn_27 rfl ?_
  refine E_aload_n (i := 2) dX8_goesOn_29 rfl rfl ?_
  refine E_aload_n (i := 0) dX8_goesOn_30 rfl rfl ?_
  refine E_gr dX8_goesOn_31 gf_X8_12_8 rfl (by assumption) (by assumption) ?_
  refine E_iload_n (i := 3) dX8_goesOn_34 rfl rfl ?_
  refine E_iload dX8_goesOn_35 rfl ?_
  refine k_X8_goesOn_37_2 (mc' := 0) (ms' := 0) (rc := 0) (rs := 0) (by omega) (Nat.le_of_ble_eq_true rfl) hr (c_X5_gain_2 (by omega) hr s3 hO ?_)
  refine E_iadd dX8_goesOn_40 ?_
  refine E_aload_n (i := 2) dX8_goesOn_41 rfl rfl ?_
  refine E_aload_n (i := 0) dX8_goesOn_42 rfl rfl ?_
  refine E_gr dX8_goesOn_43 gf_X8_12_8 rfl (by assumption) (by assumption) ?_
  refine k_X8_goesOn_46_2 (mc' := 0) (ms' := 0) (rc := 0) (rs := 0) (by omega) (Nat.le_of_ble_eq_true rfl) hr (c_X5_rubs (by omega) s3 ?_)
  exact goes_tail (by omega) hS hx (by omega) hΦ
theorem c_goesOn_0 {B k i r : Nat} {x : Int32} (hd : 6 ≤ d) (hS : St g P B) (hO : WOK (I (B + 2))) (hk : I B 7 = nI k) (hk8 : k ≤ 8) (hi : i < k) (hx : x = nI i) (hp : P (B + 3) i = some r) (hr : Cel g r 0) (hΦ : Φ (some (.int (bz (goB (rsI I B i (pcn 0 (I (B + 2)) (I r 2) (I r 3) (I (B + 4) i) (I (B + 5) i))) B i (I (B + 4) i) (I (B + 5) i))))) g P (rsI I B i (pcn 0 (I (B + 2)) (I r 2) (I r 3) (I (B + 4) i) (I (B + 5) i)))) : MM Γ mX8_goesOn d 0 0 [.ref B, .int x] g P I Φ := by
  refine MM_entry [some _, some _, none, none, none, none] (by decide) (Nat.le_of_ble_eq_true rfl) rfl ?_
  have s1 := hS.c
  have s2 := hS.wp
  have s3 := hS.wi
  have s4 := s3.1
  obtain ⟨p1, p2, p3⟩ := hS.pl
  obtain ⟨q1, q2, q3⟩ := hS.pa
  unfold pcn rbc at hΦ
  rw [if_neg (by decide)] at hΦ
  refine E_aload_n (i := 0) dX8_goesOn_0 rfl rfl ?_
  refine E_iload_n (i := 1) dX8_goesOn_1 rfl rfl ?_
  refine k_X8_goesOn_2 (mc' := 0) (ms' := 0) (rc := 0) (rs := 0) (by omega) (Nat.le_of_ble_eq_true rfl) (by assumption) (c_rideAt_in (by omega) hS hk hk8 hi hx hp ?_)
  refine E_astore_nC (i := 2) dX8_goesOn_5 rfl (by decide) rfl ?_
  refine E_lv (lv' := [_, _, _, _, _, _]) rfl ?_
  refine E_aload_n (i := 2) dX8_goesOn_6 rfl rfl ?_
  refine E_ifnonnull (tgt := 12) dX8_goesOn_7 (by decide) ?_
  refine E_aload_n (i := 0) dX8_goesOn_12 rfl rfl ?_
  refine E_gr dX8_goesOn_13 gf_X8_24_8 rfl (by assumption) (by assumption) ?_
  refine E_iload_n (i := 1) dX8_goesOn_16 rfl rfl ?_
  refine E_iaj i dX8_goesOn_17 (by assumption) hx (by omega) (by rw [p3]; omega) ?_
  refine E_istore_nC (i := 3) dX8_goesOn_18 rfl (by decide) rfl ?_
  refine E_lv (lv' := [_, _, _, _, _, _]) rfl ?_
  refine E_aload_n (i := 0) dX8_goesOn_19 rfl rfl ?_
  refine E_gr dX8_goesOn_20 gf_X8_28_8 rfl (by assumption) (by assumption) ?_
  refine E_iload_n (i := 1) dX8_goesOn_23 rfl rfl ?_
  refine E_iaj i dX8_goesOn_24 (by assumption) hx (by omega) (by rw [q3]; omega) ?_
  refine E_istoreC dX8_goesOn_25 (by decide) rfl ?_
  refine E_lv (lv' := [_, _, _, _, _, _]) rfl ?_
  refine E_iload dX8_goesOn_27 rfl ?_
  refine E_aload_n (i := 2) dX8_goesOn_29 rfl rfl ?_
  refine E_aload_n (i := 0) dX8_goesOn_30 rfl rfl ?_
  refine E_gr dX8_goesOn_31 gf_X8_12_8 rfl (by assumption) (by assumption) ?_
  refine E_iload_n (i := 3) dX8_goesOn_34 rfl rfl ?_
  refine E_iload dX8_goesOn_35 rfl ?_
  refine k_X8_goesOn_37_0 (mc' := 0) (ms' := 0) (rc := 0) (rs := 0) (by omega) (Nat.le_of_ble_eq_true rfl) hr (c_X5_gain_0 (by omega) hr s3 hO ?_)
  refine E_iadd dX8_goesOn_40 ?_
  refine E_aload_n (i := 2) dX8_goesOn_41 rfl rfl ?_
  refine E_aload_n (i := 0) dX8_goesOn_42 rfl rfl ?_
  refine E_gr dX8_goesOn_43 gf_X8_12_8 rfl (by assumption) (by assumption) ?_
  refine k_X8_goesOn_46_0 (mc' := 0) (ms' := 0) (rc := 0) (rs := 0) (by omega) (Nat.le_of_ble_eq_true rfl) hr (c_X5_rubs (by omega) s3 ?_)
  exact goes_tail (by omega) hS hx (by omega) hΦ
theorem c_goesOn_9 {B k i r : Nat} {x : Int32} (hd : 6 ≤ d) (hS : St g P B) (hO : WOK (I (B + 2))) (hk : I B 7 = nI k) (hk8 : k ≤ 8) (hi : i < k) (hx : x = nI i) (hp : P (B + 3) i = some r) (hr : Cel g r 9) (hΦ : Φ (some (.int (bz (goB (rsI I B i (pcn 9 (I (B + 2)) (I r 2) (I r 3) (I (B + 4) i) (I (B + 5) i))) B i (I (B + 4) i) (I (B + 5) i))))) g P (rsI I B i (pcn 9 (I (B + 2)) (I r 2) (I r 3) (I (B + 4) i) (I (B + 5) i)))) : MM Γ mX8_goesOn d 0 0 [.ref B, .int x] g P I Φ := by
  refine MM_entry [some _, some _, none, none, none, none] (by decide) (Nat.le_of_ble_eq_true rfl) rfl ?_
  have s1 := hS.c
  have s2 := hS.wp
  have s3 := hS.wi
  have s4 := s3.1
  obtain ⟨p1, p2, p3⟩ := hS.pl
  obtain ⟨q1, q2, q3⟩ := hS.pa
  unfold pcn rbc at hΦ
  rw [if_neg (by decide)] at hΦ
  refine E_aload_n (i := 0) dX8_goesOn_0 rfl rfl ?_
  refine E_iload_n (i := 1) dX8_goesOn_1 rfl rfl ?_
  refine k_X8_goesOn_2 (mc' := 0) (ms' := 0) (rc := 0) (rs := 0) (by omega) (Nat.le_of_ble_eq_true rfl) (by assumption) (c_rideAt_in (by omega) hS hk hk8 hi hx hp ?_)
  refine E_astore_nC (i := 2) dX8_goesOn_5 rfl (by decide) rfl ?_
  refine E_lv (lv' := [_, _, _, _, _, _]) rfl ?_
  refine E_aload_n (i := 2) dX8_goesOn_6 rfl rfl ?_
  refine E_ifnonnull (tgt := 12) dX8_goesOn_7 (by decide) ?_
  refine E_aload_n (i := 0) dX8_goesOn_12 rfl rfl ?_
  refine E_gr dX8_goesOn_13 gf_X8_24_8 rfl (by assumption) (by assumption) ?_
  refine E_iload_n (i := 1) dX8_goesOn_16 rfl rfl ?_
  refine E_iaj i dX8_goesOn_17 (by assumption) hx (by omega) (by rw [p3]; omega) ?_
  refine E_istore_nC (i := 3) dX8_goesOn_18 rfl (by decide) rfl ?_
  refine E_lv (lv' := [_, _, _, _, _, _]) rfl ?_
  refine E_aload_n (i := 0) dX8_goesOn_19 rfl rfl ?_
  refine E_gr dX8_goesOn_20 gf_X8_28_8 rfl (by assumption) (by assumption) ?_
  refine E_iload_n (i := 1) dX8_goesOn_23 rfl rfl ?_
  refine E_iaj i dX8_goesOn_24 (by assumption) hx (by omega) (by rw [q3]; omega) ?_
  refine E_istoreC dX8_goesOn_25 (by decide) rfl ?_
  refine E_lv (lv' := [_, _, _, _, _, _]) rfl ?_
  refine E_iload dX8_goesOn_27 rfl ?_
  refine E_aload_n (i := 2) dX8_goesOn_29 rfl rfl ?_
  refine E_aload_n (i := 0) dX8_goesOn_30 rfl rfl ?_
  refine E_gr dX8_goesOn_31 gf_X8_12_8 rfl (by assumption) (by assumption) ?_
  refine E_iload_n (i := 3) dX8_goesOn_34 rfl rfl ?_
  refine E_iload dX8_goesOn_35 rfl ?_
  refine k_X8_goesOn_37_9 (mc' := 0) (ms' := 0) (rc := 0) (rs := 0) (by omega) (Nat.le_of_ble_eq_true rfl) hr (c_X5_gain_9 (by omega) hr s3 hO ?_)
  refine E_iadd dX8_goesOn_40 ?_
  refine E_aload_n (i := 2) dX8_goesOn_41 rfl rfl ?_
  refine E_aload_n (i := 0) dX8_goesOn_42 rfl rfl ?_
  refine E_gr dX8_goesOn_43 gf_X8_12_8 rfl (by assumption) (by assumption) ?_
  refine k_X8_goesOn_46_9 (mc' := 0) (ms' := 0) (rc := 0) (rs := 0) (by omega) (Nat.le_of_ble_eq_true rfl) hr (c_X5_rubs (by omega) s3 ?_)
  exact goes_tail (by omega) hS hx (by omega) hΦ
theorem c_goesOn_3 {B k i r : Nat} {x : Int32} (hd : 6 ≤ d) (hS : St g P B) (hO : WOK (I (B + 2))) (hk : I B 7 = nI k) (hk8 : k ≤ 8) (hi : i < k) (hx : x = nI i) (hp : P (B + 3) i = some r) (hr : Cel g r 3) (hΦ : Φ (some (.int (bz (goB (rsI I B i (pcn 3 (I (B + 2)) (I r 2) (I r 3) (I (B + 4) i) (I (B + 5) i))) B i (I (B + 4) i) (I (B + 5) i))))) g P (rsI I B i (pcn 3 (I (B + 2)) (I r 2) (I r 3) (I (B + 4) i) (I (B + 5) i)))) : MM Γ mX8_goesOn d 0 0 [.ref B, .int x] g P I Φ := by
  refine MM_entry [some _, some _, none, none, none, none] (by decide) (Nat.le_of_ble_eq_true rfl) rfl ?_
  have s1 := hS.c
  have s2 := hS.wp
  have s3 := hS.wi
  have s4 := s3.1
  obtain ⟨p1, p2, p3⟩ := hS.pl
  obtain ⟨q1, q2, q3⟩ := hS.pa
  unfold pcn rbc at hΦ
  rw [if_neg (by decide)] at hΦ
  refine E_aload_n (i := 0) dX8_goesOn_0 rfl rfl ?_
  refine E_iload_n (i := 1) dX8_goesOn_1 rfl rfl ?_
  refine k_X8_goesOn_2 (mc' := 0) (ms' := 0) (rc := 0) (rs := 0) (by omega) (Nat.le_of_ble_eq_true rfl) (by assumption) (c_rideAt_in (by omega) hS hk hk8 hi hx hp ?_)
  refine E_astore_nC (i := 2) dX8_goesOn_5 rfl (by decide) rfl ?_
  refine E_lv (lv' := [_, _, _, _, _, _]) rfl ?_
  refine E_aload_n (i := 2) dX8_goesOn_6 rfl rfl ?_
  refine E_ifnonnull (tgt := 12) dX8_goesOn_7 (by decide) ?_
  refine E_aload_n (i := 0) dX8_goesOn_12 rfl rfl ?_
  refine E_gr dX8_goesOn_13 gf_X8_24_8 rfl (by assumption) (by assumption) ?_
  refine E_iload_n (i := 1) dX8_goesOn_16 rfl rfl ?_
  refine E_iaj i dX8_goesOn_17 (by assumption) hx (by omega) (by rw [p3]; omega) ?_
  refine E_istore_nC (i := 3) dX8_goesOn_18 rfl (by decide) rfl ?_
  refine E_lv (lv' := [_, _, _, _, _, _]) rfl ?_
  refine E_aload_n (i := 0) dX8_goesOn_19 rfl rfl ?_
  refine E_gr dX8_goesOn_20 gf_X8_28_8 rfl (by assumption) (by assumption) ?_
  refine E_iload_n (i := 1) dX8_goesOn_23 rfl rfl ?_
  refine E_iaj i dX8_goesOn_24 (by assumption) hx (by omega) (by rw [q3]; omega) ?_
  refine E_istoreC dX8_goesOn_25 (by decide) rfl ?_
  refine E_lv (lv' := [_, _, _, _, _, _]) rfl ?_
  refine E_iload dX8_goesOn_27 rfl ?_
  refine E_aload_n (i := 2) dX8_goesOn_29 rfl rfl ?_
  refine E_aload_n (i := 0) dX8_goesOn_30 rfl rfl ?_
  refine E_gr dX8_goesOn_31 gf_X8_12_8 rfl (by assumption) (by assumption) ?_
  refine E_iload_n (i := 3) dX8_goesOn_34 rfl rfl ?_
  refine E_iload dX8_goesOn_35 rfl ?_
  refine k_X8_goesOn_37_3 (mc' := 0) (ms' := 0) (rc := 0) (rs := 0) (by omega) (Nat.le_of_ble_eq_true rfl) hr (c_X5_gain_3 (by omega) hr s3 hO ?_)
  refine E_iadd dX8_goesOn_40 ?_
  refine E_aload_n (i := 2) dX8_goesOn_41 rfl rfl ?_
  refine E_aload_n (i := 0) dX8_goesOn_42 rfl rfl ?_
  refine E_gr dX8_goesOn_43 gf_X8_12_8 rfl (by assumption) (by assumption) ?_
  refine k_X8_goesOn_46_3 (mc' := 0) (ms' := 0) (rc := 0) (rs := 0) (by omega) (Nat.le_of_ble_eq_true rfl) hr (c_X5_rubs (by omega) s3 ?_)
  exact goes_tail (by omega) hS hx (by omega) hΦ
theorem c_goesOn_1 {B k i r : Nat} {x : Int32} (hd : 6 ≤ d) (hS : St g P B) (hO : WOK (I (B + 2))) (hk : I B 7 = nI k) (hk8 : k ≤ 8) (hi : i < k) (hx : x = nI i) (hp : P (B + 3) i = some r) (hr : Cel g r 1) (hΦ : Φ (some (.int (bz (goB (rsI I B i (pcn 1 (I (B + 2)) (I r 2) (I r 3) (I (B + 4) i) (I (B + 5) i))) B i (I (B + 4) i) (I (B + 5) i))))) g P (rsI I B i (pcn 1 (I (B + 2)) (I r 2) (I r 3) (I (B + 4) i) (I (B + 5) i)))) : MM Γ mX8_goesOn d 0 0 [.ref B, .int x] g P I Φ := by
  refine MM_entry [some _, some _, none, none, none, none] (by decide) (Nat.le_of_ble_eq_true rfl) rfl ?_
  have s1 := hS.c
  have s2 := hS.wp
  have s3 := hS.wi
  have s4 := s3.1
  obtain ⟨p1, p2, p3⟩ := hS.pl
  obtain ⟨q1, q2, q3⟩ := hS.pa
  unfold pcn rbc at hΦ
  rw [if_pos rfl] at hΦ
  refine E_aload_n (i := 0) dX8_goesOn_0 rfl rfl ?_
  refine E_iload_n (i := 1) dX8_goesOn_1 rfl rfl ?_
  refine k_X8_goesOn_2 (mc' := 0) (ms' := 0) (rc := 0) (rs := 0) (by omega) (Nat.le_of_ble_eq_true rfl) (by assumption) (c_rideAt_in (by omega) hS hk hk8 hi hx hp ?_)
  refine E_astore_nC (i := 2) dX8_goesOn_5 rfl (by decide) rfl ?_
  refine E_lv (lv' := [_, _, _, _, _, _]) rfl ?_
  refine E_aload_n (i := 2) dX8_goesOn_6 rfl rfl ?_
  refine E_ifnonnull (tgt := 12) dX8_goesOn_7 (by decide) ?_
  refine E_aload_n (i := 0) dX8_goesOn_12 rfl rfl ?_
  refine E_gr dX8_goesOn_13 gf_X8_24_8 rfl (by assumption) (by assumption) ?_
  refine E_iload_n (i := 1) dX8_goesOn_16 rfl rfl ?_
  refine E_iaj i dX8_goesOn_17 (by assumption) hx (by omega) (by rw [p3]; omega) ?_
  refine E_istore_nC (i := 3) dX8_goesOn_18 rfl (by decide) rfl ?_
  refine E_lv (lv' := [_, _, _, _, _, _]) rfl ?_
  refine E_aload_n (i := 0) dX8_goesOn_19 rfl rfl ?_
  refine E_gr dX8_goesOn_20 gf_X8_28_8 rfl (by assumption) (by assumption) ?_
  refine E_iload_n (i := 1) dX8_goesOn_23 rfl rfl ?_
  refine E_iaj i dX8_goesOn_24 (by assumption) hx (by omega) (by rw [q3]; omega) ?_
  refine E_istoreC dX8_goesOn_25 (by decide) rfl ?_
  refine E_lv (lv' := [_, _, _, _, _, _]) rfl ?_
  refine E_iload dX8_goesOn_27 rfl ?_
  refine E_aload_n (i := 2) dX8_goesOn_29 rfl rfl ?_
  refine E_aload_n (i := 0) dX8_goesOn_30 rfl rfl ?_
  refine E_gr dX8_goesOn_31 gf_X8_12_8 rfl (by assumption) (by assumption) ?_
  refine E_iload_n (i := 3) dX8_goesOn_34 rfl rfl ?_
  refine E_iload dX8_goesOn_35 rfl ?_
  refine k_X8_goesOn_37_1 (mc' := 0) (ms' := 0) (rc := 0) (rs := 0) (by omega) (Nat.le_of_ble_eq_true rfl) hr (c_X5_gain_1 (by omega) hr s3 hO ?_)
  refine E_iadd dX8_goesOn_40 ?_
  refine E_aload_n (i := 2) dX8_goesOn_41 rfl rfl ?_
  refine E_aload_n (i := 0) dX8_goesOn_42 rfl rfl ?_
  refine E_gr dX8_goesOn_43 gf_X8_12_8 rfl (by assumption) (by assumption) ?_
  refine k_X8_goesOn_46_1 (mc' := 0) (ms' := 0) (rc := 0) (rs := 0) (by omega) (Nat.le_of_ble_eq_true rfl) hr (c_X1_rubs (by omega) hr s3 ?_)
  exact goes_tail (by omega) hS hx (by omega) hΦ
end
