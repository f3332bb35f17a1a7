/-! the model: sheets, count, rides told -/
/-- n cells of a row from a on are 0 -/
def zfr (f : Nat → Int32) (a n : Nat) : Nat → Int32 := fun t => if a ≤ t ∧ t < a + n then 0 else f t
theorem zfr_0 (f : Nat → Int32) (a : Nat) : zfr f a 0 = f := by
  funext t
  unfold zfr
  rw [if_neg (by omega)]
theorem zfr_s (f : Nat → Int32) (a n : Nat) : ur (zfr f a n) (a + n) 0 = zfr f a (n + 1) := by
  funext t
  unfold ur zfr
  by_cases h : t = a + n
  · rw [if_pos h, if_pos (by omega)]
  · rw [if_neg h]
    by_cases h2 : a ≤ t ∧ t < a + n
    · rw [if_pos h2, if_pos (by omega)]
    · rw [if_neg h2, if_neg (by omega)]
theorem cpy_0 (f h : Nat → Int32) (sp dp : Nat) : va_cpy f h sp dp 0 = h := by
  funext t
  unfold va_cpy
  rw [if_neg (by omega)]
theorem cpy_s (f h : Nat → Int32) (sp dp n : Nat) : ur (va_cpy f h sp dp n) (dp + n) (f (sp + n)) = va_cpy f h sp dp (n + 1) := by
  funext t
  unfold ur va_cpy
  by_cases e : t = dp + n
  · rw [if_pos e, if_pos (by omega), e, show dp + n - dp = n by omega]
  · rw [if_neg e]
    by_cases h2 : dp ≤ t ∧ t < dp + n
    · rw [if_pos h2, if_pos (by omega)]
    · rw [if_neg h2, if_neg (by omega)]
theorem cpy_cpy (f c h : Nat → Int32) (sp dp n : Nat) : va_cpy (va_cpy f c sp 0 n) h 0 dp n = va_cpy f h sp dp n := by
  funext t
  unfold va_cpy
  by_cases h2 : dp ≤ t ∧ t < dp + n
  · rw [if_pos h2, if_pos h2, if_pos (by omega), show sp + (0 + (t - dp) - 0) = sp + (t - dp) by omega]
  · rw [if_neg h2, if_neg h2]
section
variable {Γ : GE} {d : Nat} {g : Sh} {P : HP} {I : HI} {Φ : Option Value → Sh → HP → HI → Prop}
def shM (I : HI) (j m : Nat) (b : Int32) : HI := ur (u2 (u2 I 124 j b) 125 j (nI m)) 126 (zfr (I 126) (40 * j) 40)
theorem c_X12_sheet {x b n : Int32} (hd : 2 ≤ d) (hM : Mo g P) (h1 : ∀ j m, x = nI j → j < 4 → okSh x b → m ≤ 40 → (b = 0 ∧ m = 0 ∨ ¬ b = 0 ∧ n = nI m) → Φ (some (.int 1)) g P (shM I j m b)) (h2 : ¬ okSh x b → Φ (some (.int (er 1))) g P (flM I 1)) (h3 : okSh x b → ¬ b = 0 → n < 0 → Φ (some (.int (er 3))) g P (flM I 3)) (h4 : okSh x b → ¬ b = 0 → ¬ n < 0 → 40 < n → Φ (some (.int (er 1))) g P (flM I 1)) : MM Γ mX12_sheet d 0 0 [.ref 109, .int x, .int b, .int n] g P I Φ := by
  refine MM_entry [some _, some _, some _, some _, none] (by decide) (Nat.le_of_ble_eq_true rfl) rfl ?_
  have h0 := hM.1
  obtain ⟨w1, w2, w3⟩ := hM.wid
  obtain ⟨s1, s2, s3⟩ := hM.siz
  obtain ⟨n1, n2, n3⟩ := hM.num
  by_cases hc : 0 ≤ x ∧ x ≤ 3
  · obtain ⟨j, hx, hj'⟩ := in_04 (n := 3) (by omega) hc
    have hj : j < 4 := by omega
    have tail : ∀ m, Φ (some (.int 1)) g P (shM I j m b) → ∀ (N k : Nat) (y : Int32) (J : HI), 40 - k ≤ N → k ≤ 40 → y = nI k → J = ur (u2 (u2 I 124 j b) 125 j (nI m)) 126 (zfr (I 126) (40 * j) k) → E Γ mX12_sheet d 0 0 (QM Γ 0 0 Φ) 0 0 93 [some (.ref 109), some (.int x), some (.int b), some (.int n), some (.int y)] [] g P J := by
      intro m hΦ N
      unfold shM at hΦ
      induction N with
      | zero =>
        intro k y J hN hk hy hJ
        have : k = 40 := by omega
        subst this
        refine E_iload dX12_sheet_93 rfl ?_
        refine E_bipush (v := 40) dX12_sheet_95 (by decide) ?_
        refine E_icmp_ge (tgt := 119) dX12_sheet_97 (by decide) (fun c_97 => ?_) (fun c_97 => absurd (by rw [hy]; decide) c_97)
        refine E_iconst (v := 1) dX12_sheet_119 (by decide) ?_
        refine E_iret dX12_sheet_120 rfl ?_
        rw [hJ]
        exact hΦ
      | succ N ih =>
        intro k y J hN hk hy hJ
        by_cases hk4 : k = 40
        · subst hk4
          refine E_iload dX12_sheet_93 rfl ?_
          refine E_bipush (v := 40) dX12_sheet_95 (by decide) ?_
          refine E_icmp_ge (tgt := 119) dX12_sheet_97 (by decide) (fun c_97 => ?_) (fun c_97 => absurd (by rw [hy]; decide) c_97)
          refine E_iconst (v := 1) dX12_sheet_119 (by decide) ?_
          refine E_iret dX12_sheet_120 rfl ?_
          rw [hJ]
          exact hΦ
        · have ix : (40 : Int32) * x + y = nI (40 * j + k) := by rw [hx, hy, show (40 : Int32) * nI j = nI (40 * j) from pk_mul 40 j, nI_add]
          refine E_iload dX12_sheet_93 rfl ?_
          refine E_bipush (v := 40) dX12_sheet_95 (by decide) ?_
          refine E_icmp_ge (tgt := 119) dX12_sheet_97 (by decide) (fun c_97 => absurd c_97 (by rw [hy]; exact nI_ge (b := 40) (by omega) (by omega))) (fun c_97 => ?_)
          refine E_aload_n (i := 0) dX12_sheet_100 rfl rfl ?_
          refine E_gr dX12_sheet_101 gf_X12_66_12 rfl (by assumption) (by assumption) ?_
          refine E_bipush (v := 40) dX12_sheet_104 (by decide) ?_
          refine E_iload_n (i := 1) dX12_sheet_106 rfl rfl ?_
          refine E_imul dX12_sheet_107 ?_
          refine E_iload dX12_sheet_108 rfl ?_
          refine E_iadd dX12_sheet_110 ?_
          refine E_iconst (v := 0) dX12_sheet_111 (by decide) ?_
          refine E_isj (40 * j + k) dX12_sheet_112 (by assumption) ix (by first | decide | omega) (by rw [n3]; omega) ?_
          refine E_incC (c := 1) dX12_sheet_113 rfl (by decide) (by decide) rfl ?_
          refine E_lv (lv' := [_, _, _, _, _]) rfl ?_
          refine E_goto (tgt := 93) dX12_sheet_116 (by decide) ?_
          refine ih (k + 1) _ _ (by omega) (by omega) (by rw [hy, nI_1]) ?_
          rw [hJ, u2_ur, ur_s, zfr_s, ur_ur]
    by_cases hb : b = 0 ∨ b = 8 ∨ b = 16 ∨ b = 32
    · have ok : okSh x b := ⟨hc, hb⟩
      by_cases hb0 : b = 0
      · have hΦ := h1 j 0 hx hj ok (by omega) (Or.inl ⟨hb0, rfl⟩)
        refine E_iload_n (i := 1) dX12_sheet_0 rfl rfl ?_
        refine k_X12_sheet_1 (mc' := 0) (ms' := 0) (rc := 0) (rs := 0) (by omega) (Nat.le_of_ble_eq_true rfl) (c_X12_isSheet (by omega) ?_)
        rw [bz_t hc]
        refine E_if_eq (tgt := 29) dX12_sheet_4 (by decide) (fun c_4 => absurd c_4 (by decide)) (fun c_4 => ?_)
        refine E_iload_n (i := 2) dX12_sheet_7 rfl rfl ?_
        refine E_if_eq (tgt := 36) dX12_sheet_8 (by decide) (fun c_8 => ?_) (fun c_8 => absurd (hb0) c_8)
        refine E_iload_n (i := 2) dX12_sheet_36 rfl rfl ?_
        refine E_if_eq (tgt := 51) dX12_sheet_37 (by decide) (fun c_37 => ?_) (fun c_37 => absurd (hb0) c_37)
        refine E_iload_n (i := 2) dX12_sheet_51 rfl rfl ?_
        refine E_if_eq (tgt := 68) dX12_sheet_52 (by decide) (fun c_52 => ?_) (fun c_52 => absurd (hb0) c_52)
        refine E_aload_n (i := 0) dX12_sheet_68 rfl rfl ?_
        refine E_gr dX12_sheet_69 gf_X12_60_12 rfl (by assumption) (by assumption) ?_
        refine E_iload_n (i := 1) dX12_sheet_72 rfl rfl ?_
        refine E_iload_n (i := 2) dX12_sheet_73 rfl rfl ?_
        refine E_isj j dX12_sheet_74 (by assumption) hx (by first | decide | omega) (by rw [w3]; omega) ?_
        refine E_aload_n (i := 0) dX12_sheet_75 rfl rfl ?_
        refine E_gr dX12_sheet_76 gf_X12_63_12 rfl (by assumption) (by assumption) ?_
        refine E_iload_n (i := 1) dX12_sheet_79 rfl rfl ?_
        refine E_iload_n (i := 2) dX12_sheet_80 rfl rfl ?_
        refine E_if_ne (tgt := 88) dX12_sheet_81 (by decide) (fun c_81 => absurd (hb0) c_81) (fun c_81 => ?_)
        refine E_iconst (v := 0) dX12_sheet_84 (by decide) ?_
        refine E_goto (tgt := 89) dX12_sheet_85 (by decide) ?_
        refine E_isj j dX12_sheet_89 (by assumption) hx (by first | decide | omega) (by rw [s3]; omega) ?_
        refine E_iconst (v := 0) dX12_sheet_90 (by decide) ?_
        refine E_istoreC dX12_sheet_91 (by decide) rfl ?_
        refine E_lv (lv' := [_, _, _, _, _]) rfl ?_
        refine tail 0 hΦ 40 0 _ _ (by omega) (by omega) rfl ?_
        rw [zfr_0, show I 126 = (u2 (u2 I 124 j b) 125 j (nI 0)) 126 by rw [u2_oth _ (by decide), u2_oth _ (by decide)], ur_id]
        rfl
      · have hb1 : b = 8 ∨ b = 16 ∨ b = 32 := hb.resolve_left hb0
        have mid : E Γ mX12_sheet d 0 0 (QM Γ 0 0 Φ) 0 0 36 [some (.ref 109), some (.int x), some (.int b), some (.int n), none] [] g P I := by
          by_cases hn : n < 0
          · have hΦ := h3 ok hb0 hn
            refine E_iload_n (i := 2) dX12_sheet_36 rfl rfl ?_
            refine E_if_eq (tgt := 51) dX12_sheet_37 (by decide) (fun c_37 => absurd c_37 (hb0)) (fun c_37 => ?_)
            refine E_iload_n (i := 3) dX12_sheet_40 rfl rfl ?_
            refine E_if_ge (tgt := 51) dX12_sheet_41 (by decide) (fun c_41 => absurd c_41 (Int32.not_le.mpr hn)) (fun c_41 => ?_)
            refine E_aload_n (i := 0) dX12_sheet_44 rfl rfl ?_
            refine E_ldc (v := -1000000003) dX12_sheet_45 w_1294 ?_
            refine k_X12_sheet_47 (mc' := 0) (ms' := 0) (rc := 0) (rs := 0) (by omega) (Nat.le_of_ble_eq_true rfl) (by assumption) (c_find3 hM ?_)
            refine E_iret dX12_sheet_50 rfl ?_
            exact hΦ
          · by_cases hn2 : 40 < n
            · have hΦ := h4 ok hb0 hn hn2
              refine E_iload_n (i := 2) dX12_sheet_36 rfl rfl ?_
              refine E_if_eq (tgt := 51) dX12_sheet_37 (by decide) (fun c_37 => absurd c_37 (hb0)) (fun c_37 => ?_)
              refine E_iload_n (i := 3) dX12_sheet_40 rfl rfl ?_
              refine E_if_ge (tgt := 51) dX12_sheet_41 (by decide) (fun c_41 => ?_) (fun c_41 => absurd (Int32.not_lt.mp hn) c_41)
              refine E_iload_n (i := 2) dX12_sheet_51 rfl rfl ?_
              refine E_if_eq (tgt := 68) dX12_sheet_52 (by decide) (fun c_52 => absurd c_52 (hb0)) (fun c_52 => ?_)
              refine E_iload_n (i := 3) dX12_sheet_55 rfl rfl ?_
              refine E_bipush (v := 40) dX12_sheet_56 (by decide) ?_
              refine E_icmp_le (tgt := 68) dX12_sheet_58 (by decide) (fun c_58 => absurd c_58 (Int32.not_le.mpr hn2)) (fun c_58 => ?_)
              refine E_aload_n (i := 0) dX12_sheet_61 rfl rfl ?_
              refine E_ldc (v := -1000000001) dX12_sheet_62 w_1208 ?_
              refine k_X12_sheet_64 (mc' := 0) (ms' := 0) (rc := 0) (rs := 0) (by omega) (Nat.le_of_ble_eq_true rfl) (by assumption) (c_find1 hM ?_)
              refine E_iret dX12_sheet_67 rfl ?_
              exact hΦ
            · obtain ⟨m, hm, hm2⟩ := in_04 (x := n) (n := 40) (by omega) ⟨Int32.not_lt.mp hn, Int32.not_lt.mp hn2⟩
              have hΦ := h1 j m hx hj ok hm2 (Or.inr ⟨hb0, hm⟩)
              subst hm
              refine E_iload_n (i := 2) dX12_sheet_36 rfl rfl ?_
              refine E_if_eq (tgt := 51) dX12_sheet_37 (by decide) (fun c_37 => absurd c_37 (hb0)) (fun c_37 => ?_)
              refine E_iload_n (i := 3) dX12_sheet_40 rfl rfl ?_
              refine E_if_ge (tgt := 51) dX12_sheet_41 (by decide) (fun c_41 => ?_) (fun c_41 => absurd (Int32.not_lt.mp hn) c_41)
              refine E_iload_n (i := 2) dX12_sheet_51 rfl rfl ?_
              refine E_if_eq (tgt := 68) dX12_sheet_52 (by decide) (fun c_52 => absurd c_52 (hb0)) (fun c_52 => ?_)
              refine E_iload_n (i := 3) dX12_sheet_55 rfl rfl ?_
              refine E_bipush (v := 40) dX12_sheet_56 (by decide) ?_
              refine E_icmp_le (tgt := 68) dX12_sheet_58 (by decide) (fun c_58 => ?_) (fun c_58 => absurd (Int32.not_lt.mp hn2) c_58)
              refine E_aload_n (i := 0) dX12_sheet_68 rfl rfl ?_
              refine E_gr dX12_sheet_69 gf_X12_60_12 rfl (by assumption) (by assumption) ?_
              refine E_iload_n (i := 1) dX12_sheet_72 rfl rfl ?_
              refine E_iload_n (i := 2) dX12_sheet_73 rfl rfl ?_
              refine E_isj j dX12_sheet_74 (by assumption) hx (by first | decide | omega) (by rw [w3]; omega) ?_
              refine E_aload_n (i := 0) dX12_sheet_75 rfl rfl ?_
              refine E_gr dX12_sheet_76 gf_X12_63_12 rfl (by assumption) (by assumption) ?_
              refine E_iload_n (i := 1) dX12_sheet_79 rfl rfl ?_
              refine E_iload_n (i := 2) dX12_sheet_80 rfl rfl ?_
              refine E_if_ne (tgt := 88) dX12_sheet_81 (by decide) (fun c_81 => ?_) (fun c_81 => absurd c_81 (hb0))
              refine E_iload_n (i := 3) dX12_sheet_88 rfl rfl ?_
              refine E_isj j dX12_sheet_89 (by assumption) hx (by first | decide | omega) (by rw [s3]; omega) ?_
              refine E_iconst (v := 0) dX12_sheet_90 (by decide) ?_
              refine E_istoreC dX12_sheet_91 (by decide) rfl ?_
              refine E_lv (lv' := [_, _, _, _, _]) rfl ?_
              refine tail m hΦ 40 0 _ _ (by omega) (by omega) rfl ?_
              rw [zfr_0, show I 126 = (u2 (u2 I 124 j b) 125 j (nI m)) 126 by rw [u2_oth _ (by decide), u2_oth _ (by decide)], ur_id]
        refine E_iload_n (i := 1) dX12_sheet_0 rfl rfl ?_
        refine k_X12_sheet_1 (mc' := 0) (ms' := 0) (rc := 0) (rs := 0) (by omega) (Nat.le_of_ble_eq_true rfl) (c_X12_isSheet (by omega) ?_)
        rw [bz_t hc]
        refine E_if_eq (tgt := 29) dX12_sheet_4 (by decide) (fun c_4 => absurd c_4 (by decide)) (fun c_4 => ?_)
        refine E_iload_n (i := 2) dX12_sheet_7 rfl rfl ?_
        refine E_if_eq (tgt := 36) dX12_sheet_8 (by decide) (fun c_8 => absurd c_8 (hb0)) (fun c_8 => ?_)
        refine E_iload_n (i := 2) dX12_sheet_11 rfl rfl ?_
        refine E_bipush (v := 8) dX12_sheet_12 (by decide) ?_
        refine E_icmp_eq (tgt := 36) dX12_sheet_14 (by decide) (fun c_14 => ?_) (fun c_14 => ?_)
        · exact mid
        · refine E_iload_n (i := 2) dX12_sheet_17 rfl rfl ?_
          refine E_bipush (v := 16) dX12_sheet_18 (by decide) ?_
          refine E_icmp_eq (tgt := 36) dX12_sheet_20 (by decide) (fun c_20 => ?_) (fun c_20 => ?_)
          · exact mid
          · refine E_iload_n (i := 2) dX12_sheet_23 rfl rfl ?_
            refine E_bipush (v := 32) dX12_sheet_24 (by decide) ?_
            refine E_icmp_eq (tgt := 36) dX12_sheet_26 (by decide) (fun c_26 => ?_) (fun c_26 => ?_)
            · exact mid
            · exact absurd hb1 (fun h => h.elim c_14 (fun h => h.elim c_20 c_26))
    · have hΦ := h2 (fun h => hb h.2)
      refine E_iload_n (i := 1) dX12_sheet_0 rfl rfl ?_
      refine k_X12_sheet_1 (mc' := 0) (ms' := 0) (rc := 0) (rs := 0) (by omega) (Nat.le_of_ble_eq_true rfl) (c_X12_isSheet (by omega) ?_)
      rw [bz_t hc]
      refine E_if_eq (tgt := 29) dX12_sheet_4 (by decide) (fun c_4 => absurd c_4 (by decide)) (fun c_4 => ?_)
      refine E_iload_n (i := 2) dX12_sheet_7 rfl rfl ?_
      refine E_if_eq (tgt := 36) dX12_sheet_8 (by decide) (fun c_8 => absurd c_8 (fun h => hb (Or.inl h))) (fun c_8 => ?_)
      refine E_iload_n (i := 2) dX12_sheet_11 rfl rfl ?_
      refine E_bipush (v := 8) dX12_sheet_12 (by decide) ?_
      refine E_icmp_eq (tgt := 36) dX12_sheet_14 (by decide) (fun c_14 => absurd c_14 (fun h => hb (Or.inr (Or.inl h)))) (fun c_14 => ?_)
      refine E_iload_n (i := 2) dX12_sheet_17 rfl rfl ?_
      refine E_bipush (v := 16) dX12_sheet_18 (by decide) ?_
      refine E_icmp_eq (tgt := 36) dX12_sheet_20 (by decide) (fun c_20 => absurd c_20 (fun h => hb (Or.inr (Or.inr (Or.inl h))))) (fun c_20 => ?_)
      refine E_iload_n (i := 2) dX12_sheet_23 rfl rfl ?_
      refine E_bipush (v := 32) dX12_sheet_24 (by decide) ?_
      refine E_icmp_eq (tgt := 36) dX12_sheet_26 (by decide) (fun c_26 => absurd c_26 (fun h => hb (Or.inr (Or.inr (Or.inr h))))) (fun c_26 => ?_)
      refine E_aload_n (i := 0) dX12_sheet_29 rfl rfl ?_
      refine E_ldc (v := -1000000001) dX12_sheet_30 w_1208 ?_
      refine k_X12_sheet_32 (mc' := 0) (ms' := 0) (rc := 0) (rs := 0) (by omega) (Nat.le_of_ble_eq_true rfl) (by assumption) (c_find1 hM ?_)
      refine E_iret dX12_sheet_35 rfl ?_
      exact hΦ
  · have hΦ := h2 (fun h => hc h.1)
    refine E_iload_n (i := 1) dX12_sheet_0 rfl rfl ?_
    refine k_X12_sheet_1 (mc' := 0) (ms' := 0) (rc := 0) (rs := 0) (by omega) (Nat.le_of_ble_eq_true rfl) (c_X12_isSheet (by omega) ?_)
    rw [bz_f hc]
    refine E_if_eq (tgt := 29) dX12_sheet_4 (by decide) (fun c_4 => ?_) (fun c_4 => absurd (rfl) c_4)
    refine E_aload_n (i := 0) dX12_sheet_29 rfl rfl ?_
    refine E_ldc (v := -1000000001) dX12_sheet_30 w_1208 ?_
    refine k_X12_sheet_32 (mc' := 0) (ms' := 0) (rc := 0) (rs := 0) (by omega) (Nat.le_of_ble_eq_true rfl) (by assumption) (c_find1 hM ?_)
    refine E_iret dX12_sheet_35 rfl ?_
    exact hΦ
theorem c_X12_put {x i v : Int32} {sz : Nat → Nat} (hd : 2 ≤ d) (hM : Mo g P) (hZ : ∀ j, j < 4 → I 125 j = nI (sz j) ∧ sz j ≤ 40) (h1 : ∀ j m, x = nI j → j < 4 → ¬ I 124 j = 0 → i = nI m → m < sz j → Φ (some (.int 1)) g P (u2 I 126 (40 * j + m) (lows v (I 124 j)))) (h2 : ¬ (0 ≤ x ∧ x ≤ 3) → Φ (some (.int (er 1))) g P (flM I 1)) (h3 : ∀ j, x = nI j → j < 4 → I 124 j = 0 → Φ (some (.int (er 2))) g P (flM I 2)) (h4 : ∀ j, x = nI j → j < 4 → ¬ I 124 j = 0 → ¬ (0 ≤ i ∧ i ≤ nI (sz j) - 1) → Φ (some (.int (er 1))) g P (flM I 1)) : MM Γ mX12_put d 0 0 [.ref 109, .int x, .int i, .int v] g P I Φ := by
  refine MM_entry [some _, some _, some _, some _] (by decide) (Nat.le_of_ble_eq_true rfl) rfl ?_
  have h0 := hM.1
  obtain ⟨w1, w2, w3⟩ := hM.wid
  obtain ⟨s1, s2, s3⟩ := hM.siz
  obtain ⟨n1, n2, n3⟩ := hM.num
  by_cases hc : 0 ≤ x ∧ x ≤ 3
  · obtain ⟨j, hx, hj'⟩ := in_04 (n := 3) (by omega) hc
    have hj : j < 4 := by omega
    have zj := hZ j hj
    by_cases hb : I 124 j = 0
    · have hΦ := h3 j hx hj hb
      refine E_iload_n (i := 1) dX12_put_0 rfl rfl ?_
      refine k_X12_put_1 (mc' := 0) (ms' := 0) (rc := 0) (rs := 0) (by omega) (Nat.le_of_ble_eq_true rfl) (c_X12_isSheet (by omega) ?_)
      rw [bz_t hc]
      refine E_if_ne (tgt := 14) dX12_put_4 (by decide) (fun c_4 => ?_) (fun c_4 => absurd c_4 (by decide))
      refine E_aload_n (i := 0) dX12_put_14 rfl rfl ?_
      refine E_gr dX12_put_15 gf_X12_60_12 rfl (by assumption) (by assumption) ?_
      refine E_iload_n (i := 1) dX12_put_18 rfl rfl ?_
      refine E_iaj j dX12_put_19 (by assumption) hx (by omega) (by rw [w3]; omega) ?_
      refine E_if_ne (tgt := 30) dX12_put_20 (by decide) (fun c_20 => absurd (hb) c_20) (fun c_20 => ?_)
      refine E_aload_n (i := 0) dX12_put_23 rfl rfl ?_
      refine E_ldc (v := -1000000002) dX12_put_24 w_1275 ?_
      refine k_X12_put_26 (mc' := 0) (ms' := 0) (rc := 0) (rs := 0) (by omega) (Nat.le_of_ble_eq_true rfl) (by assumption) (c_find2 hM ?_)
      refine E_iret dX12_put_29 rfl ?_
      exact hΦ
    · by_cases hi : 0 ≤ i ∧ i ≤ nI (sz j) - 1
      · obtain ⟨m, hm, hm2⟩ := in_nat (by omega) hi
        have hΦ := h1 j m hx hj hb hm hm2
        have ix : (40 : Int32) * x + i = nI (40 * j + m) := by rw [hx, hm, show (40 : Int32) * nI j = nI (40 * j) from pk_mul 40 j, nI_add]
        unfold lows at hΦ
        by_cases h8 : I 124 j = 8
        · rw [if_pos h8] at hΦ
          refine E_iload_n (i := 1) dX12_put_0 rfl rfl ?_
          refine k_X12_put_1 (mc' := 0) (ms' := 0) (rc := 0) (rs := 0) (by omega) (Nat.le_of_ble_eq_true rfl) (c_X12_isSheet (by omega) ?_)
          rw [bz_t hc]
          refine E_if_ne (tgt := 14) dX12_put_4 (by decide) (fun c_4 => ?_) (fun c_4 => absurd c_4 (by decide))
          refine E_aload_n (i := 0) dX12_put_14 rfl rfl ?_
          refine E_gr dX12_put_15 gf_X12_60_12 rfl (by assumption) (by assumption) ?_
          refine E_iload_n (i := 1) dX12_put_18 rfl rfl ?_
          refine E_iaj j dX12_put_19 (by assumption) hx (by omega) (by rw [w3]; omega) ?_
          refine E_if_ne (tgt := 30) dX12_put_20 (by decide) (fun c_20 => ?_) (fun c_20 => absurd c_20 (hb))
          refine E_iload_n (i := 2) dX12_put_30 rfl rfl ?_
          refine E_iconst (v := 0) dX12_put_31 (by decide) ?_
          refine E_aload_n (i := 0) dX12_put_32 rfl rfl ?_
          refine E_gr dX12_put_33 gf_X12_63_12 rfl (by assumption) (by assumption) ?_
          refine E_iload_n (i := 1) dX12_put_36 rfl rfl ?_
          refine E_iaj j dX12_put_37 (by assumption) hx (by omega) (by rw [s3]; omega) ?_
          refine E_iconst (v := 1) dX12_put_38 (by decide) ?_
          refine E_isub dX12_put_39 ?_
          refine k_X12_put_40 (mc' := 0) (ms' := 0) (rc := 0) (rs := 0) (by omega) (Nat.le_of_ble_eq_true rfl) (c_X12_within ?_)
          rw [zj.1, bz_t hi]
          refine E_if_ne (tgt := 53) dX12_put_43 (by decide) (fun c_43 => ?_) (fun c_43 => absurd c_43 (by decide))
          refine E_aload_n (i := 0) dX12_put_53 rfl rfl ?_
          refine E_gr dX12_put_54 gf_X12_66_12 rfl (by assumption) (by assumption) ?_
          refine E_bipush (v := 40) dX12_put_57 (by decide) ?_
          refine E_iload_n (i := 1) dX12_put_59 rfl rfl ?_
          refine E_imul dX12_put_60 ?_
          refine E_iload_n (i := 2) dX12_put_61 rfl rfl ?_
          refine E_iadd dX12_put_62 ?_
          refine E_aload_n (i := 0) dX12_put_63 rfl rfl ?_
          refine E_gr dX12_put_64 gf_X12_60_12 rfl (by assumption) (by assumption) ?_
          refine E_iload_n (i := 1) dX12_put_67 rfl rfl ?_
          refine E_iaj j dX12_put_68 (by assumption) hx (by omega) (by rw [w3]; omega) ?_
          refine E_bipush (v := 8) dX12_put_69 (by decide) ?_
          refine E_icmp_ne (tgt := 79) dX12_put_71 (by decide) (fun c_71 => absurd (h8) c_71) (fun c_71 => ?_)
          refine E_iload_n (i := 3) dX12_put_74 rfl rfl ?_
          refine E_i2b dX12_put_75 ?_
          refine E_goto (tgt := 96) dX12_put_76 (by decide) ?_
          refine E_isj (40 * j + m) dX12_put_96 (by assumption) ix (by first | decide | omega) (by rw [n3]; omega) ?_
          refine E_iconst (v := 1) dX12_put_97 (by decide) ?_
          refine E_iret dX12_put_98 rfl ?_
          exact hΦ
        · rw [if_neg h8] at hΦ
          by_cases h16 : I 124 j = 16
          · rw [if_pos h16] at hΦ
            refine E_iload_n (i := 1) dX12_put_0 rfl rfl ?_
            refine k_X12_put_1 (mc' := 0) (ms' := 0) (rc := 0) (rs := 0) (by omega) (Nat.le_of_ble_eq_true rfl) (c_X12_isSheet (by omega) ?_)
            rw [bz_t hc]
            refine E_if_ne (tgt := 14) dX12_put_4 (by decide) (fun c_4 => ?_) (fun c_4 => absurd c_4 (by decide))
            refine E_aload_n (i := 0) dX12_put_14 rfl rfl ?_
            refine E_gr dX12_put_15 gf_X12_60_12 rfl (by assumption) (by assumption) ?_
            refine E_iload_n (i := 1) dX12_put_18 rfl rfl ?_
            refine E_iaj j dX12_put_19 (by assumption) hx (by omega) (by rw [w3]; omega) ?_
            refine E_if_ne (tgt := 30) dX12_put_20 (by decide) (fun c_20 => ?_) (fun c_20 => absurd c_20 (hb))
            refine E_iload_n (i := 2) dX12_put_30 rfl rfl ?_
            refine E_iconst (v := 0) dX12_put_31 (by decide) ?_
            refine E_aload_n (i := 0) dX12_put_32 rfl rfl ?_
            refine E_gr dX12_put_33 gf_X12_63_12 rfl (by assumption) (by assumption) ?_
            refine E_iload_n (i := 1) dX12_put_36 rfl rfl ?_
            refine E_iaj j dX12_put_37 (by assumption) hx (by omega) (by rw [s3]; omega) ?_
            refine E_iconst (v := 1) dX12_put_38 (by decide) ?_
            refine E_isub dX12_put_39 ?_
            refine k_X12_put_40 (mc' := 0) (ms' := 0) (rc := 0) (rs := 0) (by omega) (Nat.le_of_ble_eq_true rfl) (c_X12_within ?_)
            rw [zj.1, bz_t hi]
            refine E_if_ne (tgt := 53) dX12_put_43 (by decide) (fun c_43 => ?_) (fun c_43 => absurd c_43 (by decide))
            refine E_aload_n (i := 0) dX12_put_53 rfl rfl ?_
            refine E_gr dX12_put_54 gf_X12_66_12 rfl (by assumption) (by assumption) ?_
            refine E_bipush (v := 40) dX12_put_57 (by decide) ?_
            refine E_iload_n (i := 1) dX12_put_59 rfl rfl ?_
            refine E_imul dX12_put_60 ?_
            refine E_iload_n (i := 2) dX12_put_61 rfl rfl ?_
            refine E_iadd dX12_put_62 ?_
            refine E_aload_n (i := 0) dX12_put_63 rfl rfl ?_
            refine E_gr dX12_put_64 gf_X12_60_12 rfl (by assumption) (by assumption) ?_
            refine E_iload_n (i := 1) dX12_put_67 rfl rfl ?_
            refine E_iaj j dX12_put_68 (by assumption) hx (by omega) (by rw [w3]; omega) ?_
            refine E_bipush (v := 8) dX12_put_69 (by decide) ?_
            refine E_icmp_ne (tgt := 79) dX12_put_71 (by decide) (fun c_71 => ?_) (fun c_71 => absurd c_71 (h8))
            refine E_aload_n (i := 0) dX12_put_79 rfl rfl ?_
            refine E_gr dX12_put_80 gf_X12_60_12 rfl (by assumption) (by assumption) ?_
            refine E_iload_n (i := 1) dX12_put_83 rfl rfl ?_
            refine E_iaj j dX12_put_84 (by assumption) hx (by omega) (by rw [w3]; omega) ?_
            refine E_bipush (v := 16) dX12_put_85 (by decide) ?_
            refine E_icmp_ne (tgt := 95) dX12_put_87 (by decide) (fun c_87 => absurd (h16) c_87) (fun c_87 => ?_)
            refine E_iload_n (i := 3) dX12_put_90 rfl rfl ?_
            refine E_i2s dX12_put_91 ?_
            refine E_goto (tgt := 96) dX12_put_92 (by decide) ?_
            refine E_isj (40 * j + m) dX12_put_96 (by assumption) ix (by first | decide | omega) (by rw [n3]; omega) ?_
            refine E_iconst (v := 1) dX12_put_97 (by decide) ?_
            refine E_iret dX12_put_98 rfl ?_
            exact hΦ
          · rw [if_neg h16] at hΦ
            refine E_iload_n (i := 1) dX12_put_0 rfl rfl ?_
            refine k_X12_put_1 (mc' := 0) (ms' := 0) (rc := 0) (rs := 0) (by omega) (Nat.le_of_ble_eq_true rfl) (c_X12_isSheet (by omega) ?_)
            rw [bz_t hc]
            refine E_if_ne (tgt := 14) dX12_put_4 (by decide) (fun c_4 => ?_) (fun c_4 => absurd c_4 (by decide))
            refine E_aload_n (i := 0) dX12_put_14 rfl rfl ?_
            refine E_gr dX12_put_15 gf_X12_60_12 rfl (by assumption) (by assumption) ?_
            refine E_iload_n (i := 1) dX12_put_18 rfl rfl ?_
            refine E_iaj j dX12_put_19 (by assumption) hx (by omega) (by rw [w3]; omega) ?_
            refine E_if_ne (tgt := 30) dX12_put_20 (by decide) (fun c_20 => ?_) (fun c_20 => absurd c_20 (hb))
            refine E_iload_n (i := 2) dX12_put_30 rfl rfl ?_
            refine E_iconst (v := 0) dX12_put_31 (by decide) ?_
            refine E_aload_n (i := 0) dX12_put_32 rfl rfl ?_
            refine E_gr dX12_put_33 gf_X12_63_12 rfl (by assumption) (by assumption) ?_
            refine E_iload_n (i := 1) dX12_put_36 rfl rfl ?_
            refine E_iaj j dX12_put_37 (by assumption) hx (by omega) (by rw [s3]; omega) ?_
            refine E_iconst (v := 1) dX12_put_38 (by decide) ?_
            refine E_isub dX12_put_39 ?_
            refine k_X12_put_40 (mc' := 0) (ms' := 0) (rc := 0) (rs := 0) (by omega) (Nat.le_of_ble_eq_true rfl) (c_X12_within ?_)
            rw [zj.1, bz_t hi]
            refine E_if_ne (tgt := 53) dX12_put_43 (by decide) (fun c_43 => ?_) (fun c_43 => absurd c_43 (by decide))
            refine E_aload_n (i := 0) dX12_put_53 rfl rfl ?_
            refine E_gr dX12_put_54 gf_X12_66_12 rfl (by assumption) (by assumption) ?_
            refine E_bipush (v := 40) dX12_put_57 (by decide) ?_
            refine E_iload_n (i := 1) dX12_put_59 rfl rfl ?_
            refine E_imul dX12_put_60 ?_
            refine E_iload_n (i := 2) dX12_put_61 rfl rfl ?_
            refine E_iadd dX12_put_62 ?_
            refine E_aload_n (i := 0) dX12_put_63 rfl rfl ?_
            refine E_gr dX12_put_64 gf_X12_60_12 rfl (by assumption) (by assumption) ?_
            refine E_iload_n (i := 1) dX12_put_67 rfl rfl ?_
            refine E_iaj j dX12_put_68 (by assumption) hx (by omega) (by rw [w3]; omega) ?_
            refine E_bipush (v := 8) dX12_put_69 (by decide) ?_
            refine E_icmp_ne (tgt := 79) dX12_put_71 (by decide) (fun c_71 => ?_) (fun c_71 => absurd c_71 (h8))
            refine E_aload_n (i := 0) dX12_put_79 rfl rfl ?_
            refine E_gr dX12_put_80 gf_X12_60_12 rfl (by assumption) (by assumption) ?_
            refine E_iload_n (i := 1) dX12_put_83 rfl rfl ?_
            refine E_iaj j dX12_put_84 (by assumption) hx (by omega) (by rw [w3]; omega) ?_
            refine E_bipush (v := 16) dX12_put_85 (by decide) ?_
            refine E_icmp_ne (tgt := 95) dX12_put_87 (by decide) (fun c_87 => ?_) (fun c_87 => absurd c_87 (h16))
            refine E_iload_n (i := 3) dX12_put_95 rfl rfl ?_
            refine E_isj (40 * j + m) dX12_put_96 (by assumption) ix (by first | decide | omega) (by rw [n3]; omega) ?_
            refine E_iconst (v := 1) dX12_put_97 (by decide) ?_
            refine E_iret dX12_put_98 rfl ?_
            exact hΦ
      · have hΦ := h4 j hx hj hb hi
        refine E_iload_n (i := 1) dX12_put_0 rfl rfl ?_
        refine k_X12_put_1 (mc' := 0) (ms' := 0) (rc := 0) (rs := 0) (by omega) (Nat.le_of_ble_eq_true rfl) (c_X12_isSheet (by omega) ?_)
        rw [bz_t hc]
        refine E_if_ne (tgt := 14) dX12_put_4 (by decide) (fun c_4 => ?_) (fun c_4 => absurd c_4 (by decide))
        refine E_aload_n (i := 0) dX12_put_14 rfl rfl ?_
        refine E_gr dX12_put_15 gf_X12_60_12 rfl (by assumption) (by assumption) ?_
        refine E_iload_n (i := 1) dX12_put_18 rfl rfl ?_
        refine E_iaj j dX12_put_19 (by assumption) hx (by omega) (by rw [w3]; omega) ?_
        refine E_if_ne (tgt := 30) dX12_put_20 (by decide) (fun c_20 => ?_) (fun c_20 => absurd c_20 (hb))
        refine E_iload_n (i := 2) dX12_put_30 rfl rfl ?_
        refine E_iconst (v := 0) dX12_put_31 (by decide) ?_
        refine E_aload_n (i := 0) dX12_put_32 rfl rfl ?_
        refine E_gr dX12_put_33 gf_X12_63_12 rfl (by assumption) (by assumption) ?_
        refine E_iload_n (i := 1) dX12_put_36 rfl rfl ?_
        refine E_iaj j dX12_put_37 (by assumption) hx (by omega) (by rw [s3]; omega) ?_
        refine E_iconst (v := 1) dX12_put_38 (by decide) ?_
        refine E_isub dX12_put_39 ?_
        refine k_X12_put_40 (mc' := 0) (ms' := 0) (rc := 0) (rs := 0) (by omega) (Nat.le_of_ble_eq_true rfl) (c_X12_within ?_)
        rw [zj.1, bz_f hi]
        refine E_if_ne (tgt := 53) dX12_put_43 (by decide) (fun c_43 => absurd (rfl) c_43) (fun c_43 => ?_)
        refine E_aload_n (i := 0) dX12_put_46 rfl rfl ?_
        refine E_ldc (v := -1000000001) dX12_put_47 w_1208 ?_
        refine k_X12_put_49 (mc' := 0) (ms' := 0) (rc := 0) (rs := 0) (by omega) (Nat.le_of_ble_eq_true rfl) (by assumption) (c_find1 hM ?_)
        refine E_iret dX12_put_52 rfl ?_
        exact hΦ
  · have hΦ := h2 hc
    refine E_iload_n (i := 1) dX12_put_0 rfl rfl ?_
    refine k_X12_put_1 (mc' := 0) (ms' := 0) (rc := 0) (rs := 0) (by omega) (Nat.le_of_ble_eq_true rfl) (c_X12_isSheet (by omega) ?_)
    rw [bz_f hc]
    refine E_if_ne (tgt := 14) dX12_put_4 (by decide) (fun c_4 => absurd (rfl) c_4) (fun c_4 => ?_)
    refine E_aload_n (i := 0) dX12_put_7 rfl rfl ?_
    refine E_ldc (v := -1000000001) dX12_put_8 w_1208 ?_
    refine k_X12_put_10 (mc' := 0) (ms' := 0) (rc := 0) (rs := 0) (by omega) (Nat.le_of_ble_eq_true rfl) (by assumption) (c_find1 hM ?_)
    refine E_iret dX12_put_13 rfl ?_
    exact hΦ
/-- a part of a sheet, as the model asks -/
abbrev hldM (i n : Int32) (k : Nat) : Prop := 0 ≤ n ∧ 0 ≤ i ∧ ¬ (nI k).toInt64 < i.toInt64 + n.toInt64
theorem hld_M {i n : Int32} {k : Nat} (hk : k ≤ 1000) : hldM i n k ↔ hld i n k := by
  have i1 := Int32.toInt_lt i
  have i2 := Int32.le_toInt i
  have i3 := Int32.toInt_lt n
  have i4 := Int32.le_toInt n
  have e0 : (0 : Int32).toInt = 0 := rfl
  have e1 : (i.toInt64 + n.toInt64).toInt = i.toInt + n.toInt := by rw [add64 (by rw [l32, l32]; omega) (by rw [l32, l32]; omega), l32, l32]
  unfold hldM hld
  rw [i32_le, i32_le, e0, Int64.lt_iff_toInt_lt, e1, l32, nI_toInt (by omega)]
  constructor
  · intro ⟨q1, q2, q3⟩
    refine ⟨q2, q1, ?_⟩
    rw [i32_le, sub32 (by rw [nI_toInt (by omega)]; omega) (by rw [nI_toInt (by omega)]; omega), nI_toInt (by omega)]
    omega
  · intro ⟨q2, q1, q3⟩
    refine ⟨q1, q2, ?_⟩
    rw [i32_le, sub32 (by rw [nI_toInt (by omega)]; omega) (by rw [nI_toInt (by omega)]; omega), nI_toInt (by omega)] at q3
    omega
/-- the heap behind move -/
def mvM (I : HI) (a b p q m : Nat) : HI := ur (ur I 127 (va_cpy (I 126) (I 127) (40 * a + p) 0 m)) 126 (va_cpy (I 126) (I 126) (40 * a + p) (40 * b + q) m)
theorem c_X12_move {x i y k n : Int32} {sz : Nat → Nat} (hd : 2 ≤ d) (hM : Mo g P) (hZ : ∀ j, j < 4 → I 125 j = nI (sz j) ∧ sz j ≤ 40) (h1 : ∀ a b p q m, x = nI a → a < 4 → y = nI b → b < 4 → ¬ I 124 a = 0 → I 124 a = I 124 b → i = nI p → k = nI q → n = nI m → p + m ≤ sz a → q + m ≤ sz b → Φ (some (.int n)) g P (mvM I a b p q m)) (h2 : ¬ ((0 ≤ x ∧ x ≤ 3) ∧ (0 ≤ y ∧ y ≤ 3)) → Φ (some (.int (er 1))) g P (flM I 1)) (h3 : ∀ a b, x = nI a → a < 4 → y = nI b → b < 4 → (I 124 a = 0 ∨ I 124 b = 0) → Φ (some (.int (er 2))) g P (flM I 2)) (h4 : ∀ a b, x = nI a → a < 4 → y = nI b → b < 4 → ¬ (I 124 a = 0 ∨ I 124 b = 0) → ¬ I 124 a = I 124 b → Φ (some (.int (er 5))) g P (flM I 5)) (h5 : ∀ a b, x = nI a → a < 4 → y = nI b → b < 4 → ¬ (I 124 a = 0 ∨ I 124 b = 0) → I 124 a = I 124 b → ¬ (hld i n (sz a) ∧ hld k n (sz b)) → Φ (some (.int (er 1))) g P (flM I 1)) : MM Γ mX12_move d 0 0 [.ref 109, .int x, .int i, .int y, .int k, .int n] g P I Φ := by
  refine MM_entry [some _, some _, some _, some _, some _, some _, none] (by decide) (Nat.le_of_ble_eq_true rfl) rfl ?_
  have h0 := hM.1
  obtain ⟨w1, w2, w3⟩ := hM.wid
  obtain ⟨s1, s2, s3⟩ := hM.siz
  obtain ⟨n1, n2, n3⟩ := hM.num
  obtain ⟨c1, c2, c3⟩ := hM.car
  by_cases hc : 0 ≤ x ∧ x ≤ 3
  · by_cases hc2 : 0 ≤ y ∧ y ≤ 3
    · obtain ⟨a, hx, ha'⟩ := in_04 (n := 3) (by omega) hc
      obtain ⟨b, hy, hb'⟩ := in_04 (n := 3) (by omega) hc2
      have ha : a < 4 := by omega
      have hb : b < 4 := by omega
      have za := hZ a ha
      have zb := hZ b hb
      by_cases e1 : I 124 a = 0
      · have hΦ := h3 a b hx ha hy hb (Or.inl e1)
        refine E_iload_n (i := 1) dX12_move_0 rfl rfl ?_
        refine k_X12_move_1 (mc' := 0) (ms' := 0) (rc := 0) (rs := 0) (by omega) (Nat.le_of_ble_eq_true rfl) (c_X12_isSheet (by omega) ?_)
        rw [bz_t hc]
        refine E_if_eq (tgt := 14) dX12_move_4 (by decide) (fun c_4 => absurd c_4 (by decide)) (fun c_4 => ?_)
        refine E_iload_n (i := 3) dX12_move_7 rfl rfl ?_
        refine k_X12_move_8 (mc' := 0) (ms' := 0) (rc := 0) (rs := 0) (by omega) (Nat.le_of_ble_eq_true rfl) (c_X12_isSheet (by omega) ?_)
        rw [bz_t hc2]
        refine E_if_ne (tgt := 21) dX12_move_11 (by decide) (fun c_11 => ?_) (fun c_11 => absurd c_11 (by decide))
        refine E_aload_n (i := 0) dX12_move_21 rfl rfl ?_
        refine E_gr dX12_move_22 gf_X12_60_12 rfl (by assumption) (by assumption) ?_
        refine E_iload_n (i := 1) dX12_move_25 rfl rfl ?_
        refine E_iaj a dX12_move_26 (by assumption) hx (by omega) (by rw [w3]; omega) ?_
        refine E_if_eq (tgt := 39) dX12_move_27 (by decide) (fun c_27 => ?_) (fun c_27 => absurd (e1) c_27)
        refine E_aload_n (i := 0) dX12_move_39 rfl rfl ?_
        refine E_ldc (v := -1000000002) dX12_move_40 w_1275 ?_
        refine k_X12_move_42 (mc' := 0) (ms' := 0) (rc := 0) (rs := 0) (by omega) (Nat.le_of_ble_eq_true rfl) (by assumption) (c_find2 hM ?_)
        refine E_iret dX12_move_45 rfl ?_
        exact hΦ
      · by_cases e2 : I 124 b = 0
        · have hΦ := h3 a b hx ha hy hb (Or.inr e2)
          refine E_iload_n (i := 1) dX12_move_0 rfl rfl ?_
          refine k_X12_move_1 (mc' := 0) (ms' := 0) (rc := 0) (rs := 0) (by omega) (Nat.le_of_ble_eq_true rfl) (c_X12_isSheet (by omega) ?_)
          rw [bz_t hc]
          refine E_if_eq (tgt := 14) dX12_move_4 (by decide) (fun c_4 => absurd c_4 (by decide)) (fun c_4 => ?_)
          refine E_iload_n (i := 3) dX12_move_7 rfl rfl ?_
          refine k_X12_move_8 (mc' := 0) (ms' := 0) (rc := 0) (rs := 0) (by omega) (Nat.le_of_ble_eq_true rfl) (c_X12_isSheet (by omega) ?_)
          rw [bz_t hc2]
          refine E_if_ne (tgt := 21) dX12_move_11 (by decide) (fun c_11 => ?_) (fun c_11 => absurd c_11 (by decide))
          refine E_aload_n (i := 0) dX12_move_21 rfl rfl ?_
          refine E_gr dX12_move_22 gf_X12_60_12 rfl (by assumption) (by assumption) ?_
          refine E_iload_n (i := 1) dX12_move_25 rfl rfl ?_
          refine E_iaj a dX12_move_26 (by assumption) hx (by omega) (by rw [w3]; omega) ?_
          refine E_if_eq (tgt := 39) dX12_move_27 (by decide) (fun c_27 => absurd c_27 (e1)) (fun c_27 => ?_)
          refine E_aload_n (i := 0) dX12_move_30 rfl rfl ?_
          refine E_gr dX12_move_31 gf_X12_60_12 rfl (by assumption) (by assumption) ?_
          refine E_iload_n (i := 3) dX12_move_34 rfl rfl ?_
          refine E_iaj b dX12_move_35 (by assumption) hy (by omega) (by rw [w3]; omega) ?_
          refine E_if_ne (tgt := 46) dX12_move_36 (by decide) (fun c_36 => absurd (e2) c_36) (fun c_36 => ?_)
          refine E_aload_n (i := 0) dX12_move_39 rfl rfl ?_
          refine E_ldc (v := -1000000002) dX12_move_40 w_1275 ?_
          refine k_X12_move_42 (mc' := 0) (ms' := 0) (rc := 0) (rs := 0) (by omega) (Nat.le_of_ble_eq_true rfl) (by assumption) (c_find2 hM ?_)
          refine E_iret dX12_move_45 rfl ?_
          exact hΦ
        · have en : ¬ (I 124 a = 0 ∨ I 124 b = 0) := fun h => h.elim e1 e2
          by_cases e3 : I 124 a = I 124 b
          · have rest : E Γ mX12_move d 0 0 (QM Γ 0 0 Φ) 0 0 68 [some (.ref 109), some (.int x), some (.int i), some (.int y), some (.int k), some (.int n), none] [] g P I := by
              by_cases g12 : hldM i n (sz a) ∧ hldM k n (sz b)
              · obtain ⟨g1, g2⟩ := g12
                obtain ⟨p, m, i1, i2, i3⟩ := hld_nat (by omega) ((hld_M (by omega)).mp g1)
                obtain ⟨q, m', k1, k2, k3⟩ := hld_nat (by omega) ((hld_M (by omega)).mp g2)
                have em : m' = m := nI_inj (by omega) (by omega) (k2.symm.trans i2)
                subst em
                have hΦ := h1 a b p q m' hx ha hy hb e1 e3 i1 k1 i2 i3 k3
                have hm : m' ≤ 40 := by omega
                have loop2 : ∀ (N t : Nat) (z : Int32) (J : HI), m' - t ≤ N → t ≤ m' → z = nI t → J = ur (ur I 127 (va_cpy (I 126) (I 127) (40 * a + p) 0 m')) 126 (va_cpy (va_cpy (I 126) (I 127) (40 * a + p) 0 m') (I 126) 0 (40 * b + q) t) → E Γ mX12_move d 0 0 (QM Γ 0 0 Φ) 0 0 164 [some (.ref 109), some (.int x), some (.int i), some (.int y), some (.int k), some (.int n), some (.int z)] [] g P J := by
                  intro N
                  induction N with
                  | zero =>
                    intro t z J hN ht hz hJ
                    have : t = m' := by omega
                    subst this
                    rw [cpy_cpy] at hJ
                    refine E_iload dX12_move_164 rfl ?_
                    refine E_iload dX12_move_166 rfl ?_
                    refine E_icmp_ge (tgt := 199) dX12_move_168 (by decide) (fun c_168 => ?_) (fun c_168 => absurd (by rw [hz, i2]; exact Int32.le_refl _) c_168)
                    refine E_iload dX12_move_199 rfl ?_
                    refine E_iret dX12_move_201 rfl ?_
                    rw [hJ]
                    exact hΦ
                  | succ N ih =>
                    intro t z J hN ht hz hJ
                    by_cases htm : t = m'
                    · subst htm
                      rw [cpy_cpy] at hJ
                      refine E_iload dX12_move_164 rfl ?_
                      refine E_iload dX12_move_166 rfl ?_
                      refine E_icmp_ge (tgt := 199) dX12_move_168 (by decide) (fun c_168 => ?_) (fun c_168 => absurd (by rw [hz, i2]; exact Int32.le_refl _) c_168)
                      refine E_iload dX12_move_199 rfl ?_
                      refine E_iret dX12_move_201 rfl ?_
                      rw [hJ]
                      exact hΦ
                    · have ix : (40 : Int32) * y + k + z = nI (40 * b + q + t) := by rw [hy, k1, hz, show (40 : Int32) * nI b = nI (40 * b) from pk_mul 40 b, nI_add, nI_add]
                      have ec : J 127 t = va_cpy (I 126) (I 127) (40 * a + p) 0 m' (0 + t) := by rw [hJ, ur_n _ _ (by decide), ur_s, Nat.zero_add]
                      refine E_iload dX12_move_164 rfl ?_
                      refine E_iload dX12_move_166 rfl ?_
                      refine E_icmp_ge (tgt := 199) dX12_move_168 (by decide) (fun c_168 => absurd c_168 (by rw [hz, i2]; exact nI_ge (by omega) (by omega))) (fun c_168 => ?_)
                      refine E_aload_n (i := 0) dX12_move_171 rfl rfl ?_
                      refine E_gr dX12_move_172 gf_X12_66_12 rfl (by assumption) (by assumption) ?_
                      refine E_bipush (v := 40) dX12_move_175 (by decide) ?_
                      refine E_iload_n (i := 3) dX12_move_177 rfl rfl ?_
                      refine E_imul dX12_move_178 ?_
                      refine E_iload dX12_move_179 rfl ?_
                      refine E_iadd dX12_move_181 ?_
                      refine E_iload dX12_move_182 rfl ?_
                      refine E_iadd dX12_move_184 ?_
                      refine E_aload_n (i := 0) dX12_move_185 rfl rfl ?_
                      refine E_gr dX12_move_186 gf_X12_69_12 rfl (by assumption) (by assumption) ?_
                      refine E_iload dX12_move_189 rfl ?_
                      refine E_iaj t dX12_move_191 (by assumption) hz (by omega) (by rw [c3]; omega) ?_
                      refine E_isj (40 * b + q + t) dX12_move_192 (by assumption) ix (by first | decide | omega) (by rw [n3]; omega) ?_
                      refine E_incC (c := 1) dX12_move_193 rfl (by decide) (by decide) rfl ?_
                      refine E_lv (lv' := [_, _, _, _, _, _, _]) rfl ?_
                      refine E_goto (tgt := 164) dX12_move_196 (by decide) ?_
                      refine ih (t + 1) _ _ (by omega) (by omega) (by rw [hz, nI_1]) ?_
                      rw [ec, hJ, u2_ur, ur_s, cpy_s, ur_ur]
                have loop1 : ∀ (N t : Nat) (z : Int32) (J : HI), m' - t ≤ N → t ≤ m' → z = nI t → J = ur I 127 (va_cpy (I 126) (I 127) (40 * a + p) 0 t) → E Γ mX12_move d 0 0 (QM Γ 0 0 Φ) 0 0 127 [some (.ref 109), some (.int x), some (.int i), some (.int y), some (.int k), some (.int n), some (.int z)] [] g P J := by
                  intro N
                  induction N with
                  | zero =>
                    intro t z J hN ht hz hJ
                    have : t = m' := by omega
                    subst this
                    have e6 : J 126 = I 126 := by rw [hJ, ur_n _ _ (by decide)]
                    refine E_iload dX12_move_127 rfl ?_
                    refine E_iload dX12_move_129 rfl ?_
                    refine E_icmp_ge (tgt := 161) dX12_move_131 (by decide) (fun c_131 => ?_) (fun c_131 => absurd (by rw [hz, i2]; exact Int32.le_refl _) c_131)
                    refine E_iconst (v := 0) dX12_move_161 (by decide) ?_
                    refine E_istoreC dX12_move_162 (by decide) rfl ?_
                    refine E_lv (lv' := [_, _, _, _, _, _, _]) rfl ?_
                    refine loop2 _ 0 _ _ (Nat.le_refl _) (by omega) rfl ?_
                    rw [cpy_0, ← hJ, ← e6, ur_id]
                  | succ N ih =>
                    intro t z J hN ht hz hJ
                    have e6 : J 126 = I 126 := by rw [hJ, ur_n _ _ (by decide)]
                    by_cases htm : t = m'
                    · subst htm
                      refine E_iload dX12_move_127 rfl ?_
                      refine E_iload dX12_move_129 rfl ?_
                      refine E_icmp_ge (tgt := 161) dX12_move_131 (by decide) (fun c_131 => ?_) (fun c_131 => absurd (by rw [hz, i2]; exact Int32.le_refl _) c_131)
                      refine E_iconst (v := 0) dX12_move_161 (by decide) ?_
                      refine E_istoreC dX12_move_162 (by decide) rfl ?_
                      refine E_lv (lv' := [_, _, _, _, _, _, _]) rfl ?_
                      refine loop2 _ 0 _ _ (Nat.le_refl _) (by omega) rfl ?_
                      rw [cpy_0, ← hJ, ← e6, ur_id]
                    · have ix : (40 : Int32) * x + i + z = nI (40 * a + p + t) := by rw [hx, i1, hz, show (40 : Int32) * nI a = nI (40 * a) from pk_mul 40 a, nI_add, nI_add]
                      refine E_iload dX12_move_127 rfl ?_
                      refine E_iload dX12_move_129 rfl ?_
                      refine E_icmp_ge (tgt := 161) dX12_move_131 (by decide) (fun c_131 => absurd c_131 (by rw [hz, i2]; exact nI_ge (by omega) (by omega))) (fun c_131 => ?_)
                      refine E_aload_n (i := 0) dX12_move_134 rfl rfl ?_
                      refine E_gr dX12_move_135 gf_X12_69_12 rfl (by assumption) (by assumption) ?_
                      refine E_iload dX12_move_138 rfl ?_
                      refine E_aload_n (i := 0) dX12_move_140 rfl rfl ?_
                      refine E_gr dX12_move_141 gf_X12_66_12 rfl (by assumption) (by assumption) ?_
                      refine E_bipush (v := 40) dX12_move_144 (by decide) ?_
                      refine E_iload_n (i := 1) dX12_move_146 rfl rfl ?_
                      refine E_imul dX12_move_147 ?_
                      refine E_iload_n (i := 2) dX12_move_148 rfl rfl ?_
                      refine E_iadd dX12_move_149 ?_
                      refine E_iload dX12_move_150 rfl ?_
                      refine E_iadd dX12_move_152 ?_
                      refine E_iaj (40 * a + p + t) dX12_move_153 (by assumption) ix (by omega) (by rw [n3]; omega) ?_
                      refine E_isj t dX12_move_154 (by assumption) hz (by first | decide | omega) (by rw [c3]; omega) ?_
                      refine E_incC (c := 1) dX12_move_155 rfl (by decide) (by decide) rfl ?_
                      refine E_lv (lv' := [_, _, _, _, _, _, _]) rfl ?_
                      refine E_goto (tgt := 127) dX12_move_158 (by decide) ?_
                      refine ih (t + 1) _ _ (by omega) (by omega) (by rw [hz, nI_1]) ?_
                      have es := cpy_s (I 126) (I 127) (40 * a + p) 0 t
                      rw [Nat.zero_add] at es
                      rw [e6, hJ, u2_ur, ur_s, es, ur_ur]
                refine E_iload dX12_move_68 rfl ?_
                refine E_if_lt (tgt := 117) dX12_move_70 (by decide) (fun c_70 => absurd c_70 (Int32.not_lt.mpr g1.1)) (fun c_70 => ?_)
                refine E_iload_n (i := 2) dX12_move_73 rfl rfl ?_
                refine E_if_lt (tgt := 117) dX12_move_74 (by decide) (fun c_74 => absurd c_74 (Int32.not_lt.mpr g1.2.1)) (fun c_74 => ?_)
                refine E_iload dX12_move_77 rfl ?_
                refine E_if_lt (tgt := 117) dX12_move_79 (by decide) (fun c_79 => absurd c_79 (Int32.not_lt.mpr g2.2.1)) (fun c_79 => ?_)
                refine E_iload_n (i := 2) dX12_move_82 rfl rfl ?_
                refine E_i2l dX12_move_83 ?_
                refine E_iload dX12_move_84 rfl ?_
                refine E_i2l dX12_move_86 ?_
                refine E_ladd dX12_move_87 ?_
                refine E_aload_n (i := 0) dX12_move_88 rfl rfl ?_
                refine E_gr dX12_move_89 gf_X12_63_12 rfl (by assumption) (by assumption) ?_
                refine E_iload_n (i := 1) dX12_move_92 rfl rfl ?_
                refine E_iaj a dX12_move_93 (by assumption) hx (by omega) (by rw [s3]; omega) ?_
                refine E_i2l dX12_move_94 ?_
                refine E_lcmp dX12_move_95 ?_
                rw [za.1]
                refine E_if_gt (tgt := 117) dX12_move_96 (by decide) (fun c_96 => absurd c_96 (fun h => g1.2.2 ((lg_cmp_gt _ _).mp h))) (fun c_96 => ?_)
                refine E_iload dX12_move_99 rfl ?_
                refine E_i2l dX12_move_101 ?_
                refine E_iload dX12_move_102 rfl ?_
                refine E_i2l dX12_move_104 ?_
                refine E_ladd dX12_move_105 ?_
                refine E_aload_n (i := 0) dX12_move_106 rfl rfl ?_
                refine E_gr dX12_move_107 gf_X12_63_12 rfl (by assumption) (by assumption) ?_
                refine E_iload_n (i := 3) dX12_move_110 rfl rfl ?_
                refine E_iaj b dX12_move_111 (by assumption) hy (by omega) (by rw [s3]; omega) ?_
                refine E_i2l dX12_move_112 ?_
                refine E_lcmp dX12_move_113 ?_
                rw [zb.1]
                refine E_if_le (tgt := 124) dX12_move_114 (by decide) (fun c_114 => ?_) (fun c_114 => absurd ((lg_cmp_le _ _).mpr (Int64.not_lt.mp g2.2.2)) c_114)
                refine E_iconst (v := 0) dX12_move_124 (by decide) ?_
                refine E_istoreC dX12_move_125 (by decide) rfl ?_
                refine E_lv (lv' := [_, _, _, _, _, _, _]) rfl ?_
                refine loop1 _ 0 _ _ (Nat.le_refl _) (by omega) rfl ?_
                rw [cpy_0, ur_id]
              · have hΦ := h5 a b hx ha hy hb en e3 (fun h => g12 ⟨(hld_M (by omega)).mpr h.1, (hld_M (by omega)).mpr h.2⟩)
                refine E_iload dX12_move_68 rfl ?_
                refine E_if_lt (tgt := 117) dX12_move_70 (by decide) (fun c_70 => ?_) (fun c_70 => ?_)
                · refine E_aload_n (i := 0) dX12_move_117 rfl rfl ?_
                  refine E_ldc (v := -1000000001) dX12_move_118 w_1208 ?_
                  refine k_X12_move_120 (mc' := 0) (ms' := 0) (rc := 0) (rs := 0) (by omega) (Nat.le_of_ble_eq_true rfl) (by assumption) (c_find1 hM ?_)
                  refine E_iret dX12_move_123 rfl ?_
                  exact hΦ
                · refine E_iload_n (i := 2) dX12_move_73 rfl rfl ?_
                  refine E_if_lt (tgt := 117) dX12_move_74 (by decide) (fun c_74 => ?_) (fun c_74 => ?_)
                  · refine E_aload_n (i := 0) dX12_move_117 rfl rfl ?_
                    refine E_ldc (v := -1000000001) dX12_move_118 w_1208 ?_
                    refine k_X12_move_120 (mc' := 0) (ms' := 0) (rc := 0) (rs := 0) (by omega) (Nat.le_of_ble_eq_true rfl) (by assumption) (c_find1 hM ?_)
                    refine E_iret dX12_move_123 rfl ?_
                    exact hΦ
                  · refine E_iload dX12_move_77 rfl ?_
                    refine E_if_lt (tgt := 117) dX12_move_79 (by decide) (fun c_79 => ?_) (fun c_79 => ?_)
                    · refine E_aload_n (i := 0) dX12_move_117 rfl rfl ?_
                      refine E_ldc (v := -1000000001) dX12_move_118 w_1208 ?_
                      refine k_X12_move_120 (mc' := 0) (ms' := 0) (rc := 0) (rs := 0) (by omega) (Nat.le_of_ble_eq_true rfl) (by assumption) (c_find1 hM ?_)
                      refine E_iret dX12_move_123 rfl ?_
                      exact hΦ
                    · refine E_iload_n (i := 2) dX12_move_82 rfl rfl ?_
                      refine E_i2l dX12_move_83 ?_
                      refine E_iload dX12_move_84 rfl ?_
                      refine E_i2l dX12_move_86 ?_
                      refine E_ladd dX12_move_87 ?_
                      refine E_aload_n (i := 0) dX12_move_88 rfl rfl ?_
                      refine E_gr dX12_move_89 gf_X12_63_12 rfl (by assumption) (by assumption) ?_
                      refine E_iload_n (i := 1) dX12_move_92 rfl rfl ?_
                      refine E_iaj a dX12_move_93 (by assumption) hx (by omega) (by rw [s3]; omega) ?_
                      refine E_i2l dX12_move_94 ?_
                      refine E_lcmp dX12_move_95 ?_
                      rw [za.1]
                      refine E_if_gt (tgt := 117) dX12_move_96 (by decide) (fun c_96 => ?_) (fun c_96 => ?_)
                      · refine E_aload_n (i := 0) dX12_move_117 rfl rfl ?_
                        refine E_ldc (v := -1000000001) dX12_move_118 w_1208 ?_
                        refine k_X12_move_120 (mc' := 0) (ms' := 0) (rc := 0) (rs := 0) (by omega) (Nat.le_of_ble_eq_true rfl) (by assumption) (c_find1 hM ?_)
                        refine E_iret dX12_move_123 rfl ?_
                        exact hΦ
                      · refine E_iload dX12_move_99 rfl ?_
                        refine E_i2l dX12_move_101 ?_
                        refine E_iload dX12_move_102 rfl ?_
                        refine E_i2l dX12_move_104 ?_
                        refine E_ladd dX12_move_105 ?_
                        refine E_aload_n (i := 0) dX12_move_106 rfl rfl ?_
                        refine E_gr dX12_move_107 gf_X12_63_12 rfl (by assumption) (by assumption) ?_
                        refine E_iload_n (i := 3) dX12_move_110 rfl rfl ?_
                        refine E_iaj b dX12_move_111 (by assumption) hy (by omega) (by rw [s3]; omega) ?_
                        refine E_i2l dX12_move_112 ?_
                        refine E_lcmp dX12_move_113 ?_
                        rw [zb.1]
                        refine E_if_le (tgt := 124) dX12_move_114 (by decide) (fun c_114 => ?_) (fun c_114 => ?_)
                        · exact absurd ⟨⟨Int32.not_lt.mp c_70, Int32.not_lt.mp c_74, fun h => c_96 ((lg_cmp_gt _ _).mpr h)⟩, Int32.not_lt.mp c_70, Int32.not_lt.mp c_79, fun h => Int64.lt_irrefl (Int64.lt_of_lt_of_le h ((lg_cmp_le _ _).mp c_114))⟩ g12
                        · refine E_aload_n (i := 0) dX12_move_117 rfl rfl ?_
                          refine E_ldc (v := -1000000001) dX12_move_118 w_1208 ?_
                          refine k_X12_move_120 (mc' := 0) (ms' := 0) (rc := 0) (rs := 0) (by omega) (Nat.le_of_ble_eq_true rfl) (by assumption) (c_find1 hM ?_)
                          refine E_iret dX12_move_123 rfl ?_
                          exact hΦ
            refine E_iload_n (i := 1) dX12_move_0 rfl rfl ?_
            refine k_X12_move_1 (mc' := 0) (ms' := 0) (rc := 0) (rs := 0) (by omega) (Nat.le_of_ble_eq_true rfl) (c_X12_isSheet (by omega) ?_)
            rw [bz_t hc]
            refine E_if_eq (tgt := 14) dX12_move_4 (by decide) (fun c_4 => absurd c_4 (by decide)) (fun c_4 => ?_)
            refine E_iload_n (i := 3) dX12_move_7 rfl rfl ?_
            refine k_X12_move_8 (mc' := 0) (ms' := 0) (rc := 0) (rs := 0) (by omega) (Nat.le_of_ble_eq_true rfl) (c_X12_isSheet (by omega) ?_)
            rw [bz_t hc2]
            refine E_if_ne (tgt := 21) dX12_move_11 (by decide) (fun c_11 => ?_) (fun c_11 => absurd c_11 (by decide))
            refine E_aload_n (i := 0) dX12_move_21 rfl rfl ?_
            refine E_gr dX12_move_22 gf_X12_60_12 rfl (by assumption) (by assumption) ?_
            refine E_iload_n (i := 1) dX12_move_25 rfl rfl ?_
            refine E_iaj a dX12_move_26 (by assumption) hx (by omega) (by rw [w3]; omega) ?_
            refine E_if_eq (tgt := 39) dX12_move_27 (by decide) (fun c_27 => absurd c_27 (e1)) (fun c_27 => ?_)
            refine E_aload_n (i := 0) dX12_move_30 rfl rfl ?_
            refine E_gr dX12_move_31 gf_X12_60_12 rfl (by assumption) (by assumption) ?_
            refine E_iload_n (i := 3) dX12_move_34 rfl rfl ?_
            refine E_iaj b dX12_move_35 (by assumption) hy (by omega) (by rw [w3]; omega) ?_
            refine E_if_ne (tgt := 46) dX12_move_36 (by decide) (fun c_36 => ?_) (fun c_36 => absurd c_36 (e2))
            refine E_aload_n (i := 0) dX12_move_46 rfl rfl ?_
            refine E_gr dX12_move_47 gf_X12_60_12 rfl (by assumption) (by assumption) ?_
            refine E_iload_n (i := 1) dX12_move_50 rfl rfl ?_
            refine E_iaj a dX12_move_51 (by assumption) hx (by omega) (by rw [w3]; omega) ?_
            refine E_aload_n (i := 0) dX12_move_52 rfl rfl ?_
            refine E_gr dX12_move_53 gf_X12_60_12 rfl (by assumption) (by assumption) ?_
            refine E_iload_n (i := 3) dX12_move_56 rfl rfl ?_
            refine E_iaj b dX12_move_57 (by assumption) hy (by omega) (by rw [w3]; omega) ?_
            refine E_icmp_eq (tgt := 68) dX12_move_58 (by decide) (fun c_58 => ?_) (fun c_58 => absurd (e3) c_58)
            exact rest
          · have hΦ := h4 a b hx ha hy hb en e3
            refine E_iload_n (i := 1) dX12_move_0 rfl rfl ?_
            refine k_X12_move_1 (mc' := 0) (ms' := 0) (rc := 0) (rs := 0) (by omega) (Nat.le_of_ble_eq_true rfl) (c_X12_isSheet (by omega) ?_)
            rw [bz_t hc]
            refine E_if_eq (tgt := 14) dX12_move_4 (by decide) (fun c_4 => absurd c_4 (by decide)) (fun c_4 => ?_)
            refine E_iload_n (i := 3) dX12_move_7 rfl rfl ?_
            refine k_X12_move_8 (mc' := 0) (ms' := 0) (rc := 0) (rs := 0) (by omega) (Nat.le_of_ble_eq_true rfl) (c_X12_isSheet (by omega) ?_)
            rw [bz_t hc2]
            refine E_if_ne (tgt := 21) dX12_move_11 (by decide) (fun c_11 => ?_) (fun c_11 => absurd c_11 (by decide))
            refine E_aload_n (i := 0) dX12_move_21 rfl rfl ?_
            refine E_gr dX12_move_22 gf_X12_60_12 rfl (by assumption) (by assumption) ?_
            refine E_iload_n (i := 1) dX12_move_25 rfl rfl ?_
            refine E_iaj a dX12_move_26 (by assumption) hx (by omega) (by rw [w3]; omega) ?_
            refine E_if_eq (tgt := 39) dX12_move_27 (by decide) (fun c_27 => absurd c_27 (e1)) (fun c_27 => ?_)
            refine E_aload_n (i := 0) dX12_move_30 rfl rfl ?_
            refine E_gr dX12_move_31 gf_X12_60_12 rfl (by assumption) (by assumption) ?_
            refine E_iload_n (i := 3) dX12_move_34 rfl rfl ?_
            refine E_iaj b dX12_move_35 (by assumption) hy (by omega) (by rw [w3]; omega) ?_
            refine E_if_ne (tgt := 46) dX12_move_36 (by decide) (fun c_36 => ?_) (fun c_36 => absurd c_36 (e2))
            refine E_aload_n (i := 0) dX12_move_46 rfl rfl ?_
            refine E_gr dX12_move_47 gf_X12_60_12 rfl (by assumption) (by assumption) ?_
            refine E_iload_n (i := 1) dX12_move_50 rfl rfl ?_
            refine E_iaj a dX12_move_51 (by assumption) hx (by omega) (by rw [w3]; omega) ?_
            refine E_aload_n (i := 0) dX12_move_52 rfl rfl ?_
            refine E_gr dX12_move_53 gf_X12_60_12 rfl (by assumption) (by assumption) ?_
            refine E_iload_n (i := 3) dX12_move_56 rfl rfl ?_
            refine E_iaj b dX12_move_57 (by assumption) hy (by omega) (by rw [w3]; omega) ?_
            refine E_icmp_eq (tgt := 68) dX12_move_58 (by decide) (fun c_58 => absurd c_58 (e3)) (fun c_58 => ?_)
            refine E_aload_n (i := 0) dX12_move_61 rfl rfl ?_
            refine E_ldc (v := -1000000005) dX12_move_62 w_1327 ?_
            refine k_X12_move_64 (mc' := 0) (ms' := 0) (rc := 0) (rs := 0) (by omega) (Nat.le_of_ble_eq_true rfl) (by assumption) (c_find5 hM ?_)
            refine E_iret dX12_move_67 rfl ?_
            exact hΦ
    · have hΦ := h2 (fun h => hc2 h.2)
      refine E_iload_n (i := 1) dX12_move_0 rfl rfl ?_
      refine k_X12_move_1 (mc' := 0) (ms' := 0) (rc := 0) (rs := 0) (by omega) (Nat.le_of_ble_eq_true rfl) (c_X12_isSheet (by omega) ?_)
      rw [bz_t hc]
      refine E_if_eq (tgt := 14) dX12_move_4 (by decide) (fun c_4 => absurd c_4 (by decide)) (fun c_4 => ?_)
      refine E_iload_n (i := 3) dX12_move_7 rfl rfl ?_
      refine k_X12_move_8 (mc' := 0) (ms' := 0) (rc := 0) (rs := 0) (by omega) (Nat.le_of_ble_eq_true rfl) (c_X12_isSheet (by omega) ?_)
      rw [bz_f hc2]
      refine E_if_ne (tgt := 21) dX12_move_11 (by decide) (fun c_11 => absurd (rfl) c_11) (fun c_11 => ?_)
      refine E_aload_n (i := 0) dX12_move_14 rfl rfl ?_
      refine E_ldc (v := -1000000001) dX12_move_15 w_1208 ?_
      refine k_X12_move_17 (mc' := 0) (ms' := 0) (rc := 0) (rs := 0) (by omega) (Nat.le_of_ble_eq_true rfl) (by assumption) (c_find1 hM ?_)
      refine E_iret dX12_move_20 rfl ?_
      exact hΦ
  · have hΦ := h2 (fun h => hc h.1)
    refine E_iload_n (i := 1) dX12_move_0 rfl rfl ?_
    refine k_X12_move_1 (mc' := 0) (ms' := 0) (rc := 0) (rs := 0) (by omega) (Nat.le_of_ble_eq_true rfl) (c_X12_isSheet (by omega) ?_)
    rw [bz_f hc]
    refine E_if_eq (tgt := 14) dX12_move_4 (by decide) (fun c_4 => ?_) (fun c_4 => absurd (rfl) c_4)
    refine E_aload_n (i := 0) dX12_move_14 rfl rfl ?_
    refine E_ldc (v := -1000000001) dX12_move_15 w_1208 ?_
    refine k_X12_move_17 (mc' := 0) (ms' := 0) (rc := 0) (rs := 0) (by omega) (Nat.le_of_ble_eq_true rfl) (by assumption) (c_find1 hM ?_)
    refine E_iret dX12_move_20 rfl ?_
    exact hΦ
end
