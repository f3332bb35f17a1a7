/-! over: the model -/
abbrev plm (M : Nat → Int32) (a b : Nat) : Prop := M (72 + 2 * b + 1) * M 7 / 10 ≤ M (72 + 2 * a)
theorem Mo.man {g : Sh} {P : HP} (h : Mo g P) : P 109 16 = some 120 ∧ Cel g 120 13 ∧ g.2.2 120 = 8 := h.2.1 (16, 120, 8) (by decide)
theorem min_nI {a b : Nat} (ha : a < 1000) (hb : b < 1000) : (if nI b < nI a then nI b else nI a) = nI (min a b) := by
  by_cases h : b < a
  · rw [if_pos ((nI_ltI (by omega) (by omega)).mpr h), Nat.min_eq_right (by omega)]
  · rw [if_neg (fun q => h ((nI_ltI (by omega) (by omega)).mp q)), Nat.min_eq_left (by omega)]
section
variable {Γ : GE} {d : Nat} {g : Sh} {P : HP} {I : HI} {Φ : Option Value → Sh → HP → HI → Prop}
theorem c_X12_pulls {x y : Int32} {a b : Nat} (hM : Mo g P) (hx : x = nI a) (hy : y = nI b) (ha : a < 8) (hb : b < 8) (hΦ : Φ (some (.int (bz (plm (I 110) a b)))) g P I) : MM Γ mX12_pulls d 0 0 [.ref 109, .int x, .int y] g P I Φ := by
  refine MM_entry [some _, some _, some _] (by decide) (Nat.le_of_ble_eq_true rfl) rfl ?_
  obtain ⟨n1, n2, n3⟩ := hM.now
  have h0 := hM.1
  have ea : (72 : Int32) + 2 * x = nI (72 + 2 * a) := by rw [hx, nI_2m]; exact nI_add 72 (2 * a)
  have eb : (72 : Int32) + 2 * y + 1 = nI (72 + 2 * b + 1) := by rw [hy, nI_2m, ← nI_1]; exact congrArg (· + 1) (nI_add 72 (2 * b))
  by_cases hc : plm (I 110) a b
  · rw [bz_t hc] at hΦ
    refine E_aload_n (i := 0) dX12_pulls_0 rfl rfl ?_
    refine E_gr dX12_pulls_1 gf_X12_9_12 rfl (by assumption) (by assumption) ?_
    refine E_bipush (v := 72) dX12_pulls_4 (by decide) ?_
    refine E_iconst (v := 2) dX12_pulls_6 (by decide) ?_
    refine E_iload_n (i := 2) dX12_pulls_7 rfl rfl ?_
    refine E_imul dX12_pulls_8 ?_
    refine E_iadd dX12_pulls_9 ?_
    refine E_iconst (v := 1) dX12_pulls_10 (by decide) ?_
    refine E_iadd dX12_pulls_11 ?_
    refine E_iaj (72 + 2 * b + 1) dX12_pulls_12 (by assumption) eb (by omega) (by rw [n3]; omega) ?_
    refine E_aload_n (i := 0) dX12_pulls_13 rfl rfl ?_
    refine E_gr dX12_pulls_14 gf_X12_9_12 rfl (by assumption) (by assumption) ?_
    refine E_bipush (v := 7) dX12_pulls_17 (by decide) ?_
    refine E_iaj 7 dX12_pulls_19 (by assumption) rfl (by decide) (by rw [n3]; decide) ?_
    refine E_imul dX12_pulls_20 ?_
    refine E_bipush (v := 10) dX12_pulls_21 (by decide) ?_
    refine E_idiv dX12_pulls_23 (by decide) ?_
    refine E_aload_n (i := 0) dX12_pulls_24 rfl rfl ?_
    refine E_gr dX12_pulls_25 gf_X12_9_12 rfl (by assumption) (by assumption) ?_
    refine E_bipush (v := 72) dX12_pulls_28 (by decide) ?_
    refine E_iconst (v := 2) dX12_pulls_30 (by decide) ?_
    refine E_iload_n (i := 1) dX12_pulls_31 rfl rfl ?_
    refine E_imul dX12_pulls_32 ?_
    refine E_iadd dX12_pulls_33 ?_
    refine E_iaj (72 + 2 * a) dX12_pulls_34 (by assumption) ea (by omega) (by rw [n3]; omega) ?_
    refine E_icmp_gt (tgt := 42) dX12_pulls_35 (by decide) (fun c_35 => absurd c_35 (Int32.not_lt.mpr hc)) (fun c_35 => ?_)
    refine E_iconst (v := 1) dX12_pulls_38 (by decide) ?_
    refine E_goto (tgt := 43) dX12_pulls_39 (by decide) ?_
    refine E_zret dX12_pulls_43 rfl rfl ?_
    exact hΦ
  · rw [bz_f hc] at hΦ
    refine E_aload_n (i := 0) dX12_pulls_0 rfl rfl ?_
    refine E_gr dX12_pulls_1 gf_X12_9_12 rfl (by assumption) (by assumption) ?_
    refine E_bipush (v := 72) dX12_pulls_4 (by decide) ?_
    refine E_iconst (v := 2) dX12_pulls_6 (by decide) ?_
    refine E_iload_n (i := 2) dX12_pulls_7 rfl rfl ?_
    refine E_imul dX12_pulls_8 ?_
    refine E_iadd dX12_pulls_9 ?_
    refine E_iconst (v := 1) dX12_pulls_10 (by decide) ?_
    refine E_iadd dX12_pulls_11 ?_
    refine E_iaj (72 + 2 * b + 1) dX12_pulls_12 (by assumption) eb (by omega) (by rw [n3]; omega) ?_
    refine E_aload_n (i := 0) dX12_pulls_13 rfl rfl ?_
    refine E_gr dX12_pulls_14 gf_X12_9_12 rfl (by assumption) (by assumption) ?_
    refine E_bipush (v := 7) dX12_pulls_17 (by decide) ?_
    refine E_iaj 7 dX12_pulls_19 (by assumption) rfl (by decide) (by rw [n3]; decide) ?_
    refine E_imul dX12_pulls_20 ?_
    refine E_bipush (v := 10) dX12_pulls_21 (by decide) ?_
    refine E_idiv dX12_pulls_23 (by decide) ?_
    refine E_aload_n (i := 0) dX12_pulls_24 rfl rfl ?_
    refine E_gr dX12_pulls_25 gf_X12_9_12 rfl (by assumption) (by assumption) ?_
    refine E_bipush (v := 72) dX12_pulls_28 (by decide) ?_
    refine E_iconst (v := 2) dX12_pulls_30 (by decide) ?_
    refine E_iload_n (i := 1) dX12_pulls_31 rfl rfl ?_
    refine E_imul dX12_pulls_32 ?_
    refine E_iadd dX12_pulls_33 ?_
    refine E_iaj (72 + 2 * a) dX12_pulls_34 (by assumption) ea (by omega) (by rw [n3]; omega) ?_
    refine E_icmp_gt (tgt := 42) dX12_pulls_35 (by decide) (fun c_35 => ?_) (fun c_35 => absurd (Int32.not_le.mp hc) c_35)
    refine E_iconst (v := 0) dX12_pulls_42 (by decide) ?_
    refine E_zret dX12_pulls_43 rfl rfl ?_
    exact hΦ
/-- the model's heap behind findMany -/
def fmM (I : HI) (n l : Nat) : HI := ur I 120 (rowN (mny n l (plm (I 110))) 8 (I 120))
theorem c_X12_findMany {x : Int32} {l n : Nat} (hd : 1 ≤ d) (hM : Mo g P) (e1 : I 110 2 = nI n) (hn : n ≤ 8) (hx : x = nI l) (hl : l < n) (hΦ : Φ none g P (fmM I n l)) : MM Γ mX12_findMany d 0 0 [.ref 109, .int x] g P I Φ := by
  refine MM_entry [some _, some _, none, none, none] (by decide) (Nat.le_of_ble_eq_true rfl) rfl ?_
  have h0 := hM.1
  obtain ⟨n1, n2, n3⟩ := hM.now
  obtain ⟨m1, m2, m3⟩ := hM.man
  unfold fmM at hΦ
  have rounds : ∀ (N f : Nat) (y : Int32) (w1 w2 : Option Value) (t : Nat → Nat), 8 - f ≤ N → f ≤ 8 → y = nI f → mC n l (plm (I 110)) f 0 0 t → E Γ mX12_findMany d 0 0 (QM Γ 0 0 Φ) 0 0 33 [some (.ref 109), some (.int x), some (.int y), w1, w2] [] g P (ur I 120 (rowN t 8 (I 120))) := by
    intro N
    induction N with
    | zero =>
      intro f y w1 w2 t hN hf hy hC
      have : f = 8 := by omega
      subst this
      have e := rowN_congr (m := 8) (h := I 120) (fun j hj => m_end hl hn (by omega) hC j hj)
      refine E_iload_n (i := 2) dX12_findMany_33 rfl rfl ?_
      refine E_bipush (v := 8) dX12_findMany_34 (by decide) ?_
      refine E_icmp_ge (tgt := 132) dX12_findMany_36 (by decide) (fun c_36 => ?_) (fun c_36 => absurd (by rw [hy]; decide) c_36)
      refine E_vret dX12_findMany_132 rfl ?_
      rw [e]
      exact hΦ
    | succ N ih =>
      intro f y w1 w2 t hN hf hy hC
      by_cases hf8 : f = 8
      · subst hf8
        have e := rowN_congr (m := 8) (h := I 120) (fun j hj => m_end hl hn (by omega) hC j hj)
        refine E_iload_n (i := 2) dX12_findMany_33 rfl rfl ?_
        refine E_bipush (v := 8) dX12_findMany_34 (by decide) ?_
        refine E_icmp_ge (tgt := 132) dX12_findMany_36 (by decide) (fun c_36 => ?_) (fun c_36 => absurd (by rw [hy]; decide) c_36)
        refine E_vret dX12_findMany_132 rfl ?_
        rw [e]
        exact hΦ
      · have rows : ∀ (N2 a : Nat) (z : Int32) (w2 : Option Value) (t : Nat → Nat), n - a ≤ N2 → a ≤ n → z = nI a → mC n l (plm (I 110)) f a 0 t → E Γ mX12_findMany d 0 0 (QM Γ 0 0 Φ) 0 0 41 [some (.ref 109), some (.int x), some (.int y), some (.int z), w2] [] g P (ur I 120 (rowN t 8 (I 120))) := by
          intro N2
          induction N2 with
          | zero =>
            intro a z w2 t hN2 ha hz hC2
            have : a = n := by omega
            subst this
            have e2 : (ur I 120 (rowN t 8 (I 120))) 110 2 = nI a := by rw [ur_n _ _ (by decide)]; exact e1
            refine E_iload_n (i := 3) dX12_findMany_41 rfl rfl ?_
            refine E_aload_n (i := 0) dX12_findMany_42 rfl rfl ?_
            refine E_gr dX12_findMany_43 gf_X12_9_12 rfl (by assumption) (by assumption) ?_
            refine E_iconst (v := 2) dX12_findMany_46 (by decide) ?_
            refine E_iaj 2 dX12_findMany_47 (by assumption) rfl (by decide) (by rw [n3]; decide) ?_
            refine E_icmp_ge (tgt := 126) dX12_findMany_48 (by decide) (fun c_48 => ?_) (fun c_48 => absurd (by rw [e2, hz]; exact Int32.le_refl _) c_48)
            refine E_incC (c := 1) dX12_findMany_126 rfl (by decide) (by decide) rfl ?_
            refine E_lv (lv' := [_, _, _, _, _]) rfl ?_
            refine E_goto (tgt := 33) dX12_findMany_129 (by decide) ?_
            exact ih (f + 1) _ _ _ t (by omega) (by omega) (by rw [hy, nI_1]) (mC_round hC2)
          | succ N2 ih2 =>
            intro a z w2 t hN2 ha hz hC2
            have e2 : ∀ t, (ur I 120 (rowN t 8 (I 120))) 110 2 = nI n := fun t => by rw [ur_n _ _ (by decide)]; exact e1
            by_cases han : a = n
            · subst han
              refine E_iload_n (i := 3) dX12_findMany_41 rfl rfl ?_
              refine E_aload_n (i := 0) dX12_findMany_42 rfl rfl ?_
              refine E_gr dX12_findMany_43 gf_X12_9_12 rfl (by assumption) (by assumption) ?_
              refine E_iconst (v := 2) dX12_findMany_46 (by decide) ?_
              refine E_iaj 2 dX12_findMany_47 (by assumption) rfl (by decide) (by rw [n3]; decide) ?_
              refine E_icmp_ge (tgt := 126) dX12_findMany_48 (by decide) (fun c_48 => ?_) (fun c_48 => absurd (by rw [e2, hz]; exact Int32.le_refl _) c_48)
              refine E_incC (c := 1) dX12_findMany_126 rfl (by decide) (by decide) rfl ?_
              refine E_lv (lv' := [_, _, _, _, _]) rfl ?_
              refine E_goto (tgt := 33) dX12_findMany_129 (by decide) ?_
              exact ih (f + 1) _ _ _ t (by omega) (by omega) (by rw [hy, nI_1]) (mC_round hC2)
            · have pairs : ∀ (N3 b : Nat) (w : Int32) (t : Nat → Nat), n - b ≤ N3 → b ≤ n → w = nI b → mC n l (plm (I 110)) f a b t → E Γ mX12_findMany d 0 0 (QM Γ 0 0 Φ) 0 0 54 [some (.ref 109), some (.int x), some (.int y), some (.int z), some (.int w)] [] g P (ur I 120 (rowN t 8 (I 120))) := by
                intro N3
                induction N3 with
                | zero =>
                  intro b w t hN3 hb hw hC3
                  have : b = n := by omega
                  subst this
                  refine E_iload dX12_findMany_54 rfl ?_
                  refine E_aload_n (i := 0) dX12_findMany_56 rfl rfl ?_
                  refine E_gr dX12_findMany_57 gf_X12_9_12 rfl (by assumption) (by assumption) ?_
                  refine E_iconst (v := 2) dX12_findMany_60 (by decide) ?_
                  refine E_iaj 2 dX12_findMany_61 (by assumption) rfl (by decide) (by rw [n3]; decide) ?_
                  refine E_icmp_ge (tgt := 120) dX12_findMany_62 (by decide) (fun c_62 => ?_) (fun c_62 => absurd (by rw [e2, hw]; exact Int32.le_refl _) c_62)
                  refine E_incC (c := 1) dX12_findMany_120 rfl (by decide) (by decide) rfl ?_
                  refine E_lv (lv' := [_, _, _, _, _]) rfl ?_
                  refine E_goto (tgt := 41) dX12_findMany_123 (by decide) ?_
                  exact ih2 (a + 1) _ _ t (by omega) (by omega) (by rw [hz, nI_1]) (mC_row (by omega) hC3)
                | succ N3 ih3 =>
                  intro b w t hN3 hb hw hC3
                  by_cases hbn : b = n
                  · subst hbn
                    refine E_iload dX12_findMany_54 rfl ?_
                    refine E_aload_n (i := 0) dX12_findMany_56 rfl rfl ?_
                    refine E_gr dX12_findMany_57 gf_X12_9_12 rfl (by assumption) (by assumption) ?_
                    refine E_iconst (v := 2) dX12_findMany_60 (by decide) ?_
                    refine E_iaj 2 dX12_findMany_61 (by assumption) rfl (by decide) (by rw [n3]; decide) ?_
                    refine E_icmp_ge (tgt := 120) dX12_findMany_62 (by decide) (fun c_62 => ?_) (fun c_62 => absurd (by rw [e2, hw]; exact Int32.le_refl _) c_62)
                    refine E_incC (c := 1) dX12_findMany_120 rfl (by decide) (by decide) rfl ?_
                    refine E_lv (lv' := [_, _, _, _, _]) rfl ?_
                    refine E_goto (tgt := 41) dX12_findMany_123 (by decide) ?_
                    exact ih2 (a + 1) _ _ t (by omega) (by omega) (by rw [hz, nI_1]) (mC_row (by omega) hC3)
                  · have r110 : (ur I 120 (rowN t 8 (I 120))) 110 = I 110 := ur_n _ _ (by decide)
                    have ta : (ur I 120 (rowN t 8 (I 120))) 120 a = nI (t a) := by rw [ur_s]; exact rowN_at (by omega)
                    have tb : (ur I 120 (rowN t 8 (I 120))) 120 b = nI (t b) := by rw [ur_s]; exact rowN_at (by omega)
                    have la := mA_le hC3.1 (show a < 8 by omega)
                    have lb := mA_le hC3.1 (show b < 8 by omega)
                    have nx := mC_step (show a < n by omega) (show b < n by omega) hn hC3
                    have oth : ∀ j, j ≠ a → mStep (plm (I 110)) a b t j = t j := fun j hj => if_neg hj
                    by_cases hab : a = b
                    · have own : mStep (plm (I 110)) a b t a = t a := by
                        unfold mStep
                        rw [if_pos rfl, if_neg (fun h => h.1 hab)]
                      refine E_iload dX12_findMany_54 rfl ?_
                      refine E_aload_n (i := 0) dX12_findMany_56 rfl rfl ?_
                      refine E_gr dX12_findMany_57 gf_X12_9_12 rfl (by assumption) (by assumption) ?_
                      refine E_iconst (v := 2) dX12_findMany_60 (by decide) ?_
                      refine E_iaj 2 dX12_findMany_61 (by assumption) rfl (by decide) (by rw [n3]; decide) ?_
                      refine E_icmp_ge (tgt := 120) dX12_findMany_62 (by decide) (fun c_62 => absurd c_62 (by rw [e2, hw]; exact nI_ge (by omega) (by omega))) (fun c_62 => ?_)
                      refine E_aload_n (i := 0) dX12_findMany_65 rfl rfl ?_
                      refine E_gr dX12_findMany_66 gf_X12_48_12 rfl (by assumption) (by assumption) ?_
                      refine E_iload_n (i := 3) dX12_findMany_69 rfl rfl ?_
                      refine E_iload_n (i := 3) dX12_findMany_70 rfl rfl ?_
                      refine E_iload dX12_findMany_71 rfl ?_
                      refine E_icmp_eq (tgt := 107) dX12_findMany_73 (by decide) (fun c_73 => ?_) (fun c_73 => absurd (by rw [hz, hw, hab]) c_73)
                      refine E_aload_n (i := 0) dX12_findMany_107 rfl rfl ?_
                      refine E_gr dX12_findMany_108 gf_X12_48_12 rfl (by assumption) (by assumption) ?_
                      refine E_iload_n (i := 3) dX12_findMany_111 rfl rfl ?_
                      refine E_iaj a dX12_findMany_112 (by assumption) hz (by omega) (by rw [m3]; omega) ?_
                      rw [ta]
                      refine E_isj a dX12_findMany_113 (by assumption) hz (by first | decide | omega) (by rw [m3]; omega) ?_
                      refine E_incC (c := 1) dX12_findMany_114 rfl (by decide) (by decide) rfl ?_
                      refine E_lv (lv' := [_, _, _, _, _]) rfl ?_
                      refine E_goto (tgt := 54) dX12_findMany_117 (by decide) ?_
                      rw [u2_ur, ur_s, ur_ur, rowN_ur (by omega) own oth]
                      exact ih3 (b + 1) _ _ (by omega) (by omega) (by rw [hw, nI_1]) nx
                    · by_cases hp : plm (I 110) a b
                      · have own : mStep (plm (I 110)) a b t a = min (t a) (t b + 1) := by
                          unfold mStep
                          rw [if_pos rfl, if_pos ⟨hab, hp⟩]
                        refine E_iload dX12_findMany_54 rfl ?_
                        refine E_aload_n (i := 0) dX12_findMany_56 rfl rfl ?_
                        refine E_gr dX12_findMany_57 gf_X12_9_12 rfl (by assumption) (by assumption) ?_
                        refine E_iconst (v := 2) dX12_findMany_60 (by decide) ?_
                        refine E_iaj 2 dX12_findMany_61 (by assumption) rfl (by decide) (by rw [n3]; decide) ?_
                        refine E_icmp_ge (tgt := 120) dX12_findMany_62 (by decide) (fun c_62 => absurd c_62 (by rw [e2, hw]; exact nI_ge (by omega) (by omega))) (fun c_62 => ?_)
                        refine E_aload_n (i := 0) dX12_findMany_65 rfl rfl ?_
                        refine E_gr dX12_findMany_66 gf_X12_48_12 rfl (by assumption) (by assumption) ?_
                        refine E_iload_n (i := 3) dX12_findMany_69 rfl rfl ?_
                        refine E_iload_n (i := 3) dX12_findMany_70 rfl rfl ?_
                        refine E_iload dX12_findMany_71 rfl ?_
                        refine E_icmp_eq (tgt := 107) dX12_findMany_73 (by decide) (fun c_73 => absurd c_73 (by rw [hz, hw]; exact nI_ne (by omega) (by omega) hab)) (fun c_73 => ?_)
                        refine E_aload_n (i := 0) dX12_findMany_76 rfl rfl ?_
                        refine E_iload_n (i := 3) dX12_findMany_77 rfl rfl ?_
                        refine E_iload dX12_findMany_78 rfl ?_
                        refine k_X12_findMany_80 (mc' := 0) (ms' := 0) (rc := 0) (rs := 0) (by omega) (Nat.le_of_ble_eq_true rfl) (by assumption) (c_X12_pulls hM hz hw (by omega) (by omega) ?_)
                        rw [r110, bz_t hp]
                        refine E_if_eq (tgt := 107) dX12_findMany_83 (by decide) (fun c_83 => absurd c_83 (by decide)) (fun c_83 => ?_)
                        refine E_aload_n (i := 0) dX12_findMany_86 rfl rfl ?_
                        refine E_gr dX12_findMany_87 gf_X12_48_12 rfl (by assumption) (by assumption) ?_
                        refine E_iload_n (i := 3) dX12_findMany_90 rfl rfl ?_
                        refine E_iaj a dX12_findMany_91 (by assumption) hz (by omega) (by rw [m3]; omega) ?_
                        rw [ta]
                        refine E_aload_n (i := 0) dX12_findMany_92 rfl rfl ?_
                        refine E_gr dX12_findMany_93 gf_X12_48_12 rfl (by assumption) (by assumption) ?_
                        refine E_iload dX12_findMany_96 rfl ?_
                        refine E_iaj b dX12_findMany_98 (by assumption) hw (by omega) (by rw [m3]; omega) ?_
                        rw [tb]
                        refine E_iconst (v := 1) dX12_findMany_99 (by decide) ?_
                        refine E_iadd dX12_findMany_100 ?_
                        refine E_min dX12_findMany_101 w_1222 w_381 w_74 w_382 (Nat.le_of_ble_eq_true rfl) (by omega) ?_
                        refine E_goto (tgt := 113) dX12_findMany_104 (by decide) ?_
                        rw [nI_1, min_nI (by omega) (by omega)]
                        refine E_isj a dX12_findMany_113 (by assumption) hz (by first | decide | omega) (by rw [m3]; omega) ?_
                        refine E_incC (c := 1) dX12_findMany_114 rfl (by decide) (by decide) rfl ?_
                        refine E_lv (lv' := [_, _, _, _, _]) rfl ?_
                        refine E_goto (tgt := 54) dX12_findMany_117 (by decide) ?_
                        rw [u2_ur, ur_s, ur_ur, rowN_ur (by omega) own oth]
                        exact ih3 (b + 1) _ _ (by omega) (by omega) (by rw [hw, nI_1]) nx
                      · have own : mStep (plm (I 110)) a b t a = t a := by
                          unfold mStep
                          rw [if_pos rfl, if_neg (fun h => hp h.2)]
                        refine E_iload dX12_findMany_54 rfl ?_
                        refine E_aload_n (i := 0) dX12_findMany_56 rfl rfl ?_
                        refine E_gr dX12_findMany_57 gf_X12_9_12 rfl (by assumption) (by assumption) ?_
                        refine E_iconst (v := 2) dX12_findMany_60 (by decide) ?_
                        refine E_iaj 2 dX12_findMany_61 (by assumption) rfl (by decide) (by rw [n3]; decide) ?_
                        refine E_icmp_ge (tgt := 120) dX12_findMany_62 (by decide) (fun c_62 => absurd c_62 (by rw [e2, hw]; exact nI_ge (by omega) (by omega))) (fun c_62 => ?_)
                        refine E_aload_n (i := 0) dX12_findMany_65 rfl rfl ?_
                        refine E_gr dX12_findMany_66 gf_X12_48_12 rfl (by assumption) (by assumption) ?_
                        refine E_iload_n (i := 3) dX12_findMany_69 rfl rfl ?_
                        refine E_iload_n (i := 3) dX12_findMany_70 rfl rfl ?_
                        refine E_iload dX12_findMany_71 rfl ?_
                        refine E_icmp_eq (tgt := 107) dX12_findMany_73 (by decide) (fun c_73 => absurd c_73 (by rw [hz, hw]; exact nI_ne (by omega) (by omega) hab)) (fun c_73 => ?_)
                        refine E_aload_n (i := 0) dX12_findMany_76 rfl rfl ?_
                        refine E_iload_n (i := 3) dX12_findMany_77 rfl rfl ?_
                        refine E_iload dX12_findMany_78 rfl ?_
                        refine k_X12_findMany_80 (mc' := 0) (ms' := 0) (rc := 0) (rs := 0) (by omega) (Nat.le_of_ble_eq_true rfl) (by assumption) (c_X12_pulls hM hz hw (by omega) (by omega) ?_)
                        rw [r110, bz_f hp]
                        refine E_if_eq (tgt := 107) dX12_findMany_83 (by decide) (fun c_83 => ?_) (fun c_83 => absurd (rfl) c_83)
                        refine E_aload_n (i := 0) dX12_findMany_107 rfl rfl ?_
                        refine E_gr dX12_findMany_108 gf_X12_48_12 rfl (by assumption) (by assumption) ?_
                        refine E_iload_n (i := 3) dX12_findMany_111 rfl rfl ?_
                        refine E_iaj a dX12_findMany_112 (by assumption) hz (by omega) (by rw [m3]; omega) ?_
                        rw [ta]
                        refine E_isj a dX12_findMany_113 (by assumption) hz (by first | decide | omega) (by rw [m3]; omega) ?_
                        refine E_incC (c := 1) dX12_findMany_114 rfl (by decide) (by decide) rfl ?_
                        refine E_lv (lv' := [_, _, _, _, _]) rfl ?_
                        refine E_goto (tgt := 54) dX12_findMany_117 (by decide) ?_
                        rw [u2_ur, ur_s, ur_ur, rowN_ur (by omega) own oth]
                        exact ih3 (b + 1) _ _ (by omega) (by omega) (by rw [hw, nI_1]) nx
              refine E_iload_n (i := 3) dX12_findMany_41 rfl rfl ?_
              refine E_aload_n (i := 0) dX12_findMany_42 rfl rfl ?_
              refine E_gr dX12_findMany_43 gf_X12_9_12 rfl (by assumption) (by assumption) ?_
              refine E_iconst (v := 2) dX12_findMany_46 (by decide) ?_
              refine E_iaj 2 dX12_findMany_47 (by assumption) rfl (by decide) (by rw [n3]; decide) ?_
              refine E_icmp_ge (tgt := 126) dX12_findMany_48 (by decide) (fun c_48 => absurd c_48 (by rw [e2, hz]; exact nI_ge (by omega) (by omega))) (fun c_48 => ?_)
              refine E_iconst (v := 0) dX12_findMany_51 (by decide) ?_
              refine E_istoreC dX12_findMany_52 (by decide) rfl ?_
              refine E_lv (lv' := [_, _, _, _, _]) rfl ?_
              exact pairs n 0 _ t (by omega) (by omega) rfl hC2
        refine E_iload_n (i := 2) dX12_findMany_33 rfl rfl ?_
        refine E_bipush (v := 8) dX12_findMany_34 (by decide) ?_
        refine E_icmp_ge (tgt := 132) dX12_findMany_36 (by decide) (fun c_36 => absurd c_36 (by rw [hy]; exact nI_ge (b := 8) (by omega) (by omega))) (fun c_36 => ?_)
        refine E_iconst (v := 0) dX12_findMany_39 (by decide) ?_
        refine E_istore_nC (i := 3) dX12_findMany_40 rfl (by decide) rfl ?_
        refine E_lv (lv' := [_, _, _, _, _]) rfl ?_
        exact rows n 0 _ _ t (by omega) (by omega) rfl hC
  have init : ∀ (N j : Nat) (z : Int32) (J : HI), 8 - j ≤ N → j ≤ 8 → z = nI j → J = ur I 120 (rowN (fun i => if i = l then 1 else 99) j (I 120)) → E Γ mX12_findMany d 0 0 (QM Γ 0 0 Φ) 0 0 2 [some (.ref 109), some (.int x), some (.int z), none, none] [] g P J := by
    intro N
    induction N with
    | zero =>
      intro j z J hN hj hz hJ
      have : j = 8 := by omega
      subst this
      subst hJ
      refine E_iload_n (i := 2) dX12_findMany_2 rfl rfl ?_
      refine E_bipush (v := 8) dX12_findMany_3 (by decide) ?_
      refine E_icmp_ge (tgt := 31) dX12_findMany_5 (by decide) (fun c_5 => ?_) (fun c_5 => absurd (by rw [hz]; decide) c_5)
      refine E_iconst (v := 0) dX12_findMany_31 (by decide) ?_
      refine E_istore_nC (i := 2) dX12_findMany_32 rfl (by decide) rfl ?_
      refine E_lv (lv' := [_, _, _, _, _]) rfl ?_
      exact rounds 8 0 _ _ _ _ (by omega) (by omega) rfl (m_begin hl hn)
    | succ N ih =>
      intro j z J hN hj hz hJ
      by_cases hj8 : j = 8
      · subst hj8
        subst hJ
        refine E_iload_n (i := 2) dX12_findMany_2 rfl rfl ?_
        refine E_bipush (v := 8) dX12_findMany_3 (by decide) ?_
        refine E_icmp_ge (tgt := 31) dX12_findMany_5 (by decide) (fun c_5 => ?_) (fun c_5 => absurd (by rw [hz]; decide) c_5)
        refine E_iconst (v := 0) dX12_findMany_31 (by decide) ?_
        refine E_istore_nC (i := 2) dX12_findMany_32 rfl (by decide) rfl ?_
        refine E_lv (lv' := [_, _, _, _, _]) rfl ?_
        exact rounds 8 0 _ _ _ _ (by omega) (by omega) rfl (m_begin hl hn)
      · by_cases hjl : j = l
        · refine E_iload_n (i := 2) dX12_findMany_2 rfl rfl ?_
          refine E_bipush (v := 8) dX12_findMany_3 (by decide) ?_
          refine E_icmp_ge (tgt := 31) dX12_findMany_5 (by decide) (fun c_5 => absurd c_5 (by rw [hz]; exact nI_ge (b := 8) (by omega) (by omega))) (fun c_5 => ?_)
          refine E_aload_n (i := 0) dX12_findMany_8 rfl rfl ?_
          refine E_gr dX12_findMany_9 gf_X12_48_12 rfl (by assumption) (by assumption) ?_
          refine E_iload_n (i := 2) dX12_findMany_12 rfl rfl ?_
          refine E_iload_n (i := 2) dX12_findMany_13 rfl rfl ?_
          refine E_iload_n (i := 1) dX12_findMany_14 rfl rfl ?_
          refine E_icmp_ne (tgt := 22) dX12_findMany_15 (by decide) (fun c_15 => absurd (by rw [hz, hx, hjl]) c_15) (fun c_15 => ?_)
          refine E_iconst (v := 1) dX12_findMany_18 (by decide) ?_
          refine E_goto (tgt := 24) dX12_findMany_19 (by decide) ?_
          refine E_isj j dX12_findMany_24 (by assumption) hz (by first | decide | omega) (by rw [m3]; omega) ?_
          refine E_incC (c := 1) dX12_findMany_25 rfl (by decide) (by decide) rfl ?_
          refine E_lv (lv' := [_, _, _, _, _]) rfl ?_
          refine E_goto (tgt := 2) dX12_findMany_28 (by decide) ?_
          refine ih (j + 1) _ _ (by omega) (by omega) (by rw [hz, nI_1]) ?_
          rw [hJ, u2_ur, ur_s, ur_ur]
          refine congrArg (ur I 120) (rowN_s ?_)
          show nI (if j = l then 1 else 99) = _
          rw [if_pos hjl]
          rfl
        · refine E_iload_n (i := 2) dX12_findMany_2 rfl rfl ?_
          refine E_bipush (v := 8) dX12_findMany_3 (by decide) ?_
          refine E_icmp_ge (tgt := 31) dX12_findMany_5 (by decide) (fun c_5 => absurd c_5 (by rw [hz]; exact nI_ge (b := 8) (by omega) (by omega))) (fun c_5 => ?_)
          refine E_aload_n (i := 0) dX12_findMany_8 rfl rfl ?_
          refine E_gr dX12_findMany_9 gf_X12_48_12 rfl (by assumption) (by assumption) ?_
          refine E_iload_n (i := 2) dX12_findMany_12 rfl rfl ?_
          refine E_iload_n (i := 2) dX12_findMany_13 rfl rfl ?_
          refine E_iload_n (i := 1) dX12_findMany_14 rfl rfl ?_
          refine E_icmp_ne (tgt := 22) dX12_findMany_15 (by decide) (fun c_15 => ?_) (fun c_15 => absurd c_15 (by rw [hz, hx]; exact nI_ne (by omega) (by omega) hjl))
          refine E_bipush (v := 99) dX12_findMany_22 (by decide) ?_
          refine E_isj j dX12_findMany_24 (by assumption) hz (by first | decide | omega) (by rw [m3]; omega) ?_
          refine E_incC (c := 1) dX12_findMany_25 rfl (by decide) (by decide) rfl ?_
          refine E_lv (lv' := [_, _, _, _, _]) rfl ?_
          refine E_goto (tgt := 2) dX12_findMany_28 (by decide) ?_
          refine ih (j + 1) _ _ (by omega) (by omega) (by rw [hz, nI_1]) ?_
          rw [hJ, u2_ur, ur_s, ur_ur]
          refine congrArg (ur I 120) (rowN_s ?_)
          show nI (if j = l then 1 else 99) = _
          rw [if_neg hjl]
          rfl
  refine E_iconst (v := 0) dX12_findMany_0 (by decide) ?_
  refine E_istore_nC (i := 2) dX12_findMany_1 rfl (by decide) rfl ?_
  refine E_lv (lv' := [_, _, _, _, _]) rfl ?_
  refine init 8 0 _ _ (by omega) (by omega) rfl ?_
  rw [rowN_0, ur_id]
theorem c_X12_over {x y : Int32} {n : Nat} (hd : 2 ≤ d) (hM : Mo g P) (e1 : I 110 2 = nI n) (hn : n ≤ 8) (h1 : ∀ l, x = nI l → l < n → -1 ≤ y → (lwf n l (plm (I 110)) 0 = 0 ∨ nI (lwf n l (plm (I 110)) 0) ≤ y) → Φ (some (.int (er 2))) g P (flM (fmM I n l) 2)) (h2 : ¬ ((0 ≤ x ∧ x ≤ nI n - 1) ∧ -1 ≤ y) → Φ (some (.int (er 1))) g P (flM I 1)) (h3 : ∀ l, x = nI l → l < n → y = -1 → ¬ lwf n l (plm (I 110)) 0 = 0 → Φ (some (.int (nI (lwf n l (plm (I 110)) 0)))) g P (fmM I n l)) (h4 : ∀ l k, x = nI l → l < n → y = nI k → k < lwf n l (plm (I 110)) 0 → Φ (some (.int (oI (pt n (lwf n l (plm (I 110))) (plm (I 110)) k)))) g P (fmM I n l)) : MM Γ mX12_over d 0 0 [.ref 109, .int x, .int y] g P I Φ := by
  refine MM_entry [some _, some _, some _, none, none, none] (by decide) (Nat.le_of_ble_eq_true rfl) rfl ?_
  have h0 := hM.1
  obtain ⟨n1, n2, n3⟩ := hM.now
  obtain ⟨m1, m2, m3⟩ := hM.man
  by_cases hc : 0 ≤ x ∧ x ≤ nI n - 1
  · by_cases hy : -1 ≤ y
    · obtain ⟨l, hx, hl⟩ := in_nat (by omega) hc
      have g1 := h1 l hx hl hy
      have g3 := h3 l hx hl
      have g4 := fun k => h4 l k hx hl
      have eva : ∀ a, a < 8 → (fmM I n l) 120 a = nI (mny n l (plm (I 110)) a) := fun a ha => by unfold fmM; rw [ur_s]; exact rowN_at ha
      have ev := eva 0 (by decide)
      have r110 : (fmM I n l) 110 = I 110 := ur_n _ _ (by decide)
      have hle : ∀ a, lwf n l (plm (I 110)) a ≤ n - 1 + 1 := fun a => lw_le (n := n) (last := l) (pl := plm (I 110)) (n - 1) a
      have hle0 := hle 0
      by_cases c0 : lwf n l (plm (I 110)) 0 = 0
      · have hΦ := g1 (Or.inl c0)
        have ev2 : mny n l (plm (I 110)) 0 = 99 := if_pos c0
        rw [ev2] at ev
        refine E_aload_n (i := 0) dX12_over_0 rfl rfl ?_
        refine E_iload_n (i := 1) dX12_over_1 rfl rfl ?_
        refine E_iconst (v := 2) dX12_over_2 (by decide) ?_
        refine k_X12_over_3 (mc' := 0) (ms' := 0) (rc := 0) (rs := 0) (by omega) (Nat.le_of_ble_eq_true rfl) (by assumption) (c_X12_is (k := 2) (by omega) hM rfl (by decide) ?_)
        rw [e1, bz_t hc]
        refine E_if_eq (tgt := 14) dX12_over_6 (by decide) (fun c_6 => absurd c_6 (by decide)) (fun c_6 => ?_)
        refine E_iload_n (i := 2) dX12_over_9 rfl rfl ?_
        refine E_iconst (v := -1) dX12_over_10 (by decide) ?_
        refine E_icmp_ge (tgt := 21) dX12_over_11 (by decide) (fun c_11 => ?_) (fun c_11 => absurd (hy) c_11)
        refine E_aload_n (i := 0) dX12_over_21 rfl rfl ?_
        refine E_iload_n (i := 1) dX12_over_22 rfl rfl ?_
        refine k_X12_over_23 (mc' := 0) (ms' := 0) (rc := 0) (rs := 0) (by omega) (Nat.le_of_ble_eq_true rfl) (by assumption) (c_X12_findMany (by omega) hM e1 hn hx hl ?_)
        refine E_aload_n (i := 0) dX12_over_26 rfl rfl ?_
        refine E_gr dX12_over_27 gf_X12_48_12 rfl (by assumption) (by assumption) ?_
        refine E_iconst (v := 0) dX12_over_30 (by decide) ?_
        refine E_iaj 0 dX12_over_31 (by assumption) rfl (by decide) (by rw [m3]; decide) ?_
        refine E_bipush (v := 8) dX12_over_32 (by decide) ?_
        rw [ev]
        refine E_icmp_gt (tgt := 47) dX12_over_34 (by decide) (fun c_34 => ?_) (fun c_34 => absurd (by decide) c_34)
        refine E_aload_n (i := 0) dX12_over_47 rfl rfl ?_
        refine E_ldc (v := -1000000002) dX12_over_48 w_1275 ?_
        refine k_X12_over_50 (mc' := 0) (ms' := 0) (rc := 0) (rs := 0) (by omega) (Nat.le_of_ble_eq_true rfl) (by assumption) (c_find2 hM ?_)
        refine E_iret dX12_over_53 rfl ?_
        exact hΦ
      · have ev2 : mny n l (plm (I 110)) 0 = lwf n l (plm (I 110)) 0 := if_neg c0
        rw [ev2] at ev
        by_cases c1 : nI (lwf n l (plm (I 110)) 0) ≤ y
        · have hΦ := g1 (Or.inr c1)
          refine E_aload_n (i := 0) dX12_over_0 rfl rfl ?_
          refine E_iload_n (i := 1) dX12_over_1 rfl rfl ?_
          refine E_iconst (v := 2) dX12_over_2 (by decide) ?_
          refine k_X12_over_3 (mc' := 0) (ms' := 0) (rc := 0) (rs := 0) (by omega) (Nat.le_of_ble_eq_true rfl) (by assumption) (c_X12_is (k := 2) (by omega) hM rfl (by decide) ?_)
          rw [e1, bz_t hc]
          refine E_if_eq (tgt := 14) dX12_over_6 (by decide) (fun c_6 => absurd c_6 (by decide)) (fun c_6 => ?_)
          refine E_iload_n (i := 2) dX12_over_9 rfl rfl ?_
          refine E_iconst (v := -1) dX12_over_10 (by decide) ?_
          refine E_icmp_ge (tgt := 21) dX12_over_11 (by decide) (fun c_11 => ?_) (fun c_11 => absurd (hy) c_11)
          refine E_aload_n (i := 0) dX12_over_21 rfl rfl ?_
          refine E_iload_n (i := 1) dX12_over_22 rfl rfl ?_
          refine k_X12_over_23 (mc' := 0) (ms' := 0) (rc := 0) (rs := 0) (by omega) (Nat.le_of_ble_eq_true rfl) (by assumption) (c_X12_findMany (by omega) hM e1 hn hx hl ?_)
          refine E_aload_n (i := 0) dX12_over_26 rfl rfl ?_
          refine E_gr dX12_over_27 gf_X12_48_12 rfl (by assumption) (by assumption) ?_
          refine E_iconst (v := 0) dX12_over_30 (by decide) ?_
          refine E_iaj 0 dX12_over_31 (by assumption) rfl (by decide) (by rw [m3]; decide) ?_
          refine E_bipush (v := 8) dX12_over_32 (by decide) ?_
          rw [ev]
          refine E_icmp_gt (tgt := 47) dX12_over_34 (by decide) (fun c_34 => absurd c_34 (nI_nlt (a := 8) (b := lwf n l (plm (I 110)) 0) (by omega) (by omega))) (fun c_34 => ?_)
          refine E_iload_n (i := 2) dX12_over_37 rfl rfl ?_
          refine E_aload_n (i := 0) dX12_over_38 rfl rfl ?_
          refine E_gr dX12_over_39 gf_X12_48_12 rfl (by assumption) (by assumption) ?_
          refine E_iconst (v := 0) dX12_over_42 (by decide) ?_
          refine E_iaj 0 dX12_over_43 (by assumption) rfl (by decide) (by rw [m3]; decide) ?_
          rw [ev]
          refine E_icmp_lt (tgt := 54) dX12_over_44 (by decide) (fun c_44 => absurd c_44 (Int32.not_lt.mpr c1)) (fun c_44 => ?_)
          refine E_aload_n (i := 0) dX12_over_47 rfl rfl ?_
          refine E_ldc (v := -1000000002) dX12_over_48 w_1275 ?_
          refine k_X12_over_50 (mc' := 0) (ms' := 0) (rc := 0) (rs := 0) (by omega) (Nat.le_of_ble_eq_true rfl) (by assumption) (c_find2 hM ?_)
          refine E_iret dX12_over_53 rfl ?_
          exact hΦ
        · by_cases cm : y = -1
          · have hΦ := g3 cm c0
            refine E_aload_n (i := 0) dX12_over_0 rfl rfl ?_
            refine E_iload_n (i := 1) dX12_over_1 rfl rfl ?_
            refine E_iconst (v := 2) dX12_over_2 (by decide) ?_
            refine k_X12_over_3 (mc' := 0) (ms' := 0) (rc := 0) (rs := 0) (by omega) (Nat.le_of_ble_eq_true rfl) (by assumption) (c_X12_is (k := 2) (by omega) hM rfl (by decide) ?_)
            rw [e1, bz_t hc]
            refine E_if_eq (tgt := 14) dX12_over_6 (by decide) (fun c_6 => absurd c_6 (by decide)) (fun c_6 => ?_)
            refine E_iload_n (i := 2) dX12_over_9 rfl rfl ?_
            refine E_iconst (v := -1) dX12_over_10 (by decide) ?_
            refine E_icmp_ge (tgt := 21) dX12_over_11 (by decide) (fun c_11 => ?_) (fun c_11 => absurd (hy) c_11)
            refine E_aload_n (i := 0) dX12_over_21 rfl rfl ?_
            refine E_iload_n (i := 1) dX12_over_22 rfl rfl ?_
            refine k_X12_over_23 (mc' := 0) (ms' := 0) (rc := 0) (rs := 0) (by omega) (Nat.le_of_ble_eq_true rfl) (by assumption) (c_X12_findMany (by omega) hM e1 hn hx hl ?_)
            refine E_aload_n (i := 0) dX12_over_26 rfl rfl ?_
            refine E_gr dX12_over_27 gf_X12_48_12 rfl (by assumption) (by assumption) ?_
            refine E_iconst (v := 0) dX12_over_30 (by decide) ?_
            refine E_iaj 0 dX12_over_31 (by assumption) rfl (by decide) (by rw [m3]; decide) ?_
            refine E_bipush (v := 8) dX12_over_32 (by decide) ?_
            rw [ev]
            refine E_icmp_gt (tgt := 47) dX12_over_34 (by decide) (fun c_34 => absurd c_34 (nI_nlt (a := 8) (b := lwf n l (plm (I 110)) 0) (by omega) (by omega))) (fun c_34 => ?_)
            refine E_iload_n (i := 2) dX12_over_37 rfl rfl ?_
            refine E_aload_n (i := 0) dX12_over_38 rfl rfl ?_
            refine E_gr dX12_over_39 gf_X12_48_12 rfl (by assumption) (by assumption) ?_
            refine E_iconst (v := 0) dX12_over_42 (by decide) ?_
            refine E_iaj 0 dX12_over_43 (by assumption) rfl (by decide) (by rw [m3]; decide) ?_
            rw [ev]
            refine E_icmp_lt (tgt := 54) dX12_over_44 (by decide) (fun c_44 => ?_) (fun c_44 => absurd (Int32.not_le.mp c1) c_44)
            refine E_iconst (v := 0) dX12_over_54 (by decide) ?_
            refine E_istore_nC (i := 3) dX12_over_55 rfl (by decide) rfl ?_
            refine E_lv (lv' := [_, _, _, _, _, _]) rfl ?_
            refine E_iconst (v := 0) dX12_over_56 (by decide) ?_
            refine E_istoreC dX12_over_57 (by decide) rfl ?_
            refine E_lv (lv' := [_, _, _, _, _, _]) rfl ?_
            refine E_iload dX12_over_59 rfl ?_
            refine E_iload_n (i := 2) dX12_over_61 rfl rfl ?_
            refine E_icmp_ge (tgt := 117) dX12_over_62 (by decide) (fun c_62 => ?_) (fun c_62 => absurd (by rw [cm]; decide) c_62)
            refine E_iload_n (i := 2) dX12_over_117 rfl rfl ?_
            refine E_if_ge (tgt := 130) dX12_over_118 (by decide) (fun c_118 => absurd c_118 (by rw [cm]; decide)) (fun c_118 => ?_)
            refine E_aload_n (i := 0) dX12_over_121 rfl rfl ?_
            refine E_gr dX12_over_122 gf_X12_48_12 rfl (by assumption) (by assumption) ?_
            refine E_iconst (v := 0) dX12_over_125 (by decide) ?_
            refine E_iaj 0 dX12_over_126 (by assumption) rfl (by decide) (by rw [m3]; decide) ?_
            refine E_goto (tgt := 131) dX12_over_127 (by decide) ?_
            refine E_iret dX12_over_131 rfl ?_
            rw [ev]
            exact hΦ
          · have y1 := i32_le.mp hy
            have y2 := i32_lt.mp (Int32.not_le.mp c1)
            have y3 : ¬ y.toInt = -1 := fun e => cm (Int32.toInt_inj.mp e)
            have em : (-1 : Int32).toInt = -1 := rfl
            rw [nI_toInt (by omega)] at y2
            obtain ⟨k, hyk⟩ : ∃ k, y = nI k ∧ k < lwf n l (plm (I 110)) 0 := ⟨y.toInt.toNat, by
              apply Int32.toInt_inj.mp
              rw [nI_toInt (by omega)]
              omega, by omega⟩
            obtain ⟨hyk, hk⟩ := hyk
            have hΦ := g4 k hyk hk
            have steps : ∀ (N s : Nat) (u v : Int32) (w : Option Value) (a : Nat), k - s ≤ N → s ≤ k → v = nI s → u = nI a → pt n (lwf n l (plm (I 110))) (plm (I 110)) s = some a → E Γ mX12_over d 0 0 (QM Γ 0 0 Φ) 0 0 59 [some (.ref 109), some (.int x), some (.int y), some (.int u), some (.int v), w] [] g P (fmM I n l) := by
              intro N
              induction N with
              | zero =>
                intro s u v w a hN hs hv hu hp
                have : s = k := by omega
                subst this
                rw [hp] at hΦ
                refine E_iload dX12_over_59 rfl ?_
                refine E_iload_n (i := 2) dX12_over_61 rfl rfl ?_
                refine E_icmp_ge (tgt := 117) dX12_over_62 (by decide) (fun c_62 => ?_) (fun c_62 => absurd (by rw [hv, hyk]; exact Int32.le_refl _) c_62)
                refine E_iload_n (i := 2) dX12_over_117 rfl rfl ?_
                refine E_if_ge (tgt := 130) dX12_over_118 (by decide) (fun c_118 => ?_) (fun c_118 => absurd (by rw [hyk]; exact nI_pos' (by omega)) c_118)
                refine E_iload_n (i := 3) dX12_over_130 rfl rfl ?_
                refine E_iret dX12_over_131 rfl ?_
                rw [hu]
                exact hΦ
              | succ N ih =>
                intro s u v w a hN hs hv hu hp
                by_cases hsk : s = k
                · subst hsk
                  rw [hp] at hΦ
                  refine E_iload dX12_over_59 rfl ?_
                  refine E_iload_n (i := 2) dX12_over_61 rfl rfl ?_
                  refine E_icmp_ge (tgt := 117) dX12_over_62 (by decide) (fun c_62 => ?_) (fun c_62 => absurd (by rw [hv, hyk]; exact Int32.le_refl _) c_62)
                  refine E_iload_n (i := 2) dX12_over_117 rfl rfl ?_
                  refine E_if_ge (tgt := 130) dX12_over_118 (by decide) (fun c_118 => ?_) (fun c_118 => absurd (by rw [hyk]; exact nI_pos' (by omega)) c_118)
                  refine E_iload_n (i := 3) dX12_over_130 rfl rfl ?_
                  refine E_iret dX12_over_131 rfl ?_
                  rw [hu]
                  exact hΦ
                · obtain ⟨a', q1, q2, q3⟩ := pt_ok (n := n) (last := l) (pl := plm (I 110)) (s := s) (by omega) (by omega)
                  rw [hp] at q1
                  cases q1
                  obtain ⟨c, r1, r2, r3⟩ := pt_ok (n := n) (last := l) (pl := plm (I 110)) (s := s + 1) (by omega) (by omega)
                  have r4 : fnd (fun b => lwf n l (plm (I 110)) b + (s + 1) = lwf n l (plm (I 110)) 0 ∧ plm (I 110) a b) n 0 = some c := by
                    unfold pt at r1
                    rw [hp] at r1
                    exact r1
                  obtain ⟨_, f2, f3, f4⟩ := fnd_some r4
                  have la := hle a
                  have ma : mny n l (plm (I 110)) a = lwf n l (plm (I 110)) a := if_neg (by omega)
                  have look : ∀ (N2 j : Nat) (z : Int32), c - j ≤ N2 → j ≤ c → z = nI j → E Γ mX12_over d 0 0 (QM Γ 0 0 Φ) 0 0 68 [some (.ref 109), some (.int x), some (.int y), some (.int u), some (.int v), some (.int z)] [] g P (fmM I n l) := by
                    have hit : ∀ (z : Int32), z = nI c → E Γ mX12_over d 0 0 (QM Γ 0 0 Φ) 0 0 68 [some (.ref 109), some (.int x), some (.int y), some (.int u), some (.int v), some (.int z)] [] g P (fmM I n l) := by
                      intro z hz
                      have hca : ¬ c = a := fun e => by rw [e] at r3; omega
                      have mc : mny n l (plm (I 110)) c = lwf n l (plm (I 110)) c := if_neg (by omega)
                      refine E_iload dX12_over_68 rfl ?_
                      refine E_iload_n (i := 3) dX12_over_70 rfl rfl ?_
                      refine E_icmp_eq (tgt := 102) dX12_over_71 (by decide) (fun c_71 => absurd c_71 (by rw [hz, hu]; exact nI_ne (by omega) (by omega) hca)) (fun c_71 => ?_)
                      refine E_aload_n (i := 0) dX12_over_74 rfl rfl ?_
                      refine E_iload_n (i := 3) dX12_over_75 rfl rfl ?_
                      refine E_iload dX12_over_76 rfl ?_
                      refine k_X12_over_78 (mc' := 0) (ms' := 0) (rc := 0) (rs := 0) (by omega) (Nat.le_of_ble_eq_true rfl) (by assumption) (c_X12_pulls hM hu hz (by omega) (by omega) ?_)
                      rw [r110, bz_t f3.2]
                      refine E_if_eq (tgt := 102) dX12_over_81 (by decide) (fun c_81 => absurd c_81 (by decide)) (fun c_81 => ?_)
                      refine E_aload_n (i := 0) dX12_over_84 rfl rfl ?_
                      refine E_gr dX12_over_85 gf_X12_48_12 rfl (by assumption) (by assumption) ?_
                      refine E_iload dX12_over_88 rfl ?_
                      refine E_iaj c dX12_over_90 (by assumption) hz (by omega) (by rw [m3]; omega) ?_
                      refine E_iconst (v := 1) dX12_over_91 (by decide) ?_
                      refine E_iadd dX12_over_92 ?_
                      refine E_aload_n (i := 0) dX12_over_93 rfl rfl ?_
                      refine E_gr dX12_over_94 gf_X12_48_12 rfl (by assumption) (by assumption) ?_
                      refine E_iload_n (i := 3) dX12_over_97 rfl rfl ?_
                      refine E_iaj a dX12_over_98 (by assumption) hu (by omega) (by rw [m3]; omega) ?_
                      rw [eva a (by omega), eva c (by omega), ma, mc, nI_1]
                      refine E_icmp_eq (tgt := 108) dX12_over_99 (by decide) (fun c_99 => ?_) (fun c_99 => absurd (congrArg nI (by omega)) c_99)
                      refine E_iload dX12_over_108 rfl ?_
                      refine E_istore_nC (i := 3) dX12_over_110 rfl (by decide) rfl ?_
                      refine E_lv (lv' := [_, _, _, _, _, _]) rfl ?_
                      refine E_incC (c := 1) dX12_over_111 rfl (by decide) (by decide) rfl ?_
                      refine E_lv (lv' := [_, _, _, _, _, _]) rfl ?_
                      refine E_goto (tgt := 59) dX12_over_114 (by decide) ?_
                      exact ih (s + 1) _ _ _ c (by omega) (by omega) (by rw [hv, nI_1]) hz r1
                    intro N2
                    induction N2 with
                    | zero =>
                      intro j z hN2 hj hz
                      have : j = c := by omega
                      subst this
                      exact hit z hz
                    | succ N2 ih2 =>
                      intro j z hN2 hj hz
                      by_cases hjc : j = c
                      · subst hjc
                        exact hit z hz
                      · have nf := f4 j (by omega) (by omega)
                        by_cases hja : j = a
                        · refine E_iload dX12_over_68 rfl ?_
                          refine E_iload_n (i := 3) dX12_over_70 rfl rfl ?_
                          refine E_icmp_eq (tgt := 102) dX12_over_71 (by decide) (fun c_71 => ?_) (fun c_71 => absurd (by rw [hz, hu, hja]) c_71)
                          refine E_incC (c := 1) dX12_over_102 rfl (by decide) (by decide) rfl ?_
                          refine E_lv (lv' := [_, _, _, _, _, _]) rfl ?_
                          refine E_goto (tgt := 68) dX12_over_105 (by decide) ?_
                          exact ih2 (j + 1) _ (by omega) (by omega) (by rw [hz, nI_1])
                        · by_cases hpl : plm (I 110) a j
                          · have nm : ¬ mny n l (plm (I 110)) j + 1 = lwf n l (plm (I 110)) a := by
                              intro e
                              unfold mny at e
                              split at e
                              · omega
                              · exact nf ⟨by omega, hpl⟩
                            have lj := hle j
                            have lm : mny n l (plm (I 110)) j ≤ 99 := by
                              unfold mny
                              split <;> omega
                            refine E_iload dX12_over_68 rfl ?_
                            refine E_iload_n (i := 3) dX12_over_70 rfl rfl ?_
                            refine E_icmp_eq (tgt := 102) dX12_over_71 (by decide) (fun c_71 => absurd c_71 (by rw [hz, hu]; exact nI_ne (by omega) (by omega) hja)) (fun c_71 => ?_)
                            refine E_aload_n (i := 0) dX12_over_74 rfl rfl ?_
                            refine E_iload_n (i := 3) dX12_over_75 rfl rfl ?_
                            refine E_iload dX12_over_76 rfl ?_
                            refine k_X12_over_78 (mc' := 0) (ms' := 0) (rc := 0) (rs := 0) (by omega) (Nat.le_of_ble_eq_true rfl) (by assumption) (c_X12_pulls hM hu hz (by omega) (by omega) ?_)
                            rw [r110, bz_t hpl]
                            refine E_if_eq (tgt := 102) dX12_over_81 (by decide) (fun c_81 => absurd c_81 (by decide)) (fun c_81 => ?_)
                            refine E_aload_n (i := 0) dX12_over_84 rfl rfl ?_
                            refine E_gr dX12_over_85 gf_X12_48_12 rfl (by assumption) (by assumption) ?_
                            refine E_iload dX12_over_88 rfl ?_
                            refine E_iaj j dX12_over_90 (by assumption) hz (by omega) (by rw [m3]; omega) ?_
                            refine E_iconst (v := 1) dX12_over_91 (by decide) ?_
                            refine E_iadd dX12_over_92 ?_
                            refine E_aload_n (i := 0) dX12_over_93 rfl rfl ?_
                            refine E_gr dX12_over_94 gf_X12_48_12 rfl (by assumption) (by assumption) ?_
                            refine E_iload_n (i := 3) dX12_over_97 rfl rfl ?_
                            refine E_iaj a dX12_over_98 (by assumption) hu (by omega) (by rw [m3]; omega) ?_
                            rw [eva a (by omega), eva j (by omega), ma, nI_1]
                            refine E_icmp_eq (tgt := 108) dX12_over_99 (by decide) (fun c_99 => absurd c_99 (nI_ne (by omega) (by omega) nm)) (fun c_99 => ?_)
                            refine E_incC (c := 1) dX12_over_102 rfl (by decide) (by decide) rfl ?_
                            refine E_lv (lv' := [_, _, _, _, _, _]) rfl ?_
                            refine E_goto (tgt := 68) dX12_over_105 (by decide) ?_
                            exact ih2 (j + 1) _ (by omega) (by omega) (by rw [hz, nI_1])
                          · refine E_iload dX12_over_68 rfl ?_
                            refine E_iload_n (i := 3) dX12_over_70 rfl rfl ?_
                            refine E_icmp_eq (tgt := 102) dX12_over_71 (by decide) (fun c_71 => absurd c_71 (by rw [hz, hu]; exact nI_ne (by omega) (by omega) hja)) (fun c_71 => ?_)
                            refine E_aload_n (i := 0) dX12_over_74 rfl rfl ?_
                            refine E_iload_n (i := 3) dX12_over_75 rfl rfl ?_
                            refine E_iload dX12_over_76 rfl ?_
                            refine k_X12_over_78 (mc' := 0) (ms' := 0) (rc := 0) (rs := 0) (by omega) (Nat.le_of_ble_eq_true rfl) (by assumption) (c_X12_pulls hM hu hz (by omega) (by omega) ?_)
                            rw [r110, bz_f hpl]
                            refine E_if_eq (tgt := 102) dX12_over_81 (by decide) (fun c_81 => ?_) (fun c_81 => absurd (rfl) c_81)
                            refine E_incC (c := 1) dX12_over_102 rfl (by decide) (by decide) rfl ?_
                            refine E_lv (lv' := [_, _, _, _, _, _]) rfl ?_
                            refine E_goto (tgt := 68) dX12_over_105 (by decide) ?_
                            exact ih2 (j + 1) _ (by omega) (by omega) (by rw [hz, nI_1])
                  refine E_iload dX12_over_59 rfl ?_
                  refine E_iload_n (i := 2) dX12_over_61 rfl rfl ?_
                  refine E_icmp_ge (tgt := 117) dX12_over_62 (by decide) (fun c_62 => absurd c_62 (by rw [hv, hyk]; exact nI_ge (by omega) (by omega))) (fun c_62 => ?_)
                  refine E_iconst (v := 0) dX12_over_65 (by decide) ?_
                  refine E_istoreC dX12_over_66 (by decide) rfl ?_
                  refine E_lv (lv' := [_, _, _, _, _, _]) rfl ?_
                  exact look c 0 _ (by omega) (by omega) rfl
            refine E_aload_n (i := 0) dX12_over_0 rfl rfl ?_
            refine E_iload_n (i := 1) dX12_over_1 rfl rfl ?_
            refine E_iconst (v := 2) dX12_over_2 (by decide) ?_
            refine k_X12_over_3 (mc' := 0) (ms' := 0) (rc := 0) (rs := 0) (by omega) (Nat.le_of_ble_eq_true rfl) (by assumption) (c_X12_is (k := 2) (by omega) hM rfl (by decide) ?_)
            rw [e1, bz_t hc]
            refine E_if_eq (tgt := 14) dX12_over_6 (by decide) (fun c_6 => absurd c_6 (by decide)) (fun c_6 => ?_)
            refine E_iload_n (i := 2) dX12_over_9 rfl rfl ?_
            refine E_iconst (v := -1) dX12_over_10 (by decide) ?_
            refine E_icmp_ge (tgt := 21) dX12_over_11 (by decide) (fun c_11 => ?_) (fun c_11 => absurd (hy) c_11)
            refine E_aload_n (i := 0) dX12_over_21 rfl rfl ?_
            refine E_iload_n (i := 1) dX12_over_22 rfl rfl ?_
            refine k_X12_over_23 (mc' := 0) (ms' := 0) (rc := 0) (rs := 0) (by omega) (Nat.le_of_ble_eq_true rfl) (by assumption) (c_X12_findMany (by omega) hM e1 hn hx hl ?_)
            refine E_aload_n (i := 0) dX12_over_26 rfl rfl ?_
            refine E_gr dX12_over_27 gf_X12_48_12 rfl (by assumption) (by assumption) ?_
            refine E_iconst (v := 0) dX12_over_30 (by decide) ?_
            refine E_iaj 0 dX12_over_31 (by assumption) rfl (by decide) (by rw [m3]; decide) ?_
            refine E_bipush (v := 8) dX12_over_32 (by decide) ?_
            rw [ev]
            refine E_icmp_gt (tgt := 47) dX12_over_34 (by decide) (fun c_34 => absurd c_34 (nI_nlt (a := 8) (b := lwf n l (plm (I 110)) 0) (by omega) (by omega))) (fun c_34 => ?_)
            refine E_iload_n (i := 2) dX12_over_37 rfl rfl ?_
            refine E_aload_n (i := 0) dX12_over_38 rfl rfl ?_
            refine E_gr dX12_over_39 gf_X12_48_12 rfl (by assumption) (by assumption) ?_
            refine E_iconst (v := 0) dX12_over_42 (by decide) ?_
            refine E_iaj 0 dX12_over_43 (by assumption) rfl (by decide) (by rw [m3]; decide) ?_
            rw [ev]
            refine E_icmp_lt (tgt := 54) dX12_over_44 (by decide) (fun c_44 => ?_) (fun c_44 => absurd (Int32.not_le.mp c1) c_44)
            refine E_iconst (v := 0) dX12_over_54 (by decide) ?_
            refine E_istore_nC (i := 3) dX12_over_55 rfl (by decide) rfl ?_
            refine E_lv (lv' := [_, _, _, _, _, _]) rfl ?_
            refine E_iconst (v := 0) dX12_over_56 (by decide) ?_
            refine E_istoreC dX12_over_57 (by decide) rfl ?_
            refine E_lv (lv' := [_, _, _, _, _, _]) rfl ?_
            exact steps k 0 _ _ _ 0 (by omega) (by omega) rfl rfl rfl
    · have hΦ := h2 (fun h => hy h.2)
      refine E_aload_n (i := 0) dX12_over_0 rfl rfl ?_
      refine E_iload_n (i := 1) dX12_over_1 rfl rfl ?_
      refine E_iconst (v := 2) dX12_over_2 (by decide) ?_
      refine k_X12_over_3 (mc' := 0) (ms' := 0) (rc := 0) (rs := 0) (by omega) (Nat.le_of_ble_eq_true rfl) (by assumption) (c_X12_is (k := 2) (by omega) hM rfl (by decide) ?_)
      rw [e1, bz_t hc]
      refine E_if_eq (tgt := 14) dX12_over_6 (by decide) (fun c_6 => absurd c_6 (by decide)) (fun c_6 => ?_)
      refine E_iload_n (i := 2) dX12_over_9 rfl rfl ?_
      refine E_iconst (v := -1) dX12_over_10 (by decide) ?_
      refine E_icmp_ge (tgt := 21) dX12_over_11 (by decide) (fun c_11 => absurd c_11 (hy)) (fun c_11 => ?_)
      refine E_aload_n (i := 0) dX12_over_14 rfl rfl ?_
      refine E_ldc (v := -1000000001) dX12_over_15 w_1208 ?_
      refine k_X12_over_17 (mc' := 0) (ms' := 0) (rc := 0) (rs := 0) (by omega) (Nat.le_of_ble_eq_true rfl) (by assumption) (c_find1 hM ?_)
      refine E_iret dX12_over_20 rfl ?_
      exact hΦ
  · have hΦ := h2 (fun h => hc h.1)
    refine E_aload_n (i := 0) dX12_over_0 rfl rfl ?_
    refine E_iload_n (i := 1) dX12_over_1 rfl rfl ?_
    refine E_iconst (v := 2) dX12_over_2 (by decide) ?_
    refine k_X12_over_3 (mc' := 0) (ms' := 0) (rc := 0) (rs := 0) (by omega) (Nat.le_of_ble_eq_true rfl) (by assumption) (c_X12_is (k := 2) (by omega) hM rfl (by decide) ?_)
    rw [e1, bz_f hc]
    refine E_if_eq (tgt := 14) dX12_over_6 (by decide) (fun c_6 => ?_) (fun c_6 => absurd (rfl) c_6)
    refine E_aload_n (i := 0) dX12_over_14 rfl rfl ?_
    refine E_ldc (v := -1000000001) dX12_over_15 w_1208 ?_
    refine k_X12_over_17 (mc' := 0) (ms' := 0) (rc := 0) (rs := 0) (by omega) (Nat.le_of_ble_eq_true rfl) (by assumption) (c_find1 hM ?_)
    refine E_iret dX12_over_20 rfl ?_
    exact hΦ
end
/-- the class's lines of the first row are the same -/
theorem pth_pt {I : HI} {n l : Nat} (hl : l < n) (hn : n ≤ 8) : ∀ {s : Nat}, s < lwf n l (plc (I 36) (I 38) (I 23)) 0 → pth (fgC I n l) n s = pt n (lwf n l (plc (I 36) (I 38) (I 23))) (plc (I 36) (I 38) (I 23)) s
  | 0, _ => rfl
  | s + 1, hs => by
    have ih := pth_pt (I := I) hl hn (s := s) (by omega)
    obtain ⟨a, h1, h2, h3⟩ := pt_ok (n := n) (last := l) (pl := plc (I 36) (I 38) (I 23)) (s := s) (by omega) (by omega)
    unfold pth pt
    rw [ih, h1]
    refine fnd_congr (fun j _ hj => ?_)
    have k98 : ∀ b, b < 8 → (fgC I n l) 98 b = nI (lwf n l (plc (I 36) (I 38) (I 23)) b) := fun b hb => by unfold fgC; rw [ur_s]; exact rowN_at hb
    have hle : ∀ a, lwf n l (plc (I 36) (I 38) (I 23)) a ≤ n - 1 + 1 := fun a => lw_le (n := n) (last := l) (pl := plc (I 36) (I 38) (I 23)) (n - 1) a
    have hj1 := hle j
    have h01 := hle 0
    have e3 : nI (lwf n l (plc (I 36) (I 38) (I 23)) 0) - nI (s + 1) = nI (lwf n l (plc (I 36) (I 38) (I 23)) 0 - (s + 1)) := by
      apply Int32.toInt_inj.mp
      rw [sub32 (by rw [nI_toInt (by omega), nI_toInt (by omega)]; omega) (by rw [nI_toInt (by omega), nI_toInt (by omega)]; omega), nI_toInt (by omega), nI_toInt (by omega), nI_toInt (by omega)]
      omega
    unfold nxP
    rw [k98 j (by omega), k98 0 (by omega), e3]
    have f36 : (fgC I n l) 36 = I 36 := ur_n _ _ (by decide)
    have f38 : (fgC I n l) 38 = I 38 := ur_n _ _ (by decide)
    have f23 : (fgC I n l) 23 = I 23 := ur_n _ _ (by decide)
    rw [f36, f38, f23]
    constructor
    · intro ⟨q1, q2⟩
      have := nI_inj (by omega) (by omega) q1
      exact ⟨by omega, q2⟩
    · intro ⟨q1, q2⟩
      exact ⟨congrArg nI (by omega), q2⟩
