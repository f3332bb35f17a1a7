/-! the class: gusts, check, feed -/
/-- what gusts leave as it was -/
def FZ (k : Nat) (I J : HI) : Prop := (∀ a, a ≠ 17 → a ≠ 18 → a ≠ 21 → a ≠ 23 → (a < 25 ∨ 28 < a) → J a = I a) ∧ (∀ s, s ≠ 8 → s ≠ 9 → J 21 s = I 21 s) ∧ ∀ j, k ≤ j → J 28 j = I 28 j
section
variable {Γ : GE} {d : Nat} {g : Sh} {P : HP} {I : HI} {Φ : Option Value → Sh → HP → HI → Prop} {k : Nat} {rd : Nat → Nat} {M : Nat → Int32} {nt : Nat → Nat} {δ : Nat → List Int32}
theorem gus_k {ε : List Int32} {r f : Nat} (hf : f < 3) : ∀ n, gus ε k M n (16 + 7 * r + f) = M (16 + 7 * r + f)
  | 0 => rfl
  | n + 1 => by
    show ur (tkr ε (gu1 (gus ε k M n)) k) 0 (tkr ε (gu1 (gus ε k M n)) k 0 + 1) (16 + 7 * r + f) = _
    rw [ur_n _ _ (by omega), tkr_k hf, gu1_o (by omega) (by omega), gus_k hf n]
theorem gus_0 {ε : List Int32} : ∀ n, gus ε k M n 0 = M 0 + nI n
  | 0 => (i_add0 _).symm
  | n + 1 => by
    show ur (tkr ε (gu1 (gus ε k M n)) k) 0 (tkr ε (gu1 (gus ε k M n)) k 0 + 1) 0 = M 0 + nI (n + 1)
    rw [ur_s, tkr_o (by decide) (Or.inl (by decide)) k (Nat.le_refl _), gu1_o (by decide) (by decide), gus_0 n, ← nI_1]
    exact Int32.add_assoc _ _ _
theorem c_X11_gusts {x : Int32} (hd : 59 ≤ d) (hL : Ly g P) (hA : LA g P I k rd M nt δ) (hz : I 21 9 = M 6) (h1 : ∀ n, x = nI n → 1 ≤ n → n ≤ 200 → ¬ 99999 < I 21 8 + x → ∀ P' J, PF P P' → FZ k I J → J 21 8 = I 21 8 + x → J 21 9 = gus (δ 0) k M n 6 → RD J 21 k (gus (δ 0) k M n) → Φ (some (.int (gus (δ 0) k M n 14))) g P' J) (h2 : ¬ okTk x → Φ (some (.int (er 1))) g P (fl I 1)) (h3 : okTk x → 99999 < I 21 8 + x → Φ (some (.int (er 3))) g P (fl I 3)) : MM Γ mX11_gusts d 0 0 [.ref 16, .int x] g P I Φ := by
  refine MM_entry [some _, some _, none] (by decide) (Nat.le_of_ble_eq_true rfl) rfl ?_
  have l0 := hL.gw
  have l1 := hL.live
  have l2 := hL.s21.c
  obtain ⟨-, -, -, hT, hδ, hk, hV, hD, hR⟩ := hA
  have hk8 := hV.2.1
  by_cases hc : okTk x
  · obtain ⟨n, hn, hn1, hn2⟩ := okTk_n hc
    by_cases hl : 99999 < I 21 8 + x
    · have hΦ := h3 hc hl
      refine E_iload_n (i := 1) dX11_gusts_0 rfl rfl ?_
      refine E_iconst (v := 1) dX11_gusts_1 (by decide) ?_
      refine E_sipush (v := 200) dX11_gusts_2 (by decide) ?_
      refine k_X11_gusts_5 (mc' := 0) (ms' := 0) (rc := 0) (rs := 0) (by omega) (Nat.le_of_ble_eq_true rfl) (c_X11_within ?_)
      rw [bz_t hc]
      refine E_if_ne (tgt := 17) dX11_gusts_8 (by decide) (fun c_8 => ?_) (fun c_8 => absurd c_8 (by decide))
      refine E_aload_n (i := 0) dX11_gusts_17 rfl rfl ?_
      refine E_gr dX11_gusts_18 gf_X11_21_11 rfl (by assumption) (by assumption) ?_
      refine E_gi dX11_gusts_21 gf_X11_184_8 rfl (by assumption) ?_
      refine E_iload_n (i := 1) dX11_gusts_24 rfl rfl ?_
      refine E_iadd dX11_gusts_25 ?_
      refine E_ldc (v := 99999) dX11_gusts_26 w_803 ?_
      refine E_icmp_le (tgt := 37) dX11_gusts_28 (by decide) (fun c_28 => absurd c_28 (Int32.not_le.mpr hl)) (fun c_28 => ?_)
      refine E_aload_n (i := 0) dX11_gusts_31 rfl rfl ?_
      refine E_iconst (v := 3) dX11_gusts_32 (by decide) ?_
      refine k_X11_gusts_33 (mc' := 0) (ms' := 0) (rc := 0) (rs := 0) (by omega) (Nat.le_of_ble_eq_true rfl) (by assumption) (c_X11_fail (k := 3) hL rfl (by decide) (by decide) ?_)
      refine E_iret dX11_gusts_36 rfl ?_
      exact hΦ
    · have hh1 := h1 n hn hn1 hn2 hl
      clear h1 h2 h3
      have loop : ∀ (N j : Nat) (y : Int32) (P1 : HP) (K : HI), n - j ≤ N → j ≤ n → y = nI j → PF P P1 → FZ k I K → K 21 8 = I 21 8 + nI j → K 21 9 = gus (δ 0) k M j 6 → RD K 21 k (gus (δ 0) k M j) → E Γ mX11_gusts d 0 0 (QM Γ 0 0 Φ) 0 0 39 [some (.ref 16), some (.int x), some (.int y)] [] g P1 K := by
        have fin : ∀ (y : Int32) (P1 : HP) (K : HI), y = nI n → PF P P1 → FZ k I K → K 21 8 = I 21 8 + nI n → K 21 9 = gus (δ 0) k M n 6 → RD K 21 k (gus (δ 0) k M n) → E Γ mX11_gusts d 0 0 (QM Γ 0 0 Φ) 0 0 39 [some (.ref 16), some (.int x), some (.int y)] [] g P1 K := by
          intro y P1 K hy q1 q2 q3 q4 q5
          have hL' := hL.pf q1
          have m0 := hL'.gw
          have m1 := hL'.live
          have m2 := hL'.s21.c
          have m3 : P1 21 1 = some 22 := hL'.s21.wp
          have m4 : Wi g P1 22 23 := hL'.s21.wi
          have m5 := m4.1
          have hΦ := hh1 P1 K q1 q2 (by rw [hn]; exact q3) q4 q5
          refine E_iload_n (i := 2) dX11_gusts_39 rfl rfl ?_
          refine E_iload_n (i := 1) dX11_gusts_40 rfl rfl ?_
          refine E_icmp_ge (tgt := 83) dX11_gusts_41 (by decide) (fun c_41 => ?_) (fun c_41 => absurd (by rw [hn, hy]; exact Int32.le_refl _) c_41)
          refine E_aload_n (i := 0) dX11_gusts_83 rfl rfl ?_
          refine E_gr dX11_gusts_84 gf_X11_21_11 rfl (by assumption) (by assumption) ?_
          refine E_gr dX11_gusts_87 gf_X11_77_8 rfl (by assumption) (by assumption) ?_
          refine E_bipush (v := 7) dX11_gusts_90 (by decide) ?_
          refine k_X11_gusts_92 (mc' := 0) (ms' := 0) (rc := 0) (rs := 0) (by omega) (Nat.le_of_ble_eq_true rfl) (by assumption) (c_X10_ofk (k := 7) rfl (by decide) m4 ?_)
          refine E_iret dX11_gusts_95 rfl ?_
          rw [show K 23 7 = gus (δ 0) k M n 14 from q5.1 7 (by decide)]
          exact hΦ
        intro N
        induction N with
        | zero =>
          intro j y P1 K hN hj hy q1 q2 q3 q4 q5
          have hjn : j = n := by omega
          subst hjn
          exact fin y P1 K hy q1 q2 q3 q4 q5
        | succ N ih =>
          intro j y P1 K hN hj hy q1 q2 q3 q4 q5
          by_cases hjn : j = n
          · subst hjn
            exact fin y P1 K hy q1 q2 q3 q4 q5
          · have hL' := hL.pf q1
            have m0 := hL'.gw
            have m1 := hL'.live
            have m2 := hL'.s21.c
            have m3 : P1 21 1 = some 22 := hL'.s21.wp
            have m4 : Wi g P1 22 23 := hL'.s21.wi
            have m5 := m4.1
            obtain ⟨Mj, hMj⟩ := hid (gus (δ 0) k M j)
            rw [hMj ()] at q4 q5
            have hVj : VM Mj k := by rw [← hMj ()]; exact VM_gus hV j
            have kj : ∀ i, i < k → ∀ f, f < 3 → gu1 Mj (16 + 7 * i + f) = M (16 + 7 * i + f) := fun i _ f hf => by rw [gu1_o (by omega) (by omega), ← hMj ()]; exact gus_k hf j
            have nx : Unit → gus (δ 0) k M (j + 1) = tks (δ 0) k (gu1 Mj) 1 := fun _ => by rw [← hMj ()]; rfl
            have hb := wnd_b (dz (K 21 9))
            have ha : Unit → alw 7 (wnd (dz (K 21 9))) := fun _ => ⟨by decide, i32_le.mpr hb.1, i32_le.mpr hb.2⟩
            clear hb
            obtain ⟨K2, hK2⟩ := hid (u2 (u2 K 21 9 (dz (K 21 9))) 23 7 (wnd (dz (K 21 9))))
            have k2 : ∀ a, a ≠ 21 → a ≠ 23 → K2 a = K a := fun a b1 b2 => by rw [← hK2 (), u2_oth _ b2, u2_oth _ b1]
            have k21 : ∀ s, s ≠ 9 → K2 21 s = K 21 s := fun s hs => by rw [← hK2 (), u2_oth _ (by decide), u2_o (fun q => hs q.2)]
            have k29 : K2 21 9 = dz (K 21 9) := by rw [← hK2 (), u2_oth _ (by decide), u2_s]
            have k23 : ∀ s, s ≠ 7 → K2 23 s = K 23 s := fun s hs => by rw [← hK2 (), u2_o (fun q => hs q.2), u2_oth _ (by decide)]
            have k237 : K2 23 7 = wnd (dz (K 21 9)) := by rw [← hK2 (), u2_s]
            have g6 : gu1 Mj 6 = dz (Mj 6) := by unfold gu1; rw [ur_n _ _ (by decide), ur_s]
            have g14 : gu1 Mj 14 = wnd (dz (Mj 6)) := by unfold gu1; rw [ur_s]
            have hD2 : RD K2 21 k (gu1 Mj) := by
              refine ⟨fun e he => ?_, fun i hi => ?_⟩
              · by_cases ee : e = 7
                · subst ee
                  show K2 23 7 = gu1 Mj 14
                  rw [k237, g14, q4]
                · rw [show K2 (21 + 2) e = K 23 e from k23 e ee, gu1_o (by omega) (by omega)]
                  exact q5.1 e he
              · rw [k2 _ (by omega) (by omega), k2 _ (by omega) (by omega), k2 _ (by omega) (by omega), k2 _ (by omega) (by omega), gu1_o (by omega) (by omega), gu1_o (by omega) (by omega), gu1_o (by omega) (by omega), gu1_o (by omega) (by omega)]
                exact q5.2 i hi
            have hR2 : RR g P1 K2 21 k rd (gu1 Mj) := (RR.pf q1 (by decide) hR).mv (fun a ha => by rw [k2 a (by omega) (by omega)]; exact q2.1 a (by omega) (by omega) (by omega) (by omega) (by omega)) kj
            have hT2 : TG K2 21 nt := hT.mv (fun a b1 b2 => by rw [k2 a (by omega) (by omega)]; exact q2.1 a (by omega) (by omega) (by omega) (by omega) (by omega))
            have hδ2 : TD K2 21 nt δ := hδ.mv (fun a b1 b2 => by rw [k2 a (by omega) (by omega)]; exact q2.1 a (by omega) (by omega) (by omega) (by omega) (by omega))
            have k27 : K2 21 7 = nI k := by rw [k21 7 (by decide), q2.2.1 7 (by decide) (by decide)]; exact hk
            have k28 : K2 21 8 = I 21 8 + nI j := by rw [k21 8 (by decide)]; exact q3
            have k9 : K2 21 9 = gu1 Mj 6 := by rw [k29, g6, q4]
            clear k237 k29 g14
            refine E_iload_n (i := 2) dX11_gusts_39 rfl rfl ?_
            refine E_iload_n (i := 1) dX11_gusts_40 rfl rfl ?_
            refine E_icmp_ge (tgt := 83) dX11_gusts_41 (by decide) (fun c_41 => absurd c_41 (by rw [hn, hy]; exact nI_ge (by omega) (by omega))) (fun c_41 => ?_)
            refine E_aload_n (i := 0) dX11_gusts_44 rfl rfl ?_
            refine E_gr dX11_gusts_45 gf_X11_21_11 rfl (by assumption) (by assumption) ?_
            refine E_gr dX11_gusts_48 gf_X11_77_8 rfl (by assumption) (by assumption) ?_
            refine E_bipush (v := 7) dX11_gusts_51 (by decide) ?_
            refine E_aload_n (i := 0) dX11_gusts_53 rfl rfl ?_
            refine E_gr dX11_gusts_54 gf_X11_21_11 rfl (by assumption) (by assumption) ?_
            refine k_X11_gusts_57 (mc' := 0) (ms' := 0) (rc := 0) (rs := 0) (by omega) (Nat.le_of_ble_eq_true rfl) (by assumption) (c_X8_draw hL'.s21 ?_)
            refine E_bipush (v := 41) dX11_gusts_60 (by decide) ?_
            refine E_irem dX11_gusts_62 (by decide) ?_
            refine E_bipush (v := 20) dX11_gusts_63 (by decide) ?_
            refine E_isub dX11_gusts_65 ?_
            refine k_X11_gusts_66 (mc' := 0) (ms' := 0) (rc := 0) (rs := 0) (by omega) (Nat.le_of_ble_eq_true rfl) (by assumption) (c_X10_becomes (by omega) m4 ?_)
            have hkk : u2 (u2 K 21 9 (dz (K 21 9))) 23 (7 : Int32).toNatClampNeg (dv (dz (K 21 9)) - dv (dz (K 21 9)) / 41 * 41 - 20) = K2 := hK2 ()
            have haa : alw 7 (dv (dz (K 21 9)) - dv (dz (K 21 9)) / 41 * 41 - 20) := ha ()
            rw [if_pos haa, hkk]
            clear haa hkk
            refine E_aload_n (i := 0) dX11_gusts_69 rfl rfl ?_
            refine E_gr dX11_gusts_70 gf_X11_21_11 rfl (by assumption) (by assumption) ?_
            refine E_iconst (v := 1) dX11_gusts_73 (by decide) ?_
            refine k_X11_gusts_74 (mc' := 0) (ms' := 0) (rc := 0) (rs := 0) (by omega) (Nat.le_of_ble_eq_true rfl) (by assumption) (c_X8_pass (B := 21) (n := 1) (rd := rd) (M := gu1 Mj) (nt := nt) (δ := δ) (by omega) hL' hL'.s21 (by decide) (by decide) hT2 hδ2 k27 (VM_gu hVj) hD2 hR2 rfl (by decide) (fun P2 J f1 f2 f3 f4 => ?_))
            refine E_incC (c := 1) dX11_gusts_77 rfl (by decide) (by decide) rfl ?_
            refine E_lv (lv' := [_, _, _]) rfl ?_
            refine E_goto (tgt := 39) dX11_gusts_80 (by decide) ?_
            refine ih (j + 1) _ _ _ (by omega) (by omega) (by rw [hy, nI_1]) (q1.trans f1) ⟨fun a b1 b2 b3 b4 b5 => ?_, fun s s1 s2 => ?_, fun e he => ?_⟩ ?_ ?_ ?_
            · rw [f2.1 a b1 b2 b3 b4 (by omega), k2 a b3 b4]
              exact q2.1 a b1 b2 b3 b4 b5
            · rw [f2.2.1 s s1, k21 s s2]
              exact q2.2.1 s s1 s2
            · rw [f2.2.2 e he, k2 _ (by decide) (by decide)]
              exact q2.2.2 e he
            · rw [f3, k28, ← nI_1]
              exact Int32.add_assoc _ _ _
            · rw [f2.2.1 9 (by decide), k9, nx ()]
              exact (tks_o (by decide) (by decide) (Or.inl (by decide)) 1).symm
            · rw [nx ()]
              exact f4
      refine E_iload_n (i := 1) dX11_gusts_0 rfl rfl ?_
      refine E_iconst (v := 1) dX11_gusts_1 (by decide) ?_
      refine E_sipush (v := 200) dX11_gusts_2 (by decide) ?_
      refine k_X11_gusts_5 (mc' := 0) (ms' := 0) (rc := 0) (rs := 0) (by omega) (Nat.le_of_ble_eq_true rfl) (c_X11_within ?_)
      rw [bz_t hc]
      refine E_if_ne (tgt := 17) dX11_gusts_8 (by decide) (fun c_8 => ?_) (fun c_8 => absurd c_8 (by decide))
      refine E_aload_n (i := 0) dX11_gusts_17 rfl rfl ?_
      refine E_gr dX11_gusts_18 gf_X11_21_11 rfl (by assumption) (by assumption) ?_
      refine E_gi dX11_gusts_21 gf_X11_184_8 rfl (by assumption) ?_
      refine E_iload_n (i := 1) dX11_gusts_24 rfl rfl ?_
      refine E_iadd dX11_gusts_25 ?_
      refine E_ldc (v := 99999) dX11_gusts_26 w_803 ?_
      refine E_icmp_le (tgt := 37) dX11_gusts_28 (by decide) (fun c_28 => ?_) (fun c_28 => absurd (Int32.not_lt.mp hl) c_28)
      refine E_iconst (v := 0) dX11_gusts_37 (by decide) ?_
      refine E_istore_nC (i := 2) dX11_gusts_38 rfl (by decide) rfl ?_
      refine E_lv (lv' := [_, _, _]) rfl ?_
      exact loop n 0 _ _ _ (by omega) (by omega) rfl (PF.refl P) ⟨fun _ _ _ _ _ _ => rfl, fun _ _ _ => rfl, fun _ _ => rfl⟩ (i_add0 _).symm hz hD
  · have hΦ := h2 hc
    refine E_iload_n (i := 1) dX11_gusts_0 rfl rfl ?_
    refine E_iconst (v := 1) dX11_gusts_1 (by decide) ?_
    refine E_sipush (v := 200) dX11_gusts_2 (by decide) ?_
    refine k_X11_gusts_5 (mc' := 0) (ms' := 0) (rc := 0) (rs := 0) (by omega) (Nat.le_of_ble_eq_true rfl) (c_X11_within ?_)
    rw [bz_f hc]
    refine E_if_ne (tgt := 17) dX11_gusts_8 (by decide) (fun c_8 => absurd (rfl) c_8) (fun c_8 => ?_)
    refine E_aload_n (i := 0) dX11_gusts_11 rfl rfl ?_
    refine E_iconst (v := 1) dX11_gusts_12 (by decide) ?_
    refine k_X11_gusts_13 (mc' := 0) (ms' := 0) (rc := 0) (rs := 0) (by omega) (Nat.le_of_ble_eq_true rfl) (by assumption) (c_X11_fail (k := 1) hL rfl (by decide) (by decide) ?_)
    refine E_iret dX11_gusts_16 rfl ?_
    exact hΦ
theorem chK_cg {a k : Nat} {f f' h h' : Nat → Int32} (e1 : ∀ j, j < a → f j = f' j) (e2 : ∀ j, j < k → h j = h' j) : chK a k f h = chK a k f' h' := by
  have key : ∀ u i, chn (fun j => j < a ∧ j < k ∧ f j = h j) u i = chn (fun j => j < a ∧ j < k ∧ f' j = h' j) u i := by
    intro u
    induction u with
    | zero => intro i; rfl
    | succ u ih =>
      intro i
      have hi : (i < a ∧ i < k ∧ f i = h i) ↔ (i < a ∧ i < k ∧ f' i = h' i) := by
        constructor
        · rintro ⟨a1, a2, a3⟩
          exact ⟨a1, a2, by rw [← e1 i a1, ← e2 i a2]; exact a3⟩
        · rintro ⟨a1, a2, a3⟩
          exact ⟨a1, a2, by rw [e1 i a1, e2 i a2]; exact a3⟩
      unfold chn
      by_cases hc : i < a ∧ i < k ∧ f i = h i
      · rw [if_pos hc, if_pos (hi.mp hc)]
        exact ih (i + 1)
      · rw [if_neg hc, if_neg (fun q => hc (hi.mpr q))]
  exact key 9 0
theorem chV_cg {a k : Nat} {f f' h h' : Nat → Int32} (e1 : ∀ j, j < a → f j = f' j) (e2 : ∀ j, j < k → h j = h' j) : chV a k f h = chV a k f' h' := by
  unfold chV
  rw [chK_cg e1 e2]
theorem c_X11_check {x : Int32} {a : Nat} (hd : 59 ≤ d) (hL : Ly g P) (hA : LA g P I k rd M nt δ) (ha : I 43 1 = nI a) (ha20 : a ≤ 20) (h1 : ∀ n, x = nI n → n ≤ 200 → ∀ P' J, AH P I P' J → Φ (some (.int (chV a k (I 44) (fun j => tks (δ 0) k M n (16 + 7 * j + 3))))) g P' (u2 J 43 1 0)) (h2 : ¬ okA x → Φ (some (.int (er 1))) g P (fl (u2 I 43 1 0) 1)) : MM Γ mX11_check d 0 0 [.ref 16, .int x] g P I Φ := by
  refine MM_entry [some _, some _, none] (by decide) (Nat.le_of_ble_eq_true rfl) rfl ?_
  have l0 := hL.gw
  have l1 := hL.live
  have l2 := hL.s21.c
  obtain ⟨w1, w2⟩ : P 21 17 = some 43 ∧ RS g P 43 44 20 := hL.s21.wai
  have w3 := w2.1
  have hA0 := hA
  obtain ⟨-, -, -, -, -, hk, hV, -, hR⟩ := hA
  have hk8 := hV.2.1
  by_cases hc : okA x
  · obtain ⟨n, hn, hn2⟩ := okA_n hc
    have hh1 := h1 n hn hn2
    clear h1 h2
    obtain ⟨T, hT⟩ := hid (tks (δ 0) k M n)
    rw [hT ()] at hh1
    have rest : ∀ (P' : HP) (L : HI), AH P I P' L → Ly g P' → L 45 7 = nI k → RD L 45 k T → (L 67 1 = I 43 1 ∧ ∀ i, i < (I 43 1).toNatClampNeg → L 68 i = I 44 i) → E Γ mX11_check d 0 0 (QM Γ 0 0 Φ) 0 0 32 [some (.ref 16), some (.int x), none] [] g P' L := by
      intro P' L a1 hL' a3 a4 a6
      have m0 := hL'.gw
      have m1 := hL'.ahead
      have m2 := hL'.s45.c
      have m3 := hL'.live
      have m4 := hL'.s21.c
      obtain ⟨v1, v2⟩ : P' 21 17 = some 43 ∧ RS g P' 43 44 20 := hL'.s21.wai
      have v3 := v2.1
      obtain ⟨t1, t2⟩ : P' 45 17 = some 67 ∧ RS g P' 67 68 20 := hL'.s45.wai
      have t3 := t2.1
      obtain ⟨p1, p2, p3⟩ : P' 45 3 = some 49 ∧ AS g 49 13 8 := hL'.s45.pl
      have hcl : (I 43 1).toNatClampNeg = a := by rw [ha, nI_clamp (by omega)]
      rw [hcl, ha] at a6
      have hv := hh1 P' L a1
      have e : chV a k (I 44) (fun j => T (16 + 7 * j + 3)) = chV a k (L 68) (fun j => L 49 j) := chV_cg (fun j hj => (a6.2 j hj).symm) (fun j hj => ((a4.2 j hj).1).symm)
      rw [e] at hv
      clear e hh1
      unfold chV at hv
      obtain ⟨kk, hkk⟩ := hid (chK a k (L 68) (fun j => L 49 j))
      have hkl : kk ≤ 9 := by rw [← hkk ()]; exact chn_le
      rw [hkk ()] at hv
      have l43 : L 43 1 = nI a := by rw [a1.2.2.2.1 43 (by decide) (by decide) (by decide)]; exact ha
      obtain ⟨K, hK⟩ := hid (u2 L 43 1 0)
      have k1 : ∀ e, e ≠ 43 → K e = L e := fun e he => by rw [← hK (), u2_oth _ he]
      rw [hK ()] at hv
      have k45 : K 45 7 = nI k := by rw [k1 45 (by decide)]; exact a3
      have k67 : K 67 1 = nI a := by rw [k1 67 (by decide)]; exact a6.1
      have k68 : K 68 = L 68 := k1 68 (by decide)
      have k49 : K 49 = L 49 := k1 49 (by decide)
      have hRw : Rw g P' K 67 68 20 a := t2.w k67 ha20 (by omega)
      have tail : E Γ mX11_check d 0 0 (QM Γ 0 0 Φ) 0 0 98 [some (.ref 16), some (.int x), some (.int (nI kk))] [] g P' K := by
        by_cases q1 : kk = k
        · by_cases q2 : kk = a
          · rw [if_pos ⟨q2, q1⟩] at hv
            refine E_iload_n (i := 2) dX11_check_98 rfl rfl ?_
            refine E_aload_n (i := 0) dX11_check_99 rfl rfl ?_
            refine E_gr dX11_check_100 gf_X11_25_11 rfl (by assumption) (by assumption) ?_
            refine E_gi dX11_check_103 gf_X11_116_8 rfl (by assumption) ?_
            refine E_icmp_ne (tgt := 127) dX11_check_106 (by decide) (fun c_106 => absurd (by rw [k45, q1]) c_106) (fun c_106 => ?_)
            refine E_iload_n (i := 2) dX11_check_109 rfl rfl ?_
            refine E_aload_n (i := 0) dX11_check_110 rfl rfl ?_
            refine E_gr dX11_check_111 gf_X11_25_11 rfl (by assumption) (by assumption) ?_
            refine E_gr dX11_check_114 gf_X11_277_8 rfl (by assumption) (by assumption) ?_
            refine E_gi dX11_check_117 gf_X11_159_7 rfl (by assumption) ?_
            refine E_icmp_ne (tgt := 127) dX11_check_120 (by decide) (fun c_120 => absurd (by rw [k67, q2]) c_120) (fun c_120 => ?_)
            refine E_iconst (v := 0) dX11_check_123 (by decide) ?_
            refine E_goto (tgt := 130) dX11_check_124 (by decide) ?_
            refine E_iret dX11_check_130 rfl ?_
            exact hv
          · rw [if_neg (fun h => q2 h.1), Nat.add_comm, ← nI_1] at hv
            refine E_iload_n (i := 2) dX11_check_98 rfl rfl ?_
            refine E_aload_n (i := 0) dX11_check_99 rfl rfl ?_
            refine E_gr dX11_check_100 gf_X11_25_11 rfl (by assumption) (by assumption) ?_
            refine E_gi dX11_check_103 gf_X11_116_8 rfl (by assumption) ?_
            refine E_icmp_ne (tgt := 127) dX11_check_106 (by decide) (fun c_106 => absurd (by rw [k45, q1]) c_106) (fun c_106 => ?_)
            refine E_iload_n (i := 2) dX11_check_109 rfl rfl ?_
            refine E_aload_n (i := 0) dX11_check_110 rfl rfl ?_
            refine E_gr dX11_check_111 gf_X11_25_11 rfl (by assumption) (by assumption) ?_
            refine E_gr dX11_check_114 gf_X11_277_8 rfl (by assumption) (by assumption) ?_
            refine E_gi dX11_check_117 gf_X11_159_7 rfl (by assumption) ?_
            refine E_icmp_ne (tgt := 127) dX11_check_120 (by decide) (fun c_120 => ?_) (fun c_120 => absurd c_120 (by rw [k67]; exact nI_ne (by omega) (by omega) q2))
            refine E_iload_n (i := 2) dX11_check_127 rfl rfl ?_
            refine E_iconst (v := 1) dX11_check_128 (by decide) ?_
            refine E_iadd dX11_check_129 ?_
            refine E_iret dX11_check_130 rfl ?_
            exact hv
        · rw [if_neg (fun h => q1 h.2), Nat.add_comm, ← nI_1] at hv
          refine E_iload_n (i := 2) dX11_check_98 rfl rfl ?_
          refine E_aload_n (i := 0) dX11_check_99 rfl rfl ?_
          refine E_gr dX11_check_100 gf_X11_25_11 rfl (by assumption) (by assumption) ?_
          refine E_gi dX11_check_103 gf_X11_116_8 rfl (by assumption) ?_
          refine E_icmp_ne (tgt := 127) dX11_check_106 (by decide) (fun c_106 => ?_) (fun c_106 => absurd c_106 (by rw [k45]; exact nI_ne (by omega) (by omega) q1))
          refine E_iload_n (i := 2) dX11_check_127 rfl rfl ?_
          refine E_iconst (v := 1) dX11_check_128 (by decide) ?_
          refine E_iadd dX11_check_129 ?_
          refine E_iret dX11_check_130 rfl ?_
          exact hv
      have loop : ∀ (u i : Nat) (z : Int32), 9 ≤ u + i → i ≤ 9 → z = nI i → (Unit → kk = chn (fun j => j < a ∧ j < k ∧ L 68 j = L 49 j) u i) → E Γ mX11_check d 0 0 (QM Γ 0 0 Φ) 0 0 44 [some (.ref 16), some (.int x), some (.int z)] [] g P' K := by
        intro u
        induction u with
        | zero =>
          intro i z hu hi hz hf
          have e : kk = i := hf ()
          have ht := tail
          rw [e, ← hz] at ht
          refine E_iload_n (i := 2) dX11_check_44 rfl rfl ?_
          refine E_aload_n (i := 0) dX11_check_45 rfl rfl ?_
          refine E_gr dX11_check_46 gf_X11_25_11 rfl (by assumption) (by assumption) ?_
          refine E_gi dX11_check_49 gf_X11_116_8 rfl (by assumption) ?_
          refine E_icmp_ge (tgt := 98) dX11_check_52 (by decide) (fun c_52 => ?_) (fun c_52 => absurd (by rw [hz, k45]; exact nI_le (by omega) (by omega)) c_52)
          exact ht
        | succ u ih =>
          intro i z hu hi hz hf
          by_cases q2 : i < k
          · by_cases q1 : i < a
            · have hrat : Unit → rat K 68 a z = K 68 i := fun _ => by rw [hz]; exact rat_in q1 (by omega)
              by_cases q3 : K 68 i = K 49 i
              · have hf2 : Unit → kk = chn (fun j => j < a ∧ j < k ∧ L 68 j = L 49 j) u (i + 1) := fun _ => by rw [hf (), chn, if_pos ⟨q1, q2, by rw [← k68, ← k49]; exact q3⟩]
                refine E_iload_n (i := 2) dX11_check_44 rfl rfl ?_
                refine E_aload_n (i := 0) dX11_check_45 rfl rfl ?_
                refine E_gr dX11_check_46 gf_X11_25_11 rfl (by assumption) (by assumption) ?_
                refine E_gi dX11_check_49 gf_X11_116_8 rfl (by assumption) ?_
                refine E_icmp_ge (tgt := 98) dX11_check_52 (by decide) (fun c_52 => absurd c_52 (by rw [hz, k45]; exact nI_ge q2 (by omega))) (fun c_52 => ?_)
                refine E_iload_n (i := 2) dX11_check_55 rfl rfl ?_
                refine E_aload_n (i := 0) dX11_check_56 rfl rfl ?_
                refine E_gr dX11_check_57 gf_X11_25_11 rfl (by assumption) (by assumption) ?_
                refine E_gr dX11_check_60 gf_X11_277_8 rfl (by assumption) (by assumption) ?_
                refine E_gi dX11_check_63 gf_X11_159_7 rfl (by assumption) ?_
                refine E_icmp_ge (tgt := 98) dX11_check_66 (by decide) (fun c_66 => absurd c_66 (by rw [hz, k67]; exact nI_ge q1 (by omega))) (fun c_66 => ?_)
                refine E_aload_n (i := 0) dX11_check_69 rfl rfl ?_
                refine E_gr dX11_check_70 gf_X11_25_11 rfl (by assumption) (by assumption) ?_
                refine E_gr dX11_check_73 gf_X11_277_8 rfl (by assumption) (by assumption) ?_
                refine E_iload_n (i := 2) dX11_check_76 rfl rfl ?_
                refine k_X11_check_77 (mc' := 0) (ms' := 0) (rc := 0) (rs := 0) (by omega) (Nat.le_of_ble_eq_true rfl) (by assumption) (c_X7_at (by omega) hRw ?_)
                rw [hrat ()]
                refine E_aload_n (i := 0) dX11_check_80 rfl rfl ?_
                refine E_gr dX11_check_81 gf_X11_25_11 rfl (by assumption) (by assumption) ?_
                refine E_gr dX11_check_84 gf_X11_146_8 rfl (by assumption) (by assumption) ?_
                refine E_iload_n (i := 2) dX11_check_87 rfl rfl ?_
                refine E_iaj i dX11_check_88 (by assumption) hz (by omega) (by rw [p3]; omega) ?_
                refine E_icmp_ne (tgt := 98) dX11_check_89 (by decide) (fun c_89 => absurd (q3) c_89) (fun c_89 => ?_)
                refine E_incC (c := 1) dX11_check_92 rfl (by decide) (by decide) rfl ?_
                refine E_lv (lv' := [_, _, _]) rfl ?_
                refine E_goto (tgt := 44) dX11_check_95 (by decide) ?_
                exact ih (i + 1) _ (by omega) (by omega) (by rw [hz, nI_1]) hf2
              · have e : kk = i := by rw [hf (), chn, if_neg (fun h => q3 (by rw [k68, k49]; exact h.2.2))]
                have ht := tail
                rw [e, ← hz] at ht
                refine E_iload_n (i := 2) dX11_check_44 rfl rfl ?_
                refine E_aload_n (i := 0) dX11_check_45 rfl rfl ?_
                refine E_gr dX11_check_46 gf_X11_25_11 rfl (by assumption) (by assumption) ?_
                refine E_gi dX11_check_49 gf_X11_116_8 rfl (by assumption) ?_
                refine E_icmp_ge (tgt := 98) dX11_check_52 (by decide) (fun c_52 => absurd c_52 (by rw [hz, k45]; exact nI_ge q2 (by omega))) (fun c_52 => ?_)
                refine E_iload_n (i := 2) dX11_check_55 rfl rfl ?_
                refine E_aload_n (i := 0) dX11_check_56 rfl rfl ?_
                refine E_gr dX11_check_57 gf_X11_25_11 rfl (by assumption) (by assumption) ?_
                refine E_gr dX11_check_60 gf_X11_277_8 rfl (by assumption) (by assumption) ?_
                refine E_gi dX11_check_63 gf_X11_159_7 rfl (by assumption) ?_
                refine E_icmp_ge (tgt := 98) dX11_check_66 (by decide) (fun c_66 => absurd c_66 (by rw [hz, k67]; exact nI_ge q1 (by omega))) (fun c_66 => ?_)
                refine E_aload_n (i := 0) dX11_check_69 rfl rfl ?_
                refine E_gr dX11_check_70 gf_X11_25_11 rfl (by assumption) (by assumption) ?_
                refine E_gr dX11_check_73 gf_X11_277_8 rfl (by assumption) (by assumption) ?_
                refine E_iload_n (i := 2) dX11_check_76 rfl rfl ?_
                refine k_X11_check_77 (mc' := 0) (ms' := 0) (rc := 0) (rs := 0) (by omega) (Nat.le_of_ble_eq_true rfl) (by assumption) (c_X7_at (by omega) hRw ?_)
                rw [hrat ()]
                refine E_aload_n (i := 0) dX11_check_80 rfl rfl ?_
                refine E_gr dX11_check_81 gf_X11_25_11 rfl (by assumption) (by assumption) ?_
                refine E_gr dX11_check_84 gf_X11_146_8 rfl (by assumption) (by assumption) ?_
                refine E_iload_n (i := 2) dX11_check_87 rfl rfl ?_
                refine E_iaj i dX11_check_88 (by assumption) hz (by omega) (by rw [p3]; omega) ?_
                refine E_icmp_ne (tgt := 98) dX11_check_89 (by decide) (fun c_89 => ?_) (fun c_89 => absurd c_89 (q3))
                exact ht
            · have e : kk = i := by rw [hf (), chn, if_neg (fun h => q1 h.1)]
              have ht := tail
              rw [e, ← hz] at ht
              refine E_iload_n (i := 2) dX11_check_44 rfl rfl ?_
              refine E_aload_n (i := 0) dX11_check_45 rfl rfl ?_
              refine E_gr dX11_check_46 gf_X11_25_11 rfl (by assumption) (by assumption) ?_
              refine E_gi dX11_check_49 gf_X11_116_8 rfl (by assumption) ?_
              refine E_icmp_ge (tgt := 98) dX11_check_52 (by decide) (fun c_52 => absurd c_52 (by rw [hz, k45]; exact nI_ge q2 (by omega))) (fun c_52 => ?_)
              refine E_iload_n (i := 2) dX11_check_55 rfl rfl ?_
              refine E_aload_n (i := 0) dX11_check_56 rfl rfl ?_
              refine E_gr dX11_check_57 gf_X11_25_11 rfl (by assumption) (by assumption) ?_
              refine E_gr dX11_check_60 gf_X11_277_8 rfl (by assumption) (by assumption) ?_
              refine E_gi dX11_check_63 gf_X11_159_7 rfl (by assumption) ?_
              refine E_icmp_ge (tgt := 98) dX11_check_66 (by decide) (fun c_66 => ?_) (fun c_66 => absurd (by rw [hz, k67]; exact nI_le (by omega) (by omega)) c_66)
              exact ht
          · have e : kk = i := by rw [hf (), chn, if_neg (fun h => q2 h.2.1)]
            have ht := tail
            rw [e, ← hz] at ht
            refine E_iload_n (i := 2) dX11_check_44 rfl rfl ?_
            refine E_aload_n (i := 0) dX11_check_45 rfl rfl ?_
            refine E_gr dX11_check_46 gf_X11_25_11 rfl (by assumption) (by assumption) ?_
            refine E_gi dX11_check_49 gf_X11_116_8 rfl (by assumption) ?_
            refine E_icmp_ge (tgt := 98) dX11_check_52 (by decide) (fun c_52 => ?_) (fun c_52 => absurd (by rw [hz, k45]; exact nI_le (by omega) (by omega)) c_52)
            exact ht
      refine E_aload_n (i := 0) dX11_check_32 rfl rfl ?_
      refine E_gr dX11_check_33 gf_X11_21_11 rfl (by assumption) (by assumption) ?_
      refine E_gr dX11_check_36 gf_X11_277_8 rfl (by assumption) (by assumption) ?_
      refine k_X11_check_39 (mc' := 0) (ms' := 0) (rc := 0) (rs := 0) (by omega) (Nat.le_of_ble_eq_true rfl) (by assumption) (c_X7_clear (v2.w l43 ha20 (by omega)) ?_)
      rw [hK ()]
      refine E_iconst (v := 0) dX11_check_42 (by decide) ?_
      refine E_istore_nC (i := 2) dX11_check_43 rfl (by decide) rfl ?_
      refine E_lv (lv' := [_, _, _]) rfl ?_
      exact loop 9 0 _ (by omega) (by omega) rfl (fun _ => (hkk ()).symm)
    refine E_iload_n (i := 1) dX11_check_0 rfl rfl ?_
    refine E_iconst (v := 0) dX11_check_1 (by decide) ?_
    refine E_sipush (v := 200) dX11_check_2 (by decide) ?_
    refine k_X11_check_5 (mc' := 0) (ms' := 0) (rc := 0) (rs := 0) (by omega) (Nat.le_of_ble_eq_true rfl) (c_X11_within ?_)
    rw [bz_t hc]
    refine E_if_ne (tgt := 27) dX11_check_8 (by decide) (fun c_8 => ?_) (fun c_8 => absurd c_8 (by decide))
    refine E_aload_n (i := 0) dX11_check_27 rfl rfl ?_
    refine E_iload_n (i := 1) dX11_check_28 rfl rfl ?_
    refine k_X11_check_29 (mc' := 0) (ms' := 0) (rc := 0) (rs := 0) (by omega) (Nat.le_of_ble_eq_true rfl) (by assumption) (c_X11_lookAhead (by omega) hL hA0 hn hn2 (fun P' L f1 f2 f3 f4 f5 f6 => ?_))
    exact rest P' L f1 f2 f3 (by rw [← hT ()]; exact f4) f6
  · have hΦ := h2 hc
    refine E_iload_n (i := 1) dX11_check_0 rfl rfl ?_
    refine E_iconst (v := 0) dX11_check_1 (by decide) ?_
    refine E_sipush (v := 200) dX11_check_2 (by decide) ?_
    refine k_X11_check_5 (mc' := 0) (ms' := 0) (rc := 0) (rs := 0) (by omega) (Nat.le_of_ble_eq_true rfl) (c_X11_within ?_)
    rw [bz_f hc]
    refine E_if_ne (tgt := 27) dX11_check_8 (by decide) (fun c_8 => absurd (rfl) c_8) (fun c_8 => ?_)
    refine E_aload_n (i := 0) dX11_check_11 rfl rfl ?_
    refine E_gr dX11_check_12 gf_X11_21_11 rfl (by assumption) (by assumption) ?_
    refine E_gr dX11_check_15 gf_X11_277_8 rfl (by assumption) (by assumption) ?_
    refine k_X11_check_18 (mc' := 0) (ms' := 0) (rc := 0) (rs := 0) (by omega) (Nat.le_of_ble_eq_true rfl) (by assumption) (c_X7_clear (w2.w ha ha20 (by omega)) ?_)
    refine E_aload_n (i := 0) dX11_check_21 rfl rfl ?_
    refine E_iconst (v := 1) dX11_check_22 (by decide) ?_
    refine k_X11_check_23 (mc' := 0) (ms' := 0) (rc := 0) (rs := 0) (by omega) (Nat.le_of_ble_eq_true rfl) (by assumption) (c_X11_fail (k := 1) hL rfl (by decide) (by decide) ?_)
    refine E_iret dX11_check_26 rfl ?_
    exact hΦ
theorem c_X11_feed {w : Int64} {y : Int32} {t : Nat} (hd : 1 ≤ d) (hL : Ly g P) (ht : I 29 1 = nI t) (t50 : t ≤ 50) (h1 : ∀ n, y = nI n → 1 ≤ n → n ≤ 8 → t + n ≤ 50 → ∀ J, (∀ a, a ≠ 29 → a ≠ 30 → J a = I a) → J 29 1 = nI (t + n) → (∀ j, j < n → J 30 (t + j) = bt w j) → (∀ z, z < t → J 30 z = I 30 z) → Φ (some (.int (nI (t + n)))) g P J) (h2 : ¬ (1 ≤ y ∧ y ≤ 8) → Φ (some (.int (er 1))) g P (fl I 1)) (h3 : ∀ n, y = nI n → 1 ≤ n → n ≤ 8 → 50 < t + n → Φ (some (.int (er 4))) g P (fl I 4)) : MM Γ mX11_feed d 0 0 [.ref 16, .long w, .int y] g P I Φ := by
  refine MM_entry [some _, some _, none, some _, none] (by decide) (Nat.le_of_ble_eq_true rfl) rfl ?_
  have l0 := hL.gw
  have l1 := hL.live
  have l2 := hL.s21.c
  obtain ⟨t1, t2⟩ : P 21 10 = some 29 ∧ RS g P 29 30 50 := hL.s21.tape
  have t3 := t2.1
  by_cases hc : 1 ≤ y ∧ y ≤ 8
  · obtain ⟨n, hn, hn8⟩ := in_04 (n := 8) (by omega) ⟨Int32.le_trans (by decide) hc.1, hc.2⟩
    have hn1 : 1 ≤ n := by
      have := i32_le.mp hc.1
      rw [hn, nI_toInt (by omega)] at this
      have e : (1 : Int32).toInt = 1 := rfl
      omega
    have hsum : I 29 1 + y = nI (t + n) := by rw [ht, hn, nI_add]
    by_cases hl : t + n ≤ 50
    · have hh1 := h1 n hn hn1 hn8 hl
      clear h1 h2 h3
      have loop : ∀ (N i : Nat) (z : Int32) (J : HI), n - i ≤ N → i ≤ n → z = nI i → (∀ a, a ≠ 29 → a ≠ 30 → J a = I a) → J 29 1 = nI (t + i) → (∀ j, j < i → J 30 (t + j) = bt w j) → (∀ z, z < t → J 30 z = I 30 z) → E Γ mX11_feed d 0 0 (QM Γ 0 0 Φ) 0 0 42 [some (.ref 16), some (.long w), none, some (.int y), some (.int z)] [] g P J := by
        intro N
        induction N with
        | zero =>
          intro i z J hN hi hz q1 q2 q3 q4
          have hin : i = n := by omega
          subst hin
          have hΦ := hh1 J q1 q2 q3 q4
          refine E_iload dX11_feed_42 rfl ?_
          refine E_iload_n (i := 3) dX11_feed_44 rfl rfl ?_
          refine E_icmp_ge (tgt := 76) dX11_feed_45 (by decide) (fun c_45 => ?_) (fun c_45 => absurd (by rw [hz, hn]; exact Int32.le_refl _) c_45)
          refine E_aload_n (i := 0) dX11_feed_76 rfl rfl ?_
          refine E_gr dX11_feed_77 gf_X11_21_11 rfl (by assumption) (by assumption) ?_
          refine E_gr dX11_feed_80 gf_X11_156_8 rfl (by assumption) (by assumption) ?_
          refine E_gi dX11_feed_83 gf_X11_159_7 rfl (by assumption) ?_
          rw [q2]
          refine E_iret dX11_feed_86 rfl ?_
          exact hΦ
        | succ N ih =>
          intro i z J hN hi hz q1 q2 q3 q4
          by_cases hin : i = n
          · subst hin
            have hΦ := hh1 J q1 q2 q3 q4
            refine E_iload dX11_feed_42 rfl ?_
            refine E_iload_n (i := 3) dX11_feed_44 rfl rfl ?_
            refine E_icmp_ge (tgt := 76) dX11_feed_45 (by decide) (fun c_45 => ?_) (fun c_45 => absurd (by rw [hz, hn]; exact Int32.le_refl _) c_45)
            refine E_aload_n (i := 0) dX11_feed_76 rfl rfl ?_
            refine E_gr dX11_feed_77 gf_X11_21_11 rfl (by assumption) (by assumption) ?_
            refine E_gr dX11_feed_80 gf_X11_156_8 rfl (by assumption) (by assumption) ?_
            refine E_gi dX11_feed_83 gf_X11_159_7 rfl (by assumption) ?_
            rw [q2]
            refine E_iret dX11_feed_86 rfl ?_
            exact hΦ
          · have hb : Unit → (w.toUInt64 >>> ((8 * z : Int32).toInt64.toUInt64 &&& Int64.toUInt64 63)).toInt64.toInt32 &&& 255 = bt w i := fun _ => by rw [hz]; exact byC w (by omega)
            refine E_iload dX11_feed_42 rfl ?_
            refine E_iload_n (i := 3) dX11_feed_44 rfl rfl ?_
            refine E_icmp_ge (tgt := 76) dX11_feed_45 (by decide) (fun c_45 => absurd c_45 (by rw [hz, hn]; exact nI_ge (by omega) (by omega))) (fun c_45 => ?_)
            refine E_aload_n (i := 0) dX11_feed_48 rfl rfl ?_
            refine E_gr dX11_feed_49 gf_X11_21_11 rfl (by assumption) (by assumption) ?_
            refine E_gr dX11_feed_52 gf_X11_156_8 rfl (by assumption) (by assumption) ?_
            refine E_lload_n (i := 1) dX11_feed_55 rfl rfl ?_
            refine E_bipush (v := 8) dX11_feed_56 (by decide) ?_
            refine E_iload dX11_feed_58 rfl ?_
            refine E_imul dX11_feed_60 ?_
            refine E_lushr dX11_feed_61 ?_
            refine E_l2i dX11_feed_62 ?_
            refine E_sipush (v := 255) dX11_feed_63 (by decide) ?_
            refine E_iand dX11_feed_66 ?_
            rw [hb ()]
            refine k_X11_feed_67 (mc' := 0) (ms' := 0) (rc := 0) (rs := 0) (by omega) (Nat.le_of_ble_eq_true rfl) (by assumption) (c_X7_add (t2.w q2 (by omega) (by omega)) ?_)
            rw [if_pos (show t + i < 50 by omega)]
            refine E_incC (c := 1) dX11_feed_70 rfl (by decide) (by decide) rfl ?_
            refine E_lv (lv' := [_, _, _, _, _]) rfl ?_
            refine E_goto (tgt := 42) dX11_feed_73 (by decide) ?_
            refine ih (i + 1) _ _ (by omega) (by omega) (by rw [hz, nI_1]) (fun a a1 a2 => by rw [u2_oth _ a1, u2_oth _ a2]; exact q1 a a1 a2) (u2_s _ _ _ _) (fun j hj => ?_) (fun z hz => ?_)
            · rw [u2_oth _ (by decide)]
              by_cases e : j = i
              · rw [e, u2_s]
              · rw [u2_o (fun q => by omega)]
                exact q3 j (by omega)
            · rw [u2_oth _ (by decide), u2_o (fun q => by omega)]
              exact q4 z hz
      refine E_iload_n (i := 3) dX11_feed_0 rfl rfl ?_
      refine E_iconst (v := 1) dX11_feed_1 (by decide) ?_
      refine E_bipush (v := 8) dX11_feed_2 (by decide) ?_
      refine k_X11_feed_4 (mc' := 0) (ms' := 0) (rc := 0) (rs := 0) (by omega) (Nat.le_of_ble_eq_true rfl) (c_X11_within ?_)
      rw [bz_t hc]
      refine E_if_ne (tgt := 16) dX11_feed_7 (by decide) (fun c_7 => ?_) (fun c_7 => absurd c_7 (by decide))
      refine E_aload_n (i := 0) dX11_feed_16 rfl rfl ?_
      refine E_gr dX11_feed_17 gf_X11_21_11 rfl (by assumption) (by assumption) ?_
      refine E_gr dX11_feed_20 gf_X11_156_8 rfl (by assumption) (by assumption) ?_
      refine E_gi dX11_feed_23 gf_X11_159_7 rfl (by assumption) ?_
      refine E_iload_n (i := 3) dX11_feed_26 rfl rfl ?_
      refine E_iadd dX11_feed_27 ?_
      refine E_bipush (v := 50) dX11_feed_28 (by decide) ?_
      rw [hsum]
      refine E_icmp_le (tgt := 39) dX11_feed_30 (by decide) (fun c_30 => ?_) (fun c_30 => absurd (nI_le (b := 50) hl (by omega)) c_30)
      refine E_iconst (v := 0) dX11_feed_39 (by decide) ?_
      refine E_istoreC dX11_feed_40 (by decide) rfl ?_
      refine E_lv (lv' := [_, _, _, _, _]) rfl ?_
      exact loop n 0 _ _ (by omega) (by omega) rfl (fun _ _ _ => rfl) ht (fun j hj => absurd hj (Nat.not_lt_zero _)) (fun _ _ => rfl)
    · have hΦ := h3 n hn hn1 hn8 (by omega)
      refine E_iload_n (i := 3) dX11_feed_0 rfl rfl ?_
      refine E_iconst (v := 1) dX11_feed_1 (by decide) ?_
      refine E_bipush (v := 8) dX11_feed_2 (by decide) ?_
      refine k_X11_feed_4 (mc' := 0) (ms' := 0) (rc := 0) (rs := 0) (by omega) (Nat.le_of_ble_eq_true rfl) (c_X11_within ?_)
      rw [bz_t hc]
      refine E_if_ne (tgt := 16) dX11_feed_7 (by decide) (fun c_7 => ?_) (fun c_7 => absurd c_7 (by decide))
      refine E_aload_n (i := 0) dX11_feed_16 rfl rfl ?_
      refine E_gr dX11_feed_17 gf_X11_21_11 rfl (by assumption) (by assumption) ?_
      refine E_gr dX11_feed_20 gf_X11_156_8 rfl (by assumption) (by assumption) ?_
      refine E_gi dX11_feed_23 gf_X11_159_7 rfl (by assumption) ?_
      refine E_iload_n (i := 3) dX11_feed_26 rfl rfl ?_
      refine E_iadd dX11_feed_27 ?_
      refine E_bipush (v := 50) dX11_feed_28 (by decide) ?_
      rw [hsum]
      refine E_icmp_le (tgt := 39) dX11_feed_30 (by decide) (fun c_30 => absurd c_30 (nI_ge (a := 50) (by omega) (by omega))) (fun c_30 => ?_)
      refine E_aload_n (i := 0) dX11_feed_33 rfl rfl ?_
      refine E_iconst (v := 4) dX11_feed_34 (by decide) ?_
      refine k_X11_feed_35 (mc' := 0) (ms' := 0) (rc := 0) (rs := 0) (by omega) (Nat.le_of_ble_eq_true rfl) (by assumption) (c_X11_fail (k := 4) hL rfl (by decide) (by decide) ?_)
      refine E_iret dX11_feed_38 rfl ?_
      exact hΦ
  · have hΦ := h2 hc
    refine E_iload_n (i := 3) dX11_feed_0 rfl rfl ?_
    refine E_iconst (v := 1) dX11_feed_1 (by decide) ?_
    refine E_bipush (v := 8) dX11_feed_2 (by decide) ?_
    refine k_X11_feed_4 (mc' := 0) (ms' := 0) (rc := 0) (rs := 0) (by omega) (Nat.le_of_ble_eq_true rfl) (c_X11_within ?_)
    rw [bz_f hc]
    refine E_if_ne (tgt := 16) dX11_feed_7 (by decide) (fun c_7 => absurd (rfl) c_7) (fun c_7 => ?_)
    refine E_aload_n (i := 0) dX11_feed_10 rfl rfl ?_
    refine E_iconst (v := 1) dX11_feed_11 (by decide) ?_
    refine k_X11_feed_12 (mc' := 0) (ms' := 0) (rc := 0) (rs := 0) (by omega) (Nat.le_of_ble_eq_true rfl) (by assumption) (c_X11_fail (k := 1) hL rfl (by decide) (by decide) ?_)
    refine E_iret dX11_feed_15 rfl ?_
    exact hΦ
end
