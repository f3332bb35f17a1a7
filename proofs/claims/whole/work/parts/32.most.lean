/-! the greatest load -/
/-- the greatest of n, n - 1, .., 0 with p -/
def grst (p : Nat → Prop) [DecidablePred p] : Nat → Option Nat
  | 0 => if p 0 then some 0 else none
  | n + 1 => if p (n + 1) then some (n + 1) else grst p n
theorem grst_congr {p q : Nat → Prop} [DecidablePred p] [DecidablePred q] : ∀ n, (∀ l, l ≤ n → (p l ↔ q l)) → grst p n = grst q n
  | 0, h => by
    unfold grst
    by_cases h0 : p 0
    · rw [if_pos h0, if_pos ((h 0 (by omega)).mp h0)]
    · rw [if_neg h0, if_neg (fun q => h0 ((h 0 (by omega)).mpr q))]
  | n + 1, h => by
    unfold grst
    rw [grst_congr n (fun l hl => h l (by omega))]
    by_cases h0 : p (n + 1)
    · rw [if_pos h0, if_pos ((h (n + 1) (by omega)).mp h0)]
    · rw [if_neg h0, if_neg (fun q => h0 ((h (n + 1) (by omega)).mpr q))]
theorem nI_dec (n : Nat) : nI (n + 1) + (-1) = nI n := pk_m1 n
section
variable {Γ : GE} {d : Nat} {g : Sh} {P : HP} {I : HI} {Φ : Option Value → Sh → HP → HI → Prop}
abbrev pC (w : Nat → Int32) (l : Nat) : Prop := pul w (w 0 / 2) (nI l) ≤ w 5
theorem c_X11_most (hd : 3 ≤ d) (hL : Ly g P) (hO : WOK (I 23)) (h1 : ∀ l, grst (pC (I 23)) 300 = some l → Φ (some (.int (nI l))) g P I) (h2 : grst (pC (I 23)) 300 = none → Φ (some (.int (er 2))) g P (fl I 2)) : MM Γ mX11_most d 0 0 [.ref 16] g P I Φ := by
  refine MM_entry [some _, none, none] (by decide) (Nat.le_of_ble_eq_true rfl) rfl ?_
  have h0 := hL.gw
  have l1 := hL.live
  have l2 := hL.s21.c
  have l3 : P 21 1 = some 22 := hL.s21.wp
  have l4 : Wi g P 22 23 := hL.s21.wi
  have l5 := l4.1
  have out : ∀ x : Int32, x < 0 → grst (pC (I 23)) 300 = none → E Γ mX11_most d 0 0 (QM Γ 0 0 Φ) 0 0 18 [some (.ref 16), some (.int (I 23 0 / 2)), some (.int x)] [] g P I := by
    intro x hx hn
    have hΦ := h2 hn
    refine E_iload_n (i := 2) dX11_most_18 rfl rfl ?_
    refine E_if_lt (tgt := 56) dX11_most_19 (by decide) (fun c_19 => ?_) (fun c_19 => absurd (hx) c_19)
    refine E_aload_n (i := 0) dX11_most_56 rfl rfl ?_
    refine E_iconst (v := 2) dX11_most_57 (by decide) ?_
    refine k_X11_most_58 (mc' := 0) (ms' := 0) (rc := 0) (rs := 0) (by omega) (Nat.le_of_ble_eq_true rfl) (by assumption) (c_X11_fail (k := 2) hL rfl (by decide) (by decide) ?_)
    refine E_iret dX11_most_61 rfl ?_
    exact hΦ
  have loop : ∀ (l : Nat) (x : Int32), l ≤ 300 → x = nI l → grst (pC (I 23)) l = grst (pC (I 23)) 300 → E Γ mX11_most d 0 0 (QM Γ 0 0 Φ) 0 0 18 [some (.ref 16), some (.int (I 23 0 / 2)), some (.int x)] [] g P I := by
    intro l
    induction l with
    | zero =>
      intro x hl hx hg
      by_cases hp : pC (I 23) 0
      · have hΦ := h1 0 (by rw [← hg]; exact if_pos hp)
        refine E_iload_n (i := 2) dX11_most_18 rfl rfl ?_
        refine E_if_lt (tgt := 56) dX11_most_19 (by decide) (fun c_19 => absurd c_19 (by rw [hx]; exact nI_pos (by omega))) (fun c_19 => ?_)
        refine E_aload_n (i := 0) dX11_most_22 rfl rfl ?_
        refine E_gr dX11_most_23 gf_X11_21_11 rfl (by assumption) (by assumption) ?_
        refine E_gr dX11_most_26 gf_X11_77_8 rfl (by assumption) (by assumption) ?_
        refine E_iload_n (i := 1) dX11_most_29 rfl rfl ?_
        refine E_iload_n (i := 2) dX11_most_30 rfl rfl ?_
        refine k_X11_most_31 (mc' := 0) (ms' := 0) (rc := 0) (rs := 0) (by omega) (Nat.le_of_ble_eq_true rfl) (by assumption) (c_X10_pulledAt (by omega) l4 hO ?_)
        refine E_aload_n (i := 0) dX11_most_34 rfl rfl ?_
        refine E_gr dX11_most_35 gf_X11_21_11 rfl (by assumption) (by assumption) ?_
        refine E_gr dX11_most_38 gf_X11_77_8 rfl (by assumption) (by assumption) ?_
        refine E_iconst (v := 5) dX11_most_41 (by decide) ?_
        refine k_X11_most_42 (mc' := 0) (ms' := 0) (rc := 0) (rs := 0) (by omega) (Nat.le_of_ble_eq_true rfl) (by assumption) (c_X10_ofk (k := 5) rfl (by decide) l4 ?_)
        rw [hx]
        refine E_icmp_gt (tgt := 50) dX11_most_45 (by decide) (fun c_45 => absurd c_45 (Int32.not_lt.mpr hp)) (fun c_45 => ?_)
        refine E_iload_n (i := 2) dX11_most_48 rfl rfl ?_
        refine E_iret dX11_most_49 rfl ?_
        exact hΦ
      · refine E_iload_n (i := 2) dX11_most_18 rfl rfl ?_
        refine E_if_lt (tgt := 56) dX11_most_19 (by decide) (fun c_19 => absurd c_19 (by rw [hx]; exact nI_pos (by omega))) (fun c_19 => ?_)
        refine E_aload_n (i := 0) dX11_most_22 rfl rfl ?_
        refine E_gr dX11_most_23 gf_X11_21_11 rfl (by assumption) (by assumption) ?_
        refine E_gr dX11_most_26 gf_X11_77_8 rfl (by assumption) (by assumption) ?_
        refine E_iload_n (i := 1) dX11_most_29 rfl rfl ?_
        refine E_iload_n (i := 2) dX11_most_30 rfl rfl ?_
        refine k_X11_most_31 (mc' := 0) (ms' := 0) (rc := 0) (rs := 0) (by omega) (Nat.le_of_ble_eq_true rfl) (by assumption) (c_X10_pulledAt (by omega) l4 hO ?_)
        refine E_aload_n (i := 0) dX11_most_34 rfl rfl ?_
        refine E_gr dX11_most_35 gf_X11_21_11 rfl (by assumption) (by assumption) ?_
        refine E_gr dX11_most_38 gf_X11_77_8 rfl (by assumption) (by assumption) ?_
        refine E_iconst (v := 5) dX11_most_41 (by decide) ?_
        refine k_X11_most_42 (mc' := 0) (ms' := 0) (rc := 0) (rs := 0) (by omega) (Nat.le_of_ble_eq_true rfl) (by assumption) (c_X10_ofk (k := 5) rfl (by decide) l4 ?_)
        rw [hx]
        refine E_icmp_gt (tgt := 50) dX11_most_45 (by decide) (fun c_45 => ?_) (fun c_45 => absurd (Int32.not_le.mp hp) c_45)
        refine E_incC (c := -1) dX11_most_50 rfl (by decide) (by decide) rfl ?_
        refine E_lv (lv' := [_, _, _]) rfl ?_
        refine E_goto (tgt := 18) dX11_most_53 (by decide) ?_
        refine out _ (by decide) (by rw [← hg]; exact if_neg hp)
    | succ l ih =>
      intro x hl hx hg
      by_cases hp : pC (I 23) (l + 1)
      · have hΦ := h1 (l + 1) (by rw [← hg]; exact if_pos hp)
        refine E_iload_n (i := 2) dX11_most_18 rfl rfl ?_
        refine E_if_lt (tgt := 56) dX11_most_19 (by decide) (fun c_19 => absurd c_19 (by rw [hx]; exact nI_pos (by omega))) (fun c_19 => ?_)
        refine E_aload_n (i := 0) dX11_most_22 rfl rfl ?_
        refine E_gr dX11_most_23 gf_X11_21_11 rfl (by assumption) (by assumption) ?_
        refine E_gr dX11_most_26 gf_X11_77_8 rfl (by assumption) (by assumption) ?_
        refine E_iload_n (i := 1) dX11_most_29 rfl rfl ?_
        refine E_iload_n (i := 2) dX11_most_30 rfl rfl ?_
        refine k_X11_most_31 (mc' := 0) (ms' := 0) (rc := 0) (rs := 0) (by omega) (Nat.le_of_ble_eq_true rfl) (by assumption) (c_X10_pulledAt (by omega) l4 hO ?_)
        refine E_aload_n (i := 0) dX11_most_34 rfl rfl ?_
        refine E_gr dX11_most_35 gf_X11_21_11 rfl (by assumption) (by assumption) ?_
        refine E_gr dX11_most_38 gf_X11_77_8 rfl (by assumption) (by assumption) ?_
        refine E_iconst (v := 5) dX11_most_41 (by decide) ?_
        refine k_X11_most_42 (mc' := 0) (ms' := 0) (rc := 0) (rs := 0) (by omega) (Nat.le_of_ble_eq_true rfl) (by assumption) (c_X10_ofk (k := 5) rfl (by decide) l4 ?_)
        rw [hx]
        refine E_icmp_gt (tgt := 50) dX11_most_45 (by decide) (fun c_45 => absurd c_45 (Int32.not_lt.mpr hp)) (fun c_45 => ?_)
        refine E_iload_n (i := 2) dX11_most_48 rfl rfl ?_
        refine E_iret dX11_most_49 rfl ?_
        exact hΦ
      · refine E_iload_n (i := 2) dX11_most_18 rfl rfl ?_
        refine E_if_lt (tgt := 56) dX11_most_19 (by decide) (fun c_19 => absurd c_19 (by rw [hx]; exact nI_pos (by omega))) (fun c_19 => ?_)
        refine E_aload_n (i := 0) dX11_most_22 rfl rfl ?_
        refine E_gr dX11_most_23 gf_X11_21_11 rfl (by assumption) (by assumption) ?_
        refine E_gr dX11_most_26 gf_X11_77_8 rfl (by assumption) (by assumption) ?_
        refine E_iload_n (i := 1) dX11_most_29 rfl rfl ?_
        refine E_iload_n (i := 2) dX11_most_30 rfl rfl ?_
        refine k_X11_most_31 (mc' := 0) (ms' := 0) (rc := 0) (rs := 0) (by omega) (Nat.le_of_ble_eq_true rfl) (by assumption) (c_X10_pulledAt (by omega) l4 hO ?_)
        refine E_aload_n (i := 0) dX11_most_34 rfl rfl ?_
        refine E_gr dX11_most_35 gf_X11_21_11 rfl (by assumption) (by assumption) ?_
        refine E_gr dX11_most_38 gf_X11_77_8 rfl (by assumption) (by assumption) ?_
        refine E_iconst (v := 5) dX11_most_41 (by decide) ?_
        refine k_X11_most_42 (mc' := 0) (ms' := 0) (rc := 0) (rs := 0) (by omega) (Nat.le_of_ble_eq_true rfl) (by assumption) (c_X10_ofk (k := 5) rfl (by decide) l4 ?_)
        rw [hx]
        refine E_icmp_gt (tgt := 50) dX11_most_45 (by decide) (fun c_45 => ?_) (fun c_45 => absurd (Int32.not_le.mp hp) c_45)
        refine E_incC (c := -1) dX11_most_50 rfl (by decide) (by decide) rfl ?_
        refine E_lv (lv' := [_, _, _]) rfl ?_
        refine E_goto (tgt := 18) dX11_most_53 (by decide) ?_
        refine ih _ (by omega) (nI_dec l) (by rw [← hg]; exact (if_neg hp).symm)
  refine E_aload_n (i := 0) dX11_most_0 rfl rfl ?_
  refine E_gr dX11_most_1 gf_X11_21_11 rfl (by assumption) (by assumption) ?_
  refine E_gr dX11_most_4 gf_X11_77_8 rfl (by assumption) (by assumption) ?_
  refine E_iconst (v := 0) dX11_most_7 (by decide) ?_
  refine k_X11_most_8 (mc' := 0) (ms' := 0) (rc := 0) (rs := 0) (by omega) (Nat.le_of_ble_eq_true rfl) (by assumption) (c_X10_ofk (k := 0) rfl (by decide) l4 ?_)
  refine E_iconst (v := 2) dX11_most_11 (by decide) ?_
  refine E_idiv dX11_most_12 (by decide) ?_
  refine E_istore_nC (i := 1) dX11_most_13 rfl (by decide) rfl ?_
  refine E_lv (lv' := [_, _, _]) rfl ?_
  refine E_sipush (v := 300) dX11_most_14 (by decide) ?_
  refine E_istore_nC (i := 2) dX11_most_17 rfl (by decide) rfl ?_
  refine E_lv (lv' := [_, _, _]) rfl ?_
  exact loop 300 _ (by omega) rfl rfl
/-- the model's: at all yards -/
abbrev pM (w : Nat → Int32) (s l : Nat) : Prop := ∀ x, x < s + 1 → pulM w (nI x) (nI l) ≤ w 5
theorem c_X12_holds {l s : Nat} {x : Int32} (hd : 3 ≤ d) (hM : Mo g P) (hO : WOK (wm (I 110))) (hs : I 110 7 = nI s) (hs4 : s ≤ 400) (hx : x = nI l) (hΦ : Φ (some (.int (bz (pM (wm (I 110)) s l)))) g P I) : MM Γ mX12_holds d 0 0 [.ref 109, .int x] g P I Φ := by
  refine MM_entry [some _, some _, none, none] (by decide) (Nat.le_of_ble_eq_true rfl) rfl ?_
  obtain ⟨n1, n2, n3⟩ := hM.now
  have h0 := hM.1
  have loop : ∀ (N j : Nat) (y b : Int32), s + 1 - j ≤ N → j ≤ s + 1 → y = nI j → b = bz (∀ x, x < j → pulM (wm (I 110)) (nI x) (nI l) ≤ wm (I 110) 5) → E Γ mX12_holds d 0 0 (QM Γ 0 0 Φ) 0 0 4 [some (.ref 109), some (.int x), some (.int b), some (.int y)] [] g P I := by
    intro N
    induction N with
    | zero =>
      intro j y b hN hj hy hb
      have : j = s + 1 := by omega
      subst this
      subst hb
      refine E_iload_n (i := 3) dX12_holds_4 rfl rfl ?_
      refine E_aload_n (i := 0) dX12_holds_5 rfl rfl ?_
      refine E_gr dX12_holds_6 gf_X12_9_12 rfl (by assumption) (by assumption) ?_
      refine E_bipush (v := 7) dX12_holds_9 (by decide) ?_
      refine E_iaj 7 dX12_holds_11 (by assumption) rfl (by decide) (by rw [n3]; decide) ?_
      refine E_icmp_gt (tgt := 47) dX12_holds_12 (by decide) (fun c_12 => ?_) (fun c_12 => absurd (by rw [hs, hy]; exact nI_lt (by omega) (by omega)) c_12)
      refine E_iload_n (i := 2) dX12_holds_47 rfl rfl ?_
      refine E_zret dX12_holds_48 rfl (bz_nz _) ?_
      exact hΦ
    | succ N ih =>
      intro j y b hN hj hy hb
      by_cases hjk : j = s + 1
      · subst hjk
        subst hb
        refine E_iload_n (i := 3) dX12_holds_4 rfl rfl ?_
        refine E_aload_n (i := 0) dX12_holds_5 rfl rfl ?_
        refine E_gr dX12_holds_6 gf_X12_9_12 rfl (by assumption) (by assumption) ?_
        refine E_bipush (v := 7) dX12_holds_9 (by decide) ?_
        refine E_iaj 7 dX12_holds_11 (by assumption) rfl (by decide) (by rw [n3]; decide) ?_
        refine E_icmp_gt (tgt := 47) dX12_holds_12 (by decide) (fun c_12 => ?_) (fun c_12 => absurd (by rw [hs, hy]; exact nI_lt (by omega) (by omega)) c_12)
        refine E_iload_n (i := 2) dX12_holds_47 rfl rfl ?_
        refine E_zret dX12_holds_48 rfl (bz_nz _) ?_
        exact hΦ
      · by_cases hA : ∀ x, x < j → pulM (wm (I 110)) (nI x) (nI l) ≤ wm (I 110) 5
        · by_cases hB : pulM (wm (I 110)) (nI j) (nI l) ≤ wm (I 110) 5
          · rw [bz_t hA] at hb
            subst hb
            refine E_iload_n (i := 3) dX12_holds_4 rfl rfl ?_
            refine E_aload_n (i := 0) dX12_holds_5 rfl rfl ?_
            refine E_gr dX12_holds_6 gf_X12_9_12 rfl (by assumption) (by assumption) ?_
            refine E_bipush (v := 7) dX12_holds_9 (by decide) ?_
            refine E_iaj 7 dX12_holds_11 (by assumption) rfl (by decide) (by rw [n3]; decide) ?_
            refine E_icmp_gt (tgt := 47) dX12_holds_12 (by decide) (fun c_12 => absurd c_12 (by rw [hs, hy]; exact nI_nlt (by omega) (by omega))) (fun c_12 => ?_)
            refine E_iload_n (i := 2) dX12_holds_15 rfl rfl ?_
            refine E_if_eq (tgt := 39) dX12_holds_16 (by decide) (fun c_16 => absurd c_16 (by decide)) (fun c_16 => ?_)
            refine E_aload_n (i := 0) dX12_holds_19 rfl rfl ?_
            refine E_iload_n (i := 3) dX12_holds_20 rfl rfl ?_
            refine E_iload_n (i := 1) dX12_holds_21 rfl rfl ?_
            refine k_X12_holds_22 (mc' := 0) (ms' := 0) (rc := 0) (rs := 0) (by omega) (Nat.le_of_ble_eq_true rfl) (by assumption) (c_X12_pulledAt_raw (by omega) hM hO ?_)
            refine E_aload_n (i := 0) dX12_holds_25 rfl rfl ?_
            refine E_gr dX12_holds_26 gf_X12_9_12 rfl (by assumption) (by assumption) ?_
            refine E_bipush (v := 12) dX12_holds_29 (by decide) ?_
            refine E_iaj 12 dX12_holds_31 (by assumption) rfl (by decide) (by rw [n3]; decide) ?_
            rw [hy, hx]
            refine E_icmp_gt (tgt := 39) dX12_holds_32 (by decide) (fun c_32 => absurd c_32 (Int32.not_lt.mpr hB)) (fun c_32 => ?_)
            refine E_iconst (v := 1) dX12_holds_35 (by decide) ?_
            refine E_goto (tgt := 40) dX12_holds_36 (by decide) ?_
            refine E_istore_nC (i := 2) dX12_holds_40 rfl (by decide) rfl ?_
            refine E_lv (lv' := [_, _, _, _]) rfl ?_
            refine E_incC (c := 1) dX12_holds_41 rfl (by decide) (by decide) rfl ?_
            refine E_lv (lv' := [_, _, _, _]) rfl ?_
            refine E_goto (tgt := 4) dX12_holds_44 (by decide) ?_
            rw [hx] at ih
            refine ih (j + 1) (nI j + 1) 1 (by omega) (by omega) (nI_1 j) ?_
            exact (bz_t (fun x hx => (Nat.lt_or_ge x j).elim (fun h => hA x h) (fun h => by rw [show x = j by omega]; exact hB))).symm
          · rw [bz_t hA] at hb
            subst hb
            refine E_iload_n (i := 3) dX12_holds_4 rfl rfl ?_
            refine E_aload_n (i := 0) dX12_holds_5 rfl rfl ?_
            refine E_gr dX12_holds_6 gf_X12_9_12 rfl (by assumption) (by assumption) ?_
            refine E_bipush (v := 7) dX12_holds_9 (by decide) ?_
            refine E_iaj 7 dX12_holds_11 (by assumption) rfl (by decide) (by rw [n3]; decide) ?_
            refine E_icmp_gt (tgt := 47) dX12_holds_12 (by decide) (fun c_12 => absurd c_12 (by rw [hs, hy]; exact nI_nlt (by omega) (by omega))) (fun c_12 => ?_)
            refine E_iload_n (i := 2) dX12_holds_15 rfl rfl ?_
            refine E_if_eq (tgt := 39) dX12_holds_16 (by decide) (fun c_16 => absurd c_16 (by decide)) (fun c_16 => ?_)
            refine E_aload_n (i := 0) dX12_holds_19 rfl rfl ?_
            refine E_iload_n (i := 3) dX12_holds_20 rfl rfl ?_
            refine E_iload_n (i := 1) dX12_holds_21 rfl rfl ?_
            refine k_X12_holds_22 (mc' := 0) (ms' := 0) (rc := 0) (rs := 0) (by omega) (Nat.le_of_ble_eq_true rfl) (by assumption) (c_X12_pulledAt_raw (by omega) hM hO ?_)
            refine E_aload_n (i := 0) dX12_holds_25 rfl rfl ?_
            refine E_gr dX12_holds_26 gf_X12_9_12 rfl (by assumption) (by assumption) ?_
            refine E_bipush (v := 12) dX12_holds_29 (by decide) ?_
            refine E_iaj 12 dX12_holds_31 (by assumption) rfl (by decide) (by rw [n3]; decide) ?_
            rw [hy, hx]
            refine E_icmp_gt (tgt := 39) dX12_holds_32 (by decide) (fun c_32 => ?_) (fun c_32 => absurd (Int32.not_le.mp hB) c_32)
            refine E_iconst (v := 0) dX12_holds_39 (by decide) ?_
            refine E_istore_nC (i := 2) dX12_holds_40 rfl (by decide) rfl ?_
            refine E_lv (lv' := [_, _, _, _]) rfl ?_
            refine E_incC (c := 1) dX12_holds_41 rfl (by decide) (by decide) rfl ?_
            refine E_lv (lv' := [_, _, _, _]) rfl ?_
            refine E_goto (tgt := 4) dX12_holds_44 (by decide) ?_
            rw [hx] at ih
            refine ih (j + 1) (nI j + 1) 0 (by omega) (by omega) (nI_1 j) ?_
            exact (bz_f (fun h => hB (h j (by omega)))).symm
        · rw [bz_f hA] at hb
          subst hb
          refine E_iload_n (i := 3) dX12_holds_4 rfl rfl ?_
          refine E_aload_n (i := 0) dX12_holds_5 rfl rfl ?_
          refine E_gr dX12_holds_6 gf_X12_9_12 rfl (by assumption) (by assumption) ?_
          refine E_bipush (v := 7) dX12_holds_9 (by decide) ?_
          refine E_iaj 7 dX12_holds_11 (by assumption) rfl (by decide) (by rw [n3]; decide) ?_
          refine E_icmp_gt (tgt := 47) dX12_holds_12 (by decide) (fun c_12 => absurd c_12 (by rw [hs, hy]; exact nI_nlt (by omega) (by omega))) (fun c_12 => ?_)
          refine E_iload_n (i := 2) dX12_holds_15 rfl rfl ?_
          refine E_if_eq (tgt := 39) dX12_holds_16 (by decide) (fun c_16 => ?_) (fun c_16 => absurd (rfl) c_16)
          refine E_iconst (v := 0) dX12_holds_39 (by decide) ?_
          refine E_istore_nC (i := 2) dX12_holds_40 rfl (by decide) rfl ?_
          refine E_lv (lv' := [_, _, _, _]) rfl ?_
          refine E_incC (c := 1) dX12_holds_41 rfl (by decide) (by decide) rfl ?_
          refine E_lv (lv' := [_, _, _, _]) rfl ?_
          refine E_goto (tgt := 4) dX12_holds_44 (by decide) ?_
          refine ih (j + 1) _ _ (by omega) (by omega) (by rw [hy, nI_1]) ?_
          exact (bz_f (fun h => hA (fun x hx => h x (by omega)))).symm
  refine E_iconst (v := 1) dX12_holds_0 (by decide) ?_
  refine E_istore_nC (i := 2) dX12_holds_1 rfl (by decide) rfl ?_
  refine E_lv (lv' := [_, _, _, _]) rfl ?_
  refine E_iconst (v := 0) dX12_holds_2 (by decide) ?_
  refine E_istore_nC (i := 3) dX12_holds_3 rfl (by decide) rfl ?_
  refine E_lv (lv' := [_, _, _, _]) rfl ?_
  exact loop (s + 1) 0 _ _ (by omega) (by omega) rfl (bz_t (fun x h => absurd h (by omega))).symm
theorem c_X12_most {s : Nat} (hd : 4 ≤ d) (hM : Mo g P) (hO : WOK (wm (I 110))) (hs : I 110 7 = nI s) (hs4 : s ≤ 400) (h1 : ∀ l, grst (pM (wm (I 110)) s) 300 = some l → Φ (some (.int (nI l))) g P I) (h2 : grst (pM (wm (I 110)) s) 300 = none → Φ (some (.int (er 2))) g P (flM I 2)) : MM Γ mX12_most d 0 0 [.ref 109] g P I Φ := by
  refine MM_entry [some _, none] (by decide) (Nat.le_of_ble_eq_true rfl) rfl ?_
  have h0 := hM.1
  have out : ∀ x : Int32, x < 0 → grst (pM (wm (I 110)) s) 300 = none → E Γ mX12_most d 0 0 (QM Γ 0 0 Φ) 0 0 4 [some (.ref 109), some (.int x)] [] g P I := by
    intro x hx hn
    have hΦ := h2 hn
    refine E_iload_n (i := 1) dX12_most_4 rfl rfl ?_
    refine E_if_lt (tgt := 24) dX12_most_5 (by decide) (fun c_5 => ?_) (fun c_5 => absurd (hx) c_5)
    refine E_aload_n (i := 0) dX12_most_24 rfl rfl ?_
    refine E_ldc (v := -1000000002) dX12_most_25 w_1275 ?_
    refine k_X12_most_27 (mc' := 0) (ms' := 0) (rc := 0) (rs := 0) (by omega) (Nat.le_of_ble_eq_true rfl) (by assumption) (c_find2 hM ?_)
    refine E_iret dX12_most_30 rfl ?_
    exact hΦ
  have loop : ∀ (l : Nat) (x : Int32), l ≤ 300 → x = nI l → grst (pM (wm (I 110)) s) l = grst (pM (wm (I 110)) s) 300 → E Γ mX12_most d 0 0 (QM Γ 0 0 Φ) 0 0 4 [some (.ref 109), some (.int x)] [] g P I := by
    intro l
    induction l with
    | zero =>
      intro x hl hx hg
      by_cases hp : pM (wm (I 110)) s 0
      · have hΦ := h1 0 (by rw [← hg]; exact if_pos hp)
        refine E_iload_n (i := 1) dX12_most_4 rfl rfl ?_
        refine E_if_lt (tgt := 24) dX12_most_5 (by decide) (fun c_5 => absurd c_5 (by rw [hx]; exact nI_pos (by omega))) (fun c_5 => ?_)
        refine E_aload_n (i := 0) dX12_most_8 rfl rfl ?_
        refine E_iload_n (i := 1) dX12_most_9 rfl rfl ?_
        refine k_X12_most_10 (mc' := 0) (ms' := 0) (rc := 0) (rs := 0) (by omega) (Nat.le_of_ble_eq_true rfl) (by assumption) (c_X12_holds (l := 0) (by omega) hM hO hs hs4 hx ?_)
        rw [bz_t hp]
        refine E_if_eq (tgt := 18) dX12_most_13 (by decide) (fun c_13 => absurd c_13 (by decide)) (fun c_13 => ?_)
        refine E_iload_n (i := 1) dX12_most_16 rfl rfl ?_
        refine E_iret dX12_most_17 rfl ?_
        rw [hx]
        exact hΦ
      · refine E_iload_n (i := 1) dX12_most_4 rfl rfl ?_
        refine E_if_lt (tgt := 24) dX12_most_5 (by decide) (fun c_5 => absurd c_5 (by rw [hx]; exact nI_pos (by omega))) (fun c_5 => ?_)
        refine E_aload_n (i := 0) dX12_most_8 rfl rfl ?_
        refine E_iload_n (i := 1) dX12_most_9 rfl rfl ?_
        refine k_X12_most_10 (mc' := 0) (ms' := 0) (rc := 0) (rs := 0) (by omega) (Nat.le_of_ble_eq_true rfl) (by assumption) (c_X12_holds (l := 0) (by omega) hM hO hs hs4 hx ?_)
        rw [bz_f hp]
        refine E_if_eq (tgt := 18) dX12_most_13 (by decide) (fun c_13 => ?_) (fun c_13 => absurd (rfl) c_13)
        refine E_incC (c := -1) dX12_most_18 rfl (by decide) (by decide) rfl ?_
        refine E_lv (lv' := [_, _]) rfl ?_
        refine E_goto (tgt := 4) dX12_most_21 (by decide) ?_
        exact out _ (by rw [hx]; decide) (by rw [← hg]; exact if_neg hp)
    | succ l ih =>
      intro x hl hx hg
      by_cases hp : pM (wm (I 110)) s (l + 1)
      · have hΦ := h1 (l + 1) (by rw [← hg]; exact if_pos hp)
        refine E_iload_n (i := 1) dX12_most_4 rfl rfl ?_
        refine E_if_lt (tgt := 24) dX12_most_5 (by decide) (fun c_5 => absurd c_5 (by rw [hx]; exact nI_pos (by omega))) (fun c_5 => ?_)
        refine E_aload_n (i := 0) dX12_most_8 rfl rfl ?_
        refine E_iload_n (i := 1) dX12_most_9 rfl rfl ?_
        refine k_X12_most_10 (mc' := 0) (ms' := 0) (rc := 0) (rs := 0) (by omega) (Nat.le_of_ble_eq_true rfl) (by assumption) (c_X12_holds (l := l + 1) (by omega) hM hO hs hs4 hx ?_)
        rw [bz_t hp]
        refine E_if_eq (tgt := 18) dX12_most_13 (by decide) (fun c_13 => absurd c_13 (by decide)) (fun c_13 => ?_)
        refine E_iload_n (i := 1) dX12_most_16 rfl rfl ?_
        refine E_iret dX12_most_17 rfl ?_
        rw [hx]
        exact hΦ
      · refine E_iload_n (i := 1) dX12_most_4 rfl rfl ?_
        refine E_if_lt (tgt := 24) dX12_most_5 (by decide) (fun c_5 => absurd c_5 (by rw [hx]; exact nI_pos (by omega))) (fun c_5 => ?_)
        refine E_aload_n (i := 0) dX12_most_8 rfl rfl ?_
        refine E_iload_n (i := 1) dX12_most_9 rfl rfl ?_
        refine k_X12_most_10 (mc' := 0) (ms' := 0) (rc := 0) (rs := 0) (by omega) (Nat.le_of_ble_eq_true rfl) (by assumption) (c_X12_holds (l := l + 1) (by omega) hM hO hs hs4 hx ?_)
        rw [bz_f hp]
        refine E_if_eq (tgt := 18) dX12_most_13 (by decide) (fun c_13 => ?_) (fun c_13 => absurd (rfl) c_13)
        refine E_incC (c := -1) dX12_most_18 rfl (by decide) (by decide) rfl ?_
        refine E_lv (lv' := [_, _]) rfl ?_
        refine E_goto (tgt := 4) dX12_most_21 (by decide) ?_
        exact ih _ (by omega) (by rw [hx]; exact nI_dec l) (by rw [← hg]; exact (if_neg hp).symm)
  refine E_sipush (v := 300) dX12_most_0 (by decide) ?_
  refine E_istore_nC (i := 1) dX12_most_3 rfl (by decide) rfl ?_
  refine E_lv (lv' := [_, _]) rfl ?_
  exact loop 300 _ (by omega) rfl rfl
end
