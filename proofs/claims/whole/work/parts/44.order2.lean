/-! order: the class's call, the model -/
theorem ord_keep {n : Nat} {tm sd : Nat → Int32} : ∀ (r : Nat) (used sheave time : Int32) (t : OT), t.2.2 ≠ none → (ord n tm sd r used sheave time t).2.2 ≠ none
  | 0, used, sheave, time, t, h => by
    unfold ord oLf
    split
    · exact fun e => by cases e
    · exact h
  | r + 1, used, sheave, time, t, h => by
    unfold ord
    have loop : ∀ (u i : Nat) (t : OT), t.2.2 ≠ none → (ordL (ord n tm sd r) tm sd (n - (r + 1)) used sheave time u i t).2.2 ≠ none := by
      intro u
      induction u with
      | zero => intro i t h; exact h
      | succ u ih =>
        intro i t h
        unfold ordL
        refine ih (i + 1) _ ?_
        split
        · exact ord_keep r _ _ _ _ h
        · exact h
    exact loop n 0 t h
theorem ub_free : ∀ k, k < 5 → ub (nI (2 ^ k - 1)) k = 0 ∧ us (nI (2 ^ k - 1)) k = nI (2 ^ (k + 1) - 1) := by decide
theorem ord_some {n : Nat} {tm sd : Nat → Int32} (hn : n ≤ 5) : ∀ (r : Nat) (used sheave time : Int32) (t : OT), r ≤ n → used = nI (2 ^ (n - r) - 1) → (ord n tm sd r used sheave time t).2.2 ≠ none
  | 0, used, sheave, time, t, _, _ => by
    unfold ord oLf
    split
    · exact fun e => by cases e
    · next h =>
      intro e
      rw [e] at h
      exact h rfl
  | r + 1, used, sheave, time, t, hr, hu => by
    unfold ord
    have keep : ∀ (u i : Nat) (t : OT), t.2.2 ≠ none → (ordL (ord n tm sd r) tm sd (n - (r + 1)) used sheave time u i t).2.2 ≠ none := by
      intro u
      induction u with
      | zero => intro i t h; exact h
      | succ u ih =>
        intro i t h
        unfold ordL
        refine ih (i + 1) _ ?_
        split
        · exact ord_keep r _ _ _ _ h
        · exact h
    have loop : ∀ (u i : Nat) (t : OT), i + u = n → i ≤ n - (r + 1) → (ordL (ord n tm sd r) tm sd (n - (r + 1)) used sheave time u i t).2.2 ≠ none := by
      intro u
      induction u with
      | zero => intro i t h1 h2; omega
      | succ u ih =>
        intro i t h1 h2
        unfold ordL
        by_cases e : i = n - (r + 1)
        · have f := ub_free (n - (r + 1)) (by omega)
          refine keep u (i + 1) _ ?_
          rw [if_pos (by rw [hu, e]; exact f.1)]
          refine ord_some hn r _ _ _ _ (by omega) ?_
          rw [hu, e, f.2, show n - (r + 1) + 1 = n - r by omega]
        · exact ih (i + 1) _ (by omega) (by omega)
    exact loop n 0 t (by omega) (by omega)
theorem okTm_0 (k : Nat) : okTm 0 k := ⟨by decide, by rw [Int32.toInt_zero]; omega⟩
/-- what order's search gives -/
abbrev ordA (n : Nat) (tm sd tr be : Nat → Int32) : OT := ord n tm sd n 0 0 0 (tr, be, none)
theorem ordA_some {n : Nat} (tm sd tr be : Nat → Int32) (hn : n ≤ 5) : ∃ v, (ordA n tm sd tr be).2.2 = some v := by
  have := ord_some (tm := tm) (sd := sd) hn n 0 0 0 (tr, be, none) (Nat.le_refl _) (by rw [Nat.sub_self]; rfl)
  cases e : (ordA n tm sd tr be).2.2 with
  | none => exact absurd e this
  | some v => exact ⟨v, rfl⟩
/-- the model's heap with what the search holds -/
def sM (I : HI) (t : OT) : HI := u2 (ur (ur I 121 t.1) 122 t.2.1) 109 19 (t.2.2.getD (-1))
theorem sM_o {I : HI} {t : OT} {a : Nat} (h1 : a ≠ 121) (h2 : a ≠ 122) (h3 : a ≠ 109) : sM I t a = I a := by
  unfold sM
  rw [u2_oth _ h3, ur_n _ _ h2, ur_n _ _ h1]
theorem sM_1 (I : HI) (t : OT) : sM I t 121 = t.1 := by
  unfold sM
  rw [u2_oth _ (by decide), ur_n _ _ (by decide), ur_s]
theorem sM_2 (I : HI) (t : OT) : sM I t 122 = t.2.1 := by
  unfold sM
  rw [u2_oth _ (by decide), ur_s]
theorem sM_b (I : HI) (t : OT) : sM I t 109 19 = t.2.2.getD (-1) := by
  unfold sM
  rw [u2_s]
theorem sM_16 {I : HI} {t : OT} {k : Nat} (h : k ≠ 19) : sM I t 109 k = I 109 k := by
  unfold sM
  rw [u2_o (fun q => h q.2), ur_n _ _ (by decide), ur_n _ _ (by decide)]
theorem sM_eq {I J : HI} {t : OT} (h1 : J 121 = t.1) (h2 : J 122 = t.2.1) (h3 : J 109 19 = t.2.2.getD (-1)) (h4 : ∀ a, a ≠ 121 → a ≠ 122 → a ≠ 109 → J a = I a) (h5 : ∀ k, k ≠ 19 → J 109 k = I 109 k) : J = sM I t := by
  funext a
  by_cases e1 : a = 121
  · rw [e1, h1, sM_1]
  · by_cases e2 : a = 122
    · rw [e2, h2, sM_2]
    · by_cases e3 : a = 109
      · subst e3
        funext k
        by_cases e4 : k = 19
        · rw [e4, h3, sM_b]
        · rw [h5 k e4, sM_16 e4]
      · rw [h4 a e1 e2 e3, sM_o e1 e2 e3]
section
variable {Γ : GE} {d : Nat} {g : Sh} {P : HP} {I : HI} {Φ : Option Value → Sh → HP → HI → Prop}
theorem Mo.rwo (h : Mo g P) : P 109 17 = some 121 ∧ Cel g 121 13 ∧ g.2.2 121 = 5 := h.2.1 (17, 121, 5) (by decide)
theorem Mo.bst (h : Mo g P) : P 109 18 = some 122 ∧ Cel g 122 13 ∧ g.2.2 122 = 5 := h.2.1 (18, 122, 5) (by decide)
theorem c_X11_order {y : Int32} {n : Nat} (hd : n + 3 ≤ d) (hL : Ly g P) (e1 : I 39 1 = nI n) (e2 : I 41 1 = nI n) (hn : n ≤ 5) (hT : okTs (I 40) n) (h1 : ¬ -1 ≤ y → Φ (some (.int (er 1))) g P (fl I 1)) (h2 : -1 ≤ y → nI n ≤ y → Φ (some (.int (er 2))) g P (fl I 2)) (h3 : ∀ v, y = -1 → (ordA n (I 40) (I 42) (I 99) (I 100)).2.2 = some v → Φ (some (.int v)) g P (sT I (ordA n (I 40) (I 42) (I 99) (I 100)))) (h4 : ∀ k, y = nI k → k < n → Φ (some (.int ((ordA n (I 40) (I 42) (I 99) (I 100)).2.1 k))) g P (sT I (ordA n (I 40) (I 42) (I 99) (I 100)))) : MM Γ mX11_order d 0 0 [.ref 16, .int y] g P I Φ := by
  refine MM_entry [some _, some _] (by decide) (Nat.le_of_ble_eq_true rfl) rfl ?_
  have h0 := hL.gw
  have l1 := hL.live
  have l2 := hL.s21.c
  obtain ⟨p1, p2⟩ : P 21 15 = some 39 ∧ RS g P 39 40 5 := hL.s21.tim
  have p3 := p2.1
  obtain ⟨b1, b2, b3⟩ := hL.bes
  have es : u2 I 16 12 1000000 = sT I (I 99, I 100, none) := by
    refine sT_eq ?_ ?_ ?_ ?_ ?_
    · rw [u2_oth _ (by decide)]
    · rw [u2_oth _ (by decide)]
    · rw [u2_s]
      rfl
    · intro a q1 q2 q3
      rw [u2_oth _ q3]
    · intro k hk
      rw [u2_o (fun h => hk h.2)]
  by_cases hy : -1 ≤ y
  · by_cases hy2 : nI n ≤ y
    · have hΦ := h2 hy hy2
      refine E_iload_n (i := 1) dX11_order_0 rfl rfl ?_
      refine E_iconst (v := -1) dX11_order_1 (by decide) ?_
      refine E_icmp_ge (tgt := 11) dX11_order_2 (by decide) (fun c_2 => ?_) (fun c_2 => absurd (hy) c_2)
      refine E_iload_n (i := 1) dX11_order_11 rfl rfl ?_
      refine E_aload_n (i := 0) dX11_order_12 rfl rfl ?_
      refine E_gr dX11_order_13 gf_X11_21_11 rfl (by assumption) (by assumption) ?_
      refine E_gr dX11_order_16 gf_X11_232_8 rfl (by assumption) (by assumption) ?_
      refine E_gi dX11_order_19 gf_X11_159_7 rfl (by assumption) ?_
      rw [e1]
      refine E_icmp_lt (tgt := 31) dX11_order_22 (by decide) (fun c_22 => absurd c_22 (Int32.not_lt.mpr hy2)) (fun c_22 => ?_)
      refine E_aload_n (i := 0) dX11_order_25 rfl rfl ?_
      refine E_iconst (v := 2) dX11_order_26 (by decide) ?_
      refine k_X11_order_27 (mc' := 0) (ms' := 0) (rc := 0) (rs := 0) (by omega) (Nat.le_of_ble_eq_true rfl) (by assumption) (c_X11_fail (k := 2) hL rfl (by decide) (by decide) ?_)
      refine E_iret dX11_order_30 rfl ?_
      exact hΦ
    · obtain ⟨v, hv⟩ := ordA_some (I 40) (I 42) (I 99) (I 100) hn
      by_cases cm : y = -1
      · have hΦ := h3 v cm hv
        refine E_iload_n (i := 1) dX11_order_0 rfl rfl ?_
        refine E_iconst (v := -1) dX11_order_1 (by decide) ?_
        refine E_icmp_ge (tgt := 11) dX11_order_2 (by decide) (fun c_2 => ?_) (fun c_2 => absurd (hy) c_2)
        refine E_iload_n (i := 1) dX11_order_11 rfl rfl ?_
        refine E_aload_n (i := 0) dX11_order_12 rfl rfl ?_
        refine E_gr dX11_order_13 gf_X11_21_11 rfl (by assumption) (by assumption) ?_
        refine E_gr dX11_order_16 gf_X11_232_8 rfl (by assumption) (by assumption) ?_
        refine E_gi dX11_order_19 gf_X11_159_7 rfl (by assumption) ?_
        rw [e1]
        refine E_icmp_lt (tgt := 31) dX11_order_22 (by decide) (fun c_22 => ?_) (fun c_22 => absurd (Int32.not_le.mp hy2) c_22)
        refine E_aload_n (i := 0) dX11_order_31 rfl rfl ?_
        refine E_ldc (v := 1000000) dX11_order_32 w_945 ?_
        refine E_pi dX11_order_34 gf_X11_64_11 rfl (by assumption) ?_
        rw [es]
        refine E_aload_n (i := 0) dX11_order_37 rfl rfl ?_
        refine E_iconst (v := 0) dX11_order_38 (by decide) ?_
        refine E_iconst (v := 0) dX11_order_39 (by decide) ?_
        refine E_iconst (v := 0) dX11_order_40 (by decide) ?_
        refine E_iconst (v := 0) dX11_order_41 (by decide) ?_
        refine k_X11_order_42 (mc' := 0) (ms' := 0) (rc := 0) (rs := 0) (by omega) (Nat.le_of_ble_eq_true rfl) (by assumption) (c_X11_tryOrders hL e1 e2 hn hT n (by omega) (Nat.le_refl _) (by rw [Nat.sub_self]; rfl) (okTm_0 _) ?_)
        refine E_iload_n (i := 1) dX11_order_45 rfl rfl ?_
        refine E_iconst (v := -1) dX11_order_46 (by decide) ?_
        refine E_icmp_ne (tgt := 57) dX11_order_47 (by decide) (fun c_47 => absurd (cm) c_47) (fun c_47 => ?_)
        refine E_aload_n (i := 0) dX11_order_50 rfl rfl ?_
        refine E_gi dX11_order_51 gf_X11_64_11 rfl (by assumption) ?_
        rw [sT_b, hv]
        refine E_goto (tgt := 63) dX11_order_54 (by decide) ?_
        refine E_iret dX11_order_63 rfl ?_
        exact hΦ
      · have y1 := i32_le.mp hy
        have y2 := i32_lt.mp (Int32.not_le.mp hy2)
        have y3 : ¬ y.toInt = -1 := fun e => cm (Int32.toInt_inj.mp e)
        have em : (-1 : Int32).toInt = -1 := rfl
        rw [nI_toInt (by omega)] at y2
        obtain ⟨k, hyk, hk⟩ : ∃ k, y = nI k ∧ k < n := ⟨y.toInt.toNat, by
          apply Int32.toInt_inj.mp
          rw [nI_toInt (by omega)]
          omega, by omega⟩
        have hΦ := h4 k hyk hk
        refine E_iload_n (i := 1) dX11_order_0 rfl rfl ?_
        refine E_iconst (v := -1) dX11_order_1 (by decide) ?_
        refine E_icmp_ge (tgt := 11) dX11_order_2 (by decide) (fun c_2 => ?_) (fun c_2 => absurd (hy) c_2)
        refine E_iload_n (i := 1) dX11_order_11 rfl rfl ?_
        refine E_aload_n (i := 0) dX11_order_12 rfl rfl ?_
        refine E_gr dX11_order_13 gf_X11_21_11 rfl (by assumption) (by assumption) ?_
        refine E_gr dX11_order_16 gf_X11_232_8 rfl (by assumption) (by assumption) ?_
        refine E_gi dX11_order_19 gf_X11_159_7 rfl (by assumption) ?_
        rw [e1]
        refine E_icmp_lt (tgt := 31) dX11_order_22 (by decide) (fun c_22 => ?_) (fun c_22 => absurd (Int32.not_le.mp hy2) c_22)
        refine E_aload_n (i := 0) dX11_order_31 rfl rfl ?_
        refine E_ldc (v := 1000000) dX11_order_32 w_945 ?_
        refine E_pi dX11_order_34 gf_X11_64_11 rfl (by assumption) ?_
        rw [es]
        refine E_aload_n (i := 0) dX11_order_37 rfl rfl ?_
        refine E_iconst (v := 0) dX11_order_38 (by decide) ?_
        refine E_iconst (v := 0) dX11_order_39 (by decide) ?_
        refine E_iconst (v := 0) dX11_order_40 (by decide) ?_
        refine E_iconst (v := 0) dX11_order_41 (by decide) ?_
        refine k_X11_order_42 (mc' := 0) (ms' := 0) (rc := 0) (rs := 0) (by omega) (Nat.le_of_ble_eq_true rfl) (by assumption) (c_X11_tryOrders hL e1 e2 hn hT n (by omega) (Nat.le_refl _) (by rw [Nat.sub_self]; rfl) (okTm_0 _) ?_)
        refine E_iload_n (i := 1) dX11_order_45 rfl rfl ?_
        refine E_iconst (v := -1) dX11_order_46 (by decide) ?_
        refine E_icmp_ne (tgt := 57) dX11_order_47 (by decide) (fun c_47 => ?_) (fun c_47 => absurd c_47 (cm))
        refine E_aload_n (i := 0) dX11_order_57 rfl rfl ?_
        refine E_gr dX11_order_58 gf_X11_61_11 rfl (by assumption) (by assumption) ?_
        refine E_iload_n (i := 1) dX11_order_61 rfl rfl ?_
        refine E_iaj k dX11_order_62 (by assumption) hyk (by omega) (by rw [b3]; omega) ?_
        refine E_iret dX11_order_63 rfl ?_
        rw [sT_100]
        exact hΦ
  · have hΦ := h1 hy
    refine E_iload_n (i := 1) dX11_order_0 rfl rfl ?_
    refine E_iconst (v := -1) dX11_order_1 (by decide) ?_
    refine E_icmp_ge (tgt := 11) dX11_order_2 (by decide) (fun c_2 => absurd c_2 (hy)) (fun c_2 => ?_)
    refine E_aload_n (i := 0) dX11_order_5 rfl rfl ?_
    refine E_iconst (v := 1) dX11_order_6 (by decide) ?_
    refine k_X11_order_7 (mc' := 0) (ms' := 0) (rc := 0) (rs := 0) (by omega) (Nat.le_of_ble_eq_true rfl) (by assumption) (c_X11_fail (k := 1) hL rfl (by decide) (by decide) ?_)
    refine E_iret dX11_order_10 rfl ?_
    exact hΦ
end
section
variable {Γ : GE} {g : Sh} {P : HP}
/-- the model's times and sides -/
abbrev tmM (M : Nat → Int32) (i : Nat) : Int32 := M (88 + 2 * i)
abbrev sdM (M : Nat → Int32) (i : Nat) : Int32 := M (88 + 2 * i + 1)
theorem c_X12_orders {n : Nat} {I : HI} (hM : Mo g P) (e1 : I 110 3 = nI n) (hn : n ≤ 5) (hT : okTs (tmM (I 110)) n) : ∀ (r : Nat) {d : Nat} {used sheave time x : Int32} {t : OT} {Φ : Option Value → Sh → HP → HI → Prop}, r + 1 ≤ d → r ≤ n → x = nI (n - r) → okTm time (n - r) → okT t → Φ none g P (sM I (ord n (tmM (I 110)) (sdM (I 110)) r used sheave time t)) → MM Γ mX12_orders d 0 0 [.ref 109, .int x, .int used, .int sheave, .int time] g P (sM I t) Φ := by
  intro r
  have h0 := hM.1
  obtain ⟨n1, n2, n3⟩ := hM.now
  obtain ⟨t1, t2, t3⟩ := hM.rwo
  obtain ⟨b1, b2, b3⟩ := hM.bst
  have g0 : ∀ t, (sM I t) 110 = I 110 := fun t => sM_o (by decide) (by decide) (by decide)
  have f1 : ∀ t, (sM I t) 110 3 = nI n := fun t => by rw [g0]; exact e1
  induction r with
  | zero =>
    intro d used sheave time x t Φ hd hr hx hm hk hΦ
    refine MM_entry [some _, some _, some _, some _, some _, none, none] (by decide) (Nat.le_of_ble_eq_true rfl) rfl ?_
    unfold ord oLf at hΦ
    rw [Nat.sub_zero] at hx
    by_cases hb : btr time t.2.2 = true
    · rw [if_pos hb] at hΦ
      have cp : ∀ (N j : Nat) (y : Int32) (J : HI), n - j ≤ N → j ≤ n → y = nI j → J = sM I (t.1, va_cpy t.1 t.2.1 0 0 j, some time) → E Γ mX12_orders d 0 0 (QM Γ 0 0 Φ) 0 0 35 [some (.ref 109), some (.int x), some (.int used), some (.int sheave), some (.int time), some (.int y), none] [] g P J := by
        intro N
        induction N with
        | zero =>
          intro j y J hN hj hy hJ
          have : j = n := by omega
          subst this
          refine E_iload dX12_orders_35 rfl ?_
          refine E_iload_n (i := 1) dX12_orders_37 rfl rfl ?_
          refine E_icmp_ge (tgt := 61) dX12_orders_38 (by decide) (fun c_38 => ?_) (fun c_38 => absurd (by rw [hy, hx]; exact Int32.le_refl _) c_38)
          refine E_vret dX12_orders_61 rfl ?_
          rw [hJ]
          exact hΦ
        | succ N ih =>
          intro j y J hN hj hy hJ
          by_cases hjn : j = n
          · subst hjn
            refine E_iload dX12_orders_35 rfl ?_
            refine E_iload_n (i := 1) dX12_orders_37 rfl rfl ?_
            refine E_icmp_ge (tgt := 61) dX12_orders_38 (by decide) (fun c_38 => ?_) (fun c_38 => absurd (by rw [hy, hx]; exact Int32.le_refl _) c_38)
            refine E_vret dX12_orders_61 rfl ?_
            rw [hJ]
            exact hΦ
          · refine E_iload dX12_orders_35 rfl ?_
            refine E_iload_n (i := 1) dX12_orders_37 rfl rfl ?_
            refine E_icmp_ge (tgt := 61) dX12_orders_38 (by decide) (fun c_38 => absurd c_38 (by rw [hy, hx]; exact nI_ge (by omega) (by omega))) (fun c_38 => ?_)
            refine E_aload_n (i := 0) dX12_orders_41 rfl rfl ?_
            refine E_gr dX12_orders_42 gf_X12_54_12 rfl (by assumption) (by assumption) ?_
            refine E_iload dX12_orders_45 rfl ?_
            refine E_aload_n (i := 0) dX12_orders_47 rfl rfl ?_
            refine E_gr dX12_orders_48 gf_X12_51_12 rfl (by assumption) (by assumption) ?_
            refine E_iload dX12_orders_51 rfl ?_
            refine E_iaj j dX12_orders_53 (by assumption) hy (by omega) (by rw [t3]; omega) ?_
            refine E_isj j dX12_orders_54 (by assumption) hy (by first | decide | omega) (by rw [b3]; omega) ?_
            refine E_incC (c := 1) dX12_orders_55 rfl (by decide) (by decide) rfl ?_
            refine E_lv (lv' := [_, _, _, _, _, _, _]) rfl ?_
            refine E_goto (tgt := 35) dX12_orders_58 (by decide) ?_
            refine ih (j + 1) _ _ (by omega) (by omega) (by rw [hy, nI_1]) ?_
            have es := cpy_s t.1 t.2.1 0 0 j
            rw [Nat.zero_add] at es
            refine sM_eq ?_ ?_ ?_ ?_ ?_
            · rw [u2_oth _ (by decide), hJ, sM_1]
            · rw [u2_row, hJ, sM_1, sM_2, es]
            · rw [u2_oth _ (by decide), hJ, sM_b]
            · intro a q1 q2 q3
              rw [u2_oth _ q2, hJ, sM_o q1 q2 q3]
            · intro k hk
              rw [u2_oth _ (by decide), hJ, sM_16 hk]
      have st : u2 (sM I t) 109 19 time = sM I (t.1, va_cpy t.1 t.2.1 0 0 0, some time) := by
        refine sM_eq ?_ ?_ ?_ ?_ ?_
        · rw [u2_oth _ (by decide), sM_1]
        · rw [u2_oth _ (by decide), sM_2, cpy_0]
        · rw [u2_s]
          rfl
        · intro a q1 q2 q3
          rw [u2_oth _ q3, sM_o q1 q2 q3]
        · intro k hk
          rw [u2_o (fun h => hk h.2), sM_16 hk]
      cases e : t.2.2 with
      | none =>
        have eb : (sM I t) 109 19 = -1 := by rw [sM_b, e]; rfl
        refine E_iload_n (i := 1) dX12_orders_0 rfl rfl ?_
        refine E_aload_n (i := 0) dX12_orders_1 rfl rfl ?_
        refine E_gr dX12_orders_2 gf_X12_9_12 rfl (by assumption) (by assumption) ?_
        refine E_iconst (v := 3) dX12_orders_5 (by decide) ?_
        refine E_iaj 3 dX12_orders_6 (by assumption) rfl (by decide) (by rw [n3]; decide) ?_
        refine E_icmp_ne (tgt := 62) dX12_orders_7 (by decide) (fun c_7 => absurd (by rw [f1, hx]) c_7) (fun c_7 => ?_)
        refine E_aload_n (i := 0) dX12_orders_10 rfl rfl ?_
        refine E_gi dX12_orders_11 gf_X12_275_12 rfl (by assumption) ?_
        rw [eb]
        refine E_if_lt (tgt := 26) dX12_orders_14 (by decide) (fun c_14 => ?_) (fun c_14 => absurd (by decide) c_14)
        refine E_aload_n (i := 0) dX12_orders_26 rfl rfl ?_
        refine E_iload dX12_orders_27 rfl ?_
        refine E_pi dX12_orders_29 gf_X12_275_12 rfl (by assumption) ?_
        refine E_iconst (v := 0) dX12_orders_32 (by decide) ?_
        refine E_istoreC dX12_orders_33 (by decide) rfl ?_
        refine E_lv (lv' := [_, _, _, _, _, _, _]) rfl ?_
        exact cp n 0 _ _ (by omega) (by omega) rfl st
      | some v =>
        have eb : (sM I t) 109 19 = v := by rw [sM_b, e]; rfl
        rw [e] at hb
        have hlt : time < v := of_decide_eq_true hb
        have hv := hk v e
        refine E_iload_n (i := 1) dX12_orders_0 rfl rfl ?_
        refine E_aload_n (i := 0) dX12_orders_1 rfl rfl ?_
        refine E_gr dX12_orders_2 gf_X12_9_12 rfl (by assumption) (by assumption) ?_
        refine E_iconst (v := 3) dX12_orders_5 (by decide) ?_
        refine E_iaj 3 dX12_orders_6 (by assumption) rfl (by decide) (by rw [n3]; decide) ?_
        refine E_icmp_ne (tgt := 62) dX12_orders_7 (by decide) (fun c_7 => absurd (by rw [f1, hx]) c_7) (fun c_7 => ?_)
        refine E_aload_n (i := 0) dX12_orders_10 rfl rfl ?_
        refine E_gi dX12_orders_11 gf_X12_275_12 rfl (by assumption) ?_
        rw [eb]
        refine E_if_lt (tgt := 26) dX12_orders_14 (by decide) (fun c_14 => absurd c_14 (fun h => by rw [i32_lt] at h; have z : (0 : Int32).toInt = 0 := rfl; omega)) (fun c_14 => ?_)
        refine E_iload dX12_orders_17 rfl ?_
        refine E_aload_n (i := 0) dX12_orders_19 rfl rfl ?_
        refine E_gi dX12_orders_20 gf_X12_275_12 rfl (by assumption) ?_
        rw [eb]
        refine E_icmp_ge (tgt := 61) dX12_orders_23 (by decide) (fun c_23 => absurd c_23 (Int32.not_le.mpr hlt)) (fun c_23 => ?_)
        refine E_aload_n (i := 0) dX12_orders_26 rfl rfl ?_
        refine E_iload dX12_orders_27 rfl ?_
        refine E_pi dX12_orders_29 gf_X12_275_12 rfl (by assumption) ?_
        refine E_iconst (v := 0) dX12_orders_32 (by decide) ?_
        refine E_istoreC dX12_orders_33 (by decide) rfl ?_
        refine E_lv (lv' := [_, _, _, _, _, _, _]) rfl ?_
        exact cp n 0 _ _ (by omega) (by omega) rfl st
    · rw [if_neg hb] at hΦ
      cases e : t.2.2 with
      | none =>
        rw [e] at hb
        exact absurd rfl hb
      | some v =>
        have eb : (sM I t) 109 19 = v := by rw [sM_b, e]; rfl
        rw [e] at hb
        have hge : v ≤ time := Int32.not_lt.mp (fun q => hb (decide_eq_true q))
        have hv := hk v e
        refine E_iload_n (i := 1) dX12_orders_0 rfl rfl ?_
        refine E_aload_n (i := 0) dX12_orders_1 rfl rfl ?_
        refine E_gr dX12_orders_2 gf_X12_9_12 rfl (by assumption) (by assumption) ?_
        refine E_iconst (v := 3) dX12_orders_5 (by decide) ?_
        refine E_iaj 3 dX12_orders_6 (by assumption) rfl (by decide) (by rw [n3]; decide) ?_
        refine E_icmp_ne (tgt := 62) dX12_orders_7 (by decide) (fun c_7 => absurd (by rw [f1, hx]) c_7) (fun c_7 => ?_)
        refine E_aload_n (i := 0) dX12_orders_10 rfl rfl ?_
        refine E_gi dX12_orders_11 gf_X12_275_12 rfl (by assumption) ?_
        rw [eb]
        refine E_if_lt (tgt := 26) dX12_orders_14 (by decide) (fun c_14 => absurd c_14 (fun h => by rw [i32_lt] at h; have z : (0 : Int32).toInt = 0 := rfl; omega)) (fun c_14 => ?_)
        refine E_iload dX12_orders_17 rfl ?_
        refine E_aload_n (i := 0) dX12_orders_19 rfl rfl ?_
        refine E_gi dX12_orders_20 gf_X12_275_12 rfl (by assumption) ?_
        rw [eb]
        refine E_icmp_ge (tgt := 61) dX12_orders_23 (by decide) (fun c_23 => ?_) (fun c_23 => absurd (hge) c_23)
        refine E_vret dX12_orders_61 rfl ?_
        exact hΦ
  | succ r ih =>
    intro d used sheave time x t Φ hd hr hx hm hk hΦ
    refine MM_entry [some _, some _, some _, some _, some _, none, none] (by decide) (Nat.le_of_ble_eq_true rfl) rfl ?_
    unfold ord at hΦ
    have loop : ∀ (u i : Nat) (y : Int32) (w : Option Value) (t : OT), i + u = n → y = nI i → okT t → Φ none g P (sM I (ordL (ord n (tmM (I 110)) (sdM (I 110)) r) (tmM (I 110)) (sdM (I 110)) (n - (r + 1)) used sheave time u i t)) → E Γ mX12_orders d 0 0 (QM Γ 0 0 Φ) 0 0 65 [some (.ref 109), some (.int x), some (.int used), some (.int sheave), some (.int time), some (.int y), w] [] g P (sM I t) := by
      intro u
      induction u with
      | zero =>
        intro i y w t hi hy hk hΦ
        have : i = n := by omega
        subst this
        refine E_iload dX12_orders_65 rfl ?_
        refine E_aload_n (i := 0) dX12_orders_67 rfl rfl ?_
        refine E_gr dX12_orders_68 gf_X12_9_12 rfl (by assumption) (by assumption) ?_
        refine E_iconst (v := 3) dX12_orders_71 (by decide) ?_
        refine E_iaj 3 dX12_orders_72 (by assumption) rfl (by decide) (by rw [n3]; decide) ?_
        refine E_icmp_ge (tgt := 159) dX12_orders_73 (by decide) (fun c_73 => ?_) (fun c_73 => absurd (by rw [f1, hy]; exact Int32.le_refl _) c_73)
        refine E_vret dX12_orders_159 rfl ?_
        exact hΦ
      | succ u ih2 =>
        intro i y w t hi hy hk hΦ
        unfold ordL at hΦ
        by_cases hu : ub used i = 0
        · rw [if_pos hu] at hΦ
          have hu' := hu
          unfold ub at hu'
          have x0 : (88 : Int32) + 2 * y = nI (88 + 2 * i) := by rw [hy, nI_2m]; exact nI_add 88 (2 * i)
          have x1 : (88 : Int32) + 2 * y + 1 = nI (88 + 2 * i + 1) := by rw [x0, nI_1]
          have eT : ∀ t : OT, u2 (sM I t) 121 (n - (r + 1)) y = sM I (ur t.1 (n - (r + 1)) (nI i), t.2) := fun t => by
            rw [hy]
            refine sM_eq ?_ ?_ ?_ ?_ ?_
            · rw [u2_row, sM_1]
            · rw [u2_oth _ (by decide), sM_2]
            · rw [u2_oth _ (by decide), sM_b]
            · intro a h1 h2 h3
              rw [u2_oth _ h1, sM_o h1 h2 h3]
            · intro k hk
              rw [u2_oth _ (by decide), sM_16 hk]
          have hm2 := okTm_s hm (by omega) (hT i (by omega)) (e := if sdM (I 110) i = sheave then 0 else 5) (by split; exact Or.inl rfl; exact Or.inr rfl)
          rw [show n - (r + 1) + 1 = n - r by omega] at hm2
          have hx2 : x + 1 = nI (n - r) := by rw [hx, nI_1, show n - (r + 1) + 1 = n - r by omega]
          have hus : us used i = used ||| ((1 : Int32) <<< (y &&& 31)) := by rw [hy]; rfl
          have kn := ord_ok (sd := sdM (I 110)) hT hn r (us used i) (1 - sdM (I 110) i) _ (ur t.1 (n - (r + 1)) (nI i), t.2) (by omega) hm2 hk
          rw [hus] at hΦ kn
          by_cases hs : sdM (I 110) i = sheave
          · rw [if_pos hs] at hΦ hm2 kn
            refine E_iload dX12_orders_65 rfl ?_
            refine E_aload_n (i := 0) dX12_orders_67 rfl rfl ?_
            refine E_gr dX12_orders_68 gf_X12_9_12 rfl (by assumption) (by assumption) ?_
            refine E_iconst (v := 3) dX12_orders_71 (by decide) ?_
            refine E_iaj 3 dX12_orders_72 (by assumption) rfl (by decide) (by rw [n3]; decide) ?_
            refine E_icmp_ge (tgt := 159) dX12_orders_73 (by decide) (fun c_73 => absurd c_73 (by rw [f1, hy]; exact nI_ge (by omega) (by omega))) (fun c_73 => ?_)
            refine E_iload_n (i := 2) dX12_orders_76 rfl rfl ?_
            refine E_iload dX12_orders_77 rfl ?_
            refine E_ishr dX12_orders_79 ?_
            refine E_iconst (v := 1) dX12_orders_80 (by decide) ?_
            refine E_iand dX12_orders_81 ?_
            refine E_if_ne (tgt := 153) dX12_orders_82 (by decide) (fun c_82 => absurd (by rw [hy]; exact hu') c_82) (fun c_82 => ?_)
            refine E_aload_n (i := 0) dX12_orders_85 rfl rfl ?_
            refine E_gr dX12_orders_86 gf_X12_9_12 rfl (by assumption) (by assumption) ?_
            refine E_bipush (v := 88) dX12_orders_89 (by decide) ?_
            refine E_iconst (v := 2) dX12_orders_91 (by decide) ?_
            refine E_iload dX12_orders_92 rfl ?_
            refine E_imul dX12_orders_94 ?_
            refine E_iadd dX12_orders_95 ?_
            refine E_iconst (v := 1) dX12_orders_96 (by decide) ?_
            refine E_iadd dX12_orders_97 ?_
            refine E_iaj (88 + 2 * i + 1) dX12_orders_98 (by assumption) x1 (by omega) (by rw [n3]; omega) ?_
            rw [g0]
            refine E_istoreC dX12_orders_99 (by decide) rfl ?_
            refine E_lv (lv' := [_, _, _, _, _, _, _]) rfl ?_
            refine E_aload_n (i := 0) dX12_orders_101 rfl rfl ?_
            refine E_gr dX12_orders_102 gf_X12_51_12 rfl (by assumption) (by assumption) ?_
            refine E_iload_n (i := 1) dX12_orders_105 rfl rfl ?_
            refine E_iload dX12_orders_106 rfl ?_
            refine E_isj (n - (r + 1)) dX12_orders_108 (by assumption) hx (by first | decide | omega) (by rw [t3]; omega) ?_
            rw [eT]
            refine E_aload_n (i := 0) dX12_orders_109 rfl rfl ?_
            refine E_iload_n (i := 1) dX12_orders_110 rfl rfl ?_
            refine E_iconst (v := 1) dX12_orders_111 (by decide) ?_
            refine E_iadd dX12_orders_112 ?_
            refine E_iload_n (i := 2) dX12_orders_113 rfl rfl ?_
            refine E_iconst (v := 1) dX12_orders_114 (by decide) ?_
            refine E_iload dX12_orders_115 rfl ?_
            refine E_ishl dX12_orders_117 ?_
            refine E_ior dX12_orders_118 ?_
            refine E_iconst (v := 1) dX12_orders_119 (by decide) ?_
            refine E_iload dX12_orders_120 rfl ?_
            refine E_isub dX12_orders_122 ?_
            refine E_iload dX12_orders_123 rfl ?_
            refine E_aload_n (i := 0) dX12_orders_125 rfl rfl ?_
            refine E_gr dX12_orders_126 gf_X12_9_12 rfl (by assumption) (by assumption) ?_
            refine E_bipush (v := 88) dX12_orders_129 (by decide) ?_
            refine E_iconst (v := 2) dX12_orders_131 (by decide) ?_
            refine E_iload dX12_orders_132 rfl ?_
            refine E_imul dX12_orders_134 ?_
            refine E_iadd dX12_orders_135 ?_
            refine E_iaj (88 + 2 * i) dX12_orders_136 (by assumption) x0 (by omega) (by rw [n3]; omega) ?_
            rw [g0]
            refine E_iadd dX12_orders_137 ?_
            refine E_iload dX12_orders_138 rfl ?_
            refine E_iload_n (i := 3) dX12_orders_140 rfl rfl ?_
            refine E_icmp_ne (tgt := 148) dX12_orders_141 (by decide) (fun c_141 => absurd (hs) c_141) (fun c_141 => ?_)
            refine E_iconst (v := 0) dX12_orders_144 (by decide) ?_
            refine E_goto (tgt := 149) dX12_orders_145 (by decide) ?_
            refine E_iadd dX12_orders_149 ?_
            refine k_X12_orders_150 (mc' := 0) (ms' := 0) (rc := 0) (rs := 0) (by omega) (Nat.le_of_ble_eq_true rfl) (by assumption) (ih (by omega) (by omega) hx2 hm2 hk ?_)
            refine E_incC (c := 1) dX12_orders_153 rfl (by decide) (by decide) rfl ?_
            refine E_lv (lv' := [_, _, _, _, _, _, _]) rfl ?_
            refine E_goto (tgt := 65) dX12_orders_156 (by decide) ?_
            exact ih2 (i + 1) _ _ _ (by omega) (by rw [hy, nI_1]) kn hΦ
          · rw [if_neg hs] at hΦ hm2 kn
            refine E_iload dX12_orders_65 rfl ?_
            refine E_aload_n (i := 0) dX12_orders_67 rfl rfl ?_
            refine E_gr dX12_orders_68 gf_X12_9_12 rfl (by assumption) (by assumption) ?_
            refine E_iconst (v := 3) dX12_orders_71 (by decide) ?_
            refine E_iaj 3 dX12_orders_72 (by assumption) rfl (by decide) (by rw [n3]; decide) ?_
            refine E_icmp_ge (tgt := 159) dX12_orders_73 (by decide) (fun c_73 => absurd c_73 (by rw [f1, hy]; exact nI_ge (by omega) (by omega))) (fun c_73 => ?_)
            refine E_iload_n (i := 2) dX12_orders_76 rfl rfl ?_
            refine E_iload dX12_orders_77 rfl ?_
            refine E_ishr dX12_orders_79 ?_
            refine E_iconst (v := 1) dX12_orders_80 (by decide) ?_
            refine E_iand dX12_orders_81 ?_
            refine E_if_ne (tgt := 153) dX12_orders_82 (by decide) (fun c_82 => absurd (by rw [hy]; exact hu') c_82) (fun c_82 => ?_)
            refine E_aload_n (i := 0) dX12_orders_85 rfl rfl ?_
            refine E_gr dX12_orders_86 gf_X12_9_12 rfl (by assumption) (by assumption) ?_
            refine E_bipush (v := 88) dX12_orders_89 (by decide) ?_
            refine E_iconst (v := 2) dX12_orders_91 (by decide) ?_
            refine E_iload dX12_orders_92 rfl ?_
            refine E_imul dX12_orders_94 ?_
            refine E_iadd dX12_orders_95 ?_
            refine E_iconst (v := 1) dX12_orders_96 (by decide) ?_
            refine E_iadd dX12_orders_97 ?_
            refine E_iaj (88 + 2 * i + 1) dX12_orders_98 (by assumption) x1 (by omega) (by rw [n3]; omega) ?_
            rw [g0]
            refine E_istoreC dX12_orders_99 (by decide) rfl ?_
            refine E_lv (lv' := [_, _, _, _, _, _, _]) rfl ?_
            refine E_aload_n (i := 0) dX12_orders_101 rfl rfl ?_
            refine E_gr dX12_orders_102 gf_X12_51_12 rfl (by assumption) (by assumption) ?_
            refine E_iload_n (i := 1) dX12_orders_105 rfl rfl ?_
            refine E_iload dX12_orders_106 rfl ?_
            refine E_isj (n - (r + 1)) dX12_orders_108 (by assumption) hx (by first | decide | omega) (by rw [t3]; omega) ?_
            rw [eT]
            refine E_aload_n (i := 0) dX12_orders_109 rfl rfl ?_
            refine E_iload_n (i := 1) dX12_orders_110 rfl rfl ?_
            refine E_iconst (v := 1) dX12_orders_111 (by decide) ?_
            refine E_iadd dX12_orders_112 ?_
            refine E_iload_n (i := 2) dX12_orders_113 rfl rfl ?_
            refine E_iconst (v := 1) dX12_orders_114 (by decide) ?_
            refine E_iload dX12_orders_115 rfl ?_
            refine E_ishl dX12_orders_117 ?_
            refine E_ior dX12_orders_118 ?_
            refine E_iconst (v := 1) dX12_orders_119 (by decide) ?_
            refine E_iload dX12_orders_120 rfl ?_
            refine E_isub dX12_orders_122 ?_
            refine E_iload dX12_orders_123 rfl ?_
            refine E_aload_n (i := 0) dX12_orders_125 rfl rfl ?_
            refine E_gr dX12_orders_126 gf_X12_9_12 rfl (by assumption) (by assumption) ?_
            refine E_bipush (v := 88) dX12_orders_129 (by decide) ?_
            refine E_iconst (v := 2) dX12_orders_131 (by decide) ?_
            refine E_iload dX12_orders_132 rfl ?_
            refine E_imul dX12_orders_134 ?_
            refine E_iadd dX12_orders_135 ?_
            refine E_iaj (88 + 2 * i) dX12_orders_136 (by assumption) x0 (by omega) (by rw [n3]; omega) ?_
            rw [g0]
            refine E_iadd dX12_orders_137 ?_
            refine E_iload dX12_orders_138 rfl ?_
            refine E_iload_n (i := 3) dX12_orders_140 rfl rfl ?_
            refine E_icmp_ne (tgt := 148) dX12_orders_141 (by decide) (fun c_141 => ?_) (fun c_141 => absurd c_141 (hs))
            refine E_iconst (v := 5) dX12_orders_148 (by decide) ?_
            refine E_iadd dX12_orders_149 ?_
            refine k_X12_orders_150 (mc' := 0) (ms' := 0) (rc := 0) (rs := 0) (by omega) (Nat.le_of_ble_eq_true rfl) (by assumption) (ih (by omega) (by omega) hx2 hm2 hk ?_)
            refine E_incC (c := 1) dX12_orders_153 rfl (by decide) (by decide) rfl ?_
            refine E_lv (lv' := [_, _, _, _, _, _, _]) rfl ?_
            refine E_goto (tgt := 65) dX12_orders_156 (by decide) ?_
            exact ih2 (i + 1) _ _ _ (by omega) (by rw [hy, nI_1]) kn hΦ
        · rw [if_neg hu] at hΦ
          have hu' := hu
          unfold ub at hu'
          refine E_iload dX12_orders_65 rfl ?_
          refine E_aload_n (i := 0) dX12_orders_67 rfl rfl ?_
          refine E_gr dX12_orders_68 gf_X12_9_12 rfl (by assumption) (by assumption) ?_
          refine E_iconst (v := 3) dX12_orders_71 (by decide) ?_
          refine E_iaj 3 dX12_orders_72 (by assumption) rfl (by decide) (by rw [n3]; decide) ?_
          refine E_icmp_ge (tgt := 159) dX12_orders_73 (by decide) (fun c_73 => absurd c_73 (by rw [f1, hy]; exact nI_ge (by omega) (by omega))) (fun c_73 => ?_)
          refine E_iload_n (i := 2) dX12_orders_76 rfl rfl ?_
          refine E_iload dX12_orders_77 rfl ?_
          refine E_ishr dX12_orders_79 ?_
          refine E_iconst (v := 1) dX12_orders_80 (by decide) ?_
          refine E_iand dX12_orders_81 ?_
          refine E_if_ne (tgt := 153) dX12_orders_82 (by decide) (fun c_82 => ?_) (fun c_82 => absurd c_82 (by rw [hy]; exact hu'))
          refine E_incC (c := 1) dX12_orders_153 rfl (by decide) (by decide) rfl ?_
          refine E_lv (lv' := [_, _, _, _, _, _, _]) rfl ?_
          refine E_goto (tgt := 65) dX12_orders_156 (by decide) ?_
          exact ih2 (i + 1) _ _ _ (by omega) (by rw [hy, nI_1]) hk hΦ
    refine E_iload_n (i := 1) dX12_orders_0 rfl rfl ?_
    refine E_aload_n (i := 0) dX12_orders_1 rfl rfl ?_
    refine E_gr dX12_orders_2 gf_X12_9_12 rfl (by assumption) (by assumption) ?_
    refine E_iconst (v := 3) dX12_orders_5 (by decide) ?_
    refine E_iaj 3 dX12_orders_6 (by assumption) rfl (by decide) (by rw [n3]; decide) ?_
    refine E_icmp_ne (tgt := 62) dX12_orders_7 (by decide) (fun c_7 => ?_) (fun c_7 => absurd c_7 (by rw [f1, hx]; exact nI_ne (by omega) (by omega) (by omega)))
    refine E_iconst (v := 0) dX12_orders_62 (by decide) ?_
    refine E_istoreC dX12_orders_63 (by decide) rfl ?_
    refine E_lv (lv' := [_, _, _, _, _, _, _]) rfl ?_
    exact loop n 0 _ _ t (by omega) rfl hk hΦ
end
section
variable {Γ : GE} {d : Nat} {g : Sh} {P : HP} {I : HI} {Φ : Option Value → Sh → HP → HI → Prop}
theorem c_X12_order {y : Int32} {n : Nat} (hd : n + 2 ≤ d) (hM : Mo g P) (e1 : I 110 3 = nI n) (hn : n ≤ 5) (hT : okTs (tmM (I 110)) n) (h1 : ¬ -1 ≤ y → Φ (some (.int (er 1))) g P (flM I 1)) (h2 : -1 ≤ y → nI n ≤ y → Φ (some (.int (er 2))) g P (flM I 2)) (h3 : ∀ v, y = -1 → (ordA n (tmM (I 110)) (sdM (I 110)) (I 121) (I 122)).2.2 = some v → Φ (some (.int v)) g P (sM I (ordA n (tmM (I 110)) (sdM (I 110)) (I 121) (I 122)))) (h4 : ∀ k, y = nI k → k < n → Φ (some (.int ((ordA n (tmM (I 110)) (sdM (I 110)) (I 121) (I 122)).2.1 k))) g P (sM I (ordA n (tmM (I 110)) (sdM (I 110)) (I 121) (I 122)))) : MM Γ mX12_order d 0 0 [.ref 109, .int y] g P I Φ := by
  refine MM_entry [some _, some _] (by decide) (Nat.le_of_ble_eq_true rfl) rfl ?_
  have h0 := hM.1
  obtain ⟨n1, n2, n3⟩ := hM.now
  obtain ⟨b1, b2, b3⟩ := hM.bst
  have es : u2 I 109 19 (-1) = sM I (I 121, I 122, none) := by
    refine sM_eq ?_ ?_ ?_ ?_ ?_
    · rw [u2_oth _ (by decide)]
    · rw [u2_oth _ (by decide)]
    · rw [u2_s]
      rfl
    · intro a q1 q2 q3
      rw [u2_oth _ q3]
    · intro k hk
      rw [u2_o (fun h => hk h.2)]
  have ok0 : okT (I 121, I 122, none) := fun v hv => by cases hv
  by_cases hy : -1 ≤ y
  · by_cases hy2 : nI n ≤ y
    · have hΦ := h2 hy hy2
      refine E_iload_n (i := 1) dX12_order_0 rfl rfl ?_
      refine E_iconst (v := -1) dX12_order_1 (by decide) ?_
      refine E_icmp_ge (tgt := 12) dX12_order_2 (by decide) (fun c_2 => ?_) (fun c_2 => absurd (hy) c_2)
      refine E_iload_n (i := 1) dX12_order_12 rfl rfl ?_
      refine E_aload_n (i := 0) dX12_order_13 rfl rfl ?_
      refine E_gr dX12_order_14 gf_X12_9_12 rfl (by assumption) (by assumption) ?_
      refine E_iconst (v := 3) dX12_order_17 (by decide) ?_
      refine E_iaj 3 dX12_order_18 (by assumption) rfl (by decide) (by rw [n3]; decide) ?_
      rw [e1]
      refine E_icmp_lt (tgt := 29) dX12_order_19 (by decide) (fun c_19 => absurd c_19 (Int32.not_lt.mpr hy2)) (fun c_19 => ?_)
      refine E_aload_n (i := 0) dX12_order_22 rfl rfl ?_
      refine E_ldc (v := -1000000002) dX12_order_23 w_1275 ?_
      refine k_X12_order_25 (mc' := 0) (ms' := 0) (rc := 0) (rs := 0) (by omega) (Nat.le_of_ble_eq_true rfl) (by assumption) (c_find2 hM ?_)
      refine E_iret dX12_order_28 rfl ?_
      exact hΦ
    · obtain ⟨v, hv⟩ := ordA_some (tmM (I 110)) (sdM (I 110)) (I 121) (I 122) hn
      by_cases cm : y = -1
      · have hΦ := h3 v cm hv
        refine E_iload_n (i := 1) dX12_order_0 rfl rfl ?_
        refine E_iconst (v := -1) dX12_order_1 (by decide) ?_
        refine E_icmp_ge (tgt := 12) dX12_order_2 (by decide) (fun c_2 => ?_) (fun c_2 => absurd (hy) c_2)
        refine E_iload_n (i := 1) dX12_order_12 rfl rfl ?_
        refine E_aload_n (i := 0) dX12_order_13 rfl rfl ?_
        refine E_gr dX12_order_14 gf_X12_9_12 rfl (by assumption) (by assumption) ?_
        refine E_iconst (v := 3) dX12_order_17 (by decide) ?_
        refine E_iaj 3 dX12_order_18 (by assumption) rfl (by decide) (by rw [n3]; decide) ?_
        rw [e1]
        refine E_icmp_lt (tgt := 29) dX12_order_19 (by decide) (fun c_19 => ?_) (fun c_19 => absurd (Int32.not_le.mp hy2) c_19)
        refine E_aload_n (i := 0) dX12_order_29 rfl rfl ?_
        refine E_iconst (v := -1) dX12_order_30 (by decide) ?_
        refine E_pi dX12_order_31 gf_X12_275_12 rfl (by assumption) ?_
        rw [es]
        refine E_aload_n (i := 0) dX12_order_34 rfl rfl ?_
        refine E_iconst (v := 0) dX12_order_35 (by decide) ?_
        refine E_iconst (v := 0) dX12_order_36 (by decide) ?_
        refine E_iconst (v := 0) dX12_order_37 (by decide) ?_
        refine E_iconst (v := 0) dX12_order_38 (by decide) ?_
        refine k_X12_order_39 (mc' := 0) (ms' := 0) (rc := 0) (rs := 0) (by omega) (Nat.le_of_ble_eq_true rfl) (by assumption) (c_X12_orders hM e1 hn hT n (by omega) (Nat.le_refl _) (by rw [Nat.sub_self]; rfl) (okTm_0 _) ok0 ?_)
        refine E_iload_n (i := 1) dX12_order_42 rfl rfl ?_
        refine E_if_ge (tgt := 53) dX12_order_43 (by decide) (fun c_43 => absurd c_43 (by rw [cm]; decide)) (fun c_43 => ?_)
        refine E_aload_n (i := 0) dX12_order_46 rfl rfl ?_
        refine E_gi dX12_order_47 gf_X12_275_12 rfl (by assumption) ?_
        rw [sM_b, hv]
        refine E_goto (tgt := 59) dX12_order_50 (by decide) ?_
        refine E_iret dX12_order_59 rfl ?_
        exact hΦ
      · have y1 := i32_le.mp hy
        have y2 := i32_lt.mp (Int32.not_le.mp hy2)
        have y3 : ¬ y.toInt = -1 := fun e => cm (Int32.toInt_inj.mp e)
        have em : (-1 : Int32).toInt = -1 := rfl
        rw [nI_toInt (by omega)] at y2
        obtain ⟨k, hyk, hk⟩ : ∃ k, y = nI k ∧ k < n := ⟨y.toInt.toNat, by
          apply Int32.toInt_inj.mp
          rw [nI_toInt (by omega)]
          omega, by omega⟩
        have hΦ := h4 k hyk hk
        refine E_iload_n (i := 1) dX12_order_0 rfl rfl ?_
        refine E_iconst (v := -1) dX12_order_1 (by decide) ?_
        refine E_icmp_ge (tgt := 12) dX12_order_2 (by decide) (fun c_2 => ?_) (fun c_2 => absurd (hy) c_2)
        refine E_iload_n (i := 1) dX12_order_12 rfl rfl ?_
        refine E_aload_n (i := 0) dX12_order_13 rfl rfl ?_
        refine E_gr dX12_order_14 gf_X12_9_12 rfl (by assumption) (by assumption) ?_
        refine E_iconst (v := 3) dX12_order_17 (by decide) ?_
        refine E_iaj 3 dX12_order_18 (by assumption) rfl (by decide) (by rw [n3]; decide) ?_
        rw [e1]
        refine E_icmp_lt (tgt := 29) dX12_order_19 (by decide) (fun c_19 => ?_) (fun c_19 => absurd (Int32.not_le.mp hy2) c_19)
        refine E_aload_n (i := 0) dX12_order_29 rfl rfl ?_
        refine E_iconst (v := -1) dX12_order_30 (by decide) ?_
        refine E_pi dX12_order_31 gf_X12_275_12 rfl (by assumption) ?_
        rw [es]
        refine E_aload_n (i := 0) dX12_order_34 rfl rfl ?_
        refine E_iconst (v := 0) dX12_order_35 (by decide) ?_
        refine E_iconst (v := 0) dX12_order_36 (by decide) ?_
        refine E_iconst (v := 0) dX12_order_37 (by decide) ?_
        refine E_iconst (v := 0) dX12_order_38 (by decide) ?_
        refine k_X12_order_39 (mc' := 0) (ms' := 0) (rc := 0) (rs := 0) (by omega) (Nat.le_of_ble_eq_true rfl) (by assumption) (c_X12_orders hM e1 hn hT n (by omega) (Nat.le_refl _) (by rw [Nat.sub_self]; rfl) (okTm_0 _) ok0 ?_)
        refine E_iload_n (i := 1) dX12_order_42 rfl rfl ?_
        refine E_if_ge (tgt := 53) dX12_order_43 (by decide) (fun c_43 => ?_) (fun c_43 => absurd (by rw [hyk]; exact nI_pos' (by omega)) c_43)
        refine E_aload_n (i := 0) dX12_order_53 rfl rfl ?_
        refine E_gr dX12_order_54 gf_X12_54_12 rfl (by assumption) (by assumption) ?_
        refine E_iload_n (i := 1) dX12_order_57 rfl rfl ?_
        refine E_iaj k dX12_order_58 (by assumption) hyk (by omega) (by rw [b3]; omega) ?_
        refine E_iret dX12_order_59 rfl ?_
        rw [sM_2]
        exact hΦ
  · have hΦ := h1 hy
    refine E_iload_n (i := 1) dX12_order_0 rfl rfl ?_
    refine E_iconst (v := -1) dX12_order_1 (by decide) ?_
    refine E_icmp_ge (tgt := 12) dX12_order_2 (by decide) (fun c_2 => absurd c_2 (hy)) (fun c_2 => ?_)
    refine E_aload_n (i := 0) dX12_order_5 rfl rfl ?_
    refine E_ldc (v := -1000000001) dX12_order_6 w_1208 ?_
    refine k_X12_order_8 (mc' := 0) (ms' := 0) (rc := 0) (rs := 0) (by omega) (Nat.le_of_ble_eq_true rfl) (by assumption) (c_find1 hM ?_)
    refine E_iret dX12_order_11 rfl ?_
    exact hΦ
end
