/-! the model: what is ahead -/
theorem bk_eq {M A T : Nat → Int32} (h : ∀ y, 272 ≤ y → T y = M y) : cpk (cpk M A 272) T 272 = M := by
  funext y
  unfold cpk
  by_cases hy : y < 272
  · rw [if_pos hy, if_pos hy]
  · rw [if_neg hy]
    exact h y (by omega)
/-- the heap is the same but for what is put aside and scratch -/
def FA (I J : HI) : Prop := ∀ a, a ≠ 112 → a ≠ 118 → a ≠ 119 → J a = I a
abbrev asd (I : HI) : HI := ur I 112 (cpk (I 110) (I 112) 272)
theorem asd_o {I : HI} {a : Nat} (h : a ≠ 112) : asd I a = I a := ur_n _ _ h
/-- put back -/
theorem bk_FA {I J : HI} {T : Nat → Int32} (hF : FM (asd I) J) (hJ : J 110 = T) (hT : ∀ y, 272 ≤ y → T y = I 110 y) : FA I (ur J 110 (cpk (J 112) (J 110) 272)) := by
  intro a a1 a2 a3
  by_cases e : a = 110
  · subst e
    rw [ur_s, hJ, hF 112 (by decide) (by decide) (by decide), show asd I 112 = cpk (I 110) (I 112) 272 from ur_s _ _ _]
    exact bk_eq hT
  · rw [ur_n _ _ e, hF a e a2 a3, asd_o a1]
abbrev okA (x : Int32) : Prop := 0 ≤ x ∧ x ≤ 200
theorem okA_n {x : Int32} (h : okA x) : ∃ n, x = nI n ∧ n ≤ 200 := in_04 (n := 200) (by omega) h
section
variable {Γ : GE} {d : Nat} {g : Sh} {P : HP} {I : HI} {Φ : Option Value → Sh → HP → HI → Prop} {δ : List Int32} {k : Nat}
theorem tks_272 {M : Nat → Int32} (hk : k ≤ 8) (n : Nat) : ∀ y, 272 ≤ y → tks δ k M n y = M y := fun y hy => tks_o (by omega) (by omega) (by omega) n
theorem kdo_tks {M : Nat → Int32} {r : Nat} (n : Nat) : kdo (tks δ k M n) r = kdo M r := by unfold kdo; rw [tks_k (by omega)]
theorem c_X12_strands {x : Int32} (hd : 8 ≤ d) (hM : Mo g P) (hV : VM (I 110) k) (hT : TC 0 δ (I 110)) (h1 : ∀ n, x = nI n → n ≤ 200 → ∀ J, FA I J → Φ (some (.int (tks δ k (I 110) n 15))) g P J) (h2 : ¬ okA x → Φ (some (.int (er 1))) g P (flM I 1)) : MM Γ mX12_strands d 0 0 [.ref 109, .int x] g P I Φ := by
  refine MM_entry [some _, some _] (by decide) (Nat.le_of_ble_eq_true rfl) rfl ?_
  have h0 := hM.1
  obtain ⟨n1, n2, n3⟩ := hM.now
  obtain ⟨a1, a2, a3⟩ := hM.aside
  have i110 : asd I 110 = I 110 := asd_o (by decide)
  by_cases hc : okA x
  · obtain ⟨n, hn, hn2⟩ := okA_n hc
    refine E_iload_n (i := 1) dX12_strands_0 rfl rfl ?_
    refine k_X12_strands_1 (mc' := 0) (ms' := 0) (rc := 0) (rs := 0) (by omega) (Nat.le_of_ble_eq_true rfl) (c_X12_isAhead (by omega) ?_)
    rw [bz_t hc]
    refine E_if_ne (tgt := 14) dX12_strands_4 (by decide) (fun c_4 => ?_) (fun c_4 => absurd c_4 (by decide))
    refine E_aload_n (i := 0) dX12_strands_14 rfl rfl ?_
    refine E_gr dX12_strands_15 gf_X12_9_12 rfl (by assumption) (by assumption) ?_
    refine E_aload_n (i := 0) dX12_strands_18 rfl rfl ?_
    refine E_gr dX12_strands_19 gf_X12_16_12 rfl (by assumption) (by assumption) ?_
    refine k_X12_strands_22 (mc' := 0) (ms' := 0) (rc := 0) (rs := 0) (by omega) (Nat.le_of_ble_eq_true rfl) (c_X12_copy n2 n3 a2 a3 (by decide) ?_)
    refine E_aload_n (i := 0) dX12_strands_25 rfl rfl ?_
    refine E_iload_n (i := 1) dX12_strands_26 rfl rfl ?_
    refine k_X12_strands_27 (mc' := 0) (ms' := 0) (rc := 0) (rs := 0) (by omega) (Nat.le_of_ble_eq_true rfl) (by assumption) (c_X12_ticksGo (δ := δ) (k := k) (I := asd I) (by omega) hM (by rw [i110]; exact hV) (by rw [i110]; exact hT) hn hn2 (fun J f1 f2 => ?_))
    refine E_aload_n (i := 0) dX12_strands_30 rfl rfl ?_
    refine E_aload_n (i := 0) dX12_strands_31 rfl rfl ?_
    refine E_gr dX12_strands_32 gf_X12_9_12 rfl (by assumption) (by assumption) ?_
    refine E_bipush (v := 15) dX12_strands_35 (by decide) ?_
    refine E_iaj 15 dX12_strands_37 (by assumption) rfl (by decide) (by rw [n3]; decide) ?_
    rw [f2, i110]
    refine k_X12_strands_38 (mc' := 0) (ms' := 0) (rc := 0) (rs := 0) (by omega) (Nat.le_of_ble_eq_true rfl) (by assumption) (c_X12_back (by omega) hM ?_)
    refine E_iret dX12_strands_41 rfl ?_
    exact h1 n hn hn2 _ (bk_FA f1 (f2.trans (by rw [i110])) (tks_272 hV.2.1 n))
  · have hΦ := h2 hc
    refine E_iload_n (i := 1) dX12_strands_0 rfl rfl ?_
    refine k_X12_strands_1 (mc' := 0) (ms' := 0) (rc := 0) (rs := 0) (by omega) (Nat.le_of_ble_eq_true rfl) (c_X12_isAhead (by omega) ?_)
    rw [bz_f hc]
    refine E_if_ne (tgt := 14) dX12_strands_4 (by decide) (fun c_4 => absurd (rfl) c_4) (fun c_4 => ?_)
    refine E_aload_n (i := 0) dX12_strands_7 rfl rfl ?_
    refine E_ldc (v := -1000000001) dX12_strands_8 w_1208 ?_
    refine k_X12_strands_10 (mc' := 0) (ms' := 0) (rc := 0) (rs := 0) (by omega) (Nat.le_of_ble_eq_true rfl) (by assumption) (c_find1 hM ?_)
    refine E_iret dX12_strands_13 rfl ?_
    exact hΦ
theorem c_X12_then {x y z : Int32} (hd : 8 ≤ d) (hM : Mo g P) (hV : VM (I 110) k) (hT : TC 0 δ (I 110)) (h1 : ∀ n r f, x = nI n → n ≤ 200 → y = nI r → r < k → z = nI f → f ≤ 8 → ∀ J, FA I J → Φ (some (.int (tolM (kdo (I 110) r) (tks δ k (I 110) n) r f))) g P J) (h2 : ¬ (okA x ∧ (0 ≤ y ∧ y ≤ nI k - 1) ∧ (0 ≤ z ∧ z ≤ 8)) → Φ (some (.int (er 1))) g P (flM I 1)) : MM Γ mX12_then d 0 0 [.ref 109, .int x, .int y, .int z] g P I Φ := by
  refine MM_entry [some _, some _, some _, some _] (by decide) (Nat.le_of_ble_eq_true rfl) rfl ?_
  have h0 := hM.1
  obtain ⟨n1, n2, n3⟩ := hM.now
  obtain ⟨a1, a2, a3⟩ := hM.aside
  have hk8 := hV.2.1
  have e1 : I 110 1 = nI k := hV.1
  have i110 : asd I 110 = I 110 := asd_o (by decide)
  by_cases hc : okA x
  · by_cases hc2 : 0 ≤ y ∧ y ≤ nI k - 1
    · by_cases hc3 : 0 ≤ z ∧ z ≤ 8
      · obtain ⟨n, hn, hn2⟩ := okA_n hc
        obtain ⟨r, hr, hr2⟩ := in_nat (by omega) hc2
        obtain ⟨f, hf, hf2⟩ := in_04 (n := 8) (by omega) hc3
        have hVn : VM (tks δ k (I 110) n) k := VM_tks hV n
        have hVr := hVn.2.2.2 r hr2
        have hkd := hVr.kd
        have hh1 := h1 n r f hn hn2 hr hr2 hf hf2
        have ek : kdo (tks δ k (I 110) n) r = kdo (I 110) r := kdo_tks n
        rw [ek] at hkd
        refine E_iload_n (i := 1) dX12_then_0 rfl rfl ?_
        refine k_X12_then_1 (mc' := 0) (ms' := 0) (rc := 0) (rs := 0) (by omega) (Nat.le_of_ble_eq_true rfl) (c_X12_isAhead (by omega) ?_)
        rw [bz_t hc]
        refine E_if_eq (tgt := 26) dX12_then_4 (by decide) (fun c_4 => absurd c_4 (by decide)) (fun c_4 => ?_)
        refine E_aload_n (i := 0) dX12_then_7 rfl rfl ?_
        refine E_iload_n (i := 2) dX12_then_8 rfl rfl ?_
        refine E_iconst (v := 1) dX12_then_9 (by decide) ?_
        refine k_X12_then_10 (mc' := 0) (ms' := 0) (rc := 0) (rs := 0) (by omega) (Nat.le_of_ble_eq_true rfl) (by assumption) (c_X12_is (k := 1) (by omega) hM rfl (by decide) ?_)
        rw [e1, bz_t hc2]
        refine E_if_eq (tgt := 26) dX12_then_13 (by decide) (fun c_13 => absurd c_13 (by decide)) (fun c_13 => ?_)
        refine E_iload_n (i := 3) dX12_then_16 rfl rfl ?_
        refine E_iconst (v := 0) dX12_then_17 (by decide) ?_
        refine E_bipush (v := 8) dX12_then_18 (by decide) ?_
        refine k_X12_then_20 (mc' := 0) (ms' := 0) (rc := 0) (rs := 0) (by omega) (Nat.le_of_ble_eq_true rfl) (c_X12_within ?_)
        rw [bz_t hc3]
        refine E_if_ne (tgt := 33) dX12_then_23 (by decide) (fun c_23 => ?_) (fun c_23 => absurd c_23 (by decide))
        refine E_aload_n (i := 0) dX12_then_33 rfl rfl ?_
        refine E_gr dX12_then_34 gf_X12_9_12 rfl (by assumption) (by assumption) ?_
        refine E_aload_n (i := 0) dX12_then_37 rfl rfl ?_
        refine E_gr dX12_then_38 gf_X12_16_12 rfl (by assumption) (by assumption) ?_
        refine k_X12_then_41 (mc' := 0) (ms' := 0) (rc := 0) (rs := 0) (by omega) (Nat.le_of_ble_eq_true rfl) (c_X12_copy n2 n3 a2 a3 (by decide) ?_)
        refine E_aload_n (i := 0) dX12_then_44 rfl rfl ?_
        refine E_iload_n (i := 1) dX12_then_45 rfl rfl ?_
        refine k_X12_then_46 (mc' := 0) (ms' := 0) (rc := 0) (rs := 0) (by omega) (Nat.le_of_ble_eq_true rfl) (by assumption) (c_X12_ticksGo (δ := δ) (k := k) (I := asd I) (by omega) hM (by rw [i110]; exact hV) (by rw [i110]; exact hT) hn hn2 (fun J f1 f2 => ?_))
        rw [i110] at f2
        refine E_aload_n (i := 0) dX12_then_49 rfl rfl ?_
        refine E_aload_n (i := 0) dX12_then_50 rfl rfl ?_
        refine E_iload_n (i := 2) dX12_then_51 rfl rfl ?_
        refine E_iload_n (i := 3) dX12_then_52 rfl rfl ?_
        refine k_X12_then_53 (mc' := 0) (ms' := 0) (rc := 0) (rs := 0) (by omega) (Nat.le_of_ble_eq_true rfl) (by assumption) (c_X12_rideTold (kd := kdo (I 110) r) (by omega) hM (by rw [f2]; exact hVn.2.2.1) hr (by omega) hf hf2 hkd.1 (by rw [f2]; exact hkd.2) (by rw [f2]; exact div10_pos hVr.2.2.2.1.1) ?_)
        rw [f2]
        refine k_X12_then_56 (mc' := 0) (ms' := 0) (rc := 0) (rs := 0) (by omega) (Nat.le_of_ble_eq_true rfl) (by assumption) (c_X12_back (by omega) hM ?_)
        refine E_iret dX12_then_59 rfl ?_
        exact hh1 _ (bk_FA f1 f2 (tks_272 hk8 n))
      · have hΦ := h2 (fun h => hc3 h.2.2)
        refine E_iload_n (i := 1) dX12_then_0 rfl rfl ?_
        refine k_X12_then_1 (mc' := 0) (ms' := 0) (rc := 0) (rs := 0) (by omega) (Nat.le_of_ble_eq_true rfl) (c_X12_isAhead (by omega) ?_)
        rw [bz_t hc]
        refine E_if_eq (tgt := 26) dX12_then_4 (by decide) (fun c_4 => absurd c_4 (by decide)) (fun c_4 => ?_)
        refine E_aload_n (i := 0) dX12_then_7 rfl rfl ?_
        refine E_iload_n (i := 2) dX12_then_8 rfl rfl ?_
        refine E_iconst (v := 1) dX12_then_9 (by decide) ?_
        refine k_X12_then_10 (mc' := 0) (ms' := 0) (rc := 0) (rs := 0) (by omega) (Nat.le_of_ble_eq_true rfl) (by assumption) (c_X12_is (k := 1) (by omega) hM rfl (by decide) ?_)
        rw [e1, bz_t hc2]
        refine E_if_eq (tgt := 26) dX12_then_13 (by decide) (fun c_13 => absurd c_13 (by decide)) (fun c_13 => ?_)
        refine E_iload_n (i := 3) dX12_then_16 rfl rfl ?_
        refine E_iconst (v := 0) dX12_then_17 (by decide) ?_
        refine E_bipush (v := 8) dX12_then_18 (by decide) ?_
        refine k_X12_then_20 (mc' := 0) (ms' := 0) (rc := 0) (rs := 0) (by omega) (Nat.le_of_ble_eq_true rfl) (c_X12_within ?_)
        rw [bz_f hc3]
        refine E_if_ne (tgt := 33) dX12_then_23 (by decide) (fun c_23 => absurd (rfl) c_23) (fun c_23 => ?_)
        refine E_aload_n (i := 0) dX12_then_26 rfl rfl ?_
        refine E_ldc (v := -1000000001) dX12_then_27 w_1208 ?_
        refine k_X12_then_29 (mc' := 0) (ms' := 0) (rc := 0) (rs := 0) (by omega) (Nat.le_of_ble_eq_true rfl) (by assumption) (c_find1 hM ?_)
        refine E_iret dX12_then_32 rfl ?_
        exact hΦ
    · have hΦ := h2 (fun h => hc2 h.2.1)
      refine E_iload_n (i := 1) dX12_then_0 rfl rfl ?_
      refine k_X12_then_1 (mc' := 0) (ms' := 0) (rc := 0) (rs := 0) (by omega) (Nat.le_of_ble_eq_true rfl) (c_X12_isAhead (by omega) ?_)
      rw [bz_t hc]
      refine E_if_eq (tgt := 26) dX12_then_4 (by decide) (fun c_4 => absurd c_4 (by decide)) (fun c_4 => ?_)
      refine E_aload_n (i := 0) dX12_then_7 rfl rfl ?_
      refine E_iload_n (i := 2) dX12_then_8 rfl rfl ?_
      refine E_iconst (v := 1) dX12_then_9 (by decide) ?_
      refine k_X12_then_10 (mc' := 0) (ms' := 0) (rc := 0) (rs := 0) (by omega) (Nat.le_of_ble_eq_true rfl) (by assumption) (c_X12_is (k := 1) (by omega) hM rfl (by decide) ?_)
      rw [e1, bz_f hc2]
      refine E_if_eq (tgt := 26) dX12_then_13 (by decide) (fun c_13 => ?_) (fun c_13 => absurd (rfl) c_13)
      refine E_aload_n (i := 0) dX12_then_26 rfl rfl ?_
      refine E_ldc (v := -1000000001) dX12_then_27 w_1208 ?_
      refine k_X12_then_29 (mc' := 0) (ms' := 0) (rc := 0) (rs := 0) (by omega) (Nat.le_of_ble_eq_true rfl) (by assumption) (c_find1 hM ?_)
      refine E_iret dX12_then_32 rfl ?_
      exact hΦ
  · have hΦ := h2 (fun h => hc h.1)
    refine E_iload_n (i := 1) dX12_then_0 rfl rfl ?_
    refine k_X12_then_1 (mc' := 0) (ms' := 0) (rc := 0) (rs := 0) (by omega) (Nat.le_of_ble_eq_true rfl) (c_X12_isAhead (by omega) ?_)
    rw [bz_f hc]
    refine E_if_eq (tgt := 26) dX12_then_4 (by decide) (fun c_4 => ?_) (fun c_4 => absurd (rfl) c_4)
    refine E_aload_n (i := 0) dX12_then_26 rfl rfl ?_
    refine E_ldc (v := -1000000001) dX12_then_27 w_1208 ?_
    refine k_X12_then_29 (mc' := 0) (ms' := 0) (rc := 0) (rs := 0) (by omega) (Nat.le_of_ble_eq_true rfl) (by assumption) (c_find1 hM ?_)
    refine E_iret dX12_then_32 rfl ?_
    exact hΦ
/-- of a ride: how it goes, by itself -/
def sq (M : Nat → Int32) (r : Nat) : Nat → R4 := r1n (c8 (wm M)) (kc (kdo M r)) (M (16 + 7 * r + 1)) (M (16 + 7 * r + 2)) (mR M r)
theorem sq_3 {M : Nat → Int32} {r : Nat} (hr : r < k) (n : Nat) : tks δ k M n (16 + 7 * r + 3) = (sq M r n).1 := congrArg (fun s : R4 => s.1) (mR_tks hr n)
theorem sq_4 {M : Nat → Int32} {r : Nat} (hr : r < k) (n : Nat) : tks δ k M n (16 + 7 * r + 4) = (sq M r n).2.1 := congrArg (fun s : R4 => s.2.1) (mR_tks hr n)
theorem sq_5 {M : Nat → Int32} {r : Nat} (hr : r < k) (n : Nat) : tks δ k M n (16 + 7 * r + 5) = (sq M r n).2.2.1 := congrArg (fun s : R4 => s.2.2.1) (mR_tks hr n)
theorem sq_6 {M : Nat → Int32} {r : Nat} (hr : r < k) (n : Nat) : tks δ k M n (16 + 7 * r + 6) = (sq M r n).2.2.2 := congrArg (fun s : R4 => s.2.2.2) (mR_tks hr n)
/-- it stands behind tick t -/
abbrev stB (s : Nat → R4) (t : Nat) : Prop := ¬ (s t).2.2.1 = 1 ∧ (s t).1 = (s (t - 1)).1 ∧ (s t).2.1 = (s (t - 1)).2.1
theorem c_X12_stands {x : Int32} (hd : 8 ≤ d) (hM : Mo g P) (hV : VM (I 110) k) (hT : TC 0 δ (I 110)) (h1 : ∀ r t, x = nI r → r < k → fnd (stB (sq (I 110) r)) 200 1 = some t → ∀ J, FA I J → Φ (some (.int (nI t))) g P J) (h2 : ∀ r, x = nI r → r < k → fnd (stB (sq (I 110) r)) 200 1 = none → ∀ J, FA I J → Φ (some (.int (er 2))) g P (flM J 2)) (h3 : ¬ (0 ≤ x ∧ x ≤ nI k - 1) → Φ (some (.int (er 1))) g P (flM I 1)) : MM Γ mX12_stands d 0 0 [.ref 109, .int x] g P I Φ := by
  refine MM_entry [some _, some _, none, none, none, none] (by decide) (Nat.le_of_ble_eq_true rfl) rfl ?_
  have h0 := hM.1
  obtain ⟨n1, n2, n3⟩ := hM.now
  obtain ⟨a1, a2, a3⟩ := hM.aside
  have hk8 := hV.2.1
  have e1 : I 110 1 = nI k := hV.1
  have i110 : asd I 110 = I 110 := asd_o (by decide)
  by_cases hc : 0 ≤ x ∧ x ≤ nI k - 1
  · obtain ⟨r, hr, hr2⟩ := in_nat (by omega) hc
    have hr8 : r < 8 := by omega
    have hh1 : ∀ t, Unit → fnd (stB (sq (I 110) r)) 200 1 = some t → ∀ J, FA I J → Φ (some (.int (nI t))) g P J := fun t _ q J f => h1 r t hr hr2 q J f
    have hh2 : Unit → fnd (stB (sq (I 110) r)) 200 1 = none → ∀ J, FA I J → Φ (some (.int (er 2))) g P (flM J 2) := fun _ q J f => h2 r hr hr2 q J f
    clear h1 h2
    have tailY : ∀ (t j : Nat) (y : Int32) (p q : Option Value) (J : HI), t ≤ 200 → (Unit → fnd (stB (sq (I 110) r)) 200 1 = some t) → FM (asd I) J → J 110 = tks δ k (I 110) j → E Γ mX12_stands d 0 0 (QM Γ 0 0 Φ) 0 0 104 [some (.ref 109), some (.int x), some (.int (nI t)), some (.int y), p, q] [] g P J := by
      intro t j y p q J ht hf hF hJ
      have hΦ := hh1 t () (hf ()) _ (bk_FA hF hJ (tks_272 hk8 j))
      refine E_aload_n (i := 0) dX12_stands_104 rfl rfl ?_
      refine E_gr dX12_stands_105 gf_X12_16_12 rfl (by assumption) (by assumption) ?_
      refine E_aload_n (i := 0) dX12_stands_108 rfl rfl ?_
      refine E_gr dX12_stands_109 gf_X12_9_12 rfl (by assumption) (by assumption) ?_
      refine k_X12_stands_112 (mc' := 0) (ms' := 0) (rc := 0) (rs := 0) (by omega) (Nat.le_of_ble_eq_true rfl) (c_X12_copy a2 a3 n2 n3 (by decide) ?_)
      refine E_iload_n (i := 2) dX12_stands_115 rfl rfl ?_
      refine E_if_ge (tgt := 128) dX12_stands_116 (by decide) (fun c_116 => ?_) (fun c_116 => absurd (nI_pos' (by omega)) c_116)
      refine E_iload_n (i := 2) dX12_stands_128 rfl rfl ?_
      refine E_iret dX12_stands_129 rfl ?_
      exact hΦ
    have tailN : ∀ (j : Nat) (y : Int32) (p q : Option Value) (J : HI), (Unit → fnd (stB (sq (I 110) r)) 200 1 = none) → FM (asd I) J → J 110 = tks δ k (I 110) j → E Γ mX12_stands d 0 0 (QM Γ 0 0 Φ) 0 0 104 [some (.ref 109), some (.int x), some (.int (-1)), some (.int y), p, q] [] g P J := by
      intro j y p q J hf hF hJ
      have hΦ := hh2 () (hf ()) _ (bk_FA hF hJ (tks_272 hk8 j))
      refine E_aload_n (i := 0) dX12_stands_104 rfl rfl ?_
      refine E_gr dX12_stands_105 gf_X12_16_12 rfl (by assumption) (by assumption) ?_
      refine E_aload_n (i := 0) dX12_stands_108 rfl rfl ?_
      refine E_gr dX12_stands_109 gf_X12_9_12 rfl (by assumption) (by assumption) ?_
      refine k_X12_stands_112 (mc' := 0) (ms' := 0) (rc := 0) (rs := 0) (by omega) (Nat.le_of_ble_eq_true rfl) (c_X12_copy a2 a3 n2 n3 (by decide) ?_)
      refine E_iload_n (i := 2) dX12_stands_115 rfl rfl ?_
      refine E_if_ge (tgt := 128) dX12_stands_116 (by decide) (fun c_116 => absurd c_116 (by decide)) (fun c_116 => ?_)
      refine E_aload_n (i := 0) dX12_stands_119 rfl rfl ?_
      refine E_ldc (v := -1000000002) dX12_stands_120 w_1275 ?_
      refine k_X12_stands_122 (mc' := 0) (ms' := 0) (rc := 0) (rs := 0) (by omega) (Nat.le_of_ble_eq_true rfl) (by assumption) (c_find2 hM ?_)
      refine E_goto (tgt := 129) dX12_stands_125 (by decide) ?_
      refine E_iret dX12_stands_129 rfl ?_
      exact hΦ
    have loop : ∀ (N j : Nat) (y : Int32) (p q : Option Value) (J : HI), 201 - j ≤ N → 1 ≤ j → j ≤ 201 → y = nI j → (Unit → fnd (stB (sq (I 110) r)) 200 1 = fnd (stB (sq (I 110) r)) (201 - j) j) → FM (asd I) J → J 110 = tks δ k (I 110) (j - 1) → E Γ mX12_stands d 0 0 (QM Γ 0 0 Φ) 0 0 31 [some (.ref 109), some (.int x), some (.int (-1)), some (.int y), p, q] [] g P J := by
      intro N
      induction N with
      | zero =>
        intro j y p q J hN hj1 hj hy hf hF hJ
        have hj2 : j = 201 := by omega
        have hff : Unit → fnd (stB (sq (I 110) r)) 200 1 = none := fun _ => by rw [hf (), hj2]; rfl
        refine E_iload_n (i := 3) dX12_stands_31 rfl rfl ?_
        refine E_sipush (v := 200) dX12_stands_32 (by decide) ?_
        refine E_icmp_gt (tgt := 104) dX12_stands_35 (by decide) (fun c_35 => ?_) (fun c_35 => absurd (by rw [hy, hj2]; decide) c_35)
        exact tailN _ _ _ _ _ hff hF hJ
      | succ N ih =>
        intro j y p q J hN hj1 hj hy hf hF hJ
        by_cases hj2 : j = 201
        · have hff : Unit → fnd (stB (sq (I 110) r)) 200 1 = none := fun _ => by rw [hf (), hj2]; rfl
          refine E_iload_n (i := 3) dX12_stands_31 rfl rfl ?_
          refine E_sipush (v := 200) dX12_stands_32 (by decide) ?_
          refine E_icmp_gt (tgt := 104) dX12_stands_35 (by decide) (fun c_35 => ?_) (fun c_35 => absurd (by rw [hy, hj2]; decide) c_35)
          exact tailN _ _ _ _ _ hff hF hJ
        · have hle : ¬ (200 : Int32) < y := by rw [hy]; exact nI_nlt (a := 200) (by omega) (by omega)
          have es : 201 - j = (201 - (j + 1)) + 1 := by omega
          have hVj : VM (J 110) k := by rw [hJ]; exact VM_tks hV _
          have hTj : TC 0 δ (J 110) := by rw [hJ]; exact TC_tks hk8 (by decide) hT _
          have p3 : J 110 (16 + 7 * r + 3) = (sq (I 110) r (j - 1)).1 := by rw [hJ, sq_3 hr2]
          have p4 : J 110 (16 + 7 * r + 4) = (sq (I 110) r (j - 1)).2.1 := by rw [hJ, sq_4 hr2]
          have ej : j = (j - 1) + 1 := by omega
          by_cases hs : stB (sq (I 110) r) j
          · have hff : Unit → fnd (stB (sq (I 110) r)) 200 1 = some j := fun _ => by rw [hf (), es, fnd, if_pos hs]
            have exitY : ∀ (K : HI) (p q : Option Value), FM (asd I) K → K 110 = tks δ k (I 110) j → E Γ mX12_stands d 0 0 (QM Γ 0 0 Φ) 0 0 31 [some (.ref 109), some (.int x), some (.int (nI j)), some (.int (nI j + 1)), p, q] [] g P K := by
              intro K p q hFK hK
              by_cases hj3 : j = 200
              · refine E_iload_n (i := 3) dX12_stands_31 rfl rfl ?_
                refine E_sipush (v := 200) dX12_stands_32 (by decide) ?_
                refine E_icmp_gt (tgt := 104) dX12_stands_35 (by decide) (fun c_35 => ?_) (fun c_35 => absurd (by rw [hj3]; decide) c_35)
                exact tailY j j _ _ _ _ (by omega) hff hFK hK
              · refine E_iload_n (i := 3) dX12_stands_31 rfl rfl ?_
                refine E_sipush (v := 200) dX12_stands_32 (by decide) ?_
                refine E_icmp_gt (tgt := 104) dX12_stands_35 (by decide) (fun c_35 => absurd c_35 (by rw [nI_1]; exact nI_nlt (a := 200) (by omega) (by omega))) (fun c_35 => ?_)
                refine E_iload_n (i := 2) dX12_stands_38 rfl rfl ?_
                refine E_if_ge (tgt := 104) dX12_stands_39 (by decide) (fun c_39 => ?_) (fun c_39 => absurd (nI_pos' (by omega)) c_39)
                exact tailY j j _ _ _ _ (by omega) hff hFK hK
            refine E_iload_n (i := 3) dX12_stands_31 rfl rfl ?_
            refine E_sipush (v := 200) dX12_stands_32 (by decide) ?_
            refine E_icmp_gt (tgt := 104) dX12_stands_35 (by decide) (fun c_35 => absurd c_35 (hle)) (fun c_35 => ?_)
            refine E_iload_n (i := 2) dX12_stands_38 rfl rfl ?_
            refine E_if_ge (tgt := 104) dX12_stands_39 (by decide) (fun c_39 => absurd c_39 (by decide)) (fun c_39 => ?_)
            refine E_aload_n (i := 0) dX12_stands_42 rfl rfl ?_
            refine E_iload_n (i := 1) dX12_stands_43 rfl rfl ?_
            refine E_iconst (v := 3) dX12_stands_44 (by decide) ?_
            refine k_X12_stands_45 (mc' := 0) (ms' := 0) (rc := 0) (rs := 0) (by omega) (Nat.le_of_ble_eq_true rfl) (by assumption) (c_X12_of (f := 3) hM hr rfl hr8 (by decide) ?_)
            refine E_istoreC dX12_stands_48 (by decide) rfl ?_
            refine E_lv (lv' := [_, _, _, _, _, _]) rfl ?_
            refine E_aload_n (i := 0) dX12_stands_50 rfl rfl ?_
            refine E_iload_n (i := 1) dX12_stands_51 rfl rfl ?_
            refine E_iconst (v := 4) dX12_stands_52 (by decide) ?_
            refine k_X12_stands_53 (mc' := 0) (ms' := 0) (rc := 0) (rs := 0) (by omega) (Nat.le_of_ble_eq_true rfl) (by assumption) (c_X12_of (f := 4) hM hr rfl hr8 (by decide) ?_)
            refine E_istoreC dX12_stands_56 (by decide) rfl ?_
            refine E_lv (lv' := [_, _, _, _, _, _]) rfl ?_
            refine E_aload_n (i := 0) dX12_stands_58 rfl rfl ?_
            refine k_X12_stands_59 (mc' := 0) (ms' := 0) (rc := 0) (rs := 0) (by omega) (Nat.le_of_ble_eq_true rfl) (by assumption) (c_X12_tick (δ := δ) (k := k) (by omega) hM hVj hTj (fun K f1 f2 => ?_))
            have hK : K 110 = tks δ k (I 110) j := by rw [f2, hJ, ej]; rfl
            have k3 : K 110 (16 + 7 * r + 3) = J 110 (16 + 7 * r + 3) := by rw [hK, sq_3 hr2, p3]; exact hs.2.1
            have k4 : K 110 (16 + 7 * r + 4) = J 110 (16 + 7 * r + 4) := by rw [hK, sq_4 hr2, p4]; exact hs.2.2
            have k5 : ¬ K 110 (16 + 7 * r + 5) = 1 := by rw [hK, sq_5 hr2]; exact hs.1
            refine E_aload_n (i := 0) dX12_stands_62 rfl rfl ?_
            refine E_iload_n (i := 1) dX12_stands_63 rfl rfl ?_
            refine k_X12_stands_64 (mc' := 0) (ms' := 0) (rc := 0) (rs := 0) (by omega) (Nat.le_of_ble_eq_true rfl) (by assumption) (c_X12_isIn (by omega) hM hr hr8 ?_)
            rw [bz_f k5]
            refine E_if_ne (tgt := 96) dX12_stands_67 (by decide) (fun c_67 => absurd (rfl) c_67) (fun c_67 => ?_)
            refine E_aload_n (i := 0) dX12_stands_70 rfl rfl ?_
            refine E_iload_n (i := 1) dX12_stands_71 rfl rfl ?_
            refine E_iconst (v := 3) dX12_stands_72 (by decide) ?_
            refine k_X12_stands_73 (mc' := 0) (ms' := 0) (rc := 0) (rs := 0) (by omega) (Nat.le_of_ble_eq_true rfl) (by assumption) (c_X12_of (f := 3) hM hr rfl hr8 (by decide) ?_)
            refine E_iload dX12_stands_76 rfl ?_
            refine E_icmp_ne (tgt := 96) dX12_stands_78 (by decide) (fun c_78 => absurd (k3) c_78) (fun c_78 => ?_)
            refine E_aload_n (i := 0) dX12_stands_81 rfl rfl ?_
            refine E_iload_n (i := 1) dX12_stands_82 rfl rfl ?_
            refine E_iconst (v := 4) dX12_stands_83 (by decide) ?_
            refine k_X12_stands_84 (mc' := 0) (ms' := 0) (rc := 0) (rs := 0) (by omega) (Nat.le_of_ble_eq_true rfl) (by assumption) (c_X12_of (f := 4) hM hr rfl hr8 (by decide) ?_)
            refine E_iload dX12_stands_87 rfl ?_
            refine E_icmp_ne (tgt := 96) dX12_stands_89 (by decide) (fun c_89 => absurd (k4) c_89) (fun c_89 => ?_)
            refine E_iload_n (i := 3) dX12_stands_92 rfl rfl ?_
            refine E_goto (tgt := 97) dX12_stands_93 (by decide) ?_
            refine E_istore_nC (i := 2) dX12_stands_97 rfl (by decide) rfl ?_
            refine E_lv (lv' := [_, _, _, _, _, _]) rfl ?_
            rw [hy]
            refine E_incC (c := 1) dX12_stands_98 rfl (by decide) (by decide) rfl ?_
            refine E_lv (lv' := [_, _, _, _, _, _]) rfl ?_
            refine E_goto (tgt := 31) dX12_stands_101 (by decide) ?_
            exact exitY K _ _ (hF.trans f1) hK
          · have hff : Unit → fnd (stB (sq (I 110) r)) 200 1 = fnd (stB (sq (I 110) r)) (201 - (j + 1)) (j + 1) := fun _ => by rw [hf (), es, fnd, if_neg hs]
            have fin : ∀ K, FM (asd I) K → K 110 = tks δ k (I 110) j → ∀ p q, E Γ mX12_stands d 0 0 (QM Γ 0 0 Φ) 0 0 31 [some (.ref 109), some (.int x), some (.int (-1)), some (.int (y + 1)), p, q] [] g P K := fun K f1 f2 p q => ih (j + 1) _ _ _ _ (by omega) (by omega) (by omega) (by rw [hy, nI_1]) hff f1 f2
            refine E_iload_n (i := 3) dX12_stands_31 rfl rfl ?_
            refine E_sipush (v := 200) dX12_stands_32 (by decide) ?_
            refine E_icmp_gt (tgt := 104) dX12_stands_35 (by decide) (fun c_35 => absurd c_35 (hle)) (fun c_35 => ?_)
            refine E_iload_n (i := 2) dX12_stands_38 rfl rfl ?_
            refine E_if_ge (tgt := 104) dX12_stands_39 (by decide) (fun c_39 => absurd c_39 (by decide)) (fun c_39 => ?_)
            refine E_aload_n (i := 0) dX12_stands_42 rfl rfl ?_
            refine E_iload_n (i := 1) dX12_stands_43 rfl rfl ?_
            refine E_iconst (v := 3) dX12_stands_44 (by decide) ?_
            refine k_X12_stands_45 (mc' := 0) (ms' := 0) (rc := 0) (rs := 0) (by omega) (Nat.le_of_ble_eq_true rfl) (by assumption) (c_X12_of (f := 3) hM hr rfl hr8 (by decide) ?_)
            refine E_istoreC dX12_stands_48 (by decide) rfl ?_
            refine E_lv (lv' := [_, _, _, _, _, _]) rfl ?_
            refine E_aload_n (i := 0) dX12_stands_50 rfl rfl ?_
            refine E_iload_n (i := 1) dX12_stands_51 rfl rfl ?_
            refine E_iconst (v := 4) dX12_stands_52 (by decide) ?_
            refine k_X12_stands_53 (mc' := 0) (ms' := 0) (rc := 0) (rs := 0) (by omega) (Nat.le_of_ble_eq_true rfl) (by assumption) (c_X12_of (f := 4) hM hr rfl hr8 (by decide) ?_)
            refine E_istoreC dX12_stands_56 (by decide) rfl ?_
            refine E_lv (lv' := [_, _, _, _, _, _]) rfl ?_
            refine E_aload_n (i := 0) dX12_stands_58 rfl rfl ?_
            refine k_X12_stands_59 (mc' := 0) (ms' := 0) (rc := 0) (rs := 0) (by omega) (Nat.le_of_ble_eq_true rfl) (by assumption) (c_X12_tick (δ := δ) (k := k) (by omega) hM hVj hTj (fun K f1 f2 => ?_))
            have hK : K 110 = tks δ k (I 110) j := by rw [f2, hJ, ej]; rfl
            refine E_aload_n (i := 0) dX12_stands_62 rfl rfl ?_
            refine E_iload_n (i := 1) dX12_stands_63 rfl rfl ?_
            refine k_X12_stands_64 (mc' := 0) (ms' := 0) (rc := 0) (rs := 0) (by omega) (Nat.le_of_ble_eq_true rfl) (by assumption) (c_X12_isIn (by omega) hM hr hr8 ?_)
            refine E_if_ne (tgt := 96) dX12_stands_67 (by decide) (fun c_67 => ?_) (fun c_67 => ?_)
            · refine E_iconst (v := -1) dX12_stands_96 (by decide) ?_
              refine E_istore_nC (i := 2) dX12_stands_97 rfl (by decide) rfl ?_
              refine E_lv (lv' := [_, _, _, _, _, _]) rfl ?_
              refine E_incC (c := 1) dX12_stands_98 rfl (by decide) (by decide) rfl ?_
              refine E_lv (lv' := [_, _, _, _, _, _]) rfl ?_
              refine E_goto (tgt := 31) dX12_stands_101 (by decide) ?_
              exact fin _ (hF.trans f1) hK _ _
            · refine E_aload_n (i := 0) dX12_stands_70 rfl rfl ?_
              refine E_iload_n (i := 1) dX12_stands_71 rfl rfl ?_
              refine E_iconst (v := 3) dX12_stands_72 (by decide) ?_
              refine k_X12_stands_73 (mc' := 0) (ms' := 0) (rc := 0) (rs := 0) (by omega) (Nat.le_of_ble_eq_true rfl) (by assumption) (c_X12_of (f := 3) hM hr rfl hr8 (by decide) ?_)
              refine E_iload dX12_stands_76 rfl ?_
              refine E_icmp_ne (tgt := 96) dX12_stands_78 (by decide) (fun c_78 => ?_) (fun c_78 => ?_)
              · refine E_iconst (v := -1) dX12_stands_96 (by decide) ?_
                refine E_istore_nC (i := 2) dX12_stands_97 rfl (by decide) rfl ?_
                refine E_lv (lv' := [_, _, _, _, _, _]) rfl ?_
                refine E_incC (c := 1) dX12_stands_98 rfl (by decide) (by decide) rfl ?_
                refine E_lv (lv' := [_, _, _, _, _, _]) rfl ?_
                refine E_goto (tgt := 31) dX12_stands_101 (by decide) ?_
                exact fin _ (hF.trans f1) hK _ _
              · refine E_aload_n (i := 0) dX12_stands_81 rfl rfl ?_
                refine E_iload_n (i := 1) dX12_stands_82 rfl rfl ?_
                refine E_iconst (v := 4) dX12_stands_83 (by decide) ?_
                refine k_X12_stands_84 (mc' := 0) (ms' := 0) (rc := 0) (rs := 0) (by omega) (Nat.le_of_ble_eq_true rfl) (by assumption) (c_X12_of (f := 4) hM hr rfl hr8 (by decide) ?_)
                refine E_iload dX12_stands_87 rfl ?_
                refine E_icmp_ne (tgt := 96) dX12_stands_89 (by decide) (fun c_89 => ?_) (fun c_89 => ?_)
                · refine E_iconst (v := -1) dX12_stands_96 (by decide) ?_
                  refine E_istore_nC (i := 2) dX12_stands_97 rfl (by decide) rfl ?_
                  refine E_lv (lv' := [_, _, _, _, _, _]) rfl ?_
                  refine E_incC (c := 1) dX12_stands_98 rfl (by decide) (by decide) rfl ?_
                  refine E_lv (lv' := [_, _, _, _, _, _]) rfl ?_
                  refine E_goto (tgt := 31) dX12_stands_101 (by decide) ?_
                  exact fin _ (hF.trans f1) hK _ _
                · exact absurd ⟨by rw [← sq_5 (δ := δ) hr2, ← hK]; exact bz_0.mp c_67, by rw [← sq_3 (δ := δ) hr2, ← hK, c_78, p3], by rw [← sq_4 (δ := δ) hr2, ← hK, c_89, p4]⟩ hs
    refine E_aload_n (i := 0) dX12_stands_0 rfl rfl ?_
    refine E_iload_n (i := 1) dX12_stands_1 rfl rfl ?_
    refine E_iconst (v := 1) dX12_stands_2 (by decide) ?_
    refine k_X12_stands_3 (mc' := 0) (ms' := 0) (rc := 0) (rs := 0) (by omega) (Nat.le_of_ble_eq_true rfl) (by assumption) (c_X12_is (k := 1) (by omega) hM rfl (by decide) ?_)
    rw [e1, bz_t hc]
    refine E_if_ne (tgt := 16) dX12_stands_6 (by decide) (fun c_6 => ?_) (fun c_6 => absurd c_6 (by decide))
    refine E_aload_n (i := 0) dX12_stands_16 rfl rfl ?_
    refine E_gr dX12_stands_17 gf_X12_9_12 rfl (by assumption) (by assumption) ?_
    refine E_aload_n (i := 0) dX12_stands_20 rfl rfl ?_
    refine E_gr dX12_stands_21 gf_X12_16_12 rfl (by assumption) (by assumption) ?_
    refine k_X12_stands_24 (mc' := 0) (ms' := 0) (rc := 0) (rs := 0) (by omega) (Nat.le_of_ble_eq_true rfl) (c_X12_copy n2 n3 a2 a3 (by decide) ?_)
    refine E_iconst (v := -1) dX12_stands_27 (by decide) ?_
    refine E_istore_nC (i := 2) dX12_stands_28 rfl (by decide) rfl ?_
    refine E_lv (lv' := [_, _, _, _, _, _]) rfl ?_
    refine E_iconst (v := 1) dX12_stands_29 (by decide) ?_
    refine E_istore_nC (i := 3) dX12_stands_30 rfl (by decide) rfl ?_
    refine E_lv (lv' := [_, _, _, _, _, _]) rfl ?_
    exact loop 200 1 _ _ _ (asd I) (by omega) (by omega) (by omega) rfl (fun _ => rfl) (FM.refl _) i110
  · have hΦ := h3 hc
    refine E_aload_n (i := 0) dX12_stands_0 rfl rfl ?_
    refine E_iload_n (i := 1) dX12_stands_1 rfl rfl ?_
    refine E_iconst (v := 1) dX12_stands_2 (by decide) ?_
    refine k_X12_stands_3 (mc' := 0) (ms' := 0) (rc := 0) (rs := 0) (by omega) (Nat.le_of_ble_eq_true rfl) (by assumption) (c_X12_is (k := 1) (by omega) hM rfl (by decide) ?_)
    rw [e1, bz_f hc]
    refine E_if_ne (tgt := 16) dX12_stands_6 (by decide) (fun c_6 => absurd (rfl) c_6) (fun c_6 => ?_)
    refine E_aload_n (i := 0) dX12_stands_9 rfl rfl ?_
    refine E_ldc (v := -1000000001) dX12_stands_10 w_1208 ?_
    refine k_X12_stands_12 (mc' := 0) (ms' := 0) (rc := 0) (rs := 0) (by omega) (Nat.le_of_ble_eq_true rfl) (by assumption) (c_find1 hM ?_)
    refine E_iret dX12_stands_15 rfl ?_
    exact hΦ
/-- it is in behind tick t -/
abbrev inB (s : Nat → R4) (t : Nat) : Prop := (s t).2.2.1 = 1
theorem c_X12_comesBy {r n : Nat} {x y : Int32} (hd : 7 ≤ d) (hM : Mo g P) (hV : VM (I 110) k) (hT : TC 0 δ (I 110)) (hx : x = nI r) (hr : r < k) (hy : y = nI n) (hn : n ≤ 200) (h1 : ∀ t, t ≤ n → (Unit → fnd (inB (sq (I 110) r)) (n + 1) 0 = some t) → ∀ J, FM I J → J 110 = tks δ k (I 110) t → Φ (some (.int (nI t))) g P J) (h2 : (Unit → fnd (inB (sq (I 110) r)) (n + 1) 0 = none) → ∀ J, FM I J → J 110 = tks δ k (I 110) n → Φ (some (.int (-1))) g P J) : MM Γ mX12_comesBy d 0 0 [.ref 109, .int x, .int y] g P I Φ := by
  refine MM_entry [some _, some _, some _, none] (by decide) (Nat.le_of_ble_eq_true rfl) rfl ?_
  have h0 := hM.1
  have hk8 := hV.2.1
  have hr8 : r < 8 := by omega
  have loop : ∀ (N j : Nat) (z : Int32) (J : HI), n - j ≤ N → j ≤ n → z = nI j → (Unit → fnd (inB (sq (I 110) r)) (n + 1) 0 = fnd (inB (sq (I 110) r)) (n + 1 - j) j) → FM I J → J 110 = tks δ k (I 110) j → E Γ mX12_comesBy d 0 0 (QM Γ 0 0 Φ) 0 0 2 [some (.ref 109), some (.int x), some (.int y), some (.int z)] [] g P J := by
    intro N
    induction N with
    | zero =>
      intro j z J hN hj hz hf hF hJ
      have hjn : j = n := by omega
      have hi : J 110 (16 + 7 * r + 5) = (sq (I 110) r j).2.2.1 := by rw [hJ, sq_5 hr]
      by_cases hs : inB (sq (I 110) r) j
      · have hΦ := h1 j hj (fun _ => by rw [hf (), show n + 1 - j = 0 + 1 by omega, fnd, if_pos hs]) J hF hJ
        refine E_iload_n (i := 3) dX12_comesBy_2 rfl rfl ?_
        refine E_iload_n (i := 2) dX12_comesBy_3 rfl rfl ?_
        refine E_icmp_ge (tgt := 25) dX12_comesBy_4 (by decide) (fun c_4 => ?_) (fun c_4 => absurd (by rw [hy, hz, hjn]; exact Int32.le_refl _) c_4)
        refine E_aload_n (i := 0) dX12_comesBy_25 rfl rfl ?_
        refine E_iload_n (i := 1) dX12_comesBy_26 rfl rfl ?_
        refine k_X12_comesBy_27 (mc' := 0) (ms' := 0) (rc := 0) (rs := 0) (by omega) (Nat.le_of_ble_eq_true rfl) (by assumption) (c_X12_isIn (by omega) hM hx hr8 ?_)
        rw [bz_t (hi.trans hs)]
        refine E_if_eq (tgt := 37) dX12_comesBy_30 (by decide) (fun c_30 => absurd c_30 (by decide)) (fun c_30 => ?_)
        refine E_iload_n (i := 3) dX12_comesBy_33 rfl rfl ?_
        refine E_goto (tgt := 38) dX12_comesBy_34 (by decide) ?_
        refine E_iret dX12_comesBy_38 rfl ?_
        rw [hz]
        exact hΦ
      · have hΦ := h2 (fun _ => by rw [hf (), show n + 1 - j = 0 + 1 by omega, fnd, if_neg hs]; rfl) J hF (by rw [hJ, hjn])
        refine E_iload_n (i := 3) dX12_comesBy_2 rfl rfl ?_
        refine E_iload_n (i := 2) dX12_comesBy_3 rfl rfl ?_
        refine E_icmp_ge (tgt := 25) dX12_comesBy_4 (by decide) (fun c_4 => ?_) (fun c_4 => absurd (by rw [hy, hz, hjn]; exact Int32.le_refl _) c_4)
        refine E_aload_n (i := 0) dX12_comesBy_25 rfl rfl ?_
        refine E_iload_n (i := 1) dX12_comesBy_26 rfl rfl ?_
        refine k_X12_comesBy_27 (mc' := 0) (ms' := 0) (rc := 0) (rs := 0) (by omega) (Nat.le_of_ble_eq_true rfl) (by assumption) (c_X12_isIn (by omega) hM hx hr8 ?_)
        rw [bz_f (fun q => hs (hi.symm.trans q))]
        refine E_if_eq (tgt := 37) dX12_comesBy_30 (by decide) (fun c_30 => ?_) (fun c_30 => absurd (rfl) c_30)
        refine E_iconst (v := -1) dX12_comesBy_37 (by decide) ?_
        refine E_iret dX12_comesBy_38 rfl ?_
        exact hΦ
    | succ N ih =>
      intro j z J hN hj hz hf hF hJ
      have hi : J 110 (16 + 7 * r + 5) = (sq (I 110) r j).2.2.1 := by rw [hJ, sq_5 hr]
      by_cases hs : inB (sq (I 110) r) j
      · have hΦ := h1 j hj (fun _ => by rw [hf (), show n + 1 - j = (n - j) + 1 by omega, fnd, if_pos hs]) J hF hJ
        by_cases hjn : j = n
        · refine E_iload_n (i := 3) dX12_comesBy_2 rfl rfl ?_
          refine E_iload_n (i := 2) dX12_comesBy_3 rfl rfl ?_
          refine E_icmp_ge (tgt := 25) dX12_comesBy_4 (by decide) (fun c_4 => ?_) (fun c_4 => absurd (by rw [hy, hz, hjn]; exact Int32.le_refl _) c_4)
          refine E_aload_n (i := 0) dX12_comesBy_25 rfl rfl ?_
          refine E_iload_n (i := 1) dX12_comesBy_26 rfl rfl ?_
          refine k_X12_comesBy_27 (mc' := 0) (ms' := 0) (rc := 0) (rs := 0) (by omega) (Nat.le_of_ble_eq_true rfl) (by assumption) (c_X12_isIn (by omega) hM hx hr8 ?_)
          rw [bz_t (hi.trans hs)]
          refine E_if_eq (tgt := 37) dX12_comesBy_30 (by decide) (fun c_30 => absurd c_30 (by decide)) (fun c_30 => ?_)
          refine E_iload_n (i := 3) dX12_comesBy_33 rfl rfl ?_
          refine E_goto (tgt := 38) dX12_comesBy_34 (by decide) ?_
          refine E_iret dX12_comesBy_38 rfl ?_
          rw [hz]
          exact hΦ
        · refine E_iload_n (i := 3) dX12_comesBy_2 rfl rfl ?_
          refine E_iload_n (i := 2) dX12_comesBy_3 rfl rfl ?_
          refine E_icmp_ge (tgt := 25) dX12_comesBy_4 (by decide) (fun c_4 => absurd c_4 (by rw [hy, hz]; exact nI_ge (by omega) (by omega))) (fun c_4 => ?_)
          refine E_aload_n (i := 0) dX12_comesBy_7 rfl rfl ?_
          refine E_iload_n (i := 1) dX12_comesBy_8 rfl rfl ?_
          refine k_X12_comesBy_9 (mc' := 0) (ms' := 0) (rc := 0) (rs := 0) (by omega) (Nat.le_of_ble_eq_true rfl) (by assumption) (c_X12_isIn (by omega) hM hx hr8 ?_)
          rw [bz_t (hi.trans hs)]
          refine E_if_ne (tgt := 25) dX12_comesBy_12 (by decide) (fun c_12 => ?_) (fun c_12 => absurd c_12 (by decide))
          refine E_aload_n (i := 0) dX12_comesBy_25 rfl rfl ?_
          refine E_iload_n (i := 1) dX12_comesBy_26 rfl rfl ?_
          refine k_X12_comesBy_27 (mc' := 0) (ms' := 0) (rc := 0) (rs := 0) (by omega) (Nat.le_of_ble_eq_true rfl) (by assumption) (c_X12_isIn (by omega) hM hx hr8 ?_)
          rw [bz_t (hi.trans hs)]
          refine E_if_eq (tgt := 37) dX12_comesBy_30 (by decide) (fun c_30 => absurd c_30 (by decide)) (fun c_30 => ?_)
          refine E_iload_n (i := 3) dX12_comesBy_33 rfl rfl ?_
          refine E_goto (tgt := 38) dX12_comesBy_34 (by decide) ?_
          refine E_iret dX12_comesBy_38 rfl ?_
          rw [hz]
          exact hΦ
      · by_cases hjn : j = n
        · have hΦ := h2 (fun _ => by rw [hf (), show n + 1 - j = 0 + 1 by omega, fnd, if_neg hs]; rfl) J hF (by rw [hJ, hjn])
          refine E_iload_n (i := 3) dX12_comesBy_2 rfl rfl ?_
          refine E_iload_n (i := 2) dX12_comesBy_3 rfl rfl ?_
          refine E_icmp_ge (tgt := 25) dX12_comesBy_4 (by decide) (fun c_4 => ?_) (fun c_4 => absurd (by rw [hy, hz, hjn]; exact Int32.le_refl _) c_4)
          refine E_aload_n (i := 0) dX12_comesBy_25 rfl rfl ?_
          refine E_iload_n (i := 1) dX12_comesBy_26 rfl rfl ?_
          refine k_X12_comesBy_27 (mc' := 0) (ms' := 0) (rc := 0) (rs := 0) (by omega) (Nat.le_of_ble_eq_true rfl) (by assumption) (c_X12_isIn (by omega) hM hx hr8 ?_)
          rw [bz_f (fun q => hs (hi.symm.trans q))]
          refine E_if_eq (tgt := 37) dX12_comesBy_30 (by decide) (fun c_30 => ?_) (fun c_30 => absurd (rfl) c_30)
          refine E_iconst (v := -1) dX12_comesBy_37 (by decide) ?_
          refine E_iret dX12_comesBy_38 rfl ?_
          exact hΦ
        · have hVj : VM (J 110) k := by rw [hJ]; exact VM_tks hV _
          have hTj : TC 0 δ (J 110) := by rw [hJ]; exact TC_tks hk8 (by decide) hT _
          refine E_iload_n (i := 3) dX12_comesBy_2 rfl rfl ?_
          refine E_iload_n (i := 2) dX12_comesBy_3 rfl rfl ?_
          refine E_icmp_ge (tgt := 25) dX12_comesBy_4 (by decide) (fun c_4 => absurd c_4 (by rw [hy, hz]; exact nI_ge (by omega) (by omega))) (fun c_4 => ?_)
          refine E_aload_n (i := 0) dX12_comesBy_7 rfl rfl ?_
          refine E_iload_n (i := 1) dX12_comesBy_8 rfl rfl ?_
          refine k_X12_comesBy_9 (mc' := 0) (ms' := 0) (rc := 0) (rs := 0) (by omega) (Nat.le_of_ble_eq_true rfl) (by assumption) (c_X12_isIn (by omega) hM hx hr8 ?_)
          rw [bz_f (fun q => hs (hi.symm.trans q))]
          refine E_if_ne (tgt := 25) dX12_comesBy_12 (by decide) (fun c_12 => absurd (rfl) c_12) (fun c_12 => ?_)
          refine E_aload_n (i := 0) dX12_comesBy_15 rfl rfl ?_
          refine k_X12_comesBy_16 (mc' := 0) (ms' := 0) (rc := 0) (rs := 0) (by omega) (Nat.le_of_ble_eq_true rfl) (by assumption) (c_X12_tick (δ := δ) (k := k) (by omega) hM hVj hTj (fun K f1 f2 => ?_))
          refine E_incC (c := 1) dX12_comesBy_19 rfl (by decide) (by decide) rfl ?_
          refine E_lv (lv' := [_, _, _, _]) rfl ?_
          refine E_goto (tgt := 2) dX12_comesBy_22 (by decide) ?_
          exact ih (j + 1) _ _ (by omega) (by omega) (by rw [hz, nI_1]) (fun _ => by rw [hf (), show n + 1 - j = (n + 1 - (j + 1)) + 1 by omega, fnd, if_neg hs]) (hF.trans f1) (by rw [f2, hJ]; rfl)
  refine E_iconst (v := 0) dX12_comesBy_0 (by decide) ?_
  refine E_istore_nC (i := 3) dX12_comesBy_1 rfl (by decide) rfl ?_
  refine E_lv (lv' := [_, _, _, _]) rfl ?_
  exact loop n 0 _ _ (by omega) (by omega) rfl (fun _ => rfl) (FM.refl _) rfl
theorem c_X12_comes {x : Int32} (hd : 8 ≤ d) (hM : Mo g P) (hV : VM (I 110) k) (hT : TC 0 δ (I 110)) (h1 : ∀ r t, x = nI r → r < k → ¬ I 110 (16 + 7 * r + 5) = 1 → (Unit → fnd (inB (sq (I 110) r)) 201 0 = some t) → ∀ J, FA I J → Φ (some (.int (nI t))) g P J) (h2 : ∀ r, x = nI r → r < k → ¬ I 110 (16 + 7 * r + 5) = 1 → (Unit → fnd (inB (sq (I 110) r)) 201 0 = none) → ∀ J, FA I J → Φ (some (.int (er 2))) g P (flM J 2)) (h3 : ¬ (0 ≤ x ∧ x ≤ nI k - 1) → Φ (some (.int (er 1))) g P (flM I 1)) (h4 : ∀ r, x = nI r → r < k → I 110 (16 + 7 * r + 5) = 1 → Φ (some (.int (er 3))) g P (flM I 3)) : MM Γ mX12_comes d 0 0 [.ref 109, .int x] g P I Φ := by
  refine MM_entry [some _, some _, none] (by decide) (Nat.le_of_ble_eq_true rfl) rfl ?_
  have h0 := hM.1
  obtain ⟨n1, n2, n3⟩ := hM.now
  obtain ⟨a1, a2, a3⟩ := hM.aside
  have hk8 := hV.2.1
  have e1 : I 110 1 = nI k := hV.1
  have i110 : asd I 110 = I 110 := asd_o (by decide)
  by_cases hc : 0 ≤ x ∧ x ≤ nI k - 1
  · obtain ⟨r, hr, hr2⟩ := in_nat (by omega) hc
    have hr8 : r < 8 := by omega
    by_cases hi : I 110 (16 + 7 * r + 5) = 1
    · have hΦ := h4 r hr hr2 hi
      refine E_aload_n (i := 0) dX12_comes_0 rfl rfl ?_
      refine E_iload_n (i := 1) dX12_comes_1 rfl rfl ?_
      refine E_iconst (v := 1) dX12_comes_2 (by decide) ?_
      refine k_X12_comes_3 (mc' := 0) (ms' := 0) (rc := 0) (rs := 0) (by omega) (Nat.le_of_ble_eq_true rfl) (by assumption) (c_X12_is (k := 1) (by omega) hM rfl (by decide) ?_)
      rw [e1, bz_t hc]
      refine E_if_ne (tgt := 16) dX12_comes_6 (by decide) (fun c_6 => ?_) (fun c_6 => absurd c_6 (by decide))
      refine E_aload_n (i := 0) dX12_comes_16 rfl rfl ?_
      refine E_iload_n (i := 1) dX12_comes_17 rfl rfl ?_
      refine k_X12_comes_18 (mc' := 0) (ms' := 0) (rc := 0) (rs := 0) (by omega) (Nat.le_of_ble_eq_true rfl) (by assumption) (c_X12_isIn (by omega) hM hr hr8 ?_)
      rw [bz_t hi]
      refine E_if_eq (tgt := 31) dX12_comes_21 (by decide) (fun c_21 => absurd c_21 (by decide)) (fun c_21 => ?_)
      refine E_aload_n (i := 0) dX12_comes_24 rfl rfl ?_
      refine E_ldc (v := -1000000003) dX12_comes_25 w_1294 ?_
      refine k_X12_comes_27 (mc' := 0) (ms' := 0) (rc := 0) (rs := 0) (by omega) (Nat.le_of_ble_eq_true rfl) (by assumption) (c_find3 hM ?_)
      refine E_iret dX12_comes_30 rfl ?_
      exact hΦ
    · have key : E Γ mX12_comes d 0 0 (QM Γ 0 0 Φ) 0 0 42 [some (.ref 109), some (.int x), none] [] g P (asd I) := by
        have hh1 := fun t => h1 r t hr hr2 hi
        have hh2 := h2 r hr hr2 hi
        clear h1 h2
        refine E_aload_n (i := 0) dX12_comes_42 rfl rfl ?_
        refine E_aload_n (i := 0) dX12_comes_43 rfl rfl ?_
        refine E_iload_n (i := 1) dX12_comes_44 rfl rfl ?_
        refine E_sipush (v := 200) dX12_comes_45 (by decide) ?_
        refine k_X12_comes_48 (mc' := 0) (ms' := 0) (rc := 0) (rs := 0) (by omega) (Nat.le_of_ble_eq_true rfl) (by assumption) (c_X12_comesBy (n := 200) (δ := δ) (k := k) (I := asd I) (by omega) hM (by rw [i110]; exact hV) (by rw [i110]; exact hT) hr hr2 rfl (by decide) (fun t ht q J f1 f2 => ?_) (fun q J f1 f2 => ?_))
        · rw [i110] at q f2
          have hΦ := hh1 t q _ (bk_FA f1 f2 (tks_272 hk8 t))
          refine k_X12_comes_51 (mc' := 0) (ms' := 0) (rc := 0) (rs := 0) (by omega) (Nat.le_of_ble_eq_true rfl) (by assumption) (c_X12_back (by omega) hM ?_)
          refine E_istore_nC (i := 2) dX12_comes_54 rfl (by decide) rfl ?_
          refine E_lv (lv' := [_, _, _]) rfl ?_
          refine E_iload_n (i := 2) dX12_comes_55 rfl rfl ?_
          refine E_if_ge (tgt := 68) dX12_comes_56 (by decide) (fun c_56 => ?_) (fun c_56 => absurd (nI_pos' (by omega)) c_56)
          refine E_iload_n (i := 2) dX12_comes_68 rfl rfl ?_
          refine E_iret dX12_comes_69 rfl ?_
          exact hΦ
        · rw [i110] at q f2
          have hΦ := hh2 q _ (bk_FA f1 f2 (tks_272 hk8 200))
          refine k_X12_comes_51 (mc' := 0) (ms' := 0) (rc := 0) (rs := 0) (by omega) (Nat.le_of_ble_eq_true rfl) (by assumption) (c_X12_back (by omega) hM ?_)
          refine E_istore_nC (i := 2) dX12_comes_54 rfl (by decide) rfl ?_
          refine E_lv (lv' := [_, _, _]) rfl ?_
          refine E_iload_n (i := 2) dX12_comes_55 rfl rfl ?_
          refine E_if_ge (tgt := 68) dX12_comes_56 (by decide) (fun c_56 => absurd c_56 (by decide)) (fun c_56 => ?_)
          refine E_aload_n (i := 0) dX12_comes_59 rfl rfl ?_
          refine E_ldc (v := -1000000002) dX12_comes_60 w_1275 ?_
          refine k_X12_comes_62 (mc' := 0) (ms' := 0) (rc := 0) (rs := 0) (by omega) (Nat.le_of_ble_eq_true rfl) (by assumption) (c_find2 hM ?_)
          refine E_goto (tgt := 69) dX12_comes_65 (by decide) ?_
          refine E_iret dX12_comes_69 rfl ?_
          exact hΦ
      refine E_aload_n (i := 0) dX12_comes_0 rfl rfl ?_
      refine E_iload_n (i := 1) dX12_comes_1 rfl rfl ?_
      refine E_iconst (v := 1) dX12_comes_2 (by decide) ?_
      refine k_X12_comes_3 (mc' := 0) (ms' := 0) (rc := 0) (rs := 0) (by omega) (Nat.le_of_ble_eq_true rfl) (by assumption) (c_X12_is (k := 1) (by omega) hM rfl (by decide) ?_)
      rw [e1, bz_t hc]
      refine E_if_ne (tgt := 16) dX12_comes_6 (by decide) (fun c_6 => ?_) (fun c_6 => absurd c_6 (by decide))
      refine E_aload_n (i := 0) dX12_comes_16 rfl rfl ?_
      refine E_iload_n (i := 1) dX12_comes_17 rfl rfl ?_
      refine k_X12_comes_18 (mc' := 0) (ms' := 0) (rc := 0) (rs := 0) (by omega) (Nat.le_of_ble_eq_true rfl) (by assumption) (c_X12_isIn (by omega) hM hr hr8 ?_)
      rw [bz_f hi]
      refine E_if_eq (tgt := 31) dX12_comes_21 (by decide) (fun c_21 => ?_) (fun c_21 => absurd (rfl) c_21)
      refine E_aload_n (i := 0) dX12_comes_31 rfl rfl ?_
      refine E_gr dX12_comes_32 gf_X12_9_12 rfl (by assumption) (by assumption) ?_
      refine E_aload_n (i := 0) dX12_comes_35 rfl rfl ?_
      refine E_gr dX12_comes_36 gf_X12_16_12 rfl (by assumption) (by assumption) ?_
      refine k_X12_comes_39 (mc' := 0) (ms' := 0) (rc := 0) (rs := 0) (by omega) (Nat.le_of_ble_eq_true rfl) (c_X12_copy n2 n3 a2 a3 (by decide) ?_)
      exact key
  · have hΦ := h3 hc
    refine E_aload_n (i := 0) dX12_comes_0 rfl rfl ?_
    refine E_iload_n (i := 1) dX12_comes_1 rfl rfl ?_
    refine E_iconst (v := 1) dX12_comes_2 (by decide) ?_
    refine k_X12_comes_3 (mc' := 0) (ms' := 0) (rc := 0) (rs := 0) (by omega) (Nat.le_of_ble_eq_true rfl) (by assumption) (c_X12_is (k := 1) (by omega) hM rfl (by decide) ?_)
    rw [e1, bz_f hc]
    refine E_if_ne (tgt := 16) dX12_comes_6 (by decide) (fun c_6 => absurd (rfl) c_6) (fun c_6 => ?_)
    refine E_aload_n (i := 0) dX12_comes_9 rfl rfl ?_
    refine E_ldc (v := -1000000001) dX12_comes_10 w_1208 ?_
    refine k_X12_comes_12 (mc' := 0) (ms' := 0) (rc := 0) (rs := 0) (by omega) (Nat.le_of_ble_eq_true rfl) (by assumption) (c_find1 hM ?_)
    refine E_iret dX12_comes_15 rfl ?_
    exact hΦ
end
