/-! the class: what is ahead -/
/-- the heap is the same but for the State ahead and the reader -/
def FL (I J : HI) : Prop := ∀ a, a ≠ 17 → a ≠ 18 → (a < 45 ∨ 69 ≤ a) → J a = I a
theorem FL.trans {I J K : HI} (h : FL I J) (h2 : FL J K) : FL I K := fun a a1 a2 a3 => (h2 a a1 a2 a3).trans (h a a1 a2 a3)
/-- behind what looked ahead -/
def AH (P : HP) (I : HI) (P' : HP) (J : HI) : Prop := PG P P' ∧ P' 24 = P 24 ∧ P' 72 = P 72 ∧ FL I J ∧ Sz J 45
/-- what looks ahead needs -/
def LA (g : Sh) (P : HP) (I : HI) (k : Nat) (rd : Nat → Nat) (M : Nat → Int32) (nt : Nat → Nat) (δ : Nat → List Int32) : Prop := (Sz I 21 ∧ Sz I 45) ∧ (∀ j, j < 8 → RQ g P 21 j) ∧ (∀ j, j < 8 → I 28 j = 0 ∨ I 28 j = 1) ∧ TG I 21 nt ∧ TD I 21 nt δ ∧ I 21 7 = nI k ∧ VM M k ∧ RD I 21 k M ∧ RR g P I 21 k rd M
theorem gnc_c8 (ci : Nat) (w : Nat → Int32) (wt m pl pa : Int32) : gnc ci (c8 w) wt m pl pa = gnc ci w wt m pl pa := by
  have e0 : c8 w 0 = w 0 := rfl
  have e1 : c8 w 1 = w 1 := rfl
  have e2 : c8 w 2 = w 2 := rfl
  have e3 : c8 w 3 = w 3 := rfl
  have e4 : c8 w 4 = w 4 := rfl
  have e7 : c8 w 7 = w 7 := rfl
  unfold gnc gkc rl stp dep taut
  rw [e0, e1, e2, e3, e4, e7]
/-- what is told of a ride -/
theorem fac_tol {g : Sh} {P : HP} {J : HI} {B k i f : Nat} {rd : Nat → Nat} {T : Nat → Int32} (hV : VM T k) (hD : RD J B k T) (hR : RR g P J B k rd T) (hi : i < k) (hf : f ≤ 8) : facC (kc (kdo T i)) J B (rd i) i f = tolM (kdo T i) T i f := by
  obtain ⟨r1, r2, r3, r4, r5, r6, r7, r8⟩ := hR i hi
  obtain ⟨a3, a4, a5, a6⟩ := hD.2 i hi
  have hVi := hV.2.2.2 i hi
  obtain ⟨k1, k2⟩ := hVi.kd
  obtain ⟨-, -, v3, -, v5, v6⟩ := hVi
  unfold facC tolM
  match f, hf with
  | 0, _ => exact r5
  | 1, _ => exact r7
  | 2, _ => exact r8
  | 3, _ => exact a3
  | 4, _ => exact a4
  | 5, _ =>
    show bz (¬ J (B + 7) i = 0) = T (16 + 7 * i + 5)
    rw [a5]
    rcases v6 with h | h <;> rw [h] <;> decide
  | 6, _ => exact a6
  | 7, _ =>
    show gnc (kc (kdo T i)) (J (B + 2)) (J (rd i) 2) (J (rd i) 3) (J (B + 4) i) (J (B + 5) i) = gnM (kdo T i) T i
    rw [gn_eq k1 v5 v3, ← gnc_c8 _ (J (B + 2)), hD.w8, gnc_c8, r7, r8, a3, a4]
  | 8, _ =>
    show rbc (kc (kdo T i)) (J (B + 2)) = if T (16 + 7 * i + 0) = 6 then T 13 / 2 else T 13
    rw [rb_M k1 k2]
    unfold rbc
    rw [hD.1 6 (by decide)]
    rfl
section
variable {Γ : GE} {d : Nat} {g : Sh} {P : HP} {I : HI} {Φ : Option Value → Sh → HP → HI → Prop} {k : Nat} {rd : Nat → Nat} {M : Nat → Int32} {nt : Nat → Nat} {δ : Nat → List Int32}
theorem c_X11_lookAhead {n : Nat} {x : Int32} (hd : 58 ≤ d) (hL : Ly g P) (hA : LA g P I k rd M nt δ) (hx : x = nI n) (hn : n ≤ 200) (hΦ : ∀ P' J, AH P I P' J → Ly g P' → J 45 7 = nI k → RD J 45 k (tks (δ 0) k M n) → RR g P' J 45 k rd M → (J 67 1 = I 43 1 ∧ ∀ i, i < (I 43 1).toNatClampNeg → J 68 i = I 44 i) → Φ none g P' J) : MM Γ mX11_lookAhead d 0 0 [.ref 16, .int x] g P I Φ := by
  refine MM_entry [some _, some _] (by decide) (Nat.le_of_ble_eq_true rfl) rfl ?_
  have l0 := hL.gw
  have l1 := hL.live
  have l2 := hL.ahead
  have l3 := hL.s45.c
  obtain ⟨⟨z1, z2⟩, hq, hin, hT, hδ, hk, hV, hD, hR⟩ := hA
  have hk8 := hV.2.1
  have ap : Apt 45 21 := Or.inr (by decide)
  have pg : PG P (cpP P 45 21) := PG_ur (B := 45) (Or.inr (Or.inl rfl)) _
  have hL' := hL.pg pg
  have l0' := hL'.gw
  have l2' := hL'.ahead
  have hR' : RR g (cpP P 45 21) (cpS I 45 21) 45 k rd M := hR.cp (by decide) hk8
  have hz' : Sz (cpS I 45 21) 45 := Sz.cp ap z1
  refine E_aload_n (i := 0) dX11_lookAhead_0 rfl rfl ?_
  refine E_gr dX11_lookAhead_1 gf_X11_25_11 rfl (by assumption) (by assumption) ?_
  refine E_aload_n (i := 0) dX11_lookAhead_4 rfl rfl ?_
  refine E_gr dX11_lookAhead_5 gf_X11_21_11 rfl (by assumption) (by assumption) ?_
  refine k_X11_lookAhead_8 (mc' := 0) (ms' := 0) (rc := 0) (rs := 0) (by omega) (Nat.le_of_ble_eq_true rfl) (by assumption) (c_X8_copyFrom (by omega) hL.s45 hL.s21 ap z2 z1 hq hin ?_)
  refine E_aload_n (i := 0) dX11_lookAhead_11 rfl rfl ?_
  refine E_gr dX11_lookAhead_12 gf_X11_25_11 rfl (by assumption) (by assumption) ?_
  refine E_iload_n (i := 1) dX11_lookAhead_15 rfl rfl ?_
  refine k_X11_lookAhead_16 (mc' := 0) (ms' := 0) (rc := 0) (rs := 0) (by omega) (Nat.le_of_ble_eq_true rfl) (by assumption) (c_X8_pass (rd := rd) (M := M) (nt := nt) (δ := δ) (by omega) hL' hL'.s45 (by decide) (by decide) (TG.cp ap hT).1 ((TG.cp ap hT).2 δ hδ) (by rw [cpS_7]; exact hk) hV (hD.cp ap hk8) hR' hx hn (fun P' J f1 f2 f3 f4 => ?_))
  refine E_vret dX11_lookAhead_19 rfl ?_
  have jo : ∀ a, a ≠ 17 → a ≠ 18 → (a < 45 ∨ 52 < a) → J a = cpS I 45 21 a := fun a a1 a2 a3 => f2.1 a a1 a2 (by omega) (by omega) (by omega)
  have j7 : J 45 7 = nI k := by rw [f2.2.1 7 (by decide), cpS_7]; exact hk
  refine hΦ P' J ⟨pg.trans f1.g, ?_, ?_, fun a a1 a2 a3 => ?_, ?_⟩ (hL'.pf f1) j7 f4 ?_ ⟨?_, fun i hi => ?_⟩
  · rw [f1.1 24 (by decide)]
    exact ur_n _ _ (by decide)
  · rw [f1.1 72 (by decide)]
    exact ur_n _ _ (by decide)
  · rw [jo a a1 a2 (by omega), cpS_o (by omega)]
  · refine ⟨⟨k, j7, hk8⟩, fun q hq => ?_⟩
    have hf := sRow_fact q hq
    rw [jo _ (by omega) (by omega) (by omega)]
    exact hz'.2 q hq
  · exact (RR.pf f1 (by decide) hR').mv (fun a ha => jo a (by omega) (by omega) (by omega)) (fun _ _ _ _ => rfl)
  · rw [jo 67 (by decide) (by decide) (by decide)]
    exact cpS_s22 (B := 45) ap
  · rw [jo 68 (by decide) (by decide) (by decide)]
    exact cpS_n22 (B := 45) ap hi
theorem c_copyAhead (hd : 2 ≤ d) (hL : Ly g P) (hA : LA g P I k rd M nt δ) (hΦ : ∀ P' J, AH P I P' J → Ly g P' → J 45 7 = nI k → RD J 45 k M → RR g P' J 45 k rd M → Φ none g P' J) : MM Γ mX8_copyFrom d 0 0 [.ref 45, .ref 21] g P I Φ := by
  obtain ⟨⟨z1, z2⟩, hq, hin, hT, hδ, hk, hV, hD, hR⟩ := hA
  have hk8 := hV.2.1
  have ap : Apt 45 21 := Or.inr (by decide)
  have pg : PG P (cpP P 45 21) := PG_ur (B := 45) (Or.inr (Or.inl rfl)) _
  refine c_X8_copyFrom (by omega) hL.s45 hL.s21 ap z2 z1 hq hin (hΦ _ _ ⟨pg, ?_, ?_, fun a a1 a2 a3 => ?_, Sz.cp ap z1⟩ (hL.pg pg) ?_ (hD.cp ap hk8) (hR.cp (by decide) hk8))
  · exact ur_n _ _ (by decide)
  · exact ur_n _ _ (by decide)
  · rw [cpS_o (by omega)]
  · rw [cpS_7]
    exact hk
theorem LA.p24 (hA : LA g P I k rd M nt δ) {i : Nat} (hi : i < k) : ∃ r, P 24 i = some r := ⟨rd i, (hA.2.2.2.2.2.2.2.2 i hi).1⟩
theorem c_X11_strands {x : Int32} (hd : 59 ≤ d) (hL : Ly g P) (hA : LA g P I k rd M nt δ) (h1 : ∀ n, x = nI n → n ≤ 200 → ∀ P' J, AH P I P' J → Φ (some (.int (tks (δ 0) k M n 15))) g P' J) (h2 : ¬ okA x → Φ (some (.int (er 1))) g P (fl I 1)) : MM Γ mX11_strands d 0 0 [.ref 16, .int x] g P I Φ := by
  refine MM_entry [some _, some _] (by decide) (Nat.le_of_ble_eq_true rfl) rfl ?_
  have l0 := hL.gw
  by_cases hc : okA x
  · obtain ⟨n, hn, hn2⟩ := okA_n hc
    refine E_iload_n (i := 1) dX11_strands_0 rfl rfl ?_
    refine E_iconst (v := 0) dX11_strands_1 (by decide) ?_
    refine E_sipush (v := 200) dX11_strands_2 (by decide) ?_
    refine k_X11_strands_5 (mc' := 0) (ms' := 0) (rc := 0) (rs := 0) (by omega) (Nat.le_of_ble_eq_true rfl) (c_X11_within ?_)
    rw [bz_t hc]
    refine E_if_ne (tgt := 17) dX11_strands_8 (by decide) (fun c_8 => ?_) (fun c_8 => absurd c_8 (by decide))
    refine E_aload_n (i := 0) dX11_strands_17 rfl rfl ?_
    refine E_iload_n (i := 1) dX11_strands_18 rfl rfl ?_
    refine k_X11_strands_19 (mc' := 0) (ms' := 0) (rc := 0) (rs := 0) (by omega) (Nat.le_of_ble_eq_true rfl) (by assumption) (c_X11_lookAhead (by omega) hL hA hn hn2 (fun P' J f1 f2 f3 f4 f5 f6 => ?_))
    have m0 := f2.gw
    have m1 := f2.ahead
    have m2 := f2.s45.c
    have m3 : P' 45 1 = some 46 := f2.s45.wp
    have m4 : Wi g P' 46 47 := f2.s45.wi
    have m5 := m4.1
    refine E_aload_n (i := 0) dX11_strands_22 rfl rfl ?_
    refine E_gr dX11_strands_23 gf_X11_25_11 rfl (by assumption) (by assumption) ?_
    refine E_gr dX11_strands_26 gf_X11_77_8 rfl (by assumption) (by assumption) ?_
    refine E_bipush (v := 8) dX11_strands_29 (by decide) ?_
    refine k_X11_strands_31 (mc' := 0) (ms' := 0) (rc := 0) (rs := 0) (by omega) (Nat.le_of_ble_eq_true rfl) (by assumption) (c_X10_ofk (k := 8) rfl (by decide) m4 ?_)
    refine E_iret dX11_strands_34 rfl ?_
    rw [show J 47 8 = tks (δ 0) k M n 15 from f4.1 8 (by decide)]
    exact h1 n hn hn2 P' J f1
  · have hΦ := h2 hc
    refine E_iload_n (i := 1) dX11_strands_0 rfl rfl ?_
    refine E_iconst (v := 0) dX11_strands_1 (by decide) ?_
    refine E_sipush (v := 200) dX11_strands_2 (by decide) ?_
    refine k_X11_strands_5 (mc' := 0) (ms' := 0) (rc := 0) (rs := 0) (by omega) (Nat.le_of_ble_eq_true rfl) (c_X11_within ?_)
    rw [bz_f hc]
    refine E_if_ne (tgt := 17) dX11_strands_8 (by decide) (fun c_8 => absurd (rfl) c_8) (fun c_8 => ?_)
    refine E_aload_n (i := 0) dX11_strands_11 rfl rfl ?_
    refine E_iconst (v := 1) dX11_strands_12 (by decide) ?_
    refine k_X11_strands_13 (mc' := 0) (ms' := 0) (rc := 0) (rs := 0) (by omega) (Nat.le_of_ble_eq_true rfl) (by assumption) (c_X11_fail (k := 1) hL rfl (by decide) (by decide) ?_)
    refine E_iret dX11_strands_16 rfl ?_
    exact hΦ
theorem c_X11_then {x y z : Int32} (hd : 59 ≤ d) (hL : Ly g P) (hA : LA g P I k rd M nt δ) (h1 : ∀ n r f, x = nI n → n ≤ 200 → y = nI r → r < k → z = nI f → f ≤ 8 → ∀ P' J, AH P I P' J → Φ (some (.int (tolM (kdo M r) (tks (δ 0) k M n) r f))) g P' J) (h2 : ¬ (okA x ∧ (0 ≤ y ∧ y ≤ nI k - 1) ∧ (0 ≤ z ∧ z ≤ 8)) → Φ (some (.int (er 1))) g P (fl I 1)) : MM Γ mX11_then d 0 0 [.ref 16, .int x, .int y, .int z] g P I Φ := by
  refine MM_entry [some _, some _, some _, some _] (by decide) (Nat.le_of_ble_eq_true rfl) rfl ?_
  have l0 := hL.gw
  have l1 := hL.live
  have l2 := hL.s21.c
  have hA0 := hA
  obtain ⟨-, -, -, -, -, hk, hV, -, hR⟩ := hA
  have hk8 := hV.2.1
  by_cases hc : okA x
  · by_cases hc3 : 0 ≤ z ∧ z ≤ 8
    · by_cases hc2 : 0 ≤ y ∧ y ≤ nI k - 1
      · obtain ⟨n, hn, hn2⟩ := okA_n hc
        obtain ⟨r, hr, hr2⟩ := in_nat (by omega) hc2
        obtain ⟨f, hf, hf2⟩ := in_04 (n := 8) (by omega) hc3
        have hh1 := h1 n r f hn hn2 hr hr2 hf hf2
        clear h1 h2
        have hVn : VM (tks (δ 0) k M n) k := VM_tks hV n
        have ek : kdo (tks (δ 0) k M n) r = kdo M r := kdo_tks n
        have hkd := (hV.2.2.2 r hr2).kd
        refine E_iload_n (i := 1) dX11_then_0 rfl rfl ?_
        refine E_iconst (v := 0) dX11_then_1 (by decide) ?_
        refine E_sipush (v := 200) dX11_then_2 (by decide) ?_
        refine k_X11_then_5 (mc' := 0) (ms' := 0) (rc := 0) (rs := 0) (by omega) (Nat.le_of_ble_eq_true rfl) (c_X11_within ?_)
        rw [bz_t hc]
        refine E_if_eq (tgt := 32) dX11_then_8 (by decide) (fun c_8 => absurd c_8 (by decide)) (fun c_8 => ?_)
        refine E_iload_n (i := 3) dX11_then_11 rfl rfl ?_
        refine E_iconst (v := 0) dX11_then_12 (by decide) ?_
        refine E_bipush (v := 8) dX11_then_13 (by decide) ?_
        refine k_X11_then_15 (mc' := 0) (ms' := 0) (rc := 0) (rs := 0) (by omega) (Nat.le_of_ble_eq_true rfl) (c_X11_within ?_)
        rw [bz_t hc3]
        refine E_if_eq (tgt := 32) dX11_then_18 (by decide) (fun c_18 => absurd c_18 (by decide)) (fun c_18 => ?_)
        refine E_aload_n (i := 0) dX11_then_21 rfl rfl ?_
        refine E_gr dX11_then_22 gf_X11_21_11 rfl (by assumption) (by assumption) ?_
        refine E_iload_n (i := 2) dX11_then_25 rfl rfl ?_
        refine k_X11_then_26 (mc' := 0) (ms' := 0) (rc := 0) (rs := 0) (by omega) (Nat.le_of_ble_eq_true rfl) (by assumption) (c_rideAt_in (by omega) hL.s21 hk hk8 hr2 hr (hR r hr2).1 ?_)
        refine E_ifnonnull (tgt := 38) dX11_then_29 (by decide) ?_
        refine E_aload_n (i := 0) dX11_then_38 rfl rfl ?_
        refine E_iload_n (i := 1) dX11_then_39 rfl rfl ?_
        refine k_X11_then_40 (mc' := 0) (ms' := 0) (rc := 0) (rs := 0) (by omega) (Nat.le_of_ble_eq_true rfl) (by assumption) (c_X11_lookAhead (by omega) hL hA0 hn hn2 (fun P' J f1 f2 f3 f4 f5 f6 => ?_))
        have m0 := f2.gw
        have m1 := f2.ahead
        have m2 := f2.s45.c
        have m3 : RR g P' J 45 k rd (tks (δ 0) k M n) := f5.mv (fun _ _ => rfl) (fun i _ f hf => tks_k hf n)
        have m4 := m3 r hr2
        have m5 := fac_tol hVn f4 m3 hr2 hf2
        rw [ek] at m5
        have m4b := m4.2.1
        rw [ek] at m4b
        have m6 : Unit → _ := fun _ => m5
        clear m5
        refine E_aload_n (i := 0) dX11_then_43 rfl rfl ?_
        refine E_gr dX11_then_44 gf_X11_25_11 rfl (by assumption) (by assumption) ?_
        refine E_iload_n (i := 2) dX11_then_47 rfl rfl ?_
        refine E_iload_n (i := 3) dX11_then_48 rfl rfl ?_
        refine k_X11_then_49 (mc' := 0) (ms' := 0) (rc := 0) (rs := 0) (by omega) (Nat.le_of_ble_eq_true rfl) (by assumption) (c_X8_factOf (by omega) f2.s45 (f4.wok hVn) f3 hk8 hr2 hr hf hf2 m4.1 m4b (isR_kc hkd.1) ?_)
        refine E_iret dX11_then_52 rfl ?_
        rw [m6 ()]
        exact hh1 P' J f1
      · have hΦ := h2 (fun h => hc2 h.2.1)
        refine E_iload_n (i := 1) dX11_then_0 rfl rfl ?_
        refine E_iconst (v := 0) dX11_then_1 (by decide) ?_
        refine E_sipush (v := 200) dX11_then_2 (by decide) ?_
        refine k_X11_then_5 (mc' := 0) (ms' := 0) (rc := 0) (rs := 0) (by omega) (Nat.le_of_ble_eq_true rfl) (c_X11_within ?_)
        rw [bz_t hc]
        refine E_if_eq (tgt := 32) dX11_then_8 (by decide) (fun c_8 => absurd c_8 (by decide)) (fun c_8 => ?_)
        refine E_iload_n (i := 3) dX11_then_11 rfl rfl ?_
        refine E_iconst (v := 0) dX11_then_12 (by decide) ?_
        refine E_bipush (v := 8) dX11_then_13 (by decide) ?_
        refine k_X11_then_15 (mc' := 0) (ms' := 0) (rc := 0) (rs := 0) (by omega) (Nat.le_of_ble_eq_true rfl) (c_X11_within ?_)
        rw [bz_t hc3]
        refine E_if_eq (tgt := 32) dX11_then_18 (by decide) (fun c_18 => absurd c_18 (by decide)) (fun c_18 => ?_)
        refine E_aload_n (i := 0) dX11_then_21 rfl rfl ?_
        refine E_gr dX11_then_22 gf_X11_21_11 rfl (by assumption) (by assumption) ?_
        refine E_iload_n (i := 2) dX11_then_25 rfl rfl ?_
        refine k_X11_then_26 (mc' := 0) (ms' := 0) (rc := 0) (rs := 0) (by omega) (Nat.le_of_ble_eq_true rfl) (by assumption) (c_rideAt_out (by omega) hL.s21 (by rw [hk]; exact hc2) ?_)
        refine E_ifnonnullN dX11_then_29 ?_
        refine E_aload_n (i := 0) dX11_then_32 rfl rfl ?_
        refine E_iconst (v := 1) dX11_then_33 (by decide) ?_
        refine k_X11_then_34 (mc' := 0) (ms' := 0) (rc := 0) (rs := 0) (by omega) (Nat.le_of_ble_eq_true rfl) (by assumption) (c_X11_fail (k := 1) hL rfl (by decide) (by decide) ?_)
        refine E_iret dX11_then_37 rfl ?_
        exact hΦ
    · have hΦ := h2 (fun h => hc3 h.2.2)
      refine E_iload_n (i := 1) dX11_then_0 rfl rfl ?_
      refine E_iconst (v := 0) dX11_then_1 (by decide) ?_
      refine E_sipush (v := 200) dX11_then_2 (by decide) ?_
      refine k_X11_then_5 (mc' := 0) (ms' := 0) (rc := 0) (rs := 0) (by omega) (Nat.le_of_ble_eq_true rfl) (c_X11_within ?_)
      rw [bz_t hc]
      refine E_if_eq (tgt := 32) dX11_then_8 (by decide) (fun c_8 => absurd c_8 (by decide)) (fun c_8 => ?_)
      refine E_iload_n (i := 3) dX11_then_11 rfl rfl ?_
      refine E_iconst (v := 0) dX11_then_12 (by decide) ?_
      refine E_bipush (v := 8) dX11_then_13 (by decide) ?_
      refine k_X11_then_15 (mc' := 0) (ms' := 0) (rc := 0) (rs := 0) (by omega) (Nat.le_of_ble_eq_true rfl) (c_X11_within ?_)
      rw [bz_f hc3]
      refine E_if_eq (tgt := 32) dX11_then_18 (by decide) (fun c_18 => ?_) (fun c_18 => absurd (rfl) c_18)
      refine E_aload_n (i := 0) dX11_then_32 rfl rfl ?_
      refine E_iconst (v := 1) dX11_then_33 (by decide) ?_
      refine k_X11_then_34 (mc' := 0) (ms' := 0) (rc := 0) (rs := 0) (by omega) (Nat.le_of_ble_eq_true rfl) (by assumption) (c_X11_fail (k := 1) hL rfl (by decide) (by decide) ?_)
      refine E_iret dX11_then_37 rfl ?_
      exact hΦ
  · have hΦ := h2 (fun h => hc h.1)
    refine E_iload_n (i := 1) dX11_then_0 rfl rfl ?_
    refine E_iconst (v := 0) dX11_then_1 (by decide) ?_
    refine E_sipush (v := 200) dX11_then_2 (by decide) ?_
    refine k_X11_then_5 (mc' := 0) (ms' := 0) (rc := 0) (rs := 0) (by omega) (Nat.le_of_ble_eq_true rfl) (c_X11_within ?_)
    rw [bz_f hc]
    refine E_if_eq (tgt := 32) dX11_then_8 (by decide) (fun c_8 => ?_) (fun c_8 => absurd (rfl) c_8)
    refine E_aload_n (i := 0) dX11_then_32 rfl rfl ?_
    refine E_iconst (v := 1) dX11_then_33 (by decide) ?_
    refine k_X11_then_34 (mc' := 0) (ms' := 0) (rc := 0) (rs := 0) (by omega) (Nat.le_of_ble_eq_true rfl) (by assumption) (c_X11_fail (k := 1) hL rfl (by decide) (by decide) ?_)
    refine E_iret dX11_then_37 rfl ?_
    exact hΦ
theorem c_X11_ticks {x : Int32} (hd : 59 ≤ d) (hL : Ly g P) (hA : LA g P I k rd M nt δ) (h1 : ∀ n, x = nI n → 1 ≤ n → n ≤ 200 → ¬ 99999 < I 21 8 + x → ∀ P' J, PF P P' → FS 21 k I J → J 21 8 = I 21 8 + x → RD J 21 k (tks (δ 0) k M n) → Φ (some (.int (I 21 8 + x))) g P' J) (h2 : ¬ okTk x → Φ (some (.int (er 1))) g P (fl I 1)) (h3 : okTk x → 99999 < I 21 8 + x → Φ (some (.int (er 3))) g P (fl I 3)) : MM Γ mX11_ticks d 0 0 [.ref 16, .int x] g P I Φ := by
  refine MM_entry [some _, some _] (by decide) (Nat.le_of_ble_eq_true rfl) rfl ?_
  have l0 := hL.gw
  have l1 := hL.live
  have l2 := hL.s21.c
  obtain ⟨-, -, -, hT, hδ, hk, hV, hD, hR⟩ := hA
  by_cases hc : okTk x
  · obtain ⟨n, hn, hn1, hn2⟩ := okTk_n hc
    by_cases hl : 99999 < I 21 8 + x
    · have hΦ := h3 hc hl
      refine E_iload_n (i := 1) dX11_ticks_0 rfl rfl ?_
      refine E_iconst (v := 1) dX11_ticks_1 (by decide) ?_
      refine E_sipush (v := 200) dX11_ticks_2 (by decide) ?_
      refine k_X11_ticks_5 (mc' := 0) (ms' := 0) (rc := 0) (rs := 0) (by omega) (Nat.le_of_ble_eq_true rfl) (c_X11_within ?_)
      rw [bz_t hc]
      refine E_if_ne (tgt := 17) dX11_ticks_8 (by decide) (fun c_8 => ?_) (fun c_8 => absurd c_8 (by decide))
      refine E_aload_n (i := 0) dX11_ticks_17 rfl rfl ?_
      refine E_gr dX11_ticks_18 gf_X11_21_11 rfl (by assumption) (by assumption) ?_
      refine E_gi dX11_ticks_21 gf_X11_184_8 rfl (by assumption) ?_
      refine E_iload_n (i := 1) dX11_ticks_24 rfl rfl ?_
      refine E_iadd dX11_ticks_25 ?_
      refine E_ldc (v := 99999) dX11_ticks_26 w_803 ?_
      refine E_icmp_le (tgt := 37) dX11_ticks_28 (by decide) (fun c_28 => absurd c_28 (Int32.not_le.mpr hl)) (fun c_28 => ?_)
      refine E_aload_n (i := 0) dX11_ticks_31 rfl rfl ?_
      refine E_iconst (v := 3) dX11_ticks_32 (by decide) ?_
      refine k_X11_ticks_33 (mc' := 0) (ms' := 0) (rc := 0) (rs := 0) (by omega) (Nat.le_of_ble_eq_true rfl) (by assumption) (c_X11_fail (k := 3) hL rfl (by decide) (by decide) ?_)
      refine E_iret dX11_ticks_36 rfl ?_
      exact hΦ
    · have hh1 := h1 n hn hn1 hn2 hl
      clear h1 h2 h3
      refine E_iload_n (i := 1) dX11_ticks_0 rfl rfl ?_
      refine E_iconst (v := 1) dX11_ticks_1 (by decide) ?_
      refine E_sipush (v := 200) dX11_ticks_2 (by decide) ?_
      refine k_X11_ticks_5 (mc' := 0) (ms' := 0) (rc := 0) (rs := 0) (by omega) (Nat.le_of_ble_eq_true rfl) (c_X11_within ?_)
      rw [bz_t hc]
      refine E_if_ne (tgt := 17) dX11_ticks_8 (by decide) (fun c_8 => ?_) (fun c_8 => absurd c_8 (by decide))
      refine E_aload_n (i := 0) dX11_ticks_17 rfl rfl ?_
      refine E_gr dX11_ticks_18 gf_X11_21_11 rfl (by assumption) (by assumption) ?_
      refine E_gi dX11_ticks_21 gf_X11_184_8 rfl (by assumption) ?_
      refine E_iload_n (i := 1) dX11_ticks_24 rfl rfl ?_
      refine E_iadd dX11_ticks_25 ?_
      refine E_ldc (v := 99999) dX11_ticks_26 w_803 ?_
      refine E_icmp_le (tgt := 37) dX11_ticks_28 (by decide) (fun c_28 => ?_) (fun c_28 => absurd (Int32.not_lt.mp hl) c_28)
      refine E_aload_n (i := 0) dX11_ticks_37 rfl rfl ?_
      refine E_gr dX11_ticks_38 gf_X11_21_11 rfl (by assumption) (by assumption) ?_
      refine E_iload_n (i := 1) dX11_ticks_41 rfl rfl ?_
      refine k_X11_ticks_42 (mc' := 0) (ms' := 0) (rc := 0) (rs := 0) (by omega) (Nat.le_of_ble_eq_true rfl) (by assumption) (c_X8_pass (rd := rd) (M := M) (nt := nt) (δ := δ) (by omega) hL hL.s21 (by decide) (by decide) hT hδ hk hV hD hR hn hn2 (fun P' J f1 f2 f3 f4 => ?_))
      have hL' := hL.pf f1
      have m0 := hL'.gw
      have m1 := hL'.live
      have m2 := hL'.s21.c
      refine E_aload_n (i := 0) dX11_ticks_45 rfl rfl ?_
      refine E_gr dX11_ticks_46 gf_X11_21_11 rfl (by assumption) (by assumption) ?_
      refine E_gi dX11_ticks_49 gf_X11_184_8 rfl (by assumption) ?_
      rw [f3]
      refine E_iret dX11_ticks_52 rfl ?_
      exact hh1 P' J f1 f2 f3 f4
  · have hΦ := h2 hc
    refine E_iload_n (i := 1) dX11_ticks_0 rfl rfl ?_
    refine E_iconst (v := 1) dX11_ticks_1 (by decide) ?_
    refine E_sipush (v := 200) dX11_ticks_2 (by decide) ?_
    refine k_X11_ticks_5 (mc' := 0) (ms' := 0) (rc := 0) (rs := 0) (by omega) (Nat.le_of_ble_eq_true rfl) (c_X11_within ?_)
    rw [bz_f hc]
    refine E_if_ne (tgt := 17) dX11_ticks_8 (by decide) (fun c_8 => absurd (rfl) c_8) (fun c_8 => ?_)
    refine E_aload_n (i := 0) dX11_ticks_11 rfl rfl ?_
    refine E_iconst (v := 1) dX11_ticks_12 (by decide) ?_
    refine k_X11_ticks_13 (mc' := 0) (ms' := 0) (rc := 0) (rs := 0) (by omega) (Nat.le_of_ble_eq_true rfl) (by assumption) (c_X11_fail (k := 1) hL rfl (by decide) (by decide) ?_)
    refine E_iret dX11_ticks_16 rfl ?_
    exact hΦ
end
