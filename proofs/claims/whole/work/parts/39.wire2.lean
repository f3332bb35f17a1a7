/-! the wire's change, lines from a sheet, a ride more -/
/-- the model's places behind a change of the wire -/
def wpM (M : Nat → Int32) : Nat → Nat → Int32
  | 0 => M
  | k + 1 => ur (wpM M k) (16 + 7 * k + 3) (if M (16 + 7 * k + 3) < 10 * M 7 then M (16 + 7 * k + 3) else 10 * M 7)
theorem wpM_o (M : Nat → Int32) : ∀ (k t : Nat), (∀ r, r < k → t ≠ 16 + 7 * r + 3) → wpM M k t = M t
  | 0, _, _ => rfl
  | k + 1, t, h => by
    unfold wpM
    rw [ur_n _ _ (h k (by omega)), wpM_o M k t (fun r hr => h r (by omega))]
theorem wpM_at (M : Nat → Int32) : ∀ (k r : Nat), r < k → wpM M k (16 + 7 * r + 3) = (if M (16 + 7 * r + 3) < 10 * M 7 then M (16 + 7 * r + 3) else 10 * M 7)
  | 0, _, h => absurd h (by omega)
  | k + 1, r, h => by
    unfold wpM
    by_cases e : r = k
    · subst e
      rw [ur_s]
    · rw [ur_n _ _ (by omega), wpM_at M k r (by omega)]
section
variable {Γ : GE} {d : Nat} {g : Sh} {P : HP} {I : HI} {Φ : Option Value → Sh → HP → HI → Prop}
theorem alw_nat {x v : Int32} (h : alw x v) : ∃ j, x = nI j ∧ j ≤ 8 := in_04 (n := 8) (by omega) h.1
theorem c_X12_wire {x v : Int32} {k : Nat} (hd : 2 ≤ d) (hM : Mo g P) (hl : ∀ j, j < 9 → I 114 j = lst j ∧ I 115 j = grt j) (hk : I 110 1 = nI k) (hk8 : k ≤ 8) (h1 : ∀ j, x = nI j → j ≤ 8 → alw x v → Φ (some (.int (I 110 (7 + j)))) g P (ur I 110 (wpM (ur (I 110) (7 + j) v) k))) (h2 : ¬ alw x v → Φ (some (.int (er 1))) g P (flM I 1)) : MM Γ mX12_wire d 0 0 [.ref 109, .int x, .int v] g P I Φ := by
  refine MM_entry [some _, some _, some _, none, none] (by decide) (Nat.le_of_ble_eq_true rfl) rfl ?_
  obtain ⟨n1, n2, n3⟩ := hM.now
  obtain ⟨a1, a2, a3⟩ := hM.wl
  obtain ⟨b1, b2, b3⟩ := hM.wg
  have h0 := hM.1
  by_cases hc : 0 ≤ x ∧ x ≤ 8
  · obtain ⟨j, hx, hj⟩ := in_04 (n := 8) (by omega) hc
    obtain ⟨l1, l2⟩ := hl j (by omega)
    have ej : x.toNatClampNeg = j := by rw [hx]; exact nI_clamp (by omega)
    by_cases hc2 : lst j ≤ v ∧ v ≤ grt j
    · have hΦ := h1 j hx hj ⟨hc, by rw [ej]; exact hc2⟩
      have loop : ∀ (N r : Nat) (y : Int32) (J : HI), k - r ≤ N → r ≤ k → y = nI r → J = ur I 110 (wpM (ur (I 110) (7 + j) v) r) → E Γ mX12_wire d 0 0 (QM Γ 0 0 Φ) 0 0 49 [some (.ref 109), some (.int x), some (.int v), some (.int (I 110 (7 + j))), some (.int y)] [] g P J := by
        intro N
        induction N with
        | zero =>
          intro r y J hN hr hy hJ
          have : r = k := by omega
          subst this
          have ek : J 110 1 = nI r := by rw [hJ, ur_s, wpM_o _ _ _ (fun r hr => by omega), ur_n _ _ (by omega), hk]
          refine E_iload dX12_wire_49 rfl ?_
          refine E_aload_n (i := 0) dX12_wire_51 rfl rfl ?_
          refine E_gr dX12_wire_52 gf_X12_9_12 rfl (by assumption) (by assumption) ?_
          refine E_iconst (v := 1) dX12_wire_55 (by decide) ?_
          refine E_iaj 1 dX12_wire_56 (by assumption) rfl (by decide) (by rw [n3]; decide) ?_
          refine E_icmp_ge (tgt := 93) dX12_wire_57 (by decide) (fun c_57 => ?_) (fun c_57 => absurd (by rw [ek, hy]; exact Int32.le_refl _) c_57)
          refine E_iload_n (i := 3) dX12_wire_93 rfl rfl ?_
          refine E_iret dX12_wire_94 rfl ?_
          rw [hJ]
          exact hΦ
        | succ N ih =>
          intro r y J hN hr hy hJ
          have ek : J 110 1 = nI k := by rw [hJ, ur_s, wpM_o _ _ _ (fun r hr => by omega), ur_n _ _ (by omega), hk]
          have e7 : J 110 7 = ur (I 110) (7 + j) v 7 := by rw [hJ, ur_s, wpM_o _ _ _ (fun r hr => by omega)]
          have er' : J 110 (16 + 7 * r + 3) = ur (I 110) (7 + j) v (16 + 7 * r + 3) := by rw [hJ, ur_s, wpM_o _ _ _ (fun r hr => by omega)]
          by_cases hrk : r = k
          · subst hrk
            refine E_iload dX12_wire_49 rfl ?_
            refine E_aload_n (i := 0) dX12_wire_51 rfl rfl ?_
            refine E_gr dX12_wire_52 gf_X12_9_12 rfl (by assumption) (by assumption) ?_
            refine E_iconst (v := 1) dX12_wire_55 (by decide) ?_
            refine E_iaj 1 dX12_wire_56 (by assumption) rfl (by decide) (by rw [n3]; decide) ?_
            refine E_icmp_ge (tgt := 93) dX12_wire_57 (by decide) (fun c_57 => ?_) (fun c_57 => absurd (by rw [ek, hy]; exact Int32.le_refl _) c_57)
            refine E_iload_n (i := 3) dX12_wire_93 rfl rfl ?_
            refine E_iret dX12_wire_94 rfl ?_
            rw [hJ]
            exact hΦ
          · refine E_iload dX12_wire_49 rfl ?_
            refine E_aload_n (i := 0) dX12_wire_51 rfl rfl ?_
            refine E_gr dX12_wire_52 gf_X12_9_12 rfl (by assumption) (by assumption) ?_
            refine E_iconst (v := 1) dX12_wire_55 (by decide) ?_
            refine E_iaj 1 dX12_wire_56 (by assumption) rfl (by decide) (by rw [n3]; decide) ?_
            refine E_icmp_ge (tgt := 93) dX12_wire_57 (by decide) (fun c_57 => absurd c_57 (by rw [ek, hy]; exact nI_ge (by omega) (by omega))) (fun c_57 => ?_)
            refine E_aload_n (i := 0) dX12_wire_60 rfl rfl ?_
            refine E_iload dX12_wire_61 rfl ?_
            refine E_iconst (v := 3) dX12_wire_63 (by decide) ?_
            refine E_bipush (v := 10) dX12_wire_64 (by decide) ?_
            refine E_aload_n (i := 0) dX12_wire_66 rfl rfl ?_
            refine E_gr dX12_wire_67 gf_X12_9_12 rfl (by assumption) (by assumption) ?_
            refine E_bipush (v := 7) dX12_wire_70 (by decide) ?_
            refine E_iaj 7 dX12_wire_72 (by assumption) rfl (by decide) (by rw [n3]; decide) ?_
            refine E_imul dX12_wire_73 ?_
            refine E_aload_n (i := 0) dX12_wire_74 rfl rfl ?_
            refine E_iload dX12_wire_75 rfl ?_
            refine E_iconst (v := 3) dX12_wire_77 (by decide) ?_
            refine k_X12_wire_78 (mc' := 0) (ms' := 0) (rc := 0) (rs := 0) (by omega) (Nat.le_of_ble_eq_true rfl) (by assumption) (c_X12_of (f := 3) hM hy rfl (by omega) (by decide) ?_)
            refine E_min dX12_wire_81 w_1222 w_381 w_74 w_382 (Nat.le_of_ble_eq_true rfl) (by omega) ?_
            refine k_X12_wire_84 (mc' := 0) (ms' := 0) (rc := 0) (rs := 0) (by omega) (Nat.le_of_ble_eq_true rfl) (by assumption) (c_X12_tells (f := 3) hM hy rfl (by omega) (by decide) ?_)
            refine E_incC (c := 1) dX12_wire_87 rfl (by decide) (by decide) rfl ?_
            refine E_lv (lv' := [_, _, _, _, _]) rfl ?_
            refine E_goto (tgt := 49) dX12_wire_90 (by decide) ?_
            refine ih (r + 1) _ _ (by omega) (by omega) (by rw [hy, nI_1]) ?_
            rw [e7, er', hJ, u2_ur, ur_s, ur_ur]
            rfl
      refine E_iload_n (i := 1) dX12_wire_0 rfl rfl ?_
      refine E_iconst (v := 0) dX12_wire_1 (by decide) ?_
      refine E_bipush (v := 8) dX12_wire_2 (by decide) ?_
      refine k_X12_wire_4 (mc' := 0) (ms' := 0) (rc := 0) (rs := 0) (by omega) (Nat.le_of_ble_eq_true rfl) (c_X12_within ?_)
      rw [bz_t hc]
      refine E_if_eq (tgt := 29) dX12_wire_7 (by decide) (fun c_7 => absurd c_7 (by decide)) (fun c_7 => ?_)
      refine E_iload_n (i := 2) dX12_wire_10 rfl rfl ?_
      refine E_aload_n (i := 0) dX12_wire_11 rfl rfl ?_
      refine E_gr dX12_wire_12 gf_X12_22_12 rfl (by assumption) (by assumption) ?_
      refine E_iload_n (i := 1) dX12_wire_15 rfl rfl ?_
      refine E_iaj j dX12_wire_16 (by assumption) hx (by omega) (by rw [a3]; omega) ?_
      refine E_aload_n (i := 0) dX12_wire_17 rfl rfl ?_
      refine E_gr dX12_wire_18 gf_X12_26_12 rfl (by assumption) (by assumption) ?_
      refine E_iload_n (i := 1) dX12_wire_21 rfl rfl ?_
      refine E_iaj j dX12_wire_22 (by assumption) hx (by omega) (by rw [b3]; omega) ?_
      refine k_X12_wire_23 (mc' := 0) (ms' := 0) (rc := 0) (rs := 0) (by omega) (Nat.le_of_ble_eq_true rfl) (c_X12_within ?_)
      rw [l1, l2, bz_t hc2]
      refine E_if_ne (tgt := 36) dX12_wire_26 (by decide) (fun c_26 => ?_) (fun c_26 => absurd c_26 (by decide))
      refine E_aload_n (i := 0) dX12_wire_36 rfl rfl ?_
      refine E_bipush (v := 7) dX12_wire_37 (by decide) ?_
      refine E_iload_n (i := 1) dX12_wire_39 rfl rfl ?_
      refine E_iadd dX12_wire_40 ?_
      refine E_iload_n (i := 2) dX12_wire_41 rfl rfl ?_
      refine k_X12_wire_42 (mc' := 0) (ms' := 0) (rc := 0) (rs := 0) (by omega) (Nat.le_of_ble_eq_true rfl) (by assumption) (c_X12_become (k := 7 + j) hM (by rw [hx]; exact nI_add 7 j) (by omega) ?_)
      refine E_istore_nC (i := 3) dX12_wire_45 rfl (by decide) rfl ?_
      refine E_lv (lv' := [_, _, _, _, _]) rfl ?_
      refine E_iconst (v := 0) dX12_wire_46 (by decide) ?_
      refine E_istoreC dX12_wire_47 (by decide) rfl ?_
      refine E_lv (lv' := [_, _, _, _, _]) rfl ?_
      exact loop k 0 _ _ (by omega) (by omega) rfl rfl
    · have hΦ := h2 (fun h => hc2 (by have := h.2; rw [ej] at this; exact this))
      refine E_iload_n (i := 1) dX12_wire_0 rfl rfl ?_
      refine E_iconst (v := 0) dX12_wire_1 (by decide) ?_
      refine E_bipush (v := 8) dX12_wire_2 (by decide) ?_
      refine k_X12_wire_4 (mc' := 0) (ms' := 0) (rc := 0) (rs := 0) (by omega) (Nat.le_of_ble_eq_true rfl) (c_X12_within ?_)
      rw [bz_t hc]
      refine E_if_eq (tgt := 29) dX12_wire_7 (by decide) (fun c_7 => absurd c_7 (by decide)) (fun c_7 => ?_)
      refine E_iload_n (i := 2) dX12_wire_10 rfl rfl ?_
      refine E_aload_n (i := 0) dX12_wire_11 rfl rfl ?_
      refine E_gr dX12_wire_12 gf_X12_22_12 rfl (by assumption) (by assumption) ?_
      refine E_iload_n (i := 1) dX12_wire_15 rfl rfl ?_
      refine E_iaj j dX12_wire_16 (by assumption) hx (by omega) (by rw [a3]; omega) ?_
      refine E_aload_n (i := 0) dX12_wire_17 rfl rfl ?_
      refine E_gr dX12_wire_18 gf_X12_26_12 rfl (by assumption) (by assumption) ?_
      refine E_iload_n (i := 1) dX12_wire_21 rfl rfl ?_
      refine E_iaj j dX12_wire_22 (by assumption) hx (by omega) (by rw [b3]; omega) ?_
      refine k_X12_wire_23 (mc' := 0) (ms' := 0) (rc := 0) (rs := 0) (by omega) (Nat.le_of_ble_eq_true rfl) (c_X12_within ?_)
      rw [l1, l2, bz_f hc2]
      refine E_if_ne (tgt := 36) dX12_wire_26 (by decide) (fun c_26 => absurd (rfl) c_26) (fun c_26 => ?_)
      refine E_aload_n (i := 0) dX12_wire_29 rfl rfl ?_
      refine E_ldc (v := -1000000001) dX12_wire_30 w_1208 ?_
      refine k_X12_wire_32 (mc' := 0) (ms' := 0) (rc := 0) (rs := 0) (by omega) (Nat.le_of_ble_eq_true rfl) (by assumption) (c_find1 hM ?_)
      refine E_iret dX12_wire_35 rfl ?_
      exact hΦ
  · have hΦ := h2 (fun h => hc h.1)
    refine E_iload_n (i := 1) dX12_wire_0 rfl rfl ?_
    refine E_iconst (v := 0) dX12_wire_1 (by decide) ?_
    refine E_bipush (v := 8) dX12_wire_2 (by decide) ?_
    refine k_X12_wire_4 (mc' := 0) (ms' := 0) (rc := 0) (rs := 0) (by omega) (Nat.le_of_ble_eq_true rfl) (c_X12_within ?_)
    rw [bz_f hc]
    refine E_if_eq (tgt := 29) dX12_wire_7 (by decide) (fun c_7 => ?_) (fun c_7 => absurd (rfl) c_7)
    refine E_aload_n (i := 0) dX12_wire_29 rfl rfl ?_
    refine E_ldc (v := -1000000001) dX12_wire_30 w_1208 ?_
    refine k_X12_wire_32 (mc' := 0) (ms' := 0) (rc := 0) (rs := 0) (by omega) (Nat.le_of_ble_eq_true rfl) (by assumption) (c_find1 hM ?_)
    refine E_iret dX12_wire_35 rfl ?_
    exact hΦ
/-- the class's heap behind a change of the wire -/
def wpC (I : HI) (k j : Nat) (v : Int32) : HI := ur (u2 I 23 j v) 25 (mp (fun _ x => mn x (10 * (u2 I 23 j v) 23 0)) (I 25) k)
theorem c_X11_wire {x v : Int32} {k : Nat} (hd : 3 ≤ d) (hL : Ly g P) (hk : I 21 7 = nI k) (hk8 : k ≤ 8) (h1 : ∀ j, x = nI j → j ≤ 8 → alw x v → Φ (some (.int (I 23 j))) g P (wpC I k j v)) (h2 : ¬ alw x v → Φ (some (.int (er 1))) g P (fl I 1)) : MM Γ mX11_wire d 0 0 [.ref 16, .int x, .int v] g P I Φ := by
  refine MM_entry [some _, some _, some _, none] (by decide) (Nat.le_of_ble_eq_true rfl) rfl ?_
  have h0 := hL.gw
  have l1 := hL.live
  have l2 := hL.s21.c
  have l3 : P 21 1 = some 22 := hL.s21.wp
  have l4 : Wi g P 22 23 := hL.s21.wi
  have l5 := l4.1
  by_cases hc : alw x v
  · obtain ⟨j, hx, hj⟩ := alw_nat hc
    have ej : x.toNatClampNeg = j := by rw [hx]; exact nI_clamp (by omega)
    have hΦ := h1 j hx hj hc
    unfold wpC at hΦ
    have e5 : (u2 I 23 j v) 25 = I 25 := u2_oth _ (by decide)
    rw [← e5] at hΦ
    refine E_iload_n (i := 1) dX11_wire_0 rfl rfl ?_
    refine E_iload_n (i := 2) dX11_wire_1 rfl rfl ?_
    refine k_X11_wire_2 (mc' := 0) (ms' := 0) (rc := 0) (rs := 0) (by omega) (Nat.le_of_ble_eq_true rfl) (c_X10_allows (by omega) ?_)
    rw [bz_t hc]
    refine E_if_ne (tgt := 14) dX11_wire_5 (by decide) (fun c_5 => ?_) (fun c_5 => absurd c_5 (by decide))
    refine E_aload_n (i := 0) dX11_wire_14 rfl rfl ?_
    refine E_gr dX11_wire_15 gf_X11_21_11 rfl (by assumption) (by assumption) ?_
    refine E_gr dX11_wire_18 gf_X11_77_8 rfl (by assumption) (by assumption) ?_
    refine E_iload_n (i := 1) dX11_wire_21 rfl rfl ?_
    refine k_X11_wire_22 (mc' := 0) (ms' := 0) (rc := 0) (rs := 0) (by omega) (Nat.le_of_ble_eq_true rfl) (by assumption) (c_X10_ofk (k := j) hx hj l4 ?_)
    refine E_istore_nC (i := 3) dX11_wire_25 rfl (by decide) rfl ?_
    refine E_lv (lv' := [_, _, _, _]) rfl ?_
    refine E_aload_n (i := 0) dX11_wire_26 rfl rfl ?_
    refine E_gr dX11_wire_27 gf_X11_21_11 rfl (by assumption) (by assumption) ?_
    refine E_gr dX11_wire_30 gf_X11_77_8 rfl (by assumption) (by assumption) ?_
    refine E_iload_n (i := 1) dX11_wire_33 rfl rfl ?_
    refine E_iload_n (i := 2) dX11_wire_34 rfl rfl ?_
    refine k_X11_wire_35 (mc' := 0) (ms' := 0) (rc := 0) (rs := 0) (by omega) (Nat.le_of_ble_eq_true rfl) (by assumption) (c_X10_becomes (by omega) l4 ?_)
    rw [if_pos hc, ej]
    refine E_aload_n (i := 0) dX11_wire_38 rfl rfl ?_
    refine E_gr dX11_wire_39 gf_X11_21_11 rfl (by assumption) (by assumption) ?_
    refine k_X11_wire_42 (mc' := 0) (ms' := 0) (rc := 0) (rs := 0) (by omega) (Nat.le_of_ble_eq_true rfl) (by assumption) (c_X8_keepPlacesOnWire (k := k) (by omega) hL.s21 (by rw [u2_oth _ (by decide)]; exact hk) hk8 ?_)
    refine E_iload_n (i := 3) dX11_wire_45 rfl rfl ?_
    refine E_iret dX11_wire_46 rfl ?_
    exact hΦ
  · have hΦ := h2 hc
    refine E_iload_n (i := 1) dX11_wire_0 rfl rfl ?_
    refine E_iload_n (i := 2) dX11_wire_1 rfl rfl ?_
    refine k_X11_wire_2 (mc' := 0) (ms' := 0) (rc := 0) (rs := 0) (by omega) (Nat.le_of_ble_eq_true rfl) (c_X10_allows (by omega) ?_)
    rw [bz_f hc]
    refine E_if_ne (tgt := 14) dX11_wire_5 (by decide) (fun c_5 => absurd (rfl) c_5) (fun c_5 => ?_)
    refine E_aload_n (i := 0) dX11_wire_8 rfl rfl ?_
    refine E_iconst (v := 1) dX11_wire_9 (by decide) ?_
    refine k_X11_wire_10 (mc' := 0) (ms' := 0) (rc := 0) (rs := 0) (by omega) (Nat.le_of_ble_eq_true rfl) (by assumption) (c_X11_fail (k := 1) hL rfl (by decide) (by decide) ?_)
    refine E_iret dX11_wire_13 rfl ?_
    exact hΦ
/-- a line may come from place n of a sheet -/
abbrev lnc (f : Nat → Int32) (s k n : Nat) : Prop := 2 * n + 2 ≤ s ∧ k + n < 8 ∧ okL (f (2 * n)) (f (2 * n + 1))
/-- how many lines come -/
def lnT (f : Nat → Int32) (s k : Nat) : Nat → Nat → Nat
  | 0, n => n
  | u + 1, n => if lnc f s k n then lnT f s k u (n + 1) else n
theorem lnT_stop {f : Nat → Int32} {s k n : Nat} (h : ¬ lnc f s k n) : ∀ u, lnT f s k u n = n
  | 0 => rfl
  | u + 1 => if_neg h
theorem lnT_go {f : Nat → Int32} {s k n u : Nat} (h : lnc f s k n) (hu : 8 ≤ n + u) : lnT f s k u n = lnT f s k (u - 1) (n + 1) := by
  have : u ≠ 0 := fun e => by have := h.2.1; omega
  obtain ⟨w, rfl⟩ : ∃ w, u = w + 1 := ⟨u - 1, by omega⟩
  exact if_pos h
def adC (I : HI) (f : Nat → Int32) (k : Nat) : Nat → HI
  | 0 => I
  | n + 1 => ad2 (adC I f k n) 35 37 (k + n) (f (2 * n)) (f (2 * n + 1))
def adM (M : Nat → Int32) (f : Nat → Int32) (k : Nat) : Nat → Nat → Int32
  | 0 => M
  | n + 1 => ad2M (adM M f k n) 2 72 (k + n) (f (2 * n)) (f (2 * n + 1))
theorem adC_o (I : HI) (f : Nat → Int32) (k a : Nat) (h : a ≠ 35 ∧ a ≠ 36 ∧ a ≠ 37 ∧ a ≠ 38) : ∀ n, adC I f k n a = I a
  | 0 => rfl
  | n + 1 => by
    unfold adC ad2
    rw [u2_oth _ h.2.2.1, u2_oth _ h.2.2.2, u2_oth _ h.1, u2_oth _ h.2.1, adC_o I f k a h n]
theorem adC_35 {I : HI} (f : Nat → Int32) {k : Nat} (h : I 35 1 = nI k) : ∀ n, adC I f k n 35 1 = nI (k + n)
  | 0 => h
  | n + 1 => by
    unfold adC ad2
    rw [u2_oth _ (by decide), u2_oth _ (by decide), u2_s]
    rfl
theorem adC_37 {I : HI} (f : Nat → Int32) {k : Nat} (h : I 37 1 = nI k) : ∀ n, adC I f k n 37 1 = nI (k + n)
  | 0 => h
  | n + 1 => by
    unfold adC ad2
    rw [u2_s]
    rfl
theorem adM_2 {M : Nat → Int32} (f : Nat → Int32) {k : Nat} (h : M 2 = nI k) : ∀ n, adM M f k n 2 = nI (k + n)
  | 0 => h
  | n + 1 => by
    unfold adM ad2M
    rw [ur_s]
    rfl
theorem c_X11_lines {x : Int32} {k : Nat} {sz : Nat → Nat} (hd : 3 ≤ d) (hL : Ly g P) (hZ : Zs I sz) (e1 : I 35 1 = nI k) (e2 : I 37 1 = nI k) (hk8 : k ≤ 8) (h1 : ∀ j, x = nI j → j < 4 → ¬ I 97 j = 0 → Φ (some (.int (nI (lnT (I (102 + 2 * j)) (sz j) k 8 0)))) g P (adC I (I (102 + 2 * j)) k (lnT (I (102 + 2 * j)) (sz j) k 8 0))) (h2 : ¬ (0 ≤ x ∧ x ≤ 3) → Φ (some (.int (er 1))) g P (fl I 1)) (h3 : ∀ j, x = nI j → j < 4 → I 97 j = 0 → Φ (some (.int (er 2))) g P (fl I 2)) : MM Γ mX11_lines d 0 0 [.ref 16, .int x] g P I Φ := by
  refine MM_entry [some _, some _, none, none] (by decide) (Nat.le_of_ble_eq_true rfl) rfl ?_
  have h0 := hL.gw
  have l1 := hL.live
  have l2 := hL.s21.c
  obtain ⟨t1, t2⟩ : P 21 13 = some 35 ∧ RS g P 35 36 8 := hL.s21.str
  have t3 := t2.1
  obtain ⟨s1, s2, s3⟩ := hL.she
  obtain ⟨b1, b2, b3⟩ := hL.bit
  by_cases hc : 0 ≤ x ∧ x ≤ 3
  · obtain ⟨j, hx, hj'⟩ := in_04 (n := 3) (by omega) hc
    have hj : j < 4 := by omega
    obtain ⟨sp, sr⟩ := hL.shr j hj
    have sc := sr.1
    have zj := hZ j hj
    by_cases hb : I 97 j = 0
    · have hΦ := h3 j hx hj hb
      refine E_iload_n (i := 1) dX11_lines_0 rfl rfl ?_
      refine E_iconst (v := 0) dX11_lines_1 (by decide) ?_
      refine E_iconst (v := 3) dX11_lines_2 (by decide) ?_
      refine k_X11_lines_3 (mc' := 0) (ms' := 0) (rc := 0) (rs := 0) (by omega) (Nat.le_of_ble_eq_true rfl) (c_X11_within ?_)
      rw [bz_t hc]
      refine E_if_ne (tgt := 15) dX11_lines_6 (by decide) (fun c_6 => ?_) (fun c_6 => absurd c_6 (by decide))
      refine E_aload_n (i := 0) dX11_lines_15 rfl rfl ?_
      refine E_gr dX11_lines_16 gf_X11_52_11 rfl (by assumption) (by assumption) ?_
      refine E_iload_n (i := 1) dX11_lines_19 rfl rfl ?_
      refine E_iaj j dX11_lines_20 (by assumption) hx (by omega) (by rw [b3]; omega) ?_
      refine E_if_ne (tgt := 30) dX11_lines_21 (by decide) (fun c_21 => absurd (hb) c_21) (fun c_21 => ?_)
      refine E_aload_n (i := 0) dX11_lines_24 rfl rfl ?_
      refine E_iconst (v := 2) dX11_lines_25 (by decide) ?_
      refine k_X11_lines_26 (mc' := 0) (ms' := 0) (rc := 0) (rs := 0) (by omega) (Nat.le_of_ble_eq_true rfl) (by assumption) (c_X11_fail (k := 2) hL rfl (by decide) (by decide) ?_)
      refine E_iret dX11_lines_29 rfl ?_
      exact hΦ
    · have hΦ := h1 j hx hj hb
      have loop : ∀ (u n : Nat) (y : Int32) (J : HI), 8 ≤ n + u → y = nI n → n ≤ 8 → k + n ≤ 8 → J = adC I (I (102 + 2 * j)) k n → lnT (I (102 + 2 * j)) (sz j) k u n = lnT (I (102 + 2 * j)) (sz j) k 8 0 → E Γ mX11_lines d 0 0 (QM Γ 0 0 Φ) 0 0 39 [some (.ref 16), some (.int x), some (.ref (101 + 2 * j)), some (.int y)] [] g P J := by
        intro u
        induction u with
        | zero =>
          intro n y J hu hy hn hkn hJ hT
          have n8 : n = 8 := by omega
          subst n8
          have hT' : 8 = lnT (I (102 + 2 * j)) (sz j) k 8 0 := hT
          refine E_iload_n (i := 3) dX11_lines_39 rfl rfl ?_
          refine E_bipush (v := 8) dX11_lines_40 (by decide) ?_
          refine E_icmp_ge (tgt := 119) dX11_lines_42 (by decide) (fun c_42 => ?_) (fun c_42 => absurd (by rw [hy]; decide) c_42)
          refine E_iload_n (i := 3) dX11_lines_119 rfl rfl ?_
          refine E_iret dX11_lines_120 rfl ?_
          rw [hJ, hy]
          rw [← hT'] at hΦ
          exact hΦ
        | succ u ih =>
          intro n y J hu hy hn hkn hJ hT
          have eo : ∀ a, a ≠ 35 → a ≠ 36 → a ≠ 37 → a ≠ 38 → J a = I a := fun a q1 q2 q3 q4 => by rw [hJ]; exact adC_o _ _ _ _ ⟨q1, q2, q3, q4⟩ n
          have z2 : J (101 + 2 * j) 1 = nI (sz j) := by rw [eo _ (by omega) (by omega) (by omega) (by omega)]; exact zj.1
          have eq : J (102 + 2 * j) = I (102 + 2 * j) := eo _ (by omega) (by omega) (by omega) (by omega)
          have rr : Rw g P J (101 + 2 * j) (102 + 2 * j) 40 (sz j) := sr.w z2 zj.2 (by omega)
          have r35 : J 35 1 = nI (k + n) := by rw [hJ]; exact adC_35 _ e1 n
          have r37 : J 37 1 = nI (k + n) := by rw [hJ]; exact adC_37 _ e2 n
          have rs : Rw g P J 35 36 8 (k + n) := t2.w r35 (by omega) (by omega)
          have x1 : (2 : Int32) * y + 1 = nI (2 * n + 1) := by rw [hy, nI_2m, nI_1]
          have x0 : (2 : Int32) * y = nI (2 * n) := by rw [hy, nI_2m]
          by_cases hln : lnc (I (102 + 2 * j)) (sz j) k n
          · have v0 : rat J (102 + 2 * j) (sz j) (2 * y) = I (102 + 2 * j) (2 * n) := by rw [x0, rat_in (by have := hln.1; omega) (by omega), eq]
            have v1 : rat J (102 + 2 * j) (sz j) (2 * y + 1) = I (102 + 2 * j) (2 * n + 1) := by rw [x1, rat_in (by have := hln.1; omega) (by omega), eq]
            refine E_iload_n (i := 3) dX11_lines_39 rfl rfl ?_
            refine E_bipush (v := 8) dX11_lines_40 (by decide) ?_
            refine E_icmp_ge (tgt := 119) dX11_lines_42 (by decide) (fun c_42 => absurd c_42 (by rw [hy]; exact nI_ge (b := 8) (by have := hln.2.1; omega) (by omega))) (fun c_42 => ?_)
            refine E_iconst (v := 2) dX11_lines_45 (by decide) ?_
            refine E_iload_n (i := 3) dX11_lines_46 rfl rfl ?_
            refine E_imul dX11_lines_47 ?_
            refine E_iconst (v := 1) dX11_lines_48 (by decide) ?_
            refine E_iadd dX11_lines_49 ?_
            refine E_aload_n (i := 2) dX11_lines_50 rfl rfl ?_
            refine E_gi dX11_lines_51 gf_X11_159_7 rfl (by assumption) ?_
            rw [x1, z2]
            refine E_icmp_ge (tgt := 119) dX11_lines_54 (by decide) (fun c_54 => absurd c_54 (nI_ge (by have := hln.1; omega) (by omega))) (fun c_54 => ?_)
            refine E_aload_n (i := 0) dX11_lines_57 rfl rfl ?_
            refine E_gr dX11_lines_58 gf_X11_21_11 rfl (by assumption) (by assumption) ?_
            refine E_gr dX11_lines_61 gf_X11_213_8 rfl (by assumption) (by assumption) ?_
            refine k_X11_lines_64 (mc' := 0) (ms' := 0) (rc := 0) (rs := 0) (by omega) (Nat.le_of_ble_eq_true rfl) (by assumption) (c_X7_isFull rs ?_)
            rw [bz_f (show ¬ 8 ≤ k + n by have := hln.2.1; omega)]
            refine E_if_ne (tgt := 119) dX11_lines_67 (by decide) (fun c_67 => absurd (rfl) c_67) (fun c_67 => ?_)
            refine E_aload_n (i := 2) dX11_lines_70 rfl rfl ?_
            refine E_iconst (v := 2) dX11_lines_71 (by decide) ?_
            refine E_iload_n (i := 3) dX11_lines_72 rfl rfl ?_
            refine E_imul dX11_lines_73 ?_
            refine k_X11_lines_74 (mc' := 0) (ms' := 0) (rc := 0) (rs := 0) (by omega) (Nat.le_of_ble_eq_true rfl) (by assumption) (c_X7_at (by omega) rr ?_)
            rw [v0]
            refine E_aload_n (i := 2) dX11_lines_77 rfl rfl ?_
            refine E_iconst (v := 2) dX11_lines_78 (by decide) ?_
            refine E_iload_n (i := 3) dX11_lines_79 rfl rfl ?_
            refine E_imul dX11_lines_80 ?_
            refine E_iconst (v := 1) dX11_lines_81 (by decide) ?_
            refine E_iadd dX11_lines_82 ?_
            refine k_X11_lines_83 (mc' := 0) (ms' := 0) (rc := 0) (rs := 0) (by omega) (Nat.le_of_ble_eq_true rfl) (by assumption) (c_X7_at (by omega) rr ?_)
            rw [v1]
            refine k_X11_lines_86 (mc' := 0) (ms' := 0) (rc := 0) (rs := 0) (by omega) (Nat.le_of_ble_eq_true rfl) (c_X11_isLine (by omega) ?_)
            rw [bz_t hln.2.2]
            refine E_if_eq (tgt := 119) dX11_lines_89 (by decide) (fun c_89 => absurd c_89 (by decide)) (fun c_89 => ?_)
            refine E_aload_n (i := 0) dX11_lines_92 rfl rfl ?_
            refine E_aload_n (i := 2) dX11_lines_93 rfl rfl ?_
            refine E_iconst (v := 2) dX11_lines_94 (by decide) ?_
            refine E_iload_n (i := 3) dX11_lines_95 rfl rfl ?_
            refine E_imul dX11_lines_96 ?_
            refine k_X11_lines_97 (mc' := 0) (ms' := 0) (rc := 0) (rs := 0) (by omega) (Nat.le_of_ble_eq_true rfl) (by assumption) (c_X7_at (by omega) rr ?_)
            rw [v0]
            refine E_aload_n (i := 2) dX11_lines_100 rfl rfl ?_
            refine E_iconst (v := 2) dX11_lines_101 (by decide) ?_
            refine E_iload_n (i := 3) dX11_lines_102 rfl rfl ?_
            refine E_imul dX11_lines_103 ?_
            refine E_iconst (v := 1) dX11_lines_104 (by decide) ?_
            refine E_iadd dX11_lines_105 ?_
            refine k_X11_lines_106 (mc' := 0) (ms' := 0) (rc := 0) (rs := 0) (by omega) (Nat.le_of_ble_eq_true rfl) (by assumption) (c_X7_at (by omega) rr ?_)
            rw [v1]
            refine k_X11_lines_109 (mc' := 0) (ms' := 0) (rc := 0) (rs := 0) (by omega) (Nat.le_of_ble_eq_true rfl) (by assumption) (c_X11_addLine (by omega) hL r35 r37 (by have := hln.2.1; omega) ?_)
            refine E_pop dX11_lines_112 rfl ?_
            refine E_incC (c := 1) dX11_lines_113 rfl (by decide) (by decide) rfl ?_
            refine E_lv (lv' := [_, _, _, _]) rfl ?_
            refine E_goto (tgt := 39) dX11_lines_116 (by decide) ?_
            refine ih (n + 1) _ _ (by omega) (by rw [hy, nI_1]) (by have := hln.2.1; omega) (by have := hln.2.1; omega) (by rw [hJ]; rfl) ?_
            rw [← hT, lnT_go hln hu]
            rfl
          · have hT' : n = lnT (I (102 + 2 * j)) (sz j) k 8 0 := by rw [← hT, lnT_stop hln]
            have hΦ2 : Φ (some (.int (nI n))) g P (adC I (I (102 + 2 * j)) k n) := by rw [← hT'] at hΦ; exact hΦ
            by_cases q1 : 2 * n + 2 ≤ sz j
            · by_cases q2 : k + n < 8
              · have q3 : ¬ okL (I (102 + 2 * j) (2 * n)) (I (102 + 2 * j) (2 * n + 1)) := fun h => hln ⟨q1, q2, h⟩
                have v0 : rat J (102 + 2 * j) (sz j) (2 * y) = I (102 + 2 * j) (2 * n) := by rw [x0, rat_in (by omega) (by omega), eq]
                have v1 : rat J (102 + 2 * j) (sz j) (2 * y + 1) = I (102 + 2 * j) (2 * n + 1) := by rw [x1, rat_in (by omega) (by omega), eq]
                refine E_iload_n (i := 3) dX11_lines_39 rfl rfl ?_
                refine E_bipush (v := 8) dX11_lines_40 (by decide) ?_
                refine E_icmp_ge (tgt := 119) dX11_lines_42 (by decide) (fun c_42 => absurd c_42 (by rw [hy]; exact nI_ge (b := 8) (by omega) (by omega))) (fun c_42 => ?_)
                refine E_iconst (v := 2) dX11_lines_45 (by decide) ?_
                refine E_iload_n (i := 3) dX11_lines_46 rfl rfl ?_
                refine E_imul dX11_lines_47 ?_
                refine E_iconst (v := 1) dX11_lines_48 (by decide) ?_
                refine E_iadd dX11_lines_49 ?_
                refine E_aload_n (i := 2) dX11_lines_50 rfl rfl ?_
                refine E_gi dX11_lines_51 gf_X11_159_7 rfl (by assumption) ?_
                rw [x1, z2]
                refine E_icmp_ge (tgt := 119) dX11_lines_54 (by decide) (fun c_54 => absurd c_54 (nI_ge (by omega) (by omega))) (fun c_54 => ?_)
                refine E_aload_n (i := 0) dX11_lines_57 rfl rfl ?_
                refine E_gr dX11_lines_58 gf_X11_21_11 rfl (by assumption) (by assumption) ?_
                refine E_gr dX11_lines_61 gf_X11_213_8 rfl (by assumption) (by assumption) ?_
                refine k_X11_lines_64 (mc' := 0) (ms' := 0) (rc := 0) (rs := 0) (by omega) (Nat.le_of_ble_eq_true rfl) (by assumption) (c_X7_isFull rs ?_)
                rw [bz_f (show ¬ 8 ≤ k + n by omega)]
                refine E_if_ne (tgt := 119) dX11_lines_67 (by decide) (fun c_67 => absurd (rfl) c_67) (fun c_67 => ?_)
                refine E_aload_n (i := 2) dX11_lines_70 rfl rfl ?_
                refine E_iconst (v := 2) dX11_lines_71 (by decide) ?_
                refine E_iload_n (i := 3) dX11_lines_72 rfl rfl ?_
                refine E_imul dX11_lines_73 ?_
                refine k_X11_lines_74 (mc' := 0) (ms' := 0) (rc := 0) (rs := 0) (by omega) (Nat.le_of_ble_eq_true rfl) (by assumption) (c_X7_at (by omega) rr ?_)
                rw [v0]
                refine E_aload_n (i := 2) dX11_lines_77 rfl rfl ?_
                refine E_iconst (v := 2) dX11_lines_78 (by decide) ?_
                refine E_iload_n (i := 3) dX11_lines_79 rfl rfl ?_
                refine E_imul dX11_lines_80 ?_
                refine E_iconst (v := 1) dX11_lines_81 (by decide) ?_
                refine E_iadd dX11_lines_82 ?_
                refine k_X11_lines_83 (mc' := 0) (ms' := 0) (rc := 0) (rs := 0) (by omega) (Nat.le_of_ble_eq_true rfl) (by assumption) (c_X7_at (by omega) rr ?_)
                rw [v1]
                refine k_X11_lines_86 (mc' := 0) (ms' := 0) (rc := 0) (rs := 0) (by omega) (Nat.le_of_ble_eq_true rfl) (c_X11_isLine (by omega) ?_)
                rw [bz_f q3]
                refine E_if_eq (tgt := 119) dX11_lines_89 (by decide) (fun c_89 => ?_) (fun c_89 => absurd (rfl) c_89)
                refine E_iload_n (i := 3) dX11_lines_119 rfl rfl ?_
                refine E_iret dX11_lines_120 rfl ?_
                rw [hJ, hy]
                exact hΦ2
              · have q4 : 8 ≤ k + n := by omega
                refine E_iload_n (i := 3) dX11_lines_39 rfl rfl ?_
                refine E_bipush (v := 8) dX11_lines_40 (by decide) ?_
                refine E_icmp_ge (tgt := 119) dX11_lines_42 (by decide) (fun c_42 => ?_) (fun c_42 => ?_)
                · refine E_iload_n (i := 3) dX11_lines_119 rfl rfl ?_
                  refine E_iret dX11_lines_120 rfl ?_
                  rw [hJ, hy]
                  exact hΦ2
                · refine E_iconst (v := 2) dX11_lines_45 (by decide) ?_
                  refine E_iload_n (i := 3) dX11_lines_46 rfl rfl ?_
                  refine E_imul dX11_lines_47 ?_
                  refine E_iconst (v := 1) dX11_lines_48 (by decide) ?_
                  refine E_iadd dX11_lines_49 ?_
                  refine E_aload_n (i := 2) dX11_lines_50 rfl rfl ?_
                  refine E_gi dX11_lines_51 gf_X11_159_7 rfl (by assumption) ?_
                  refine E_icmp_ge (tgt := 119) dX11_lines_54 (by decide) (fun c_54 => ?_) (fun c_54 => ?_)
                  · refine E_iload_n (i := 3) dX11_lines_119 rfl rfl ?_
                    refine E_iret dX11_lines_120 rfl ?_
                    rw [hJ, hy]
                    exact hΦ2
                  · refine E_aload_n (i := 0) dX11_lines_57 rfl rfl ?_
                    refine E_gr dX11_lines_58 gf_X11_21_11 rfl (by assumption) (by assumption) ?_
                    refine E_gr dX11_lines_61 gf_X11_213_8 rfl (by assumption) (by assumption) ?_
                    refine k_X11_lines_64 (mc' := 0) (ms' := 0) (rc := 0) (rs := 0) (by omega) (Nat.le_of_ble_eq_true rfl) (by assumption) (c_X7_isFull rs ?_)
                    rw [bz_t q4]
                    refine E_if_ne (tgt := 119) dX11_lines_67 (by decide) (fun c_67 => ?_) (fun c_67 => absurd c_67 (by decide))
                    refine E_iload_n (i := 3) dX11_lines_119 rfl rfl ?_
                    refine E_iret dX11_lines_120 rfl ?_
                    rw [hJ, hy]
                    exact hΦ2
            · have q5 : sz j ≤ 2 * n + 1 := by omega
              refine E_iload_n (i := 3) dX11_lines_39 rfl rfl ?_
              refine E_bipush (v := 8) dX11_lines_40 (by decide) ?_
              refine E_icmp_ge (tgt := 119) dX11_lines_42 (by decide) (fun c_42 => ?_) (fun c_42 => ?_)
              · refine E_iload_n (i := 3) dX11_lines_119 rfl rfl ?_
                refine E_iret dX11_lines_120 rfl ?_
                rw [hJ, hy]
                exact hΦ2
              · refine E_iconst (v := 2) dX11_lines_45 (by decide) ?_
                refine E_iload_n (i := 3) dX11_lines_46 rfl rfl ?_
                refine E_imul dX11_lines_47 ?_
                refine E_iconst (v := 1) dX11_lines_48 (by decide) ?_
                refine E_iadd dX11_lines_49 ?_
                refine E_aload_n (i := 2) dX11_lines_50 rfl rfl ?_
                refine E_gi dX11_lines_51 gf_X11_159_7 rfl (by assumption) ?_
                rw [x1, z2]
                refine E_icmp_ge (tgt := 119) dX11_lines_54 (by decide) (fun c_54 => ?_) (fun c_54 => absurd ((nI_leI (by omega) (by omega)).mpr q5) c_54)
                refine E_iload_n (i := 3) dX11_lines_119 rfl rfl ?_
                refine E_iret dX11_lines_120 rfl ?_
                rw [hJ, hy]
                exact hΦ2
      refine E_iload_n (i := 1) dX11_lines_0 rfl rfl ?_
      refine E_iconst (v := 0) dX11_lines_1 (by decide) ?_
      refine E_iconst (v := 3) dX11_lines_2 (by decide) ?_
      refine k_X11_lines_3 (mc' := 0) (ms' := 0) (rc := 0) (rs := 0) (by omega) (Nat.le_of_ble_eq_true rfl) (c_X11_within ?_)
      rw [bz_t hc]
      refine E_if_ne (tgt := 15) dX11_lines_6 (by decide) (fun c_6 => ?_) (fun c_6 => absurd c_6 (by decide))
      refine E_aload_n (i := 0) dX11_lines_15 rfl rfl ?_
      refine E_gr dX11_lines_16 gf_X11_52_11 rfl (by assumption) (by assumption) ?_
      refine E_iload_n (i := 1) dX11_lines_19 rfl rfl ?_
      refine E_iaj j dX11_lines_20 (by assumption) hx (by omega) (by rw [b3]; omega) ?_
      refine E_if_ne (tgt := 30) dX11_lines_21 (by decide) (fun c_21 => ?_) (fun c_21 => absurd c_21 (hb))
      refine E_aload_n (i := 0) dX11_lines_30 rfl rfl ?_
      refine E_gr dX11_lines_31 gf_X11_48_11 rfl (by assumption) (by assumption) ?_
      refine E_iload_n (i := 1) dX11_lines_34 rfl rfl ?_
      refine E_aaj (t := 0) j dX11_lines_35 (by decide) s2 hx (by rw [s3]; omega) (by omega) sp ?_
      refine E_astore_nC (i := 2) dX11_lines_36 rfl (by decide) rfl ?_
      refine E_lv (lv' := [_, _, _, _]) rfl ?_
      refine E_iconst (v := 0) dX11_lines_37 (by decide) ?_
      refine E_istore_nC (i := 3) dX11_lines_38 rfl (by decide) rfl ?_
      refine E_lv (lv' := [_, _, _, _]) rfl ?_
      exact loop 8 0 _ _ (by omega) rfl (by omega) (by omega) rfl rfl
  · have hΦ := h2 hc
    refine E_iload_n (i := 1) dX11_lines_0 rfl rfl ?_
    refine E_iconst (v := 0) dX11_lines_1 (by decide) ?_
    refine E_iconst (v := 3) dX11_lines_2 (by decide) ?_
    refine k_X11_lines_3 (mc' := 0) (ms' := 0) (rc := 0) (rs := 0) (by omega) (Nat.le_of_ble_eq_true rfl) (c_X11_within ?_)
    rw [bz_f hc]
    refine E_if_ne (tgt := 15) dX11_lines_6 (by decide) (fun c_6 => absurd (rfl) c_6) (fun c_6 => ?_)
    refine E_aload_n (i := 0) dX11_lines_9 rfl rfl ?_
    refine E_iconst (v := 1) dX11_lines_10 (by decide) ?_
    refine k_X11_lines_11 (mc' := 0) (ms' := 0) (rc := 0) (rs := 0) (by omega) (Nat.le_of_ble_eq_true rfl) (by assumption) (c_X11_fail (k := 1) hL rfl (by decide) (by decide) ?_)
    refine E_iret dX11_lines_14 rfl ?_
    exact hΦ
theorem c_X12_lines {x : Int32} {k : Nat} {sz : Nat → Nat} (hd : 2 ≤ d) (hM : Mo g P) (hZ : ∀ j, j < 4 → I 125 j = nI (sz j) ∧ sz j ≤ 40) (e1 : I 110 2 = nI k) (hk8 : k ≤ 8) (h1 : ∀ j, x = nI j → j < 4 → ¬ I 124 j = 0 → Φ (some (.int (nI (lnT (fun t => I 126 (40 * j + t)) (sz j) k 8 0)))) g P (ur I 110 (adM (I 110) (fun t => I 126 (40 * j + t)) k (lnT (fun t => I 126 (40 * j + t)) (sz j) k 8 0)))) (h2 : ¬ (0 ≤ x ∧ x ≤ 3) → Φ (some (.int (er 1))) g P (flM I 1)) (h3 : ∀ j, x = nI j → j < 4 → I 124 j = 0 → Φ (some (.int (er 2))) g P (flM I 2)) : MM Γ mX12_lines d 0 0 [.ref 109, .int x] g P I Φ := by
  refine MM_entry [some _, some _, none, none, none] (by decide) (Nat.le_of_ble_eq_true rfl) rfl ?_
  have h0 := hM.1
  obtain ⟨m1, m2, m3⟩ := hM.now
  obtain ⟨w1, w2, w3⟩ := hM.wid
  obtain ⟨s1, s2, s3⟩ := hM.siz
  obtain ⟨n1, n2, n3⟩ := hM.num
  by_cases hc : 0 ≤ x ∧ x ≤ 3
  · obtain ⟨j, hx, hj'⟩ := in_04 (n := 3) (by omega) hc
    have hj : j < 4 := by omega
    have zj := hZ j hj
    by_cases hb : I 124 j = 0
    · have hΦ := h3 j hx hj hb
      refine E_iload_n (i := 1) dX12_lines_0 rfl rfl ?_
      refine k_X12_lines_1 (mc' := 0) (ms' := 0) (rc := 0) (rs := 0) (by omega) (Nat.le_of_ble_eq_true rfl) (c_X12_isSheet (by omega) ?_)
      rw [bz_t hc]
      refine E_if_ne (tgt := 14) dX12_lines_4 (by decide) (fun c_4 => ?_) (fun c_4 => absurd c_4 (by decide))
      refine E_aload_n (i := 0) dX12_lines_14 rfl rfl ?_
      refine E_gr dX12_lines_15 gf_X12_60_12 rfl (by assumption) (by assumption) ?_
      refine E_iload_n (i := 1) dX12_lines_18 rfl rfl ?_
      refine E_iaj j dX12_lines_19 (by assumption) hx (by omega) (by rw [w3]; omega) ?_
      refine E_if_ne (tgt := 30) dX12_lines_20 (by decide) (fun c_20 => absurd (hb) c_20) (fun c_20 => ?_)
      refine E_aload_n (i := 0) dX12_lines_23 rfl rfl ?_
      refine E_ldc (v := -1000000002) dX12_lines_24 w_1275 ?_
      refine k_X12_lines_26 (mc' := 0) (ms' := 0) (rc := 0) (rs := 0) (by omega) (Nat.le_of_ble_eq_true rfl) (by assumption) (c_find2 hM ?_)
      refine E_iret dX12_lines_29 rfl ?_
      exact hΦ
    · have hΦ := h1 j hx hj hb
      generalize hF : (fun t => I 126 (40 * j + t)) = F at hΦ
      have loop : ∀ (u n : Nat) (y z : Int32) (w : Option Value) (J : HI), 8 ≤ n + u → y = nI n → z = nI (40 * j + 2 * n) → k + n ≤ 8 → J = ur I 110 (adM (I 110) F k n) → lnT F (sz j) k u n = lnT F (sz j) k 8 0 → E Γ mX12_lines d 0 0 (QM Γ 0 0 Φ) 0 0 37 [some (.ref 109), some (.int x), some (.int y), some (.int z), w] [] g P J := by
        intro u
        induction u with
        | zero =>
          intro n y z w J hu hy hz hkn hJ hT
          have hT' : n = lnT F (sz j) k 8 0 := hT
          have r2 : J 110 2 = nI (k + n) := by rw [hJ, ur_s]; exact adM_2 _ e1 n
          have es : J 125 j = nI (sz j) := by rw [hJ, ur_n _ _ (by decide)]; exact zj.1
          have x2 : (2 : Int32) * y + 2 = nI (2 * n + 2) := by rw [hy, nI_2m]; exact nI_add _ 2
          have hΦ2 : Φ (some (.int (nI n))) g P (ur I 110 (adM (I 110) F k n)) := by rw [← hT'] at hΦ; exact hΦ
          refine E_iconst (v := 2) dX12_lines_37 (by decide) ?_
          refine E_iload_n (i := 2) dX12_lines_38 rfl rfl ?_
          refine E_imul dX12_lines_39 ?_
          refine E_iconst (v := 2) dX12_lines_40 (by decide) ?_
          refine E_iadd dX12_lines_41 ?_
          refine E_aload_n (i := 0) dX12_lines_42 rfl rfl ?_
          refine E_gr dX12_lines_43 gf_X12_63_12 rfl (by assumption) (by assumption) ?_
          refine E_iload_n (i := 1) dX12_lines_46 rfl rfl ?_
          refine E_iaj j dX12_lines_47 (by assumption) hx (by omega) (by rw [s3]; omega) ?_
          refine E_icmp_gt (tgt := 113) dX12_lines_48 (by decide) (fun c_48 => ?_) (fun c_48 => ?_)
          · refine E_iload_n (i := 2) dX12_lines_113 rfl rfl ?_
            refine E_iret dX12_lines_114 rfl ?_
            rw [hJ, hy]
            exact hΦ2
          · refine E_aload_n (i := 0) dX12_lines_51 rfl rfl ?_
            refine E_gr dX12_lines_52 gf_X12_9_12 rfl (by assumption) (by assumption) ?_
            refine E_iconst (v := 2) dX12_lines_55 (by decide) ?_
            refine E_iaj 2 dX12_lines_56 (by assumption) rfl (by decide) (by rw [m3]; decide) ?_
            refine E_bipush (v := 8) dX12_lines_57 (by decide) ?_
            rw [r2]
            refine E_icmp_ge (tgt := 113) dX12_lines_59 (by decide) (fun c_59 => ?_) (fun c_59 => absurd ((nI_leI (a := 8) (by omega) (by omega)).mpr (by omega)) c_59)
            refine E_iload_n (i := 2) dX12_lines_113 rfl rfl ?_
            refine E_iret dX12_lines_114 rfl ?_
            rw [hJ, hy]
            exact hΦ2
        | succ u ih =>
          intro n y z w J hu hy hz hkn hJ hT
          have r2 : J 110 2 = nI (k + n) := by rw [hJ, ur_s]; exact adM_2 _ e1 n
          have es : J 125 j = nI (sz j) := by rw [hJ, ur_n _ _ (by decide)]; exact zj.1
          have x2 : (2 : Int32) * y + 2 = nI (2 * n + 2) := by rw [hy, nI_2m]; exact nI_add _ 2
          have z1 : z + 1 = nI (40 * j + 2 * n + 1) := by rw [hz, nI_1]
          have en : J 126 = I 126 := by rw [hJ, ur_n _ _ (by decide)]
          have v0 : J 126 (40 * j + 2 * n) = F (2 * n) := by rw [en, ← hF]
          have v1 : J 126 (40 * j + 2 * n + 1) = F (2 * n + 1) := by rw [en, ← hF]; rfl
          by_cases hln : lnc F (sz j) k n
          · refine E_iconst (v := 2) dX12_lines_37 (by decide) ?_
            refine E_iload_n (i := 2) dX12_lines_38 rfl rfl ?_
            refine E_imul dX12_lines_39 ?_
            refine E_iconst (v := 2) dX12_lines_40 (by decide) ?_
            refine E_iadd dX12_lines_41 ?_
            refine E_aload_n (i := 0) dX12_lines_42 rfl rfl ?_
            refine E_gr dX12_lines_43 gf_X12_63_12 rfl (by assumption) (by assumption) ?_
            refine E_iload_n (i := 1) dX12_lines_46 rfl rfl ?_
            refine E_iaj j dX12_lines_47 (by assumption) hx (by omega) (by rw [s3]; omega) ?_
            rw [x2, es]
            refine E_icmp_gt (tgt := 113) dX12_lines_48 (by decide) (fun c_48 => absurd c_48 (nI_nlt hln.1 (by omega))) (fun c_48 => ?_)
            refine E_aload_n (i := 0) dX12_lines_51 rfl rfl ?_
            refine E_gr dX12_lines_52 gf_X12_9_12 rfl (by assumption) (by assumption) ?_
            refine E_iconst (v := 2) dX12_lines_55 (by decide) ?_
            refine E_iaj 2 dX12_lines_56 (by assumption) rfl (by decide) (by rw [m3]; decide) ?_
            refine E_bipush (v := 8) dX12_lines_57 (by decide) ?_
            rw [r2]
            refine E_icmp_ge (tgt := 113) dX12_lines_59 (by decide) (fun c_59 => absurd c_59 (nI_ge (b := 8) (by have := hln.2.1; omega) (by omega))) (fun c_59 => ?_)
            refine E_aload_n (i := 0) dX12_lines_62 rfl rfl ?_
            refine E_gr dX12_lines_63 gf_X12_66_12 rfl (by assumption) (by assumption) ?_
            refine E_iload_n (i := 3) dX12_lines_66 rfl rfl ?_
            refine E_iaj (40 * j + 2 * n) dX12_lines_67 (by assumption) hz (by omega) (by rw [n3]; have := hln.1; omega) ?_
            rw [v0]
            refine E_aload_n (i := 0) dX12_lines_68 rfl rfl ?_
            refine E_gr dX12_lines_69 gf_X12_66_12 rfl (by assumption) (by assumption) ?_
            refine E_iload_n (i := 3) dX12_lines_72 rfl rfl ?_
            refine E_iconst (v := 1) dX12_lines_73 (by decide) ?_
            refine E_iadd dX12_lines_74 ?_
            refine E_iaj (40 * j + 2 * n + 1) dX12_lines_75 (by assumption) z1 (by omega) (by rw [n3]; have := hln.1; omega) ?_
            rw [v1]
            refine k_X12_lines_76 (mc' := 0) (ms' := 0) (rc := 0) (rs := 0) (by omega) (Nat.le_of_ble_eq_true rfl) (c_X12_isAsTold (by omega) ?_)
            rw [bz_t hln.2.2]
            refine E_if_ne (tgt := 84) dX12_lines_79 (by decide) (fun c_79 => ?_) (fun c_79 => absurd c_79 (by decide))
            refine E_aload_n (i := 0) dX12_lines_84 rfl rfl ?_
            refine E_aload_n (i := 0) dX12_lines_85 rfl rfl ?_
            refine E_gr dX12_lines_86 gf_X12_66_12 rfl (by assumption) (by assumption) ?_
            refine E_iload_n (i := 3) dX12_lines_89 rfl rfl ?_
            refine E_iaj (40 * j + 2 * n) dX12_lines_90 (by assumption) hz (by omega) (by rw [n3]; have := hln.1; omega) ?_
            rw [v0]
            refine E_aload_n (i := 0) dX12_lines_91 rfl rfl ?_
            refine E_gr dX12_lines_92 gf_X12_66_12 rfl (by assumption) (by assumption) ?_
            refine E_iload_n (i := 3) dX12_lines_95 rfl rfl ?_
            refine E_iconst (v := 1) dX12_lines_96 (by decide) ?_
            refine E_iadd dX12_lines_97 ?_
            refine E_iaj (40 * j + 2 * n + 1) dX12_lines_98 (by assumption) z1 (by omega) (by rw [n3]; have := hln.1; omega) ?_
            rw [v1]
            refine k_X12_lines_99 (mc' := 0) (ms' := 0) (rc := 0) (rs := 0) (by omega) (Nat.le_of_ble_eq_true rfl) (by assumption) (c_X12_spins hM r2 (by have := hln.2.1; omega) ?_)
            refine E_istoreC dX12_lines_102 (by decide) rfl ?_
            refine E_lv (lv' := [_, _, _, _, _]) rfl ?_
            refine E_incC (c := 1) dX12_lines_104 rfl (by decide) (by decide) rfl ?_
            refine E_lv (lv' := [_, _, _, _, _]) rfl ?_
            refine E_incC (c := 2) dX12_lines_107 rfl (by decide) (by decide) rfl ?_
            refine E_lv (lv' := [_, _, _, _, _]) rfl ?_
            refine E_goto (tgt := 37) dX12_lines_110 (by decide) ?_
            refine ih (n + 1) _ _ _ _ (by omega) (by rw [hy, nI_1]) (by rw [hz]; exact nI_add (40 * j + 2 * n) 2) (by have := hln.2.1; omega) (by rw [hJ, ur_s, ur_ur]; rfl) ?_
            rw [← hT, lnT_go hln hu]
            rfl
          · have hT' : n = lnT F (sz j) k 8 0 := by rw [← hT, lnT_stop hln]
            have hΦ2 : Φ (some (.int (nI n))) g P (ur I 110 (adM (I 110) F k n)) := by rw [← hT'] at hΦ; exact hΦ
            by_cases q1 : 2 * n + 2 ≤ sz j
            · by_cases q2 : k + n < 8
              · have q3 : ¬ okL (F (2 * n)) (F (2 * n + 1)) := fun h => hln ⟨q1, q2, h⟩
                refine E_iconst (v := 2) dX12_lines_37 (by decide) ?_
                refine E_iload_n (i := 2) dX12_lines_38 rfl rfl ?_
                refine E_imul dX12_lines_39 ?_
                refine E_iconst (v := 2) dX12_lines_40 (by decide) ?_
                refine E_iadd dX12_lines_41 ?_
                refine E_aload_n (i := 0) dX12_lines_42 rfl rfl ?_
                refine E_gr dX12_lines_43 gf_X12_63_12 rfl (by assumption) (by assumption) ?_
                refine E_iload_n (i := 1) dX12_lines_46 rfl rfl ?_
                refine E_iaj j dX12_lines_47 (by assumption) hx (by omega) (by rw [s3]; omega) ?_
                rw [x2, es]
                refine E_icmp_gt (tgt := 113) dX12_lines_48 (by decide) (fun c_48 => absurd c_48 (nI_nlt q1 (by omega))) (fun c_48 => ?_)
                refine E_aload_n (i := 0) dX12_lines_51 rfl rfl ?_
                refine E_gr dX12_lines_52 gf_X12_9_12 rfl (by assumption) (by assumption) ?_
                refine E_iconst (v := 2) dX12_lines_55 (by decide) ?_
                refine E_iaj 2 dX12_lines_56 (by assumption) rfl (by decide) (by rw [m3]; decide) ?_
                refine E_bipush (v := 8) dX12_lines_57 (by decide) ?_
                rw [r2]
                refine E_icmp_ge (tgt := 113) dX12_lines_59 (by decide) (fun c_59 => absurd c_59 (nI_ge (b := 8) (by omega) (by omega))) (fun c_59 => ?_)
                refine E_aload_n (i := 0) dX12_lines_62 rfl rfl ?_
                refine E_gr dX12_lines_63 gf_X12_66_12 rfl (by assumption) (by assumption) ?_
                refine E_iload_n (i := 3) dX12_lines_66 rfl rfl ?_
                refine E_iaj (40 * j + 2 * n) dX12_lines_67 (by assumption) hz (by omega) (by rw [n3]; omega) ?_
                rw [v0]
                refine E_aload_n (i := 0) dX12_lines_68 rfl rfl ?_
                refine E_gr dX12_lines_69 gf_X12_66_12 rfl (by assumption) (by assumption) ?_
                refine E_iload_n (i := 3) dX12_lines_72 rfl rfl ?_
                refine E_iconst (v := 1) dX12_lines_73 (by decide) ?_
                refine E_iadd dX12_lines_74 ?_
                refine E_iaj (40 * j + 2 * n + 1) dX12_lines_75 (by assumption) z1 (by omega) (by rw [n3]; omega) ?_
                rw [v1]
                refine k_X12_lines_76 (mc' := 0) (ms' := 0) (rc := 0) (rs := 0) (by omega) (Nat.le_of_ble_eq_true rfl) (c_X12_isAsTold (by omega) ?_)
                rw [bz_f q3]
                refine E_if_ne (tgt := 84) dX12_lines_79 (by decide) (fun c_79 => absurd (rfl) c_79) (fun c_79 => ?_)
                refine E_iload_n (i := 2) dX12_lines_82 rfl rfl ?_
                refine E_iret dX12_lines_83 rfl ?_
                rw [hJ, hy]
                exact hΦ2
              · refine E_iconst (v := 2) dX12_lines_37 (by decide) ?_
                refine E_iload_n (i := 2) dX12_lines_38 rfl rfl ?_
                refine E_imul dX12_lines_39 ?_
                refine E_iconst (v := 2) dX12_lines_40 (by decide) ?_
                refine E_iadd dX12_lines_41 ?_
                refine E_aload_n (i := 0) dX12_lines_42 rfl rfl ?_
                refine E_gr dX12_lines_43 gf_X12_63_12 rfl (by assumption) (by assumption) ?_
                refine E_iload_n (i := 1) dX12_lines_46 rfl rfl ?_
                refine E_iaj j dX12_lines_47 (by assumption) hx (by omega) (by rw [s3]; omega) ?_
                refine E_icmp_gt (tgt := 113) dX12_lines_48 (by decide) (fun c_48 => ?_) (fun c_48 => ?_)
                · refine E_iload_n (i := 2) dX12_lines_113 rfl rfl ?_
                  refine E_iret dX12_lines_114 rfl ?_
                  rw [hJ, hy]
                  exact hΦ2
                · refine E_aload_n (i := 0) dX12_lines_51 rfl rfl ?_
                  refine E_gr dX12_lines_52 gf_X12_9_12 rfl (by assumption) (by assumption) ?_
                  refine E_iconst (v := 2) dX12_lines_55 (by decide) ?_
                  refine E_iaj 2 dX12_lines_56 (by assumption) rfl (by decide) (by rw [m3]; decide) ?_
                  refine E_bipush (v := 8) dX12_lines_57 (by decide) ?_
                  rw [r2]
                  refine E_icmp_ge (tgt := 113) dX12_lines_59 (by decide) (fun c_59 => ?_) (fun c_59 => absurd ((nI_leI (a := 8) (by omega) (by omega)).mpr (by omega)) c_59)
                  refine E_iload_n (i := 2) dX12_lines_113 rfl rfl ?_
                  refine E_iret dX12_lines_114 rfl ?_
                  rw [hJ, hy]
                  exact hΦ2
            · refine E_iconst (v := 2) dX12_lines_37 (by decide) ?_
              refine E_iload_n (i := 2) dX12_lines_38 rfl rfl ?_
              refine E_imul dX12_lines_39 ?_
              refine E_iconst (v := 2) dX12_lines_40 (by decide) ?_
              refine E_iadd dX12_lines_41 ?_
              refine E_aload_n (i := 0) dX12_lines_42 rfl rfl ?_
              refine E_gr dX12_lines_43 gf_X12_63_12 rfl (by assumption) (by assumption) ?_
              refine E_iload_n (i := 1) dX12_lines_46 rfl rfl ?_
              refine E_iaj j dX12_lines_47 (by assumption) hx (by omega) (by rw [s3]; omega) ?_
              rw [x2, es]
              refine E_icmp_gt (tgt := 113) dX12_lines_48 (by decide) (fun c_48 => ?_) (fun c_48 => absurd ((nI_ltI (by omega) (by omega)).mpr (by omega)) c_48)
              refine E_iload_n (i := 2) dX12_lines_113 rfl rfl ?_
              refine E_iret dX12_lines_114 rfl ?_
              rw [hJ, hy]
              exact hΦ2
      refine E_iload_n (i := 1) dX12_lines_0 rfl rfl ?_
      refine k_X12_lines_1 (mc' := 0) (ms' := 0) (rc := 0) (rs := 0) (by omega) (Nat.le_of_ble_eq_true rfl) (c_X12_isSheet (by omega) ?_)
      rw [bz_t hc]
      refine E_if_ne (tgt := 14) dX12_lines_4 (by decide) (fun c_4 => ?_) (fun c_4 => absurd c_4 (by decide))
      refine E_aload_n (i := 0) dX12_lines_14 rfl rfl ?_
      refine E_gr dX12_lines_15 gf_X12_60_12 rfl (by assumption) (by assumption) ?_
      refine E_iload_n (i := 1) dX12_lines_18 rfl rfl ?_
      refine E_iaj j dX12_lines_19 (by assumption) hx (by omega) (by rw [w3]; omega) ?_
      refine E_if_ne (tgt := 30) dX12_lines_20 (by decide) (fun c_20 => ?_) (fun c_20 => absurd c_20 (hb))
      refine E_iconst (v := 0) dX12_lines_30 (by decide) ?_
      refine E_istore_nC (i := 2) dX12_lines_31 rfl (by decide) rfl ?_
      refine E_lv (lv' := [_, _, _, _, _]) rfl ?_
      refine E_bipush (v := 40) dX12_lines_32 (by decide) ?_
      refine E_iload_n (i := 1) dX12_lines_34 rfl rfl ?_
      refine E_imul dX12_lines_35 ?_
      refine E_istore_nC (i := 3) dX12_lines_36 rfl (by decide) rfl ?_
      refine E_lv (lv' := [_, _, _, _, _]) rfl ?_
      exact loop 8 0 _ _ _ _ (by omega) rfl (by rw [hx]; exact pk_mul 40 j) (by omega) (ur_id _ _).symm rfl
  · have hΦ := h2 hc
    refine E_iload_n (i := 1) dX12_lines_0 rfl rfl ?_
    refine k_X12_lines_1 (mc' := 0) (ms' := 0) (rc := 0) (rs := 0) (by omega) (Nat.le_of_ble_eq_true rfl) (c_X12_isSheet (by omega) ?_)
    rw [bz_f hc]
    refine E_if_ne (tgt := 14) dX12_lines_4 (by decide) (fun c_4 => absurd (rfl) c_4) (fun c_4 => ?_)
    refine E_aload_n (i := 0) dX12_lines_7 rfl rfl ?_
    refine E_ldc (v := -1000000001) dX12_lines_8 w_1208 ?_
    refine k_X12_lines_10 (mc' := 0) (ms' := 0) (rc := 0) (rs := 0) (by omega) (Nat.le_of_ble_eq_true rfl) (by assumption) (c_find1 hM ?_)
    refine E_iret dX12_lines_13 rfl ?_
    exact hΦ
/-- a ride more in a State -/
theorem c_X8_addRide {B k r ci : Nat} (hS : St g P B) (hk : I B 7 = nI k) (hk8 : k < 8) (hr : Cel g r ci) (hc : isR ci) (hΦ : Φ (some (.int (nI k))) g (u2 P (B + 3) k (some r)) (u2 (u2 (u2 (u2 (u2 I (B + 4) k 0) (B + 5) k 0) (B + 6) k 0) (B + 7) k 0) B 7 (nI (k + 1)))) : MM Γ mX8_addRide d 0 0 [.ref B, .ref r] g P I Φ := by
  refine MM_entry [some _, some _, none] (by decide) (Nat.le_of_ble_eq_true rfl) rfl ?_
  have s1 := hS.c
  obtain ⟨a1, a2, a3⟩ := hS.ri
  obtain ⟨p1, p2, p3⟩ := hS.pl
  obtain ⟨q1, q2, q3⟩ := hS.pa
  obtain ⟨t1, t2, t3⟩ := hS.ca
  obtain ⟨u1, v2, u3⟩ := hS.in
  have nb : ∀ {j : Nat} {v : Option Nat}, (u2 P (B + 3) k v) B j = P B j := fun {j v} => u2_o (by omega)
  refine E_aload_n (i := 0) dX8_addRide_0 rfl rfl ?_
  refine E_gi dX8_addRide_1 gf_X8_38_8 rfl (by assumption) ?_
  rw [hk]
  refine E_istore_nC (i := 2) dX8_addRide_4 rfl (by decide) rfl ?_
  refine E_lv (lv' := [_, _, _]) rfl ?_
  refine E_aload_n (i := 0) dX8_addRide_5 rfl rfl ?_
  refine E_gr dX8_addRide_6 gf_X8_20_8 rfl (by assumption) (by assumption) ?_
  refine E_iload_n (i := 2) dX8_addRide_9 rfl rfl ?_
  refine E_aload_n (i := 1) dX8_addRide_10 rfl rfl ?_
  refine E_asj (t := 1) k dX8_addRide_11 (by decide) a2 rfl (by rw [a3]; omega) (by omega) (any_ride hr hc) ?_
  refine E_aload_n (i := 0) dX8_addRide_12 rfl rfl ?_
  refine E_gr dX8_addRide_13 gf_X8_24_8 rfl (by assumption) (by rw [nb]; assumption) ?_
  refine E_iload_n (i := 2) dX8_addRide_16 rfl rfl ?_
  refine E_iconst (v := 0) dX8_addRide_17 (by decide) ?_
  refine E_isj k dX8_addRide_18 (by assumption) rfl (by first | decide | omega) (by rw [p3]; omega) ?_
  refine E_aload_n (i := 0) dX8_addRide_19 rfl rfl ?_
  refine E_gr dX8_addRide_20 gf_X8_28_8 rfl (by assumption) (by rw [nb]; assumption) ?_
  refine E_iload_n (i := 2) dX8_addRide_23 rfl rfl ?_
  refine E_iconst (v := 0) dX8_addRide_24 (by decide) ?_
  refine E_isj k dX8_addRide_25 (by assumption) rfl (by first | decide | omega) (by rw [q3]; omega) ?_
  refine E_aload_n (i := 0) dX8_addRide_26 rfl rfl ?_
  refine E_gr dX8_addRide_27 gf_X8_31_8 rfl (by assumption) (by rw [nb]; assumption) ?_
  refine E_iload_n (i := 2) dX8_addRide_30 rfl rfl ?_
  refine E_iconst (v := 0) dX8_addRide_31 (by decide) ?_
  refine E_isj k dX8_addRide_32 (by assumption) rfl (by first | decide | omega) (by rw [t3]; omega) ?_
  refine E_aload_n (i := 0) dX8_addRide_33 rfl rfl ?_
  refine E_gr dX8_addRide_34 gf_X8_34_8 rfl (by assumption) (by rw [nb]; assumption) ?_
  refine E_iload_n (i := 2) dX8_addRide_37 rfl rfl ?_
  refine E_iconst (v := 0) dX8_addRide_38 (by decide) ?_
  refine E_zsj k dX8_addRide_39 (by assumption) rfl (by first | decide | omega) (by rw [u3]; omega) (by first | exact Or.inl rfl | exact Or.inr rfl | assumption) ?_
  refine E_aload_n (i := 0) dX8_addRide_40 rfl rfl ?_
  refine E_dup dX8_addRide_41 rfl ?_
  refine E_gi dX8_addRide_42 gf_X8_38_8 rfl (by assumption) ?_
  rw [u2_o (by omega), u2_o (by omega), u2_o (by omega), u2_o (by omega), hk]
  refine E_iconst (v := 1) dX8_addRide_45 (by decide) ?_
  refine E_iadd dX8_addRide_46 ?_
  refine E_pi dX8_addRide_47 gf_X8_38_8 rfl (by assumption) ?_
  refine E_iload_n (i := 2) dX8_addRide_50 rfl rfl ?_
  refine E_iret dX8_addRide_51 rfl ?_
  rw [nI_1]
  exact hΦ
end
