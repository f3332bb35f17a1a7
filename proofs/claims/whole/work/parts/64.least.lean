/-! the class: gusts, stands, comes, snug, lower, check -/
section
variable {Γ : GE} {d : Nat} {g : Sh} {P : HP} {I : HI} {Φ : Option Value → Sh → HP → HI → Prop} {k : Nat} {rd : Nat → Nat} {M : Nat → Int32} {nt : Nat → Nat} {δ : Nat → List Int32}
/-- a ride goes in the class as in the row -/
theorem sq_CM {B i : Nat} (hD : RD I B k M) (hR : RR g P I B k rd M) (hi : i < k) : r1n (c8 (I (B + 2))) (kc (kdo M i)) (I (rd i) 2) (I (rd i) 3) (cR I B i) = sq M i := by
  obtain ⟨-, -, -, -, -, -, r7, r8⟩ := hR i hi
  obtain ⟨a3, a4, a5, a6⟩ := hD.2 i hi
  unfold sq
  rw [hD.w8, r7, r8]
  have e : cR I B i = mR M i := by
    unfold cR mR
    rw [a3, a4, a5, a6]
  rw [e]
theorem sq_in {i t : Nat} (h : (sq M i t).2.2.1 = 1) : ∀ j, t ≤ j → sq M i j = sq M i t := fun j hj => by
  have h2 := r1n_c (w := c8 (wm M)) (ci := kc (kdo M i)) (wt := M (16 + 7 * i + 1)) (m := M (16 + 7 * i + 2)) (s := mR M i) (t := t) (r1s_in h) (j - t)
  rw [show t + (j - t) = j by omega] at h2
  exact h2
theorem AH.fg {P' P'' : HP} {J K : HI} {i : Nat} (h : AH P I P' J) (hP : P'' = P') (h2 : FG 45 i J K) : AH P I P'' K := by
  subst hP
  obtain ⟨a1, a2, a3, a4, a5⟩ := h
  refine ⟨a1, a2, a3, fun a b1 b2 b3 => by rw [h2.1 a (by omega)]; exact a4 a b1 b2 b3, ?_⟩
  obtain ⟨⟨k, c1, c2⟩, c3⟩ := a5
  refine ⟨⟨k, by rw [h2.1 45 (by decide)]; exact c1, c2⟩, fun q hq => ?_⟩
  have hf := sRow_fact q hq
  rw [h2.1 _ (by omega)]
  exact c3 q hq
theorem fail_45 {j : Nat} {x : Int32} (hL : Ly g P) (hx : x = nI j) (h1 : 1 ≤ j) (h5 : j ≤ 5) (hΦ : Φ (some (.int (er j))) g P (fl I j)) : MM Γ mX11_fail d 0 0 [.ref 16, .int x] g P I Φ := c_X11_fail hL hx h1 h5 hΦ
theorem c_X11_stands {x : Int32} (hd : 59 ≤ d) (hL : Ly g P) (hA : LA g P I k rd M nt δ) (h1 : ∀ r t, x = nI r → r < k → (Unit → fnd (stB (sq M r)) 200 1 = some t) → ∀ P' J, AH P I P' J → Φ (some (.int (nI t))) g P' J) (h2 : ∀ r, x = nI r → r < k → (Unit → fnd (stB (sq M r)) 200 1 = none) → ∀ P' J, AH P I P' J → Φ (some (.int (er 2))) g P' (fl J 2)) (h3 : ¬ (0 ≤ x ∧ x ≤ nI k - 1) → Φ (some (.int (er 1))) g P (fl I 1)) : MM Γ mX11_stands d 0 0 [.ref 16, .int x] g P I Φ := by
  refine MM_entry [some _, some _, none] (by decide) (Nat.le_of_ble_eq_true rfl) rfl ?_
  have l0 := hL.gw
  have la := hL.ahead
  have lc := hL.s45.c
  have l1 := hL.live
  have l2 := hL.s21.c
  have hA0 := hA
  obtain ⟨-, -, -, -, -, hk, hV, -, hR⟩ := hA
  have hk8 := hV.2.1
  by_cases hc : 0 ≤ x ∧ x ≤ nI k - 1
  · obtain ⟨r, hr, hr2⟩ := in_nat (by omega) hc
    have hh1 := fun t => h1 r t hr hr2
    have hh2 := h2 r hr hr2
    clear h1 h2 h3
    have hkd := (hV.2.2.2 r hr2).kd
    obtain ⟨s, hs⟩ := hid (sq M r)
    rw [hs ()] at hh2
    have hh1 : ∀ t, (Unit → fnd (stB s) 200 1 = some t) → ∀ P' J, AH P I P' J → Φ (some (.int (nI t))) g P' J := fun t h => hh1 t (by rw [hs ()]; exact h)
    have rest : ∀ (P' : HP) (L : HI), AH P I P' L → Ly g P' → L 45 7 = nI k → RD L 45 k M → RR g P' L 45 k rd M → E Γ mX11_stands d 0 0 (QM Γ 0 0 Φ) 0 0 28 [some (.ref 16), some (.int x), none] [] g P' L := by
      intro P' L a1 hL' a3 a4 a5
      have m0 := hL'.gw
      have m1 := hL'.ahead
      have m2 := hL'.s45.c
      obtain ⟨u1, v2, u3⟩ : P' 45 6 = some 52 ∧ AS g 52 14 8 := hL'.s45.in
      obtain ⟨p1, p2, p3, -⟩ := a5 r hr2
      have hsq : Unit → s = r1n (c8 (L 47)) (kc (kdo M r)) (L (rd r) 2) (L (rd r) 3) (cR L 45 r) := fun _ => by rw [← hs ()]; exact (sq_CM a4 a5 hr2).symm
      have hO : WOK (L 47) := a4.wok hV
      have s01 : ∀ t, (s t).2.2.1 = 0 ∨ (s t).2.2.1 = 1 := fun t => by
        rw [hsq ()]
        refine r1n_01 ?_ t
        show L (45 + 7) r = 0 ∨ L (45 + 7) r = 1
        rw [(a4.2 r hr2).2.2.1]
        exact (hV.2.2.2 r hr2).2.2.2.2.2
      have sin : ∀ t, (s t).2.2.1 = 1 → ∀ j, t ≤ j → s j = s t := fun t h => by
        rw [← hs ()] at h ⊢
        exact sq_in h
      have loop : ∀ (N j : Nat) (z : Int32) (J : HI), 201 - j ≤ N → 1 ≤ j → j ≤ 201 → z = nI j → FG 45 r L J → (Unit → cR J 45 r = s (j - 1)) → (Unit → fnd (stB s) 200 1 = fnd (stB s) (201 - j) j) → E Γ mX11_stands d 0 0 (QM Γ 0 0 Φ) 0 0 30 [some (.ref 16), some (.int x), some (.int z)] [] g P' J := by
        have none : ∀ (z : Int32) (J : HI), FG 45 r L J → (Unit → fnd (stB s) 200 1 = .none) → E Γ mX11_stands d 0 0 (QM Γ 0 0 Φ) 0 0 68 [some (.ref 16), some (.int x), some (.int z)] [] g P' J := by
          intro z J q1 hf
          have hΦ := hh2 hf P' J (a1.fg rfl q1)
          refine E_aload_n (i := 0) dX11_stands_68 rfl rfl ?_
          refine E_iconst (v := 2) dX11_stands_69 (by decide) ?_
          refine k_X11_stands_70 (mc' := 0) (ms' := 0) (rc := 0) (rs := 0) (by omega) (Nat.le_of_ble_eq_true rfl) (by assumption) (fail_45 (j := 2) hL' rfl (by decide) (by decide) ?_)
          refine E_iret dX11_stands_73 rfl ?_
          exact hΦ
        intro N
        induction N with
        | zero =>
          intro j z J hN hj1 hj hz q1 q2 q4
          have hj2 : j = 201 := by omega
          have ht := none z J q1 (fun _ => by rw [q4 (), hj2]; rfl)
          refine E_iload_n (i := 2) dX11_stands_30 rfl rfl ?_
          refine E_sipush (v := 200) dX11_stands_31 (by decide) ?_
          refine E_icmp_gt (tgt := 68) dX11_stands_34 (by decide) (fun c_34 => ?_) (fun c_34 => absurd (by rw [hz, hj2]; decide) c_34)
          exact ht
        | succ N ih =>
          intro j z J hN hj1 hj hz q1 q2 q4
          by_cases hj2 : j = 201
          · have ht := none z J q1 (fun _ => by rw [q4 (), hj2]; rfl)
            refine E_iload_n (i := 2) dX11_stands_30 rfl rfl ?_
            refine E_sipush (v := 200) dX11_stands_31 (by decide) ?_
            refine E_icmp_gt (tgt := 68) dX11_stands_34 (by decide) (fun c_34 => ?_) (fun c_34 => absurd (by rw [hz, hj2]; decide) c_34)
            exact ht
          · have hle : ¬ (200 : Int32) < z := by rw [hz]; exact nI_nlt (a := 200) (by omega) (by omega)
            have ej : 201 - j = (201 - (j + 1)) + 1 := by omega
            have j7 : Unit → J 52 r = (s (j - 1)).2.2.1 := fun _ => congrArg (fun q : R4 => q.2.2.1) (q2 ())
            by_cases hin : J 52 r = 0
            · have jw : J 47 = L 47 := q1.1 47 (by decide)
              have jr : J (rd r) = L (rd r) := q1.1 _ (by omega)
              have jk : J 45 7 = nI k := by rw [q1.1 45 (by decide)]; exact a3
              have sT : Unit → s j = r1s (c8 (L 47)) (kc (kdo M r)) (L (rd r) 2) (L (rd r) 3) (s (j - 1)) := fun _ => by
                rw [hsq (), show r1n (c8 (L 47)) (kc (kdo M r)) (L (rd r) 2) (L (rd r) 3) (cR L 45 r) j = r1n (c8 (L 47)) (kc (kdo M r)) (L (rd r) 2) (L (rd r) 3) (cR L 45 r) ((j - 1) + 1) by rw [show j - 1 + 1 = j by omega]]
                rfl
              have key : E Γ mX11_stands d 0 0 (QM Γ 0 0 Φ) 0 0 49 [some (.ref 16), some (.int x), some (.int z)] [] g P' J := by
                refine E_aload_n (i := 0) dX11_stands_49 rfl rfl ?_
                refine E_gr dX11_stands_50 gf_X11_25_11 rfl (by assumption) (by assumption) ?_
                refine E_iload_n (i := 1) dX11_stands_53 rfl rfl ?_
                refine k_X11_stands_54 (mc' := 0) (ms' := 0) (rc := 0) (rs := 0) (by omega) (Nat.le_of_ble_eq_true rfl) (by assumption) (r_goes1 (B := 45) (s := s (j - 1)) (by omega) hL'.s45 (by rw [jw]; exact hO) jk hk8 hr2 hr p1 p2 (isR_kc hkd.1) hin (q2 ()) (fun K v w1 w2 w3 => ?_))
                rw [jw, jr, ← sT ()] at w2
                have w2' : Unit → cR K 45 r = s j := fun _ => w2
                have hgo := goB_iff (s := s (j - 1)) w2 (s01 j)
                clear w2
                by_cases hg : goB K 45 r (s (j - 1)).1 (s (j - 1)).2.1
                · rw [bz_t hg] at w3
                  subst w3
                  have hns : ¬ stB s j := fun h => (hgo.mpr h) hg
                  have hf : Unit → fnd (stB s) 200 1 = fnd (stB s) (201 - (j + 1)) (j + 1) := fun _ => by rw [q4 (), ej, fnd, if_neg hns]
                  clear hgo hg hns
                  refine E_if_ne (tgt := 62) dX11_stands_57 (by decide) (fun c_57 => ?_) (fun c_57 => absurd c_57 (by decide))
                  refine E_incC (c := 1) dX11_stands_62 rfl (by decide) (by decide) rfl ?_
                  refine E_lv (lv' := [_, _, _]) rfl ?_
                  refine E_goto (tgt := 30) dX11_stands_65 (by decide) ?_
                  exact ih (j + 1) _ _ (by omega) (by omega) (by omega) (by rw [hz, nI_1]) (q1.trans w1) w2' hf
                · rw [bz_f hg] at w3
                  subst w3
                  have hst : stB s j := hgo.mp hg
                  have hΦ := hh1 j (fun _ => by rw [q4 (), ej, fnd, if_pos hst]) P' K (a1.fg rfl (q1.trans w1))
                  clear hgo hg hst
                  refine E_if_ne (tgt := 62) dX11_stands_57 (by decide) (fun c_57 => absurd (rfl) c_57) (fun c_57 => ?_)
                  refine E_iload_n (i := 2) dX11_stands_60 rfl rfl ?_
                  refine E_iret dX11_stands_61 rfl ?_
                  rw [hz]
                  exact hΦ
              refine E_iload_n (i := 2) dX11_stands_30 rfl rfl ?_
              refine E_sipush (v := 200) dX11_stands_31 (by decide) ?_
              refine E_icmp_gt (tgt := 68) dX11_stands_34 (by decide) (fun c_34 => absurd c_34 (hle)) (fun c_34 => ?_)
              refine E_aload_n (i := 0) dX11_stands_37 rfl rfl ?_
              refine E_gr dX11_stands_38 gf_X11_25_11 rfl (by assumption) (by assumption) ?_
              refine E_gr dX11_stands_41 gf_X11_152_8 rfl (by assumption) (by assumption) ?_
              refine E_iload_n (i := 1) dX11_stands_44 rfl rfl ?_
              refine E_zaj r dX11_stands_45 (by assumption) hr (by omega) (by rw [u3]; omega) ?_
              refine E_if_ne (tgt := 68) dX11_stands_46 (by decide) (fun c_46 => absurd (hin) c_46) (fun c_46 => ?_)
              exact key
            · have hi1 : Unit → (s (j - 1)).2.2.1 = 1 := fun _ => (s01 (j - 1)).resolve_left (fun q => hin (by rw [j7 (), q]))
              have ht := none z J q1 (fun _ => by
                rw [q4 ()]
                exact fnd_no (fun i hi h => h.1 (by rw [sin (j - 1) (hi1 ()) i (by omega)]; exact hi1 ())))
              refine E_iload_n (i := 2) dX11_stands_30 rfl rfl ?_
              refine E_sipush (v := 200) dX11_stands_31 (by decide) ?_
              refine E_icmp_gt (tgt := 68) dX11_stands_34 (by decide) (fun c_34 => absurd c_34 (hle)) (fun c_34 => ?_)
              refine E_aload_n (i := 0) dX11_stands_37 rfl rfl ?_
              refine E_gr dX11_stands_38 gf_X11_25_11 rfl (by assumption) (by assumption) ?_
              refine E_gr dX11_stands_41 gf_X11_152_8 rfl (by assumption) (by assumption) ?_
              refine E_iload_n (i := 1) dX11_stands_44 rfl rfl ?_
              refine E_zaj r dX11_stands_45 (by assumption) hr (by omega) (by rw [u3]; omega) ?_
              refine E_if_ne (tgt := 68) dX11_stands_46 (by decide) (fun c_46 => ?_) (fun c_46 => absurd c_46 (hin))
              exact ht
      refine E_iconst (v := 1) dX11_stands_28 (by decide) ?_
      refine E_istore_nC (i := 2) dX11_stands_29 rfl (by decide) rfl ?_
      refine E_lv (lv' := [_, _, _]) rfl ?_
      exact loop 200 1 _ _ (by omega) (by omega) (by omega) rfl (FG.refl _ _ _) (fun _ => by rw [hsq ()]; rfl) (fun _ => rfl)
    refine E_aload_n (i := 0) dX11_stands_0 rfl rfl ?_
    refine E_gr dX11_stands_1 gf_X11_21_11 rfl (by assumption) (by assumption) ?_
    refine E_iload_n (i := 1) dX11_stands_4 rfl rfl ?_
    refine k_X11_stands_5 (mc' := 0) (ms' := 0) (rc := 0) (rs := 0) (by omega) (Nat.le_of_ble_eq_true rfl) (by assumption) (c_rideAt_in (by omega) hL.s21 hk hk8 hr2 hr (hR r hr2).1 ?_)
    refine E_ifnonnull (tgt := 17) dX11_stands_8 (by decide) ?_
    refine E_aload_n (i := 0) dX11_stands_17 rfl rfl ?_
    refine E_gr dX11_stands_18 gf_X11_25_11 rfl (by assumption) (by assumption) ?_
    refine E_aload_n (i := 0) dX11_stands_21 rfl rfl ?_
    refine E_gr dX11_stands_22 gf_X11_21_11 rfl (by assumption) (by assumption) ?_
    refine k_X11_stands_25 (mc' := 0) (ms' := 0) (rc := 0) (rs := 0) (by omega) (Nat.le_of_ble_eq_true rfl) (by assumption) (c_copyAhead (by omega) hL hA0 (fun P' L f1 f2 f3 f4 f5 => ?_))
    exact rest P' L f1 f2 f3 f4 f5
  · have hΦ := h3 hc
    refine E_aload_n (i := 0) dX11_stands_0 rfl rfl ?_
    refine E_gr dX11_stands_1 gf_X11_21_11 rfl (by assumption) (by assumption) ?_
    refine E_iload_n (i := 1) dX11_stands_4 rfl rfl ?_
    refine k_X11_stands_5 (mc' := 0) (ms' := 0) (rc := 0) (rs := 0) (by omega) (Nat.le_of_ble_eq_true rfl) (by assumption) (c_rideAt_out (by omega) hL.s21 (by rw [hk]; exact hc) ?_)
    refine E_ifnonnullN dX11_stands_8 ?_
    refine E_aload_n (i := 0) dX11_stands_11 rfl rfl ?_
    refine E_iconst (v := 1) dX11_stands_12 (by decide) ?_
    refine k_X11_stands_13 (mc' := 0) (ms' := 0) (rc := 0) (rs := 0) (by omega) (Nat.le_of_ble_eq_true rfl) (by assumption) (c_X11_fail (k := 1) hL rfl (by decide) (by decide) ?_)
    refine E_iret dX11_stands_16 rfl ?_
    exact hΦ
theorem c_X11_comes {x : Int32} (hd : 59 ≤ d) (hL : Ly g P) (hA : LA g P I k rd M nt δ) (h1 : ∀ r t, x = nI r → r < k → ¬ M (16 + 7 * r + 5) = 1 → (Unit → fnd (inB (sq M r)) 201 0 = some t) → ∀ P' J, AH P I P' J → Φ (some (.int (nI t))) g P' J) (h2 : ∀ r, x = nI r → r < k → ¬ M (16 + 7 * r + 5) = 1 → (Unit → fnd (inB (sq M r)) 201 0 = none) → ∀ P' J, AH P I P' J → Φ (some (.int (er 2))) g P' (fl J 2)) (h3 : ¬ (0 ≤ x ∧ x ≤ nI k - 1) → Φ (some (.int (er 1))) g P (fl I 1)) (h4 : ∀ r, x = nI r → r < k → M (16 + 7 * r + 5) = 1 → Φ (some (.int (er 3))) g P (fl I 3)) : MM Γ mX11_comes d 0 0 [.ref 16, .int x] g P I Φ := by
  refine MM_entry [some _, some _, none] (by decide) (Nat.le_of_ble_eq_true rfl) rfl ?_
  have l0 := hL.gw
  have la := hL.ahead
  have lc := hL.s45.c
  have l1 := hL.live
  have l2 := hL.s21.c
  obtain ⟨y1, y2, y3⟩ : P 21 6 = some 28 ∧ AS g 28 14 8 := hL.s21.in
  have hA0 := hA
  obtain ⟨-, -, -, -, -, hk, hV, hD, hR⟩ := hA
  have hk8 := hV.2.1
  by_cases hc : 0 ≤ x ∧ x ≤ nI k - 1
  · obtain ⟨r, hr, hr2⟩ := in_nat (by omega) hc
    have e28 : I 28 r = M (16 + 7 * r + 5) := (hD.2 r hr2).2.2.1
    have v6 := (hV.2.2.2 r hr2).2.2.2.2.2
    by_cases hi : M (16 + 7 * r + 5) = 1
    · have hΦ := h4 r hr hr2 hi
      have hne : ¬ I 28 r = 0 := by rw [e28, hi]; decide
      refine E_aload_n (i := 0) dX11_comes_0 rfl rfl ?_
      refine E_gr dX11_comes_1 gf_X11_21_11 rfl (by assumption) (by assumption) ?_
      refine E_iload_n (i := 1) dX11_comes_4 rfl rfl ?_
      refine k_X11_comes_5 (mc' := 0) (ms' := 0) (rc := 0) (rs := 0) (by omega) (Nat.le_of_ble_eq_true rfl) (by assumption) (c_rideAt_in (by omega) hL.s21 hk hk8 hr2 hr (hR r hr2).1 ?_)
      refine E_ifnonnull (tgt := 17) dX11_comes_8 (by decide) ?_
      refine E_aload_n (i := 0) dX11_comes_17 rfl rfl ?_
      refine E_gr dX11_comes_18 gf_X11_21_11 rfl (by assumption) (by assumption) ?_
      refine E_gr dX11_comes_21 gf_X11_152_8 rfl (by assumption) (by assumption) ?_
      refine E_iload_n (i := 1) dX11_comes_24 rfl rfl ?_
      refine E_zaj r dX11_comes_25 (by assumption) hr (by omega) (by rw [y3]; omega) ?_
      refine E_if_eq (tgt := 35) dX11_comes_26 (by decide) (fun c_26 => absurd c_26 (hne)) (fun c_26 => ?_)
      refine E_aload_n (i := 0) dX11_comes_29 rfl rfl ?_
      refine E_iconst (v := 3) dX11_comes_30 (by decide) ?_
      refine k_X11_comes_31 (mc' := 0) (ms' := 0) (rc := 0) (rs := 0) (by omega) (Nat.le_of_ble_eq_true rfl) (by assumption) (fail_45 (j := 3) hL rfl (by decide) (by decide) ?_)
      refine E_iret dX11_comes_34 rfl ?_
      exact hΦ
    · have h0 : M (16 + 7 * r + 5) = 0 := v6.resolve_right hi
      have hz0 : I 28 r = 0 := by rw [e28]; exact h0
      have hh1 := fun t => h1 r t hr hr2 hi
      have hh2 := h2 r hr hr2 hi
      clear h1 h2 h3 h4
      have hkd := (hV.2.2.2 r hr2).kd
      obtain ⟨s, hs⟩ := hid (sq M r)
      rw [hs ()] at hh2
      have hh1 : ∀ t, (Unit → fnd (inB s) 201 0 = some t) → ∀ P' J, AH P I P' J → Φ (some (.int (nI t))) g P' J := fun t h => hh1 t (by rw [hs ()]; exact h)
      have rest : ∀ (P' : HP) (L : HI), AH P I P' L → Ly g P' → L 45 7 = nI k → RD L 45 k M → RR g P' L 45 k rd M → E Γ mX11_comes d 0 0 (QM Γ 0 0 Φ) 0 0 46 [some (.ref 16), some (.int x), none] [] g P' L := by
        intro P' L a1 hL' a3 a4 a5
        have m0 := hL'.gw
        have m1 := hL'.ahead
        have m2 := hL'.s45.c
        obtain ⟨p1, p2, p3, -⟩ := a5 r hr2
        have hsq : Unit → s = r1n (c8 (L 47)) (kc (kdo M r)) (L (rd r) 2) (L (rd r) 3) (cR L 45 r) := fun _ => by rw [← hs ()]; exact (sq_CM a4 a5 hr2).symm
        have hO : WOK (L 47) := a4.wok hV
        have hin : L 52 r = 0 := by rw [show L 52 r = M (16 + 7 * r + 5) from (a4.2 r hr2).2.2.1]; exact h0
        refine E_aload_n (i := 0) dX11_comes_46 rfl rfl ?_
        refine E_gr dX11_comes_47 gf_X11_25_11 rfl (by assumption) (by assumption) ?_
        refine E_iload_n (i := 1) dX11_comes_50 rfl rfl ?_
        refine E_sipush (v := 200) dX11_comes_51 (by decide) ?_
        refine k_X11_comes_54 (mc' := 0) (ms' := 0) (rc := 0) (rs := 0) (by omega) (Nat.le_of_ble_eq_true rfl) (by assumption) (c_X8_comesWithin (B := 45) (n := 200) (s := s) (by omega) hL'.s45 (by decide) hO a3 hk8 hr2 hr rfl (by decide) p1 p2 (isR_kc hkd.1) p3 hin hsq (fun t t1 t2 q J f1 _ => ?_) (fun q J f1 => ?_))
        · have hΦ := hh1 t q P' J (a1.fg rfl f1)
          refine E_istore_nC (i := 2) dX11_comes_57 rfl (by decide) rfl ?_
          refine E_lv (lv' := [_, _, _]) rfl ?_
          refine E_iload_n (i := 2) dX11_comes_58 rfl rfl ?_
          refine E_if_le (tgt := 66) dX11_comes_59 (by decide) (fun c_59 => absurd c_59 (nI_nle (by omega) (by omega))) (fun c_59 => ?_)
          refine E_iload_n (i := 2) dX11_comes_62 rfl rfl ?_
          refine E_goto (tgt := 71) dX11_comes_63 (by decide) ?_
          refine E_iret dX11_comes_71 rfl ?_
          exact hΦ
        · have hΦ := hh2 q P' J (a1.fg rfl f1)
          refine E_istore_nC (i := 2) dX11_comes_57 rfl (by decide) rfl ?_
          refine E_lv (lv' := [_, _, _]) rfl ?_
          refine E_iload_n (i := 2) dX11_comes_58 rfl rfl ?_
          refine E_if_le (tgt := 66) dX11_comes_59 (by decide) (fun c_59 => ?_) (fun c_59 => absurd (Int32.le_refl _) c_59)
          refine E_aload_n (i := 0) dX11_comes_66 rfl rfl ?_
          refine E_iconst (v := 2) dX11_comes_67 (by decide) ?_
          refine k_X11_comes_68 (mc' := 0) (ms' := 0) (rc := 0) (rs := 0) (by omega) (Nat.le_of_ble_eq_true rfl) (by assumption) (fail_45 (j := 2) hL' rfl (by decide) (by decide) ?_)
          refine E_iret dX11_comes_71 rfl ?_
          exact hΦ
      refine E_aload_n (i := 0) dX11_comes_0 rfl rfl ?_
      refine E_gr dX11_comes_1 gf_X11_21_11 rfl (by assumption) (by assumption) ?_
      refine E_iload_n (i := 1) dX11_comes_4 rfl rfl ?_
      refine k_X11_comes_5 (mc' := 0) (ms' := 0) (rc := 0) (rs := 0) (by omega) (Nat.le_of_ble_eq_true rfl) (by assumption) (c_rideAt_in (by omega) hL.s21 hk hk8 hr2 hr (hR r hr2).1 ?_)
      refine E_ifnonnull (tgt := 17) dX11_comes_8 (by decide) ?_
      refine E_aload_n (i := 0) dX11_comes_17 rfl rfl ?_
      refine E_gr dX11_comes_18 gf_X11_21_11 rfl (by assumption) (by assumption) ?_
      refine E_gr dX11_comes_21 gf_X11_152_8 rfl (by assumption) (by assumption) ?_
      refine E_iload_n (i := 1) dX11_comes_24 rfl rfl ?_
      refine E_zaj r dX11_comes_25 (by assumption) hr (by omega) (by rw [y3]; omega) ?_
      refine E_if_eq (tgt := 35) dX11_comes_26 (by decide) (fun c_26 => ?_) (fun c_26 => absurd (hz0) c_26)
      refine E_aload_n (i := 0) dX11_comes_35 rfl rfl ?_
      refine E_gr dX11_comes_36 gf_X11_25_11 rfl (by assumption) (by assumption) ?_
      refine E_aload_n (i := 0) dX11_comes_39 rfl rfl ?_
      refine E_gr dX11_comes_40 gf_X11_21_11 rfl (by assumption) (by assumption) ?_
      refine k_X11_comes_43 (mc' := 0) (ms' := 0) (rc := 0) (rs := 0) (by omega) (Nat.le_of_ble_eq_true rfl) (by assumption) (c_copyAhead (by omega) hL hA0 (fun P' L f1 f2 f3 f4 f5 => ?_))
      exact rest P' L f1 f2 f3 f4 f5
  · have hΦ := h3 hc
    refine E_aload_n (i := 0) dX11_comes_0 rfl rfl ?_
    refine E_gr dX11_comes_1 gf_X11_21_11 rfl (by assumption) (by assumption) ?_
    refine E_iload_n (i := 1) dX11_comes_4 rfl rfl ?_
    refine k_X11_comes_5 (mc' := 0) (ms' := 0) (rc := 0) (rs := 0) (by omega) (Nat.le_of_ble_eq_true rfl) (by assumption) (c_rideAt_out (by omega) hL.s21 (by rw [hk]; exact hc) ?_)
    refine E_ifnonnullN dX11_comes_8 ?_
    refine E_aload_n (i := 0) dX11_comes_11 rfl rfl ?_
    refine E_iconst (v := 1) dX11_comes_12 (by decide) ?_
    refine k_X11_comes_13 (mc' := 0) (ms' := 0) (rc := 0) (rs := 0) (by omega) (Nat.le_of_ble_eq_true rfl) (by assumption) (c_X11_fail (k := 1) hL rfl (by decide) (by decide) ?_)
    refine E_iret dX11_comes_16 rfl ?_
    exact hΦ
end
