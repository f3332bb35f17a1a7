/-! order, check, wire -/
section
variable {g : Sh} {P P' : HP} {I J : HI} {B k nl nd tp wt : Nat} {M M' : Nat → Int32} {rd nt : Nat → Nat} {δ : Nat → List Int32}
theorem IV.or (h : IV g P I) (f : ∀ a, a ≠ 16 → a ≠ 99 → a ≠ 100 → a ≠ 109 → a ≠ 121 → a ≠ 122 → J a = I a) (e16 : J 16 4 = I 16 4) (m3 : J 109 3 = I 109 3) (m21 : J 109 21 = I 109 21) (n1 : J 99 = J 121) (n2 : J 100 = J 122) : IV g P J := by
  obtain ⟨hLM, hS, ⟨hK, hK2⟩, ⟨⟨a1, a2⟩, a3, a5, a6⟩, hE, ⟨kt, t1, t2, t3, t4⟩, hH, ⟨c1, c2, c3⟩⟩ := h
  have g1 : ∀ a, 128 ≤ a → P a = P a ∧ J a = I a := fun a ha => ⟨rfl, f a (by omega) (by omega) (by omega) (by omega) (by omega) (by omega)⟩
  have q : ∀ a, 17 ≤ a → a < 99 → J a = I a := fun a x y => f a (by omega) (by omega) (by omega) (by omega) (by omega) (by omega)
  have q2 : ∀ a, 110 ≤ a → a < 121 → J a = I a := fun a x y => f a (by omega) (by omega) (by omega) (by omega) (by omega) (by omega)
  have q3 : ∀ a, 123 ≤ a → J a = I a := fun a x => f a (by omega) (by omega) (by omega) (by omega) (by omega) (by omega)
  refine ⟨hLM, ?_, ⟨fun hn => ?_, ?_⟩, ⟨⟨a1.mv (fun a x y => q a (by omega) (by omega)), a2.mv (fun a x y => q a (by omega) (by omega))⟩, a3, ?_, ?_⟩, ?_, ⟨kt, ?_, ?_, t3, ?_⟩, ?_, ?_, n1, n2⟩
  · rw [q2 110 (by decide) (by decide)]
    exact hS.mv (fun a x y => q a (by omega) (by omega)) rfl g1
  · rw [e16] at hn
    rw [q2 111 (by decide) (by decide)]
    exact (hK hn).mv (fun a x y => q a (by omega) (by omega)) rfl g1
  · rw [e16, m3]; exact hK2
  · rw [q 28 (by decide) (by decide)]; exact a5
  · rw [q 76 (by decide) (by decide)]; exact a6
  · unfold Erq
    rw [q 93 (by decide) (by decide), q2 113 (by decide) (by decide)]; exact hE
  · rw [q 94 (by decide) (by decide)]; exact t1
  · rw [m21]; exact t2
  · rw [q 95 (by decide) (by decide), q3 123 (by decide)]; exact t4
  · exact hH.mv (fun a x y => f a (by omega) (by omega) (by omega) (by omega) (by omega) (by omega)) (q 97 (by decide) (by decide)) (q3 124 (by decide)) (q3 125 (by decide)) (q3 126 (by decide))
  · rw [q2 114 (by decide) (by decide), q2 115 (by decide) (by decide)]; exact c1
theorem fl_110 {n : Nat} : u2 (fl I n) 110 5 0 = fl (u2 I 110 5 0) n := by
  funext a
  unfold fl
  by_cases h1 : a = 110
  · subst h1
    rw [u2_row, u2_oth _ (by decide), u2_oth _ (by decide), u2_row]
  · rw [u2_oth _ h1]
    by_cases h2 : a = 93
    · subst h2
      rw [u2_row, u2_row, u2_oth _ (by decide)]
    · rw [u2_oth _ h2, u2_oth _ h2, u2_oth _ h1]
theorem tks_5 {r n : Nat} {ε : List Int32} {v : Int32} (hr : r < k) : tks ε k (ur M 5 v) n (16 + 7 * r + 3) = tks ε k M n (16 + 7 * r + 3) := by
  have h1 := congrArg (fun s : R4 => s.1) (mR_tks (δ := ε) (M := ur M 5 v) hr n)
  have h2 := congrArg (fun s : R4 => s.1) (mR_tks (δ := ε) (M := M) hr n)
  have e : ∀ y, y ≠ 5 → ur M 5 v y = M y := fun y hy => ur_n _ _ hy
  have ew : c8 (wm (ur M 5 v)) = c8 (wm M) := by
    funext j
    unfold c8 wm
    split
    · exact e _ (by omega)
    · rfl
  have ek : kdo (ur M 5 v) r = kdo M r := by unfold kdo; rw [e _ (by omega)]
  have em : mR (ur M 5 v) r = mR M r := by unfold mR; rw [e _ (by omega), e _ (by omega), e _ (by omega), e _ (by omega)]
  rw [ew, ek, em, e (16 + 7 * r + 1) (by omega), e (16 + 7 * r + 2) (by omega), ← mR_tks (δ := ε) (M := M) hr n] at h1
  exact h1
end
section
variable {Γ : GE}
theorem p_order {y : Int32} : PR Γ mX11_order mX12_order 0 0 [.ref 16, .int y] [.ref 109, .int y] := by
  intro g P I d Φ hd hI hΦ
  obtain ⟨⟨hL, hM⟩, ⟨k, rd, nt, δ, nl, n, tp, wt, hS⟩, -, hG, -, -, -, ⟨c1, c2, c3⟩⟩ := id hI
  obtain ⟨q1, q2, q3, q4, q5⟩ := hS.2.2.2.2.1
  have e1 : ∀ i, i < n → I 40 i = tmM (I 110) i := fun i hi => (q5 i hi).1
  have e2 : ∀ i, i < n → I 42 i = sdM (I 110) i := fun i hi => (q5 i hi).2.1
  have hT : okTs (tmM (I 110)) n := fun i hi => ⟨i32_le.mp (q5 i hi).2.2.1.1, i32_le.mp (q5 i hi).2.2.1.2⟩
  have hT' : okTs (I 40) n := fun i hi => by rw [e1 i hi]; exact hT i hi
  have hO : ordA n (I 40) (I 42) (I 99) (I 100) = ordA n (tmM (I 110)) (sdM (I 110)) (I 121) (I 122) := by
    show ord n (I 40) (I 42) n 0 0 0 (I 99, I 100, none) = ord n (tmM (I 110)) (sdM (I 110)) n 0 0 0 (I 121, I 122, none)
    rw [ord_cg e1 e2, c2, c3]
  obtain ⟨T, hT0⟩ : ∃ T, ordA n (I 40) (I 42) (I 99) (I 100) = T := ⟨_, rfl⟩
  rw [hT0] at hO
  have c := c_X11_order (Γ := Γ) (Φ := Φ) (y := y) (n := n) (d := d) (by omega) hL q1 q2 q4 hT'
  rw [hT0] at c
  have s110 : sT I T 110 = I 110 := sT_o (by decide) (by decide) (by decide)
  have s121 : sT I T 121 = I 121 := sT_o (by decide) (by decide) (by decide)
  have s122 : sT I T 122 = I 122 := sT_o (by decide) (by decide) (by decide)
  have hIV : IV g P (sM (sT I T) T) := hI.or (fun a x1 x2 x3 x4 x5 x6 => (sM_o x5 x6 x4).trans (sT_o x2 x3 x1)) rfl rfl rfl rfl rfl
  refine c (fun h => hΦ _ _ _ _ hM.1 fun d' Ψ hd' hΨ => ?_) (fun h h' => hΦ _ _ _ _ hM.1 fun d' Ψ hd' hΨ => ?_) (fun v hy hv => hΦ _ _ _ _ hM.1 fun d' Ψ hd' hΨ => ?_) (fun j hy hj => hΦ _ _ _ _ hM.1 fun d' Ψ hd' hΨ => ?_)
  · exact c_X12_order (n := n) (by omega) hM q3 q4 hT (fun _ => hΨ _ hI.err) (fun a _ => absurd a h) (fun v a _ => absurd (by rw [a]; exact Int32.le_refl _) h) (fun j a b => absurd (by rw [a]; exact m1_le (by omega)) h)
  · exact c_X12_order (n := n) (by omega) hM q3 q4 hT (fun a => absurd h a) (fun _ _ => hΨ _ hI.err) (fun v a _ => absurd (by rw [a] at h'; exact h') (m1_nle (by omega))) (fun j a b => absurd (by rw [a] at h'; exact (nI_leI (by omega) (by omega)).mp h') (by omega))
  · have m := c_X12_order (Γ := Γ) (I := sT I T) (Φ := Ψ) (y := y) (n := n) (d := d') (by omega) hM (by rw [s110]; exact q3) q4 (by rw [s110]; exact hT)
    rw [s110, s121, s122, ← hO] at m
    refine m (fun a => absurd (by rw [hy]; exact Int32.le_refl _) a) (fun _ a => absurd (by rw [hy] at a; exact a) (m1_nle (by omega))) (fun w _ hw => ?_) (fun j a b => absurd (hy.symm.trans a) (m1_ne (by omega)))
    rw [hv] at hw
    rw [← Option.some.inj hw]
    exact hΨ _ hIV
  · have m := c_X12_order (Γ := Γ) (I := sT I T) (Φ := Ψ) (y := y) (n := n) (d := d') (by omega) hM (by rw [s110]; exact q3) q4 (by rw [s110]; exact hT)
    rw [s110, s121, s122, ← hO] at m
    refine m (fun a => absurd (by rw [hy]; exact m1_le (by omega)) a) (fun _ a => absurd (by rw [hy] at a; exact (nI_leI (by omega) (by omega)).mp a) (by omega)) (fun w a hw => absurd (a.symm.trans hy) (m1_ne (by omega))) (fun j' a b => ?_)
    have e := nI_inj (by omega) (by omega) (hy.symm.trans a)
    subst e
    exact hΨ _ hIV
theorem p_check {x : Int32} : PR Γ mX11_check mX12_check 0 0 [.ref 16, .int x] [.ref 109, .int x] := by
  intro g P I d Φ hd hI hΦ
  obtain ⟨⟨hL, hM⟩, ⟨k, rd, nt, δ, nl, nd, tp, wt, hS⟩, -, hG, -⟩ := id hI
  have hA := hS.la hG
  have k8 := hS.2.1.1.2.1
  obtain ⟨q1, q3, q4, q5⟩ := hS.2.2.2.2.2.2
  have e : ∀ a, a ≠ 43 → a ≠ 110 → u2 (u2 I 43 1 0) 110 5 0 a = I a := fun a x z => (u2_oth _ z).trans (u2_oth _ x)
  have em : ∀ y, y ≠ 5 → u2 (u2 I 43 1 0) 110 5 0 110 y = I 110 y := fun y hy => u2_o (fun h => hy h.2)
  have hI1 : IV g P (u2 (u2 I 43 1 0) 110 5 0) := hI.st (PF.refl P) (fun a _ _ x _ y _ _ _ => e a (by omega) y) rfl rfl ⟨k, rd, nt, δ, nl, nd, tp, 0, hS.rows (fun a x y => e a (by omega) (by omega)) (fun a x => e a (by omega) (by omega)) (fun y hy => em y (by omega)) (fun a x y => e a (by omega) (by omega)) (fun y hy => em y (by omega)) (hS.2.2.2.1.cg (fun a x y => e a (by omega) (by omega)) (em 2 (by decide)) (fun y _ _ => em y (by omega))) (hS.2.2.2.2.1.cg (fun a x y => e a (by omega) (by omega)) (em 3 (by decide)) (fun y _ _ => em y (by omega))) (hS.2.2.2.2.2.1.cg (fun a x y => e a (by omega) (by omega)) (em 4 (by decide)) (fun y _ _ => em y (by omega))) ⟨rfl, rfl, by decide, fun i hi => absurd hi (by omega)⟩⟩ hG.2.2.1
  refine c_X11_check (by omega) hL hA q1 q4 (fun n hx hn P' J hJ => hΦ _ _ _ _ hM.1 fun d' Ψ hd' hΨ => ?_) (fun h => hΦ _ _ _ _ hM.1 fun d' Ψ hd' hΨ => c_X12_check (k := k) (δ := δ 0) (a := wt) (by omega) hM hS.2.1.1 (hS.2.2.1.2.2 0 (by decide)) q3 q4 (fun m hm hm2 K hK => absurd (by rw [hm]; exact n200 hm2) h) (fun _ => ?_))
  · have eJ : u2 J 43 1 0 110 = I 110 := (u2_oth _ (by decide)).trans (hJ.2.2.2.1 110 (by decide) (by decide) (by decide))
    refine c_X12_check (k := k) (δ := δ 0) (a := wt) (by omega) (hM.pg hJ.1) (by rw [eJ]; exact hS.2.1.1) (by rw [eJ]; exact hS.2.2.1.2.2 0 (by decide)) (by rw [eJ]; exact q3) q4 (fun m hm hm2 K hK => ?_) (fun h => absurd (by rw [hx]; exact n200 hn) h)
    have e1 := nI_inj (by omega) (by omega) (hx.symm.trans hm)
    subst e1
    rw [eJ, ← chV_cg (f := I 44) (h := fun j => tks (δ 0) k (I 110) n (16 + 7 * j + 3)) (fun j hj => q5 j hj) (fun j hj => (tks_5 hj).symm)]
    refine hΨ _ (hI1.fv ?_)
    obtain ⟨h1, h2, h3, h4, h5⟩ := hJ
    have w : ∀ a, a ≠ 112 → a ≠ 118 → a ≠ 119 → a ≠ 110 → a ≠ 43 → K a = J a := fun a x1 x2 x3 x4 x5 => (hK a x1 x2 x3).trans ((u2_oth _ x4).trans (u2_oth _ x5))
    refine ⟨⟨fun a x y => ?_, h1.2⟩, h5.mv (fun a x y => w a (by omega) (by omega) (by omega) (by omega) (by omega)), fun a x1 x2 x3 x4 x5 x6 x7 x8 x9 x10 => ?_, ?_, ?_⟩
    · by_cases e24 : a = 24
      · rw [e24, h2]
      · by_cases e72 : a = 72
        · rw [e72, h3]
        · exact h1.1 a x e24 y e72
    · by_cases e110 : a = 110
      · subst e110
        rw [hK 110 (by decide) (by decide) (by decide), u2_row, u2_row, eJ]
        rfl
      · by_cases e43 : a = 43
        · subst e43
          rw [hK 43 (by decide) (by decide) (by decide), u2_oth _ (by decide), u2_row, u2_oth _ (by decide), u2_row, h4 43 (by decide) (by decide) (by decide)]
        · rw [w a x6 x8 x9 e110 e43, e a e43 e110]
          exact h4 a x1 x2 x3
    · rw [w 109 (by decide) (by decide) (by decide) (by decide) (by decide), h4 109 (by decide) (by decide) (by decide)]; rfl
    · rw [w 109 (by decide) (by decide) (by decide) (by decide) (by decide), h4 109 (by decide) (by decide) (by decide)]; rfl
  · rw [fl_110]
    exact hΨ _ hI1.err
theorem p_wire {x v : Int32} : PR Γ mX11_wire mX12_wire 0 0 [.ref 16, .int x, .int v] [.ref 109, .int x, .int v] := by
  intro g P I d Φ hd hI hΦ
  obtain ⟨⟨hL, hM⟩, ⟨k, rd, nt, δ, nl, nd, tp, wt, hS⟩, -, hG, -, -, -, ⟨c1, -⟩⟩ := id hI
  have k8 := hS.2.1.1.2.1
  refine c_X11_wire (k := k) (by omega) hL hS.1.1 k8 (fun j hx hj ha => hΦ _ _ _ _ hM.1 fun d' Ψ hd' hΨ => ?_) (fun h => hΦ _ _ _ _ hM.1 fun d' Ψ hd' hΨ => c_X12_wire (k := k) (by omega) hM c1 hS.2.1.1.1 k8 (fun j hx hj ha => absurd ha h) (fun _ => hΨ _ hI.err))
  refine c_X12_wire (k := k) (by omega) hM c1 hS.2.1.1.1 k8 (fun j' hx' hj' _ => ?_) (fun h => absurd ha h)
  have e1 := nI_inj (by omega) (by omega) (hx.symm.trans hx')
  subst e1
  show Ψ (some (.int (I 110 (7 + j)))) _ _ (ur (wpC I k j v) 110 (wpM (ur (I 110) (7 + j) v) k))
  rw [← show I 23 j = I 110 (7 + j) from hS.2.1.2.1.1 j (by omega)]
  obtain ⟨N, hN⟩ : ∃ N, N = ur (I 110) (7 + j) v := ⟨_, rfl⟩
  rw [← hN]
  obtain ⟨K, hK⟩ : ∃ K, K = ur (wpC I k j v) 110 (wpM N k) := ⟨_, rfl⟩
  rw [← hK]
  have hva : lst j ≤ v ∧ v ≤ grt j := by have := ha.2; rw [hx, nI_clamp (by omega)] at this; exact this
  have n0 : ∀ y, y ≠ 7 + j → N y = I 110 y := fun y hy => by rw [hN]; exact ur_n _ _ hy
  have nj : N (7 + j) = v := by rw [hN]; exact ur_s _ _ _
  have f : ∀ a, a ≠ 23 → a ≠ 25 → a ≠ 110 → K a = I a := fun a x1 x2 x3 => by rw [hK, ur_n _ _ x3]; unfold wpC; rw [ur_n _ _ x2, u2_oth _ x1]
  have k110 : K 110 = wpM N k := by rw [hK]; exact ur_s _ _ _
  have k23 : ∀ i, i < 9 → K 23 i = N (7 + i) := fun i hi => by
    rw [hK, ur_n _ _ (by decide)]
    unfold wpC
    rw [ur_n _ _ (by decide), u2_at]
    by_cases hij : i = j
    · rw [if_pos ⟨rfl, hij⟩, hij, nj]
    · rw [if_neg (fun h => hij h.2), n0 _ (by omega)]; exact hS.2.1.2.1.1 i hi
  have k25 : ∀ i, i < k → K 25 i = (if N (16 + 7 * i + 3) < 10 * N 7 then N (16 + 7 * i + 3) else 10 * N 7) := fun i hi => by
    have h0 : (u2 I 23 j v) 23 0 = N 7 := by
      have := k23 0 (by decide)
      rw [hK, ur_n _ _ (by decide)] at this
      unfold wpC at this
      rw [ur_n _ _ (by decide)] at this
      exact this
    rw [hK, ur_n _ _ (by decide)]
    unfold wpC
    rw [ur_s, h0]
    show (if i < k then mn (I 25 i) (10 * N 7) else I 25 i) = _
    rw [if_pos hi, show I 25 i = N (16 + 7 * i + 3) from by rw [n0 _ (by omega)]; exact (hS.2.1.2.1.2 i hi).1]
    unfold mn
    by_cases h1 : 10 * N 7 < N (16 + 7 * i + 3)
    · rw [if_pos h1, if_neg (fun h => by have a := i32_lt.mp h1; have b := i32_lt.mp h; omega)]
    · rw [if_neg h1]
      by_cases h2 : N (16 + 7 * i + 3) < 10 * N 7
      · rw [if_pos h2]
      · rw [if_neg h2]
        apply Int32.toInt_inj.mp
        have a : ¬ (10 * N 7).toInt < (N (16 + 7 * i + 3)).toInt := fun h => h1 (i32_lt.mpr h)
        have b : ¬ (N (16 + 7 * i + 3)).toInt < (10 * N 7).toInt := fun h => h2 (i32_lt.mpr h)
        omega
  have hWN : WOK (wm N) := fun i hi => by
    show lst i ≤ N (7 + i) ∧ N (7 + i) ≤ grt i
    by_cases hij : i = j
    · rw [hij, nj]; exact hva
    · rw [n0 _ (by omega)]; exact hS.2.1.1.2.2.1 i hi
  have hwb : 20 ≤ (N 7).toInt ∧ (N 7).toInt ≤ 400 := hWN.b.1
  have w10 : (10 * N 7).toInt = 10 * (N 7).toInt := by rw [mul32 (by rw [show (10 : Int32).toInt = 10 from rfl]; omega) (by rw [show (10 : Int32).toInt = 10 from rfl]; omega)]; rfl
  have mo : ∀ y, (∀ r, r < k → y ≠ 16 + 7 * r + 3) → wpM N k y = N y := fun y hy => wpM_o N k y hy
  have hV : VM (wpM N k) k := by
    obtain ⟨v1, v2, v3, v4⟩ := hS.2.1.1
    refine ⟨by rw [mo 1 (fun r _ => by omega), n0 1 (by omega)]; exact v1, v2, fun i hi => ?_, fun r hr => ?_⟩
    · show lst i ≤ wpM N k (7 + i) ∧ wpM N k (7 + i) ≤ grt i
      rw [mo _ (fun r _ => by omega)]; exact hWN i hi
    · obtain ⟨r1, r2, r3, r4, r5, r6⟩ := v4 r hr
      unfold VR
      rw [mo 7 (fun r _ => by omega), mo (16 + 7 * r + 0) (fun r _ => by omega), mo (16 + 7 * r + 1) (fun r _ => by omega), mo (16 + 7 * r + 2) (fun r _ => by omega), mo (16 + 7 * r + 4) (fun r _ => by omega), mo (16 + 7 * r + 5) (fun r _ => by omega), wpM_at N k r hr, n0 (16 + 7 * r + 0) (by omega), n0 (16 + 7 * r + 1) (by omega), n0 (16 + 7 * r + 2) (by omega), n0 (16 + 7 * r + 4) (by omega), n0 (16 + 7 * r + 5) (by omega), n0 (16 + 7 * r + 3) (by omega)]
      refine ⟨r1, r2, r3, ?_, r5, r6⟩
      split
      · next h => have := i32_lt.mp h; omega
      · omega
  have hD : RD K 21 k (wpM N k) := by
    obtain ⟨d1, d2⟩ := hS.2.1.2.1
    refine ⟨fun i hi => ?_, fun i hi => ?_⟩
    · rw [mo _ (fun r _ => by omega)]; exact k23 i hi
    · obtain ⟨x1, x2, x3, x4⟩ := d2 i hi
      rw [wpM_at N k i hi, f (21 + 5) (by decide) (by decide) (by decide), f (21 + 6) (by decide) (by decide) (by decide), f (21 + 7) (by decide) (by decide) (by decide), mo (16 + 7 * i + 4) (fun r _ => by omega), mo (16 + 7 * i + 5) (fun r _ => by omega), mo (16 + 7 * i + 6) (fun r _ => by omega), n0 (16 + 7 * i + 4) (by omega), n0 (16 + 7 * i + 5) (by omega), n0 (16 + 7 * i + 6) (by omega)]
      exact ⟨k25 i hi, x2, x3, x4⟩
  have k21 : K 21 = I 21 := f 21 (by decide) (by decide) (by decide)
  refine hΨ _ (hI.st (PF.refl P) (fun a _ _ x3 _ x4 _ _ _ => f a (by omega) (by omega) x4) (by rw [f 109 (by decide) (by decide) (by decide)]) (by rw [f 109 (by decide) (by decide) (by decide)]) ⟨k, rd, nt, δ, nl, nd, tp, wt, ?_⟩ (by rw [f 28 (by decide) (by decide) (by decide)]; exact hG.2.2.1))
  rw [k110]
  exact hS.mid (PF.refl P) (by rw [k21]; exact hS.1.1) (by rw [k21, mo 0 (fun r _ => by omega), n0 0 (by omega)]; exact hS.1.2.1) (by rw [k21, mo 6 (fun r _ => by omega), n0 6 (by omega)]; exact hS.1.2.2) hV hD (fun i hi q hq => by rw [mo _ (fun r _ => by omega), n0 _ (by omega)]) (fun a ha => f a (by omega) (by omega) (by omega)) (fun a x y => f a (by omega) (by omega) (by omega)) (fun y hy => by rw [mo _ (fun r _ => by omega), n0 _ (by omega)])
end
