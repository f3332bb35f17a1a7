/-! ride -/
section
variable {g g' : Sh} {P P' : HP} {I J K : HI} {B k nl nd tp wt : Nat} {M M' : Nat → Int32} {rd nt : Nat → Nat} {δ : Nat → List Int32}
theorem SP.ex (h : SP g P I B M k rd nt δ nl nd tp wt) (hJ : ∀ a, B ≤ a → a < B + 24 → J a = I a) (hP : P' (B + 3) = P (B + 3)) (hg : ∀ a, 128 ≤ a → a < g.1 → g'.2.1 a = g.2.1 a) (hn : g.1 ≤ g'.1) (hR : ∀ a, 128 ≤ a → a < g.1 → P' a = P a ∧ J a = I a) : SP g' P' J B M k rd nt δ nl nd tp wt := by
  obtain ⟨h1, ⟨h2, h3, h4⟩, ⟨h5, h6, h7⟩, h8, h9, h10, h11⟩ := h
  have f : ∀ i, i < 24 → J (B + i) = I (B + i) := fun i hi => hJ (B + i) (by omega) (by omega)
  have f0 : J B = I B := hJ B (by omega) (by omega)
  refine ⟨?_, ⟨h2, ?_, h4.ex hg hn (fun i _ => by rw [hP]) hR⟩, ⟨h5.mv (fun a a1 a2 => hJ a (by omega) (by omega)), h6.mv (fun a a1 a2 => hJ a (by omega) (by omega)), h7⟩, ?_, ?_, ?_, ?_⟩
  · rw [f0]; exact h1
  · unfold RD
    rw [f 2 (by decide), f 4 (by decide), f 5 (by decide), f 6 (by decide), f 7 (by decide)]
    exact h3
  · unfold LN
    rw [f 14 (by decide), f 15 (by decide), f 16 (by decide), f 17 (by decide)]
    exact h8
  · unfold LD
    rw [f 18 (by decide), f 19 (by decide), f 20 (by decide), f 21 (by decide)]
    exact h9
  · unfold TP
    rw [f 8 (by decide), f 9 (by decide)]
    exact h10
  · unfold WT
    rw [f 22 (by decide), f 23 (by decide)]
    exact h11
theorem fl_o {n a : Nat} (h : a ≠ 93) : fl I n a = I a := u2_oth _ h
theorem flM_o {n a : Nat} (h : a ≠ 113) : flM I n a = I a := u2_oth _ h
/-- an error behind a question -/
theorem fv_e {n : Nat} (hp : PF P P') (hJ : ∀ a, a ≠ 17 → a ≠ 18 → J a = I a) (hK : ∀ a, a ≠ 118 → a ≠ 119 → K a = fl J n a) (hz : Sz I 45) : FV P P' (flM (fl I n) n) (flM K n) := by
  refine ⟨⟨fun a x _ => hp.1 a x, hp.2⟩, hz.mv (fun a x y => by rw [flM_o (by omega), hK a (by omega) (by omega), fl_o (by omega), hJ a (by omega) (by omega)]), fun a x1 x2 x3 x4 x5 x6 x7 x8 x9 x10 => ?_, ?_, ?_⟩
  · by_cases e93 : a = 93
    · subst e93
      rw [flM_o (by decide), flM_o (by decide), hK 93 (by decide) (by decide)]
      unfold fl
      rw [u2_row, u2_row, hJ 93 (by decide) (by decide)]
    · by_cases e113 : a = 113
      · subst e113
        have q1 : K 113 = I 113 := by rw [hK 113 (by decide) (by decide), fl_o (by decide), hJ 113 (by decide) (by decide)]
        have q2 : fl I n 113 = I 113 := fl_o (by decide)
        unfold flM
        rw [u2_row, u2_row, q1, q2]
      · rw [flM_o e113, flM_o e113, hK a x8 x9, fl_o e93, fl_o e93, hJ a x1 x2]
  · rw [flM_o (by decide), flM_o (by decide), hK 109 (by decide) (by decide), fl_o (by decide), fl_o (by decide), hJ 109 (by decide) (by decide)]
  · rw [flM_o (by decide), flM_o (by decide), hK 109 (by decide) (by decide), fl_o (by decide), fl_o (by decide), hJ 109 (by decide) (by decide)]
end
section
variable {Γ : GE}
theorem p_ride {x y z : Int32} : PR Γ mX11_ride mX12_ride 1 5 [.ref 16, .int x, .int y, .int z] [.ref 109, .int x, .int y, .int z] := by
  intro g P I d Φ hd hI hΦ
  obtain ⟨⟨hL, hM⟩, ⟨k, rd, nt, δ, nl, nd, tp, wt, hS⟩, ⟨hK, hK2⟩, ⟨⟨a1, a2⟩, ⟨a3, a4⟩, a5, a6⟩, hE, hT, hH, hC⟩ := id hI
  have k8 := hS.2.1.1.2.1
  have w7 : I 23 7 = I 110 14 := hS.w 7 (by decide)
  have w8 : I 23 8 = I 110 15 := hS.w 8 (by decide)
  have t0 : I 21 8 = I 110 0 := hS.1.2.1
  have T1 := hS.2.2.1.2.2 1 (by decide)
  obtain ⟨G, hG⟩ : ∃ G : Int32, Unit → gvl 1 (δ 1) y (I 110 14) (I 110 15) (I 110 0) = G := ⟨_, fun _ => rfl⟩
  have c := c_X11_ride (Γ := Γ) (Φ := Φ) (x := x) (y := y) (z := z) (k := k) (nt := nt) (δ := δ) (d := d) (by omega) hL hS.2.2.1.1 hS.2.2.1.2.1 hS.1.1 k8
  rw [w7, w8, t0, hG ()] at c
  refine c (fun ho hv hk g' P' J hR => hΦ _ _ _ _ (by obtain ⟨⟨kd, _, _, e⟩, _⟩ := hR; rw [e]; exact hM.1.sx (SX_new (P := P) (f := fun _ => none))) fun d' Ψ hd' hΨ => ?_) (fun ho => hΦ _ _ _ _ hM.1 fun d' Ψ hd' hΨ => c_X12_ride (k := k) (ε := δ 1) (by omega) hM hS.2.1.1.1 k8 T1 (fun a => absurd a ho) (fun _ => hΨ _ hI.err) (fun a => absurd a ho) (fun a => absurd a ho)) (fun ho hv P' J hp hJ => hΦ _ _ _ _ hM.1 fun d' Ψ hd' hΨ => ?_) (fun ho hv hk P' J hp hJ => hΦ _ _ _ _ hM.1 fun d' Ψ hd' hΨ => ?_)
  · obtain ⟨⟨kd, kd6, hxk, hg'⟩, ⟨p1, p2, p3, p4, p5⟩, ⟨j0, j1, j2, j3⟩, jf, js, j7, ja⟩ := hR
    have far : 128 ≤ g.1 := hL.far
    subst hg'
    have sx : SX g (gNew g (kc kd) 0) P (ur P g.1 (P' g.1)) := SX_new
    have pg : PG (ur P g.1 (P' g.1)) P' := ⟨fun a b1 b2 b3 b4 => by
      by_cases e : a = g.1
      · rw [e, ur_s]
      · rw [ur_n _ _ e]; exact p1 a b1 b2 e, by rw [ur_n _ _ (by omega)]; exact p2⟩
    have hL' := (hL.sx sx).pg pg
    have hM' := (hM.sx sx).pg pg
    have e110 : J 110 = I 110 := jf 110 (by decide) (by decide) (by decide) (by decide) (by omega)
    have m := c_X12_ride (Γ := Γ) (Φ := Ψ) (g := gNew g (kc kd) 0) (P := P') (I := J) (x := x) (y := y) (z := z) (k := k) (ε := δ 1) (d := d') (by omega) hM' (by rw [e110]; exact hS.2.1.1.1) k8 (by rw [e110]; exact T1)
    rw [e110, hG ()] at m
    refine m (fun _ _ _ K k1 k2 k3 k4 k5 k6 k7 => ?_) (fun a => absurd ho a) (fun _ a => absurd (a ()) (hv ())) (fun _ _ a => absurd a (by omega))
    have f : ∀ a, a ≠ 17 → a ≠ 18 → a ≠ 21 → (a < 25 ∨ 28 < a) → a ≠ g.1 → a ≠ 110 → a ≠ 118 → a ≠ 119 → K a = I a := fun a x1 x2 x3 x4 x5 x6 x7 x8 => (k1 a x6 x7 x8).trans (jf a x1 x2 x3 x4 x5)
    have q : ∀ a, 29 ≤ a → a < 128 → a ≠ 110 → a ≠ 118 → a ≠ 119 → K a = I a := fun a y1 y2 y3 y4 y5 => f a (by omega) (by omega) (by omega) (by omega) (by omega) y3 y4 y5
    have kJ : ∀ a, a < 110 → K a = J a := fun a ha => k1 a (by omega) (by omega) (by omega)
    have kg : K g.1 = J g.1 := k1 g.1 (by omega) (by omega) (by omega)
    have em : ∀ w, w ≠ 1 → (w < 16 + 7 * k ∨ 16 + 7 * k + 7 ≤ w) → K 110 w = I 110 w := fun w h1 h2 => k7 w h1 h2
    have g1 : ∀ a, 128 ≤ a → a < g.1 → P' a = P a ∧ K a = I a := fun a ha hb => ⟨p1 a (by omega) (by omega) (by omega), f a (by omega) (by omega) (by omega) (by omega) (by omega) (by omega) (by omega) (by omega)⟩
    have gk : ∀ a, 128 ≤ a → a < g.1 → (gNew g (kc kd) 0).2.1 a = g.2.1 a := fun a _ hb => ur_n _ _ (by omega)
    have hkd : kdo (K 110) k = kd := by unfold kdo; rw [k3, hxk, nI_clamp (by omega)]
    have cn : Cel (gNew g (kc kd) 0) g.1 (kc kd) := Cel_new (by omega)
    obtain ⟨kt, t1, t2, t3, t4⟩ := hT
    have rqx : ∀ B j, P' (B + 3) j = P (B + 3) j → RQ g P B j → RQ (gNew g (kc kd) 0) P' B j := fun B j e h => by
      unfold RQ
      rw [e]
      exact h.elim Or.inl (fun ⟨r, ci, h1, h2, h3⟩ => Or.inr ⟨r, ci, h1, h2.sx sx, h3⟩)
    refine hΨ _ ⟨⟨hL', hM'⟩, ⟨k + 1, ur rd k g.1, nt, δ, nl, nd, tp, wt, ?_⟩, ⟨fun hn => ?_, ?_⟩, ⟨⟨?_, ?_⟩, ⟨fun j hj => ?_, fun j hj => ?_⟩, fun j hj => ?_, ?_⟩, ?_, ⟨kt, ?_, ?_, t3, ?_⟩, ?_, ?_, ?_, ?_⟩
    · obtain ⟨h1, ⟨h2, h3, h4⟩, ⟨h5, h6, h7⟩, hl, hld, htp, hw⟩ := hS
      refine ⟨⟨by rw [kJ 21 (by decide)]; exact j7, by rw [kJ 21 (by decide), js 8 (by decide), em 0 (by decide) (by omega)]; exact h1.2.1, by rw [kJ 21 (by decide), js 9 (by decide), em 6 (by decide) (by omega)]; exact h1.2.2⟩, ⟨⟨k2, hk, fun j hj => ?_, fun r hr => ?_⟩, ⟨fun j hj => ?_, fun i hi => ?_⟩, fun i hi => ?_⟩, ⟨h5.mv (fun a a1 a2 => q a (by omega) (by omega) (by omega) (by omega) (by omega)), h6.mv (fun a a1 a2 => q a (by omega) (by omega) (by omega) (by omega) (by omega)), fun u hu => TC_ge (fun w hw => em w (by omega) (by omega)) (h7 u hu)⟩, hl.cg (fun a a1 a2 => q a (by omega) (by omega) (by omega) (by omega) (by omega)) (em 2 (by decide) (by omega)) (fun w _ _ => em w (by omega) (by omega)), hld.cg (fun a a1 a2 => q a (by omega) (by omega) (by omega) (by omega) (by omega)) (em 3 (by decide) (by omega)) (fun w _ _ => em w (by omega) (by omega)), htp.cg (fun a a1 a2 => q a (by omega) (by omega) (by omega) (by omega) (by omega)) (em 4 (by decide) (by omega)) (fun w _ _ => em w (by omega) (by omega)), hw.cg (fun a a1 a2 => q a (by omega) (by omega) (by omega) (by omega) (by omega)) (em 5 (by decide) (by omega)) (fun w _ _ => em w (by omega) (by omega))⟩
      · show lst j ≤ K 110 (7 + j) ∧ K 110 (7 + j) ≤ grt j
        rw [em _ (by omega) (by omega)]; exact h2.2.2.1 j hj
      · unfold VR
        rw [em 7 (by decide) (by omega)]
        by_cases hrk : r = k
        · subst hrk
          have wb := h2.2.2.1.b.1
          have wb7 : 20 ≤ (I 110 7).toInt := wb.1
          rw [k3, k4, k5, k6 3 (by decide) (by decide), k6 4 (by decide) (by decide), k6 5 (by decide) (by decide)]
          exact ⟨⟨kd, kd6, hxk⟩, ⟨i32_le.mp ho.2.1.1, i32_le.mp ho.2.1.2⟩, ⟨i32_le.mp ho.2.2.1, i32_le.mp ho.2.2.2⟩, ⟨by decide, by show (0 : Int) ≤ _; omega⟩, ⟨by decide, by decide⟩, Or.inl rfl⟩
        · rw [em (16 + 7 * r + 0) (by omega) (by omega), em (16 + 7 * r + 1) (by omega) (by omega), em (16 + 7 * r + 2) (by omega) (by omega), em (16 + 7 * r + 3) (by omega) (by omega), em (16 + 7 * r + 4) (by omega) (by omega), em (16 + 7 * r + 5) (by omega) (by omega)]
          exact h2.2.2.2 r (by omega)
      · rw [f (21 + 2) (by decide) (by decide) (by decide) (by decide) (by omega) (by decide) (by decide) (by decide), em _ (by omega) (by omega)]; exact h3.1 j hj
      · rw [kJ (21 + 4) (by decide), kJ (21 + 5) (by decide), kJ (21 + 6) (by decide), kJ (21 + 7) (by decide)]
        by_cases hik : i = k
        · subst hik
          rw [k6 3 (by decide) (by decide), k6 4 (by decide) (by decide), k6 5 (by decide) (by decide), k6 6 (by decide) (by decide)]
          exact ⟨(ja 25 (by decide) (by decide)).2, (ja 26 (by decide) (by decide)).2, (ja 28 (by decide) (by decide)).2, (ja 27 (by decide) (by decide)).2⟩
        · rw [(ja (21 + 4) (by decide) (by decide)).1 i hik, (ja (21 + 5) (by decide) (by decide)).1 i hik, (ja (21 + 6) (by decide) (by decide)).1 i hik, (ja (21 + 7) (by decide) (by decide)).1 i hik, em _ (by omega) (by omega), em _ (by omega) (by omega), em _ (by omega) (by omega), em _ (by omega) (by omega)]
          exact h3.2 i (by omega)
      · by_cases hik : i = k
        · subst hik
          rw [ur_s, hkd, kg, k3, k4, k5]
          exact ⟨p4, cn, far, p5, j0, j1, j2, j3⟩
        · obtain ⟨r1, r2, r3, r4, r5, r6, r7, r8⟩ := h4 i (by omega)
          have e := g1 (rd i) r3 r2.2.2
          have ek : kdo (K 110) i = kdo (I 110) i := by unfold kdo; rw [em _ (by omega) (by omega)]
          rw [ur_n _ _ hik, ek, e.1, e.2, em (16 + 7 * i + 0) (by omega) (by omega), em (16 + 7 * i + 1) (by omega) (by omega), em (16 + 7 * i + 2) (by omega) (by omega)]
          exact ⟨by rw [show P' (21 + 3) i = P 24 i from p3 i hik]; exact r1, r2.sx sx, r3, r4, r5, r6, r7, r8⟩
    · rw [f 16 (by decide) (by decide) (by decide) (by decide) (by omega) (by decide) (by decide) (by decide)] at hn
      rw [q 111 (by decide) (by decide) (by decide) (by decide) (by decide)]
      obtain ⟨k', rd', nt', δ', nl', nd', tp', wt', hS'⟩ := hK hn
      exact ⟨k', rd', nt', δ', nl', nd', tp', wt', hS'.ex (fun a a1 a2 => q a (by omega) (by omega) (by omega) (by omega) (by omega)) (p1 72 (by decide) (by decide) (by omega)) gk (Nat.le_succ _) g1⟩
    · rw [f 16 (by decide) (by decide) (by decide) (by decide) (by omega) (by decide) (by decide) (by decide), q 109 (by decide) (by decide) (by decide) (by decide) (by decide)]; exact hK2
    · exact a1.mv (fun a y1 y2 => q a (by omega) (by omega) (by omega) (by omega) (by omega))
    · exact a2.mv (fun a y1 y2 => q a (by omega) (by omega) (by omega) (by omega) (by omega))
    · by_cases hjk : j = k
      · subst hjk
        exact Or.inr ⟨g.1, kc kd, p4, cn, isR_kc kd6⟩
      · exact rqx 21 j (p3 j hjk) (a3 j hj)
    · exact rqx 69 j (by rw [show P' (69 + 3) = P (69 + 3) from p1 72 (by decide) (by decide) (by omega)]) (a4 j hj)
    · rw [kJ 28 (by decide)]
      by_cases hjk : j = k
      · subst hjk
        exact Or.inl (ja 28 (by decide) (by decide)).2
      · rw [(ja 28 (by decide) (by decide)).1 j hjk]; exact a5 j hj
    · rw [q 76 (by decide) (by decide) (by decide) (by decide) (by decide)]; exact a6
    · unfold Erq
      rw [q 93 (by decide) (by decide) (by decide) (by decide) (by decide), q 113 (by decide) (by decide) (by decide) (by decide) (by decide)]; exact hE
    · rw [q 94 (by decide) (by decide) (by decide) (by decide) (by decide)]; exact t1
    · rw [q 109 (by decide) (by decide) (by decide) (by decide) (by decide)]; exact t2
    · rw [q 95 (by decide) (by decide) (by decide) (by decide) (by decide), q 123 (by decide) (by decide) (by decide) (by decide) (by decide)]; exact t4
    · exact hH.mv (fun a y1 y2 => q a (by omega) (by omega) (by omega) (by omega) (by omega)) (q 97 (by decide) (by decide) (by decide) (by decide) (by decide)) (q 124 (by decide) (by decide) (by decide) (by decide) (by decide)) (q 125 (by decide) (by decide) (by decide) (by decide) (by decide)) (q 126 (by decide) (by decide) (by decide) (by decide) (by decide))
    · rw [q 114 (by decide) (by decide) (by decide) (by decide) (by decide), q 115 (by decide) (by decide) (by decide) (by decide) (by decide)]; exact hC.1
    · rw [q 99 (by decide) (by decide) (by decide) (by decide) (by decide), q 121 (by decide) (by decide) (by decide) (by decide) (by decide)]; exact hC.2.1
    · rw [q 100 (by decide) (by decide) (by decide) (by decide) (by decide), q 122 (by decide) (by decide) (by decide) (by decide) (by decide)]; exact hC.2.2
  · have e110 : fl J 3 110 = I 110 := (fl_o (by decide)).trans (hJ 110 (by decide) (by decide))
    have m := c_X12_ride (Γ := Γ) (Φ := Ψ) (g := g) (P := P') (I := fl J 3) (x := x) (y := y) (z := z) (k := k) (ε := δ 1) (d := d') (by omega) (hM.pf hp) (by rw [e110]; exact hS.2.1.1.1) k8 (by rw [e110]; exact T1)
    rw [e110, hG ()] at m
    exact m (fun _ a => absurd (hv ()) (a ())) (fun a => absurd ho a) (fun _ _ K hK' => hΨ _ (hI.err.fv (fv_e hp hJ hK' a1))) (fun _ a => absurd (hv ()) (a ()))
  · have e110 : fl J 4 110 = I 110 := (fl_o (by decide)).trans (hJ 110 (by decide) (by decide))
    have m := c_X12_ride (Γ := Γ) (Φ := Ψ) (g := g) (P := P') (I := fl J 4) (x := x) (y := y) (z := z) (k := k) (ε := δ 1) (d := d') (by omega) (hM.pf hp) (by rw [e110]; exact hS.2.1.1.1) k8 (by rw [e110]; exact T1)
    rw [e110, hG ()] at m
    exact m (fun _ _ a => absurd hk (by omega)) (fun a => absurd ho a) (fun _ a => absurd (a ()) (hv ())) (fun _ _ _ K hK' => hΨ _ (hI.err.fv (fv_e hp hJ hK' a1)))
end
