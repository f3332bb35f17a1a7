/-! ride -/
section
variable {g g' : Sh} {P P' : HP} {I J K : HI} {B k nl nd tp wt : Nat} {M M' : Nat → Int32} {rd nt : Nat → Nat} {δ : Nat → List Int32}
theorem SP.ex (h : SP g P I B M k rd nt δ nl nd tp wt) (hJ : ∀ a, B ≤ a → a < B + 24 → J a = I a) (hP : P' (B + 3) = P (B + 3)) (hg : ∀ a, 128 ≤ a → a < g.1 → g'.2.1 a = g.2.1 a) (hn : g.1 ≤ g'.1) (hR : ∀ a, 128 ≤ a → a < g.1 → P' a = P a ∧ J a = I a) : SP g' P' J B M k rd nt δ nl nd tp wt := by
  obtain ⟨h1, ⟨h2, h3, h4⟩, ⟨h5, h6, h7⟩, h8, h9, h10, h11⟩ := h
  have f : ∀ i, i < 24 → J (B + i) = I (B + i) := fun i hi => hJ (B + i) (by omega) (by omega)
  have f0 : J B = I B := hJ B (by omega) (by omega)
  refine ⟨?_, ⟨h2, ?_, h4.ex hg hn (fun i _ => by rw [hP]) hR⟩, ⟨h5.mv (fun a a1 a2 => hJ a (by omega) (by omega)), h6.mv (fun a a1 a2 => hJ a (by omega) (by omega)), h7⟩, ?_, ?_, ?_, ?_⟩
  · rw [f0]; exact h1
  · unfold RD
    rw [f 2 (by decide), f 4 (by decide), f 5 (by decide), f 6 (by decide), f 7 (by decide)]
    exact h3
  · unfold LN
    rw [f 14 (by decide), f 15 (by decide), f 16 (by decide), f 17 (by decide)]
    exact h8
  · unfold LD
    rw [f 18 (by decide), f 19 (by decide), f 20 (by decide), f 21 (by decide)]
    exact h9
  · unfold TP
    rw [f 8 (by decide), f 9 (by decide)]
    exact h10
  · unfold WT
    rw [f 22 (by decide), f 23 (by decide)]
    exact h11
theorem fl_o {n a : Nat} (h : a ≠ 93) : fl I n a = I a := u2_oth _ h
theorem flM_o {n a : Nat} (h : a ≠ 113) : flM I n a = I a := u2_oth _ h
/-- an error behind a question -/
theorem fv_e {n : Nat} (hp : PF P P') (hJ : ∀ a, a ≠ 17 → a ≠ 18 → J a = I a) (hK : ∀ a, a ≠ 118 → a ≠ 119 → K a = fl J n a) (hz : Sz I 45) : FV P P' (flM (fl I n) n) (flM K n) := by
  refine ⟨⟨fun a x _ => hp.1 a x, hp.2⟩, hz.mv (fun a x y => by rw [flM_o (by omega), hK a (by omega) (by omega), fl_o (by omega), hJ a (by omega) (by omega)]), fun a x1 x2 x3 x4 x5 x6 x7 x8 x9 x10 => ?_, ?_, ?_⟩
  · by_cases e93 : a = 93
    · subst e93
      rw [flM_o (by decide), flM_o (by decide), hK 93 (by decide) (by decide)]
      unfold fl
      rw [u2_row, u2_row, hJ 93 (by decide) (by decide)]
    · by_cases e113 : a = 113
      · subst e113
        have q1 : K 113 = I 113 := by rw [hK 113 (by decide) (by decide), fl_o (by decide), hJ 113 (by decide) (by decide)]
        have q2 : fl I n 113 = I 113 := fl_o (by decide)
        unfold flM
        rw [u2_row, u2_row, q1, q2]
      · rw [flM_o e113, flM_o e113, hK a x8 x9, fl_o e93, fl_o e93, hJ a x1 x2]
  · rw [flM_o (by decide), flM_o (by decide), hK 109 (by decide) (by decide), fl_o (by decide), fl_o (by decide), hJ 109 (by decide) (by decide)]
  · rw [flM_o (by decide), flM_o (by decide), hK 109 (by decide) (by decide), fl_o (by decide), fl_o (by decide), hJ 109 (by decide) (by decide)]
end
section
variable {Γ : GE}
theorem p_ride {x y z : Int32} : PR Γ mX11_ride mX12_ride 1 5 [.ref 16, .int x, .int y, .int z] [.ref 109, .int x, .int y, .int z] := by
  intro g P I d Φ hd hI hΦ
  obtain ⟨⟨hL, hM⟩, ⟨k, rd, nt, δ, nl, nd, tp, wt, hS⟩, ⟨hK, hK2⟩, ⟨⟨a1, a2⟩, ⟨a3, a4⟩, a5, a6⟩, hE, hT, hH, hC⟩ := id hI
  have k8 := hS.2.1.1.2.1
  have w7 : I 23 7 = I 110 14 := hS.w 7 (by decide)
  have w8 : I 23 8 = I 110 15 := hS.w 8 (by decide)
  have t0 : I 21 8 = I 110 0 := hS.1.2.1
  have T1 := hS.2.2.1.2.2 1 (by decide)
  obtain ⟨G, hG⟩ : ∃ G : Int32, Unit → gvl 1 (δ 1) y (I 110 14) (I 110 15) (I 110 0) = G := ⟨_, fun _ => rfl⟩
  have c := c_X11_ride (Γ := Γ) (Φ := Φ) (x := x) (y := y) (z := z) (k := k) (nt := nt) (δ := δ) (d := d) (by omega) hL hS.2.2.1.1 hS.2.2.1.2.1 hS.1.1 k8
  rw [w7, w8, t0, hG ()] at c
  refine c (fun ho hv hk g' P' J hR => hΦ _ _ _ _ fun d' Ψ hd' hΨ => ?_) (fun ho => hΦ _ _ _ _ fun d' Ψ hd' hΨ => c_X12_ride (k := k) (ε := δ 1) (by omega) hM hS.2.1.1.1 k8 T1 (fun a => absurd a ho) (fun _ => hΨ _ hI.err) (fun a => absurd a ho) (fun a => absurd a ho)) (fun ho hv P' J hp hJ => hΦ _ _ _ _ fun d' Ψ hd' hΨ => ?_) (fun ho hv hk P' J hp hJ => hΦ _ _ _ _ fun d' Ψ hd' hΨ => ?_)
  · sorry
  · have e110 : fl J 3 110 = I 110 := (fl_o (by decide)).trans (hJ 110 (by decide) (by decide))
    have m := c_X12_ride (Γ := Γ) (Φ := Ψ) (g := g) (P := P') (I := fl J 3) (x := x) (y := y) (z := z) (k := k) (ε := δ 1) (d := d') (by omega) (hM.pf hp) (by rw [e110]; exact hS.2.1.1.1) k8 (by rw [e110]; exact T1)
    rw [e110, hG ()] at m
    exact m (fun _ a => absurd (hv ()) (a ())) (fun a => absurd ho a) (fun _ _ K hK' => hΨ _ (hI.err.fv (fv_e hp hJ hK' a1))) (fun _ a => absurd (hv ()) (a ()))
  · have e110 : fl J 4 110 = I 110 := (fl_o (by decide)).trans (hJ 110 (by decide) (by decide))
    have m := c_X12_ride (Γ := Γ) (Φ := Ψ) (g := g) (P := P') (I := fl J 4) (x := x) (y := y) (z := z) (k := k) (ε := δ 1) (d := d') (by omega) (hM.pf hp) (by rw [e110]; exact hS.2.1.1.1) k8 (by rw [e110]; exact T1)
    rw [e110, hG ()] at m
    exact m (fun _ _ a => absurd hk (by omega)) (fun a => absurd ho a) (fun _ a => absurd (a ()) (hv ())) (fun _ _ _ K hK' => hΨ _ (hI.err.fv (fv_e hp hJ hK' a1)))
end
