/-! calls that change the live state -/
section
variable {g : Sh} {P P' : HP} {I J : HI} {B k nl nd tp wt nl' nd' tp' wt' : Nat} {M M' : Nat → Int32} {rd nt : Nat → Nat} {δ : Nat → List Int32}
theorem IV.st (h : IV g P I) (hp : PF P P') (hJ : ∀ a, a ≠ 17 → a ≠ 18 → (a < 21 ∨ 45 ≤ a) → a ≠ 109 → a ≠ 110 → a ≠ 117 → a ≠ 118 → a ≠ 119 → J a = I a) (m3 : J 109 3 = I 109 3) (m21 : J 109 21 = I 109 21) (hS : SR g P' J 21 (J 110)) (h28 : ∀ j, j < 8 → J 28 j = 0 ∨ J 28 j = 1) : IV g P' J := by
  obtain ⟨⟨hL, hM⟩, -, ⟨hK, hK2⟩, ⟨⟨a1, a2⟩, ⟨a3, a4⟩, a5, a6⟩, hE, ⟨kt, t1, t2, t3, t4⟩, hH, ⟨c1, c2, c3⟩⟩ := h
  have e : ∀ a, 45 ≤ a → a ≠ 109 → a ≠ 110 → (a < 117 ∨ 119 < a) → J a = I a := fun a b1 b2 b3 b4 => hJ a (by omega) (by omega) (by omega) b2 b3 (by omega) (by omega) (by omega)
  have e16 : J 16 = I 16 := hJ 16 (by decide) (by decide) (by decide) (by decide) (by decide) (by decide) (by decide) (by decide)
  have g1 : ∀ a, 128 ≤ a → P' a = P a ∧ J a = I a := fun a ha => ⟨hp.1 a (by omega), e a (by omega) (by omega) (by omega) (by omega)⟩
  refine ⟨⟨hL.pf hp, hM.pf hp⟩, hS, ⟨fun hn => ?_, ?_⟩, ⟨⟨a1.mv (fun a x y => e a (by omega) (by omega) (by omega) (by omega)), a2.mv (fun a x y => e a (by omega) (by omega) (by omega) (by omega))⟩, ⟨fun j hj => (a3 j hj).mv (hp.1 24 (by decide)), fun j hj => (a4 j hj).mv (hp.1 72 (by decide))⟩, h28, ?_⟩, ?_, ⟨kt, ?_, ?_, t3, ?_⟩, ?_, ?_, ?_, ?_⟩
  · rw [e16] at hn
    rw [e 111 (by decide) (by decide) (by decide) (by decide)]
    exact (hK hn).mv (fun a x1 x2 => e a (by omega) (by omega) (by omega) (by omega)) (hp.1 72 (by decide)) g1
  · rw [e16, m3]; exact hK2
  · rw [e 76 (by decide) (by decide) (by decide) (by decide)]; exact a6
  · unfold Erq
    rw [e 93 (by decide) (by decide) (by decide) (by decide), e 113 (by decide) (by decide) (by decide) (by decide)]; exact hE
  · rw [e 94 (by decide) (by decide) (by decide) (by decide)]; exact t1
  · rw [m21]; exact t2
  · rw [e 95 (by decide) (by decide) (by decide) (by decide), e 123 (by decide) (by decide) (by decide) (by decide)]; exact t4
  · exact hH.mv (fun a x1 x2 => e a (by omega) (by omega) (by omega) (by omega)) (e 97 (by decide) (by decide) (by decide) (by decide)) (e 124 (by decide) (by decide) (by decide) (by decide)) (e 125 (by decide) (by decide) (by decide) (by decide)) (e 126 (by decide) (by decide) (by decide) (by decide))
  · rw [e 114 (by decide) (by decide) (by decide) (by decide), e 115 (by decide) (by decide) (by decide) (by decide)]; exact c1
  · rw [e 99 (by decide) (by decide) (by decide) (by decide), e 121 (by decide) (by decide) (by decide) (by decide)]; exact c2
  · rw [e 100 (by decide) (by decide) (by decide) (by decide), e 122 (by decide) (by decide) (by decide) (by decide)]; exact c3
theorem VM_cg (h : VM M k) (hM : ∀ y, y < 2 ∨ (7 ≤ y ∧ y < 72) → M' y = M y) : VM M' k := by
  obtain ⟨h1, h2, h3, h4⟩ := h
  refine ⟨by rw [hM 1 (by omega)]; exact h1, h2, fun j hj => ?_, fun r hr => ?_⟩
  · show lst j ≤ M' (7 + j) ∧ M' (7 + j) ≤ grt j
    rw [hM _ (by omega)]; exact h3 j hj
  · unfold VR
    rw [hM 7 (by omega), hM (16 + 7 * r + 0) (by omega), hM (16 + 7 * r + 1) (by omega), hM (16 + 7 * r + 2) (by omega), hM (16 + 7 * r + 3) (by omega), hM (16 + 7 * r + 4) (by omega), hM (16 + 7 * r + 5) (by omega)]
    exact h4 r hr
theorem LN.cg (h : LN I 21 M nl) (hJ : ∀ a, 35 ≤ a → a ≤ 38 → J a = I a) (h2 : M' 2 = M 2) (hM : ∀ y, 72 ≤ y → y < 88 → M' y = M y) : LN J 21 M' nl := by
  obtain ⟨q1, q2, q3, q4, q5⟩ := h
  exact ⟨by rw [hJ (21 + 14) (by decide) (by decide)]; exact q1, by rw [hJ (21 + 16) (by decide) (by decide)]; exact q2, by rw [h2]; exact q3, q4, fun i hi => by rw [hJ (21 + 15) (by decide) (by decide), hJ (21 + 17) (by decide) (by decide), hM _ (by omega) (by omega), hM _ (by omega) (by omega)]; exact q5 i hi⟩
theorem LD.cg (h : LD I 21 M nd) (hJ : ∀ a, 39 ≤ a → a ≤ 42 → J a = I a) (h2 : M' 3 = M 3) (hM : ∀ y, 88 ≤ y → y < 98 → M' y = M y) : LD J 21 M' nd := by
  obtain ⟨q1, q2, q3, q4, q5⟩ := h
  exact ⟨by rw [hJ (21 + 18) (by decide) (by decide)]; exact q1, by rw [hJ (21 + 20) (by decide) (by decide)]; exact q2, by rw [h2]; exact q3, q4, fun i hi => by rw [hJ (21 + 19) (by decide) (by decide), hJ (21 + 21) (by decide) (by decide), hM (88 + 2 * i) (by omega) (by omega), hM (88 + 2 * i + 1) (by omega) (by omega)]; exact q5 i hi⟩
theorem TP.cg (h : TP I 21 M tp) (hJ : ∀ a, 29 ≤ a → a ≤ 30 → J a = I a) (h2 : M' 4 = M 4) (hM : ∀ y, 98 ≤ y → y < 148 → M' y = M y) : TP J 21 M' tp := by
  obtain ⟨q1, q3, q4, q5⟩ := h
  exact ⟨by rw [hJ (21 + 8) (by decide) (by decide)]; exact q1, by rw [h2]; exact q3, q4, fun i hi => by rw [hJ (21 + 9) (by decide) (by decide), hM _ (by omega) (by omega)]; exact q5 i hi⟩
theorem WT.cg (h : WT I 21 M wt) (hJ : ∀ a, 43 ≤ a → a ≤ 44 → J a = I a) (h2 : M' 5 = M 5) (hM : ∀ y, 148 ≤ y → y < 168 → M' y = M y) : WT J 21 M' wt := by
  obtain ⟨q1, q3, q4, q5⟩ := h
  exact ⟨by rw [hJ (21 + 22) (by decide) (by decide)]; exact q1, by rw [h2]; exact q3, q4, fun i hi => by rw [hJ (21 + 23) (by decide) (by decide), hM _ (by omega) (by omega)]; exact q5 i hi⟩
theorem SP.set (h : SP g P I 21 M k rd nt δ nl nd tp wt) (hJ : ∀ a, 22 ≤ a → a < 29 → J a = I a) (h7 : J 21 7 = I 21 7) (h8 : J 21 8 = I 21 8) (h9 : J 21 9 = M' 6) (hJr : ∀ a, 128 ≤ a → J a = I a) (hM : ∀ y, y < 2 ∨ (7 ≤ y ∧ y < 72) → M' y = M y) (hT : ∀ a, 31 ≤ a → a ≤ 34 → J a = I a) (hT2 : ∀ y, 168 ≤ y → M' y = M y) (hl : LN J 21 M' nl') (hd : LD J 21 M' nd') (ht : TP J 21 M' tp') (hw : WT J 21 M' wt') : SP g P J 21 M' k rd nt δ nl' nd' tp' wt' := by
  obtain ⟨h1, ⟨h2, h3, h4⟩, ⟨h5, h6, h7'⟩, -⟩ := h
  have k8 := h2.2.1
  refine ⟨⟨by rw [h7]; exact h1.1, by rw [h8, hM 0 (by omega)]; exact h1.2.1, h9⟩, ⟨VM_cg h2 hM, ?_, h4.mv hJr (fun i hi f hf => hM _ (by omega))⟩, ⟨h5.mv (fun a x y => hT a (by omega) (by omega)), h6.mv (fun a x y => hT a (by omega) (by omega)), fun u hu => TC_ge hT2 (h7' u hu)⟩, hl, hd, ht, hw⟩
  refine ⟨fun j hj => ?_, fun i hi => ?_⟩
  · rw [hJ (21 + 2) (by decide) (by decide), hM _ (by omega)]; exact h3.1 j hj
  · rw [hJ (21 + 4) (by decide) (by decide), hJ (21 + 5) (by decide) (by decide), hJ (21 + 6) (by decide) (by decide), hJ (21 + 7) (by decide) (by decide), hM _ (by omega), hM _ (by omega), hM _ (by omega), hM _ (by omega)]; exact h3.2 i hi
end
section
variable {Γ : GE}
theorem p_seed {v : Int32} : PR Γ mX11_seed mX12_seed 0 0 [.ref 16, .int v] [.ref 109, .int v] := by
  intro g P I d Φ hd hI hΦ
  obtain ⟨⟨hL, hM⟩, ⟨k, rd, nt, δ, nl, nd, tp, wt, hS⟩, -, hG, -⟩ := id hI
  refine c_X11_seed hL (hΦ _ _ _ _ hM.1 fun d' Ψ hd' hΨ => c_X12_seed (by omega) hM ?_)
  show Ψ (some (.int (I 110 6))) _ _ _
  rw [← hS.1.2.2]
  have e : ∀ a, a ≠ 21 → a ≠ 110 → u2 (u2 I 21 9 v) 110 6 v a = I a := fun a x y => (u2_oth _ y).trans (u2_oth _ x)
  have em : ∀ y, y ≠ 6 → u2 (u2 I 21 9 v) 110 6 v 110 y = I 110 y := fun y hy => u2_o (fun h => hy h.2)
  refine hΨ _ (hI.st (PF.refl P) (fun a _ _ x _ y _ _ _ => e a (by omega) y) rfl rfl ⟨k, rd, nt, δ, nl, nd, tp, wt, ?_⟩ hG.2.2.1)
  exact hS.set (fun a x y => e a (by omega) (by omega)) rfl rfl ((u2_s _ _ _ _).symm) (fun a x => e a (by omega) (by omega)) (fun y hy => em y (by omega)) (fun a x y => e a (by omega) (by omega)) (fun y hy => em y (by omega)) (hS.2.2.2.1.cg (fun a x y => e a (by omega) (by omega)) (em 2 (by decide)) (fun y _ _ => em y (by omega))) (hS.2.2.2.2.1.cg (fun a x y => e a (by omega) (by omega)) (em 3 (by decide)) (fun y _ _ => em y (by omega))) (hS.2.2.2.2.2.1.cg (fun a x y => e a (by omega) (by omega)) (em 4 (by decide)) (fun y _ _ => em y (by omega))) (hS.2.2.2.2.2.2.cg (fun a x y => e a (by omega) (by omega)) (em 5 (by decide)) (fun y _ _ => em y (by omega)))
end
