/-! image and restore -/
section
variable {g : Sh} {P P' : HP} {I J : HI} {B C k nl nd tp wt : Nat} {M M' : Nat → Int32} {rd nt : Nat → Nat} {δ : Nat → List Int32}
theorem TC_cg {u : Nat} {ε : List Int32} (hu : u ≤ 1) (he : ∀ y, 168 ≤ y → y < 272 → M' y = M y) (h : TC u ε M) : TC u ε M' := by
  obtain ⟨⟨h0, h1⟩, h2⟩ := h
  refine ⟨⟨h0, h1⟩, ?_⟩
  rcases h2 with ⟨a, b⟩ | ⟨a, b, c⟩
  · exact Or.inl ⟨by rw [he _ (by omega) (by omega)]; exact a, b⟩
  · exact Or.inr ⟨a, by rw [he _ (by omega) (by omega)]; exact b, fun i hi => by rw [he _ (by omega) (by omega)]; exact c i hi⟩
theorem SP.cg (h : SP g P I B M k rd nt δ nl nd tp wt) (e : ∀ y, y < 272 → M' y = M y) : SP g P I B M' k rd nt δ nl nd tp wt := by
  obtain ⟨h1, ⟨h2, h3, h4⟩, ⟨h5, h6, h7⟩, ⟨l1, l2, l3, l4, l5⟩, ⟨d1, d2, d3, d4, d5⟩, ⟨t1, t2, t3, t4⟩, ⟨w1, w2, w3, w4⟩⟩ := h
  have k8 := h2.2.1
  refine ⟨⟨h1.1, by rw [e 0 (by decide)]; exact h1.2.1, by rw [e 6 (by decide)]; exact h1.2.2⟩, ⟨VM_cg h2 (fun y hy => e y (by omega)), ⟨fun j hj => by rw [e _ (by omega)]; exact h3.1 j hj, fun i hi => by rw [e _ (by omega), e _ (by omega), e _ (by omega), e _ (by omega)]; exact h3.2 i hi⟩, h4.mv (fun _ _ => rfl) (fun i hi f hf => e _ (by omega))⟩, ⟨h5, h6, fun u hu => TC_cg hu (fun y _ hy => e y hy) (h7 u hu)⟩, ⟨l1, l2, by rw [e 2 (by decide)]; exact l3, l4, fun i hi => by rw [e _ (by omega), e _ (by omega)]; exact l5 i hi⟩, ⟨d1, d2, by rw [e 3 (by decide)]; exact d3, d4, fun i hi => by rw [e (88 + 2 * i) (by omega), e (88 + 2 * i + 1) (by omega)]; exact d5 i hi⟩, ⟨t1, by rw [e 4 (by decide)]; exact t2, t3, fun i hi => by rw [e _ (by omega)]; exact t4 i hi⟩, ⟨w1, by rw [e 5 (by decide)]; exact w2, w3, fun i hi => by rw [e _ (by omega)]; exact w4 i hi⟩⟩
theorem SP.cp (hA : Apt B C) (hB : B + 24 ≤ 128) (h : SP g P I C M k rd nt δ nl nd tp wt) : SP g (cpP P B C) (cpS I B C) B M k rd nt δ nl nd tp wt := by
  obtain ⟨h1, ⟨h2, h3, h4⟩, ⟨h5, h6, h7⟩, ⟨l1, l2, l3, l4, l5⟩, ⟨d1, d2, d3, d4, d5⟩, ⟨t1, t2, t3, t4⟩, ⟨w1, w2, w3, w4⟩⟩ := h
  have k8 := h2.2.1
  have tg := h5.cp hA
  have c : ∀ {o n : Nat}, I (C + o) 1 = nI n → n ≤ 50 → ∀ i, i < n → i < (I (C + o) 1).toNatClampNeg := fun h hn i hi => by rw [h, nI_clamp (by omega)]; exact hi
  exact ⟨⟨by rw [cpS_7]; exact h1.1, by rw [cpS_8]; exact h1.2.1, by rw [cpS_9]; exact h1.2.2⟩, ⟨h2, h3.cp hA k8, h4.cp hB k8⟩, ⟨tg.1, tg.2 _ h6, h7⟩, ⟨by rw [cpS_s14 hA]; exact l1, by rw [cpS_s16 hA]; exact l2, l3, l4, fun i hi => by rw [cpS_n14 hA (c l1 (by omega) i hi), cpS_n16 hA (c l2 (by omega) i hi)]; exact l5 i hi⟩, ⟨by rw [cpS_s18 hA]; exact d1, by rw [cpS_s20 hA]; exact d2, d3, d4, fun i hi => by rw [cpS_n18 hA (c d1 (by omega) i hi), cpS_n20 hA (c d2 (by omega) i hi)]; exact d5 i hi⟩, ⟨by rw [cpS_s8 hA]; exact t1, t2, t3, fun i hi => by rw [cpS_n8 hA (c t1 (by omega) i hi)]; exact t4 i hi⟩, ⟨by rw [cpS_s22 hA]; exact w1, w2, w3, fun i hi => by rw [cpS_n22 hA (c w1 (by omega) i hi)]; exact w4 i hi⟩⟩
theorem RQ.cp {j : Nat} (hj : j < 8) (h : RQ g P C j) : RQ g (cpP P B C) B j := by
  have e : cpP P B C (B + 3) j = P (C + 3) j := by
    unfold cpP
    rw [ur_s]
    exact if_pos hj
  unfold RQ
  rw [e]
  exact h
end
section
variable {Γ : GE}
theorem p_image : PR Γ mX11_image mX12_image 0 0 [.ref 16] [.ref 109] := by
  intro g P I d Φ hd hI hΦ
  obtain ⟨⟨hL, hM⟩, ⟨k, rd, nt, δ, nl, nd, tp, wt, hS⟩, ⟨hK, hK2⟩, ⟨⟨a1, a2⟩, ⟨a3, a4⟩, a5, a6⟩, hE, hT, hH, hC⟩ := id hI
  have hA : Apt 69 21 := Or.inr (by decide)
  have hp : PG P (cpP P 69 21) := PG_ur (B := 69) (Or.inr (Or.inr rfl)) _
  refine c_X11_image (by omega) hL a2 hS.sz a3 a5 (hΦ _ _ _ _ hM.1 fun d' Ψ hd' hΨ => c_X12_image (by omega) (hM.pg hp) ?_)
  obtain ⟨J, hJ⟩ : ∃ J, J = u2 (cpS I 69 21) 16 4 (I 16 4 + 1) := ⟨_, rfl⟩
  rw [← hJ]
  have o : ∀ a, a ≠ 16 → (a < 69 ∨ 93 ≤ a) → J a = I a := fun a x1 x2 => by rw [hJ, u2_oth _ x1, cpS_o (by omega)]
  have oc : ∀ a, a ≠ 16 → J a = cpS I 69 21 a := fun a x1 => by rw [hJ, u2_oth _ x1]
  rw [o 110 (by decide) (by decide), o 111 (by decide) (by decide), o 109 (by decide) (by decide), ← hK2]
  obtain ⟨K, hKd⟩ : ∃ K, K = u2 (ur J 111 (cpk (I 110) (I 111) 272)) 109 3 (I 16 4 + 1) := ⟨_, rfl⟩
  rw [← hKd]
  have f1 : ∀ a, a ≠ 109 → a ≠ 111 → K a = J a := fun a x1 x2 => by rw [hKd, u2_oth _ x1, ur_n _ _ x2]
  have f : ∀ a, a ≠ 16 → (a < 69 ∨ 93 ≤ a) → a ≠ 109 → a ≠ 111 → K a = I a := fun a x1 x2 x3 x4 => (f1 a x3 x4).trans (o a x1 x2)
  have k111 : K 111 = cpk (I 110) (I 111) 272 := by rw [hKd, u2_oth _ (by decide), ur_s]
  have k16 : K 16 4 = I 16 4 + 1 := by rw [f1 16 (by decide) (by decide), hJ, u2_s]
  have k3 : K 109 3 = I 16 4 + 1 := by rw [hKd, u2_s]
  have k21 : K 109 21 = I 109 21 := by rw [hKd, u2_o (by decide), ur_n _ _ (by decide), o 109 (by decide) (by decide)]
  have g1 : ∀ a, 128 ≤ a → cpP P 69 21 a = P a ∧ K a = I a := fun a ha => ⟨ur_n _ _ (by omega), f a (by omega) (by omega) (by omega) (by omega)⟩
  obtain ⟨kt, t1, t2, t3, t4⟩ := hT
  refine hΨ _ ⟨⟨hL.pg hp, hM.pg hp⟩, ?_, ⟨fun _ => ?_, by rw [k16, k3]⟩, ⟨⟨?_, ?_⟩, ⟨fun j hj => (a3 j hj).mv (ur_n _ _ (by decide)), fun j hj => (a3 j hj).cp hj⟩, ?_, fun j hj => ?_⟩, ?_, ⟨kt, ?_, ?_, t3, ?_⟩, ?_, ?_, ?_, ?_⟩
  · rw [f 110 (by decide) (by decide) (by decide) (by decide)]
    exact ⟨k, rd, nt, δ, nl, nd, tp, wt, hS.mv (fun a x y => f a (by omega) (by omega) (by omega) (by omega)) (ur_n _ _ (by decide)) g1⟩
  · refine ⟨k, rd, nt, δ, nl, nd, tp, wt, ?_⟩
    have h1 := hS.cp (B := 69) hA (by decide)
    have h2 := h1.mv (P' := cpP P 69 21) (J := K) (fun a x y => (f1 a (by omega) (by omega)).trans (oc a (by omega))) rfl (fun a ha => ⟨rfl, (f1 a (by omega) (by omega)).trans (oc a (by omega))⟩)
    exact h2.cg (fun y hy => by rw [k111]; exact if_pos hy)
  · exact a1.mv (fun a x y => f a (by omega) (by omega) (by omega) (by omega))
  · exact (hS.sz.cp hA).mv (fun a x y => (f1 a (by omega) (by omega)).trans (oc a (by omega)))
  · rw [f 28 (by decide) (by decide) (by decide) (by decide)]; exact a5
  · rw [f1 76 (by decide) (by decide), oc 76 (by decide), (cpS_r hA hj).2.2.2]; exact a5 j hj
  · unfold Erq
    rw [f 93 (by decide) (by decide) (by decide) (by decide), f 113 (by decide) (by decide) (by decide) (by decide)]; exact hE
  · rw [f 94 (by decide) (by decide) (by decide) (by decide)]; exact t1
  · rw [k21]; exact t2
  · rw [f 95 (by decide) (by decide) (by decide) (by decide), f 123 (by decide) (by decide) (by decide) (by decide)]; exact t4
  · exact hH.mv (fun a x y => f a (by omega) (by omega) (by omega) (by omega)) (f 97 (by decide) (by decide) (by decide) (by decide)) (f 124 (by decide) (by decide) (by decide) (by decide)) (f 125 (by decide) (by decide) (by decide) (by decide)) (f 126 (by decide) (by decide) (by decide) (by decide))
  · rw [f 114 (by decide) (by decide) (by decide) (by decide), f 115 (by decide) (by decide) (by decide) (by decide)]; exact hC.1
  · rw [f 99 (by decide) (by decide) (by decide) (by decide), f 121 (by decide) (by decide) (by decide) (by decide)]; exact hC.2.1
  · rw [f 100 (by decide) (by decide) (by decide) (by decide), f 122 (by decide) (by decide) (by decide) (by decide)]; exact hC.2.2
theorem p_restore : PR Γ mX11_restore mX12_restore 0 0 [.ref 16] [.ref 109] := by
  intro g P I d Φ hd hI hΦ
  obtain ⟨⟨hL, hM⟩, ⟨k0, rd0, nt0, δ0, nl0, nd0, tp0, wt0, hS0⟩, ⟨hK, hK2⟩, ⟨⟨a1, a2⟩, ⟨a3, a4⟩, a5, a6⟩, hE, hT, hH, hC⟩ := id hI
  have hA : Apt 21 69 := Or.inl (by decide)
  have hp : PG P (cpP P 21 69) := PG_ur (B := 21) (Or.inl rfl) _
  refine c_X11_restore (by omega) hL hS0.sz a2 a4 a6 (fun h0 => hΦ _ _ _ _ hM.1 fun d' Ψ hd' hΨ => ?_) (fun h0 => hΦ _ _ _ _ hM.1 fun d' Ψ hd' hΨ => c_X12_restore (by omega) hM (fun h => absurd (by show I 109 3 = 0; rw [← hK2]; exact h0) h) (fun _ => hΨ _ hI.err))
  obtain ⟨k, rd, nt, δ, nl, nd, tp, wt, hS⟩ := hK h0
  obtain ⟨J, hJ⟩ : ∃ J, J = cpS I 21 69 := ⟨_, rfl⟩
  rw [← hJ]
  have o : ∀ a, (a < 21 ∨ 45 ≤ a) → J a = I a := fun a x2 => by rw [hJ, cpS_o (by omega)]
  refine c_X12_restore (by omega) (hM.pg hp) (fun h => ?_) (fun h => absurd (by rw [hK2, ← o 109 (by decide)]; exact h) h0)
  rw [o 111 (by decide), o 110 (by decide), ← hS.1.2.1]
  obtain ⟨K, hKd⟩ : ∃ K, K = ur J 110 (cpk (I 111) (I 110) 272) := ⟨_, rfl⟩
  rw [← hKd]
  have f1 : ∀ a, a ≠ 110 → K a = J a := fun a x1 => by rw [hKd, ur_n _ _ x1]
  have f : ∀ a, (a < 21 ∨ 45 ≤ a) → a ≠ 110 → K a = I a := fun a x1 x2 => (f1 a x2).trans (o a x1)
  have k110 : K 110 = cpk (I 111) (I 110) 272 := by rw [hKd, ur_s]
  have g1 : ∀ a, 128 ≤ a → cpP P 21 69 a = P a ∧ K a = I a := fun a ha => ⟨ur_n _ _ (by omega), f a (by omega) (by omega)⟩
  obtain ⟨kt, t1, t2, t3, t4⟩ := hT
  refine hΨ _ ⟨⟨hL.pg hp, hM.pg hp⟩, ?_, ⟨fun _ => ?_, by rw [f 16 (by decide) (by decide), f 109 (by decide) (by decide)]; exact hK2⟩, ⟨⟨?_, ?_⟩, ⟨fun j hj => (a4 j hj).cp hj, fun j hj => (a4 j hj).mv (ur_n _ _ (by decide))⟩, fun j hj => ?_, ?_⟩, ?_, ⟨kt, ?_, ?_, t3, ?_⟩, ?_, ?_, ?_, ?_⟩
  · refine ⟨k, rd, nt, δ, nl, nd, tp, wt, ?_⟩
    have h1 := hS.cp (B := 21) hA (by decide)
    rw [← hJ] at h1
    have h2 := h1.mv (P' := cpP P 21 69) (J := K) (fun a x y => f1 a (by omega)) rfl (fun a ha => ⟨rfl, f1 a (by omega)⟩)
    exact h2.cg (fun y hy => by rw [k110]; exact if_pos hy)
  · rw [f 111 (by decide) (by decide)]
    exact ⟨k, rd, nt, δ, nl, nd, tp, wt, hS.mv (fun a x y => f a (by omega) (by omega)) (ur_n _ _ (by decide)) g1⟩
  · exact a1.mv (fun a x y => f a (by omega) (by omega))
  · exact a2.mv (fun a x y => f a (by omega) (by omega))
  · rw [f1 28 (by decide), hJ, (cpS_r hA hj).2.2.2]; exact a6 j hj
  · rw [f 76 (by decide) (by decide)]; exact a6
  · unfold Erq
    rw [f 93 (by decide) (by decide), f 113 (by decide) (by decide)]; exact hE
  · rw [f 94 (by decide) (by decide)]; exact t1
  · rw [f 109 (by decide) (by decide)]; exact t2
  · rw [f 95 (by decide) (by decide), f 123 (by decide) (by decide)]; exact t4
  · exact hH.mv (fun a x y => f a (by omega) (by omega)) (f 97 (by decide) (by decide)) (f 124 (by decide) (by decide)) (f 125 (by decide) (by decide)) (f 126 (by decide) (by decide))
  · rw [f 114 (by decide) (by decide), f 115 (by decide) (by decide)]; exact hC.1
  · rw [f 99 (by decide) (by decide), f 121 (by decide) (by decide)]; exact hC.2.1
  · rw [f 100 (by decide) (by decide), f 122 (by decide) (by decide)]; exact hC.2.2
end
