/-! calls that move the rides -/
section
variable {g : Sh} {P P' : HP} {I J : HI} {B k nl nd tp wt : Nat} {M M' : Nat → Int32} {rd nt : Nat → Nat} {δ : Nat → List Int32}
theorem SP.mid (h : SP g P I 21 M k rd nt δ nl nd tp wt) (hp : PF P P') (h7 : J 21 7 = nI k) (h8 : J 21 8 = M' 0) (h9 : J 21 9 = M' 6) (hV : VM M' k) (hD : RD J 21 k M') (hf : ∀ i, i < k → ∀ f, f < 3 → M' (16 + 7 * i + f) = M (16 + 7 * i + f)) (hJr : ∀ a, 128 ≤ a → J a = I a) (hJ : ∀ a, 29 ≤ a → a < 45 → J a = I a) (hM : ∀ y, (2 ≤ y ∧ y ≤ 5) ∨ 72 ≤ y → M' y = M y) : SP g P' J 21 M' k rd nt δ nl nd tp wt := by
  obtain ⟨-, ⟨-, -, h4⟩, ⟨h5, h6, h7'⟩, hl, hd, ht, hw⟩ := h
  exact ⟨⟨h7, h8, h9⟩, ⟨hV, hD, (h4.mv hJr hf).pf hp (by decide)⟩, ⟨h5.mv (fun a x y => hJ a (by omega) (by omega)), h6.mv (fun a x y => hJ a (by omega) (by omega)), fun u hu => TC_ge (fun y hy => hM y (by omega)) (h7' u hu)⟩, hl.cg (fun a x y => hJ a (by omega) (by omega)) (hM 2 (by omega)) (fun y _ _ => hM y (by omega)), hd.cg (fun a x y => hJ a (by omega) (by omega)) (hM 3 (by omega)) (fun y _ _ => hM y (by omega)), ht.cg (fun a x y => hJ a (by omega) (by omega)) (hM 4 (by omega)) (fun y _ _ => hM y (by omega)), hw.cg (fun a x y => hJ a (by omega) (by omega)) (hM 5 (by omega)) (fun y _ _ => hM y (by omega))⟩
theorem in01 (hV : VM M k) (hD : RD J 21 k M) (hI : ∀ j, j < 8 → I 28 j = 0 ∨ I 28 j = 1) (hk : ∀ j, k ≤ j → J 28 j = I 28 j) : ∀ j, j < 8 → J 28 j = 0 ∨ J 28 j = 1 := fun j hj => by
  by_cases h : j < k
  · rw [show J 28 j = M (16 + 7 * j + 5) from (hD.2 j h).2.2.1]; exact (hV.2.2.2 j h).2.2.2.2.2
  · rw [hk j (by omega)]; exact hI j hj
end
section
variable {Γ : GE}
theorem p_ticks {x : Int32} : PR Γ mX11_ticks mX12_ticks 0 0 [.ref 16, .int x] [.ref 109, .int x] := by
  intro g P I d Φ hd hI hΦ
  obtain ⟨⟨hL, hM⟩, ⟨k, rd, nt, δ, nl, nd, tp, wt, hS⟩, -, hG, -⟩ := id hI
  have hA := hS.la hG
  have k8 := hS.2.1.1.2.1
  refine c_X11_ticks (by omega) hL hA (fun n hx n1 n2 h9 P' J hp hF j8 hD => hΦ _ _ _ _ hM.1 fun d' Ψ hd' hΨ => ?_) (fun h => hΦ _ _ _ _ hM.1 fun d' Ψ hd' hΨ => c_X12_ticks (k := k) (δ := δ 0) (by omega) hM hS.2.1.1 (hS.2.2.1.2.2 0 (by decide)) (fun n hx n1 n2 _ K hK _ => absurd (by rw [hx]; exact n_ab (a := 1) n1 n2 (by decide)) h) (fun _ => hΨ _ hI.err) (fun h' => absurd h' h)) (fun h h9 => hΦ _ _ _ _ hM.1 fun d' Ψ hd' hΨ => c_X12_ticks (k := k) (δ := δ 0) (by omega) hM hS.2.1.1 (hS.2.2.1.2.2 0 (by decide)) (fun n hx n1 n2 h9' K hK _ => ?_) (fun h' => absurd h h') (fun _ _ => hΨ _ hI.err))
  · have e : J 110 = I 110 := hF.1 110 (by decide) (by decide) (by decide) (by decide) (by decide)
    refine c_X12_ticks (k := k) (δ := δ 0) (by omega) (hM.pf hp) (by rw [e]; exact hS.2.1.1) (by rw [e]; exact hS.2.2.1.2.2 0 (by decide)) (fun m hm m1 m2 _ K hK hK2 => ?_) (fun h' => absurd (by rw [hx]; exact n_ab (a := 1) n1 n2 (by decide)) h') (fun _ h' => ?_)
    · have e1 := nI_inj (by omega) (by omega) (hx.symm.trans hm)
      subst e1
      rw [e] at hK2 ⊢
      rw [← hS.1.2.1]
      have f : ∀ a, a ≠ 17 → a ≠ 18 → a ≠ 21 → a ≠ 23 → (a < 25 ∨ 28 < a) → a ≠ 110 → a ≠ 118 → a ≠ 119 → K a = I a := fun a x1 x2 x3 x4 x5 x6 x7 x8 => (hK a x6 x7 x8).trans (hF.1 a x1 x2 x3 x4 x5)
      have hV := VM_tks (δ := δ 0) hS.2.1.1 n
      have k21 : K 21 = J 21 := hK 21 (by decide) (by decide) (by decide)
      have hD' : RD K 21 k (tks (δ 0) k (I 110) n) := by
        unfold RD
        rw [hK (21 + 2) (by decide) (by decide) (by decide), hK (21 + 4) (by decide) (by decide) (by decide), hK (21 + 5) (by decide) (by decide) (by decide), hK (21 + 6) (by decide) (by decide) (by decide), hK (21 + 7) (by decide) (by decide) (by decide)]
        exact hD
      refine hΨ _ (hI.st hp (fun a x1 x2 x3 _ x4 _ x5 x6 => f a x1 x2 (by omega) (by omega) (by omega) x4 x5 x6) (by rw [f 109 (by decide) (by decide) (by decide) (by decide) (by decide) (by decide) (by decide) (by decide)]) (by rw [f 109 (by decide) (by decide) (by decide) (by decide) (by decide) (by decide) (by decide) (by decide)]) ⟨k, rd, nt, δ, nl, nd, tp, wt, ?_⟩ (in01 hV hD' hG.2.2.1 (fun j hj => by rw [hK 28 (by decide) (by decide) (by decide)]; exact hF.2.2 j hj)))
      rw [hK2]
      exact hS.mid hp (by rw [k21, hF.2.1 7 (by decide)]; exact hS.1.1) (by rw [k21, j8, tks_0, hS.1.2.1, hx]) (by rw [k21, hF.2.1 9 (by decide), tks_o (by decide) (by decide) (by omega)]; exact hS.1.2.2) hV hD' (fun i hi f hf => tks_k hf n) (fun a ha => f a (by omega) (by omega) (by omega) (by omega) (by omega) (by omega) (by omega) (by omega)) (fun a x y => f a (by omega) (by omega) (by omega) (by omega) (by omega) (by omega) (by omega) (by omega)) (fun y hy => tks_o (by omega) (by omega) (by omega) n)
    · rw [e, ← hS.1.2.1] at h'
      exact absurd h' h9
  · exact absurd (by rw [hS.1.2.1] at h9; exact h9) h9'
theorem p_gusts {x : Int32} : PR Γ mX11_gusts mX12_gusts 0 0 [.ref 16, .int x] [.ref 109, .int x] := by
  intro g P I d Φ hd hI hΦ
  obtain ⟨⟨hL, hM⟩, ⟨k, rd, nt, δ, nl, nd, tp, wt, hS⟩, -, hG, -⟩ := id hI
  have hA := hS.la hG
  have k8 := hS.2.1.1.2.1
  refine c_X11_gusts (by omega) hL hA hS.1.2.2 (fun n hx n1 n2 h9 P' J hp hF j8 j9 hD => hΦ _ _ _ _ hM.1 fun d' Ψ hd' hΨ => ?_) (fun h => hΦ _ _ _ _ hM.1 fun d' Ψ hd' hΨ => c_X12_gusts (k := k) (δ := δ 0) (by omega) hM hS.2.1.1 (hS.2.2.1.2.2 0 (by decide)) (fun n hx n1 n2 _ K hK _ => absurd (by rw [hx]; exact n_ab (a := 1) n1 n2 (by decide)) h) (fun _ => hΨ _ hI.err) (fun h' => absurd h' h)) (fun h h9 => hΦ _ _ _ _ hM.1 fun d' Ψ hd' hΨ => c_X12_gusts (k := k) (δ := δ 0) (by omega) hM hS.2.1.1 (hS.2.2.1.2.2 0 (by decide)) (fun n hx n1 n2 h9' K hK _ => ?_) (fun h' => absurd h h') (fun _ _ => hΨ _ hI.err))
  · have e : J 110 = I 110 := hF.1 110 (by decide) (by decide) (by decide) (by decide) (by decide)
    refine c_X12_gusts (k := k) (δ := δ 0) (by omega) (hM.pf hp) (by rw [e]; exact hS.2.1.1) (by rw [e]; exact hS.2.2.1.2.2 0 (by decide)) (fun m hm m1 m2 _ K hK hK2 => ?_) (fun h' => absurd (by rw [hx]; exact n_ab (a := 1) n1 n2 (by decide)) h') (fun _ h' => ?_)
    · have e1 := nI_inj (by omega) (by omega) (hx.symm.trans hm)
      subst e1
      rw [e] at hK2 ⊢
      have f : ∀ a, a ≠ 17 → a ≠ 18 → a ≠ 21 → a ≠ 23 → (a < 25 ∨ 28 < a) → a ≠ 110 → a ≠ 118 → a ≠ 119 → K a = I a := fun a x1 x2 x3 x4 x5 x6 x7 x8 => (hK a x6 x7 x8).trans (hF.1 a x1 x2 x3 x4 x5)
      have hV := VM_gus (δ := δ 0) hS.2.1.1 n
      have k21 : K 21 = J 21 := hK 21 (by decide) (by decide) (by decide)
      have hD' : RD K 21 k (gus (δ 0) k (I 110) n) := by
        unfold RD
        rw [hK (21 + 2) (by decide) (by decide) (by decide), hK (21 + 4) (by decide) (by decide) (by decide), hK (21 + 5) (by decide) (by decide) (by decide), hK (21 + 6) (by decide) (by decide) (by decide), hK (21 + 7) (by decide) (by decide) (by decide)]
        exact hD
      refine hΨ _ (hI.st hp (fun a x1 x2 x3 _ x4 _ x5 x6 => f a x1 x2 (by omega) (by omega) (by omega) x4 x5 x6) (by rw [f 109 (by decide) (by decide) (by decide) (by decide) (by decide) (by decide) (by decide) (by decide)]) (by rw [f 109 (by decide) (by decide) (by decide) (by decide) (by decide) (by decide) (by decide) (by decide)]) ⟨k, rd, nt, δ, nl, nd, tp, wt, ?_⟩ (in01 hV hD' hG.2.2.1 (fun j hj => by rw [hK 28 (by decide) (by decide) (by decide)]; exact hF.2.2 j hj)))
      rw [hK2]
      exact hS.mid hp (by rw [k21, hF.2.1 7 (by decide) (by decide)]; exact hS.1.1) (by rw [k21, j8, gus_0, hS.1.2.1, hx]) (by rw [k21]; exact j9) hV hD' (fun i hi f hf => gus_k hf n) (fun a ha => f a (by omega) (by omega) (by omega) (by omega) (by omega) (by omega) (by omega) (by omega)) (fun a x y => f a (by omega) (by omega) (by omega) (by omega) (by omega) (by omega) (by omega) (by omega)) (fun y hy => gus_o (by omega) (by omega) (by omega) (by omega) (by omega) n)
    · rw [e, ← hS.1.2.1] at h'
      exact absurd h' h9
  · exact absurd (by rw [hS.1.2.1] at h9; exact h9) h9'
theorem p_start {x pl pa : Int32} : PR Γ mX11_start mX12_start 0 0 [.ref 16, .int x, .int pl, .int pa] [.ref 109, .int x, .int pl, .int pa] := by
  intro g P I d Φ hd hI hΦ
  obtain ⟨⟨hL, hM⟩, ⟨k, rd, nt, δ, nl, nd, tp, wt, hS⟩, -, hG, -⟩ := id hI
  have k8 := hS.2.1.1.2.1
  have hw0 : I 23 0 = wm (I 110) 0 := hS.w 0 (by decide)
  have hok : okS (I 23) pl pa ↔ okS (wm (I 110)) pl pa := by unfold okS; rw [hw0]
  refine c_X11_start (k := k) (by omega) hL hS.1.1 k8 (fun j hj => ⟨rd j, (hS.2.1.2.2 j hj).1⟩) (fun j hx hj ho => hΦ _ _ _ _ hM.1 fun d' Ψ hd' hΨ => ?_) (fun h => hΦ _ _ _ _ hM.1 fun d' Ψ hd' hΨ => c_X12_start (k := k) (by omega) hM hS.2.1.1.1 k8 (fun j hx hj ho => absurd ⟨by rw [hx]; exact nat_in (by omega) hj, hok.mpr ho⟩ h) (fun _ => hΨ _ hI.err))
  refine c_X12_start (k := k) (by omega) hM hS.2.1.1.1 k8 (fun j' hx' hj' ho' => ?_) (fun h => absurd ⟨by rw [hx]; exact nat_in (by omega) hj, hok.mp ho⟩ h)
  have e1 := nI_inj (by omega) (by omega) (hx.symm.trans hx')
  subst e1
  show Ψ (some (.int (I 110 (16 + 7 * j + 3)))) _ _ _
  rw [← show I 25 j = I 110 (16 + 7 * j + 3) from (hS.2.1.2.1.2 j hj).1]
  generalize hK : u2 (u2 (u2 (u2 (u2 (u2 I 25 j pl) 26 j pa) 28 j 0) 110 (16 + 7 * j + 3) pl) 110 (16 + 7 * j + 4) pa) 110 (16 + 7 * j + 5) 0 = K
  have f : ∀ a, a ≠ 25 → a ≠ 26 → a ≠ 28 → a ≠ 110 → K a = I a := fun a x1 x2 x3 x4 => by rw [← hK, u2_oth _ x4, u2_oth _ x4, u2_oth _ x4, u2_oth _ x3, u2_oth _ x2, u2_oth _ x1]
  have fm : ∀ y, y ≠ 16 + 7 * j + 3 → y ≠ 16 + 7 * j + 4 → y ≠ 16 + 7 * j + 5 → K 110 y = I 110 y := fun y x1 x2 x3 => by
    rw [← hK, u2_o (fun h => x3 h.2), u2_o (fun h => x2 h.2), u2_o (fun h => x1 h.2)]
    rfl
  have m5 : K 110 (16 + 7 * j + 5) = 0 := by rw [← hK, u2_s]
  have m4 : K 110 (16 + 7 * j + 4) = pa := by rw [← hK, u2_o (fun h => by omega), u2_s]
  have m3 : K 110 (16 + 7 * j + 3) = pl := by rw [← hK, u2_o (fun h => by omega), u2_o (fun h => by omega), u2_s]
  have c25 : ∀ i, K 25 i = if i = j then pl else I 25 i := fun i => by
    rw [← hK, u2_oth _ (by decide), u2_oth _ (by decide), u2_oth _ (by decide), u2_oth _ (by decide), u2_oth _ (by decide), u2_at]
    simp only [true_and]
  have c26 : ∀ i, K 26 i = if i = j then pa else I 26 i := fun i => by
    rw [← hK, u2_oth _ (by decide), u2_oth _ (by decide), u2_oth _ (by decide), u2_oth _ (by decide), u2_at, u2_oth _ (by decide)]
    simp only [true_and]
  have c28 : ∀ i, K 28 i = if i = j then 0 else I 28 i := fun i => by
    rw [← hK, u2_oth _ (by decide), u2_oth _ (by decide), u2_oth _ (by decide), u2_at, u2_oth _ (by decide), u2_oth _ (by decide)]
    simp only [true_and]
  have hwb := hS.2.1.1.2.2.1.b.1
  have w10 : (10 * wm (I 110) 0).toInt = 10 * (wm (I 110) 0).toInt := by rw [mul32 (by rw [show (10 : Int32).toInt = 10 from rfl]; omega) (by rw [show (10 : Int32).toInt = 10 from rfl]; omega)]; rfl
  have hV : VM (K 110) k := by
    obtain ⟨v1, v2, v3, v4⟩ := hS.2.1.1
    refine ⟨by rw [fm 1 (by omega) (by omega) (by omega)]; exact v1, v2, fun i hi => ?_, fun r hr => ?_⟩
    · show lst i ≤ K 110 (7 + i) ∧ K 110 (7 + i) ≤ grt i
      rw [fm _ (by omega) (by omega) (by omega)]; exact v3 i hi
    · obtain ⟨r1, r2, r3, r4, r5, r6⟩ := v4 r hr
      unfold VR
      rw [fm 7 (by omega) (by omega) (by omega), fm (16 + 7 * r + 0) (by omega) (by omega) (by omega), fm (16 + 7 * r + 1) (by omega) (by omega) (by omega), fm (16 + 7 * r + 2) (by omega) (by omega) (by omega)]
      by_cases hrj : r = j
      · subst hrj
        rw [m3, m4, m5]
        have b1 := i32_le.mp ho'.1.1
        have b2 := i32_le.mp ho'.1.2
        have b3 := i32_le.mp ho'.2.1
        have b4 := i32_le.mp ho'.2.2
        have b2 : pl.toInt ≤ (10 * wm (I 110) 0).toInt := b2
        rw [w10] at b2
        exact ⟨r1, r2, r3, ⟨b1, b2⟩, ⟨b3, b4⟩, Or.inl rfl⟩
      · rw [fm (16 + 7 * r + 3) (by omega) (by omega) (by omega), fm (16 + 7 * r + 4) (by omega) (by omega) (by omega), fm (16 + 7 * r + 5) (by omega) (by omega) (by omega)]
        exact ⟨r1, r2, r3, r4, r5, r6⟩
  have hD : RD K 21 k (K 110) := by
    obtain ⟨d1, d2⟩ := hS.2.1.2.1
    refine ⟨fun i hi => ?_, fun i hi => ?_⟩
    · rw [f (21 + 2) (by decide) (by decide) (by decide) (by decide), fm _ (by omega) (by omega) (by omega)]; exact d1 i hi
    · obtain ⟨x1, x2, x3, x4⟩ := d2 i hi
      rw [show K (21 + 4) i = _ from c25 i, show K (21 + 5) i = _ from c26 i, show K (21 + 7) i = _ from c28 i, f (21 + 6) (by decide) (by decide) (by decide) (by decide), fm (16 + 7 * i + 6) (by omega) (by omega) (by omega)]
      by_cases hij : i = j
      · subst hij
        rw [m3, m4, m5, if_pos rfl, if_pos rfl, if_pos rfl]
        exact ⟨rfl, rfl, rfl, x4⟩
      · rw [fm (16 + 7 * i + 3) (by omega) (by omega) (by omega), fm (16 + 7 * i + 4) (by omega) (by omega) (by omega), fm (16 + 7 * i + 5) (by omega) (by omega) (by omega), if_neg hij, if_neg hij, if_neg hij]
        exact ⟨x1, x2, x3, x4⟩
  refine hΨ _ (hI.st (PF.refl P) (fun a _ _ x3 _ x4 _ _ _ => f a (by omega) (by omega) (by omega) x4) (by rw [f 109 (by decide) (by decide) (by decide) (by decide)]) (by rw [f 109 (by decide) (by decide) (by decide) (by decide)]) ⟨k, rd, nt, δ, nl, nd, tp, wt, ?_⟩ (fun i hi => ?_))
  · have k21 : K 21 = I 21 := f 21 (by decide) (by decide) (by decide) (by decide)
    exact hS.mid (PF.refl P) (by rw [k21]; exact hS.1.1) (by rw [k21, fm 0 (by omega) (by omega) (by omega)]; exact hS.1.2.1) (by rw [k21, fm 6 (by omega) (by omega) (by omega)]; exact hS.1.2.2) hV hD (fun i hi q hq => fm _ (by omega) (by omega) (by omega)) (fun a ha => f a (by omega) (by omega) (by omega) (by omega)) (fun a x y => f a (by omega) (by omega) (by omega) (by omega)) (fun y hy => fm y (by omega) (by omega) (by omega))
  · rw [c28]
    split
    · exact Or.inl rfl
    · exact hG.2.2.1 i hi
end
