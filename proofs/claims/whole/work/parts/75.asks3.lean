/-! snug, lower, over, order -/
section
variable {Γ : GE}
theorem p_snug {x y q : Int32} : PR Γ mX11_snug mX12_snug 0 0 [.ref 16, .int x, .int y, .int q] [.ref 109, .int x, .int y, .int q] := by
  intro g P I d Φ hd hI hΦ
  obtain ⟨⟨hL, hM⟩, ⟨k, rd, nt, δ, nl, nd, tp, wt, hS⟩, -, hG, -⟩ := id hI
  have hA := hS.la hG
  have hk8 := hS.2.1.1.2.1
  refine c_X11_snug (by omega) hL hA (fun r n i hx hr hy hn hq hi ht P' J hJ => hΦ _ _ _ _ hM.1 fun d' Ψ hd' hΨ => ?_) (fun r n hx hr hy hn hq hi ht P' J hJ => hΦ _ _ _ _ hM.1 fun d' Ψ hd' hΨ => ?_) (fun h => hΦ _ _ _ _ hM.1 fun d' Ψ hd' hΨ => c_X12_snug (k := k) (δ := δ 0) (by omega) hM hS.2.1.1 (hS.2.2.1.2.2 0 (by decide)) (fun r n i hx hr hy hn hq _ _ K hK => absurd ?_ h) (fun r n hx hr hy hn hq _ _ K hK => absurd ?_ h) (fun _ => hΨ _ hI.err) (fun r hx hr ho hq _ => absurd ?_ h)) (fun r hx hr ho hq hi => hΦ _ _ _ _ hM.1 fun d' Ψ hd' hΨ => c_X12_snug (k := k) (δ := δ 0) (by omega) hM hS.2.1.1 (hS.2.2.1.2.2 0 (by decide)) (fun r' n i hx' hr' hy hn hq' hi' _ K hK => ?_) (fun r' n hx' hr' hy hn hq' hi' _ K hK => ?_) (fun h => absurd ?_ h) (fun r' hx' hr' ho' hq' hi' => hΨ _ hI.err))
  · have e : J 110 = I 110 := hJ.2.2.2.1 110 (by decide) (by decide) (by decide)
    refine c_X12_snug (k := k) (δ := δ 0) (by omega) (hM.pg hJ.1) (by rw [e]; exact hS.2.1.1) (by rw [e]; exact hS.2.2.1.2.2 0 (by decide)) (fun r' n' i' hx' hr' hy' hn' hq' hi' ht' K hK => ?_) (fun r' n' hx' hr' hy' hn' hq' hi' ht' K hK => ?_) (fun h => absurd ?_ h) (fun r' hx' hr' ho' hq' hi' => ?_)
    · have e1 := nI_inj (by omega) (by omega) (hx.symm.trans hx')
      have e2 := nI_inj (Nat.lt_of_le_of_lt hn.2 (by decide)) (Nat.lt_of_le_of_lt hn'.2 (by decide)) (hy.symm.trans hy')
      subst e1; subst e2
      have ht' := ht' ()
      rw [e, ht ()] at ht'
      rw [← Option.some.inj ht']
      exact hΨ _ (hI.fv (hJ.fv hK))
    · have e1 := nI_inj (by omega) (by omega) (hx.symm.trans hx')
      have e2 := nI_inj (Nat.lt_of_le_of_lt hn.2 (by decide)) (Nat.lt_of_le_of_lt hn'.2 (by decide)) (hy.symm.trans hy')
      subst e1; subst e2
      have ht' := ht' ()
      rw [e, ht ()] at ht'
      cases ht'
    · rw [hx]; exact ⟨nat_in (by omega) hr, hn.1, hq⟩
    · have e1 := nI_inj (by omega) (by omega) (hx.symm.trans hx')
      subst e1
      rw [e] at hi'
      exact absurd hi' hi
  · have e : fl J 2 110 = I 110 := (u2_oth _ (by decide)).trans (hJ.2.2.2.1 110 (by decide) (by decide) (by decide))
    refine c_X12_snug (k := k) (δ := δ 0) (by omega) (hM.pg hJ.1) (by rw [e]; exact hS.2.1.1) (by rw [e]; exact hS.2.2.1.2.2 0 (by decide)) (fun r' n' i' hx' hr' hy' hn' hq' hi' ht' K hK => ?_) (fun r' n' hx' hr' hy' hn' hq' hi' ht' K hK => ?_) (fun h => absurd ?_ h) (fun r' hx' hr' ho' hq' hi' => ?_)
    · have e1 := nI_inj (by omega) (by omega) (hx.symm.trans hx')
      have e2 := nI_inj (Nat.lt_of_le_of_lt hn.2 (by decide)) (Nat.lt_of_le_of_lt hn'.2 (by decide)) (hy.symm.trans hy')
      subst e1; subst e2
      have ht' := ht' ()
      rw [e, ht ()] at ht'
      cases ht'
    · exact hΨ _ (hI.err.fv (hJ.fve hK))
    · rw [hx]; exact ⟨nat_in (by omega) hr, hn.1, hq⟩
    · have e1 := nI_inj (by omega) (by omega) (hx.symm.trans hx')
      subst e1
      rw [e] at hi'
      exact absurd hi' hi
  · rw [hx]; exact ⟨nat_in (by omega) hr, hn.1, hq⟩
  · rw [hx]; exact ⟨nat_in (by omega) hr, hn.1, hq⟩
  · rw [hx]; exact ⟨nat_in (by omega) hr, ho, hq⟩
  · have e1 := nI_inj (by omega) (by omega) (hx.symm.trans hx')
    subst e1
    exact absurd hi hi'
  · have e1 := nI_inj (by omega) (by omega) (hx.symm.trans hx')
    subst e1
    exact absurd hi hi'
  · rw [hx]; exact ⟨nat_in (by omega) hr, ho, hq⟩
theorem p_lower {x y : Int32} : PR Γ mX11_lower mX12_lower 0 0 [.ref 16, .int x, .int y] [.ref 109, .int x, .int y] := by
  intro g P I d Φ hd hI hΦ
  obtain ⟨⟨hL, hM⟩, ⟨k, rd, nt, δ, nl, nd, tp, wt, hS⟩, -, hG, -⟩ := id hI
  have hA := hS.la hG
  have hk8 := hS.2.1.1.2.1
  refine c_X11_lower (by omega) hL hA (fun r n i hx hr hy hn hi ht P' J hJ => hΦ _ _ _ _ hM.1 fun d' Ψ hd' hΨ => ?_) (fun r n hx hr hy hn hi ht P' J hJ => hΦ _ _ _ _ hM.1 fun d' Ψ hd' hΨ => ?_) (fun h => hΦ _ _ _ _ hM.1 fun d' Ψ hd' hΨ => c_X12_lower (k := k) (δ := δ 0) (by omega) hM hS.2.1.1 (hS.2.2.1.2.2 0 (by decide)) (fun r n i hx hr hy hn _ _ K hK => absurd ?_ h) (fun r n hx hr hy hn _ _ K hK => absurd ?_ h) (fun _ => hΨ _ hI.err) (fun r hx hr ho _ => absurd ?_ h)) (fun r hx hr ho hi => hΦ _ _ _ _ hM.1 fun d' Ψ hd' hΨ => c_X12_lower (k := k) (δ := δ 0) (by omega) hM hS.2.1.1 (hS.2.2.1.2.2 0 (by decide)) (fun r' n i hx' hr' hy hn hi' _ K hK => ?_) (fun r' n hx' hr' hy hn hi' _ K hK => ?_) (fun h => absurd ?_ h) (fun r' hx' hr' ho' hi' => hΨ _ hI.err))
  · have e : J 110 = I 110 := hJ.2.2.2.1 110 (by decide) (by decide) (by decide)
    refine c_X12_lower (k := k) (δ := δ 0) (by omega) (hM.pg hJ.1) (by rw [e]; exact hS.2.1.1) (by rw [e]; exact hS.2.2.1.2.2 0 (by decide)) (fun r' n' i' hx' hr' hy' hn' hi' ht' K hK => ?_) (fun r' n' hx' hr' hy' hn' hi' ht' K hK => ?_) (fun h => absurd ?_ h) (fun r' hx' hr' ho' hi' => ?_)
    · have e1 := nI_inj (by omega) (by omega) (hx.symm.trans hx')
      have e2 := nI_inj (Nat.lt_of_le_of_lt hn.2 (by decide)) (Nat.lt_of_le_of_lt hn'.2 (by decide)) (hy.symm.trans hy')
      subst e1; subst e2
      have ht' := ht' ()
      rw [e, ht ()] at ht'
      rw [← Option.some.inj ht']
      exact hΨ _ (hI.fv (hJ.fv hK))
    · have e1 := nI_inj (by omega) (by omega) (hx.symm.trans hx')
      have e2 := nI_inj (Nat.lt_of_le_of_lt hn.2 (by decide)) (Nat.lt_of_le_of_lt hn'.2 (by decide)) (hy.symm.trans hy')
      subst e1; subst e2
      have ht' := ht' ()
      rw [e, ht ()] at ht'
      cases ht'
    · rw [hx]; exact ⟨nat_in (by omega) hr, hn.1⟩
    · have e1 := nI_inj (by omega) (by omega) (hx.symm.trans hx')
      subst e1
      rw [e] at hi'
      exact absurd hi' hi
  · have e : fl J 2 110 = I 110 := (u2_oth _ (by decide)).trans (hJ.2.2.2.1 110 (by decide) (by decide) (by decide))
    refine c_X12_lower (k := k) (δ := δ 0) (by omega) (hM.pg hJ.1) (by rw [e]; exact hS.2.1.1) (by rw [e]; exact hS.2.2.1.2.2 0 (by decide)) (fun r' n' i' hx' hr' hy' hn' hi' ht' K hK => ?_) (fun r' n' hx' hr' hy' hn' hi' ht' K hK => ?_) (fun h => absurd ?_ h) (fun r' hx' hr' ho' hi' => ?_)
    · have e1 := nI_inj (by omega) (by omega) (hx.symm.trans hx')
      have e2 := nI_inj (Nat.lt_of_le_of_lt hn.2 (by decide)) (Nat.lt_of_le_of_lt hn'.2 (by decide)) (hy.symm.trans hy')
      subst e1; subst e2
      have ht' := ht' ()
      rw [e, ht ()] at ht'
      cases ht'
    · exact hΨ _ (hI.err.fv (hJ.fve hK))
    · rw [hx]; exact ⟨nat_in (by omega) hr, hn.1⟩
    · have e1 := nI_inj (by omega) (by omega) (hx.symm.trans hx')
      subst e1
      rw [e] at hi'
      exact absurd hi' hi
  · rw [hx]; exact ⟨nat_in (by omega) hr, hn.1⟩
  · rw [hx]; exact ⟨nat_in (by omega) hr, hn.1⟩
  · rw [hx]; exact ⟨nat_in (by omega) hr, ho⟩
  · have e1 := nI_inj (by omega) (by omega) (hx.symm.trans hx')
    subst e1
    exact absurd hi hi'
  · have e1 := nI_inj (by omega) (by omega) (hx.symm.trans hx')
    subst e1
    exact absurd hi hi'
  · rw [hx]; exact ⟨nat_in (by omega) hr, ho⟩
end
theorem lw_cg {n last : Nat} {pl pl' : Nat → Nat → Prop} [∀ a b, Decidable (pl a b)] [∀ a b, Decidable (pl' a b)] (h : ∀ a b, a < n → b < n → (pl a b ↔ pl' a b)) : ∀ f i, lw n last pl f i = lw n last pl' f i
  | 0, _ => rfl
  | f + 1, i => by
    have ih := lw_cg (last := last) h f
    rw [lw_eq, lw_eq, ih i]
    by_cases hi : i < n
    · have : fnd (fun b => lw n last pl f b = f + 1 ∧ pl i b) n 0 = fnd (fun b => lw n last pl' f b = f + 1 ∧ pl' i b) n 0 := fnd_congr (fun j _ hj => by rw [ih j, h i j hi (by omega)])
      rw [this]
    · simp only [hi, false_and, if_false]
theorem pt_cg {n : Nat} {L L' : Nat → Nat} {pl pl' : Nat → Nat → Prop} [∀ a b, Decidable (pl a b)] [∀ a b, Decidable (pl' a b)] (hL : ∀ b, L b = L' b) (hn : 0 < n) (h : ∀ a b, a < n → b < n → (pl a b ↔ pl' a b)) : ∀ s, pt n L pl s = pt n L' pl' s ∧ ∀ a, pt n L pl s = some a → a < n
  | 0 => ⟨rfl, fun a ha => by cases ha; exact hn⟩
  | s + 1 => by
    obtain ⟨h1, h2⟩ := pt_cg hL hn h s
    show (match pt n L pl s with | none => none | some a => fnd (fun b => L b + (s + 1) = L 0 ∧ pl a b) n 0) = (match pt n L' pl' s with | none => none | some a => fnd (fun b => L' b + (s + 1) = L' 0 ∧ pl' a b) n 0) ∧ ∀ a, (match pt n L pl s with | none => none | some a => fnd (fun b => L b + (s + 1) = L 0 ∧ pl a b) n 0) = some a → a < n
    rw [← h1]
    cases hp : pt n L pl s with
    | none => exact ⟨rfl, fun a ha => by cases ha⟩
    | some a =>
      have ha := h2 a hp
      refine ⟨fnd_congr (fun j _ hj => by rw [hL j, hL 0, h a j ha (by omega)]), fun b hb => ?_⟩
      have := (fnd_some hb).2.1
      omega
theorem ordL_cg {n : Nat} {rec rec' : Int32 → Int32 → Int32 → OT → OT} {tm tm' sd sd' : Nat → Int32} {dp : Nat} {used sheave time : Int32} (hr : rec = rec') (h1 : ∀ i, i < n → tm i = tm' i) (h2 : ∀ i, i < n → sd i = sd' i) : ∀ (u i : Nat) (t : OT), i + u ≤ n → ordL rec tm sd dp used sheave time u i t = ordL rec' tm' sd' dp used sheave time u i t
  | 0, _, _, _ => rfl
  | u + 1, i, t, hi => by
    unfold ordL
    rw [hr, h1 i (by omega), h2 i (by omega)]
    exact ordL_cg rfl h1 h2 u (i + 1) _ (by omega)
theorem ord_cg {n : Nat} {tm tm' sd sd' : Nat → Int32} (h1 : ∀ i, i < n → tm i = tm' i) (h2 : ∀ i, i < n → sd i = sd' i) : ∀ r, ord n tm sd r = ord n tm' sd' r
  | 0 => rfl
  | r + 1 => by
    funext used sheave time t
    exact ordL_cg (ord_cg h1 h2 r) h1 h2 n 0 t (by omega)
section
variable {g : Sh} {P P' : HP} {I J K : HI} {k : Nat} {rd nt : Nat → Nat} {δ : Nat → List Int32} {nl nd tp wt : Nat} {M : Nat → Int32}
theorem fv_98 (hK : ∀ a, a ≠ 98 → a ≠ 120 → K a = I a) (hz : Sz I 45) : FV P P I K := ⟨⟨fun _ _ _ => rfl, rfl⟩, hz.mv (fun a x y => hK a (by omega) (by omega)), fun a x1 x2 x3 x4 x5 x6 x7 x8 x9 x10 => hK a x4 x10, by rw [hK 109 (by decide) (by decide)], by rw [hK 109 (by decide) (by decide)]⟩
theorem SP.pl (h : SP g P I 21 M k rd nt δ nl nd tp wt) : ∀ a b, a < nl → b < nl → (plc (I 36) (I 38) (I 23) a b ↔ plm M a b) := fun a b ha hb => by
  have h1 := (h.2.2.2.1.2.2.2.2 a ha).1
  have h2 := (h.2.2.2.1.2.2.2.2 b hb).2
  have h3 := h.w 0 (by decide)
  unfold plc plm
  rw [show I 36 a = M (72 + 2 * a) from h1, show I 38 b = M (72 + 2 * b + 1) from h2, h3]
  exact Iff.rfl
end
theorem m1_le {k : Nat} (h : k ≤ 8) : (-1 : Int32) ≤ nI k := i32_le.mpr (by rw [nI_toInt (by omega)]; show (-1 : Int) ≤ _; omega)
theorem m1_nle {k : Nat} (h : k ≤ 8) : ¬ nI k ≤ (-1 : Int32) := fun e => by
  have e := i32_le.mp e
  rw [nI_toInt (by omega), show (-1 : Int32).toInt = -1 from rfl] at e
  omega
theorem m1_ne {k : Nat} (h : k ≤ 8) : ¬ (-1 : Int32) = nI k := fun e => m1_nle h (by rw [← e]; exact Int32.le_refl _)
section
variable {Γ : GE}
theorem p_over {x y : Int32} : PR Γ mX11_over mX12_over 0 0 [.ref 16, .int x, .int y] [.ref 109, .int x, .int y] := by
  intro g P I d Φ hd hI hΦ
  obtain ⟨⟨hL, hM⟩, ⟨k, rd, nt, δ, n, nd, tp, wt, hS⟩, -, hG, -⟩ := id hI
  have hn := hS.2.2.2.1.2.2.2.1
  have e1 : I 35 1 = nI n := hS.2.2.2.1.1
  have e2 : I 37 1 = nI n := hS.2.2.2.1.2.1
  have m2 : I 110 2 = nI n := hS.2.2.2.1.2.2.1
  have hw : ∀ l i, lw n l (plc (I 36) (I 38) (I 23)) (n - 1) i = lwf n l (plm (I 110)) i := fun l i => lw_cg hS.pl (n - 1) i
  have hw8 : ∀ l, l < n → lwf n l (plm (I 110)) 0 ≤ 8 := fun l hl => by show lw n l (plm (I 110)) (n - 1) 0 ≤ 8; have := lw_le (n := n) (last := l) (pl := plm (I 110)) (n - 1) 0; omega
  have hz := hG.1.1
  refine c_X11_over (n := n) (by omega) hL e1 e2 hn (fun l hx hl hy hW => hΦ _ _ _ _ hM.1 fun d' Ψ hd' hΨ => ?_) (fun h => hΦ _ _ _ _ hM.1 fun d' Ψ hd' hΨ => ?_) (fun l hx hl hy hW => hΦ _ _ _ _ hM.1 fun d' Ψ hd' hΨ => ?_) (fun l s hx hl hy hs => hΦ _ _ _ _ hM.1 fun d' Ψ hd' hΨ => ?_)
  · rw [hw] at hW
    refine c_X12_over (n := n) (by omega) hM m2 hn (fun l' hx' hl' hy' hW' => ?_) (fun h => absurd ⟨by rw [hx]; exact nat_in (by omega) hl, hy⟩ h) (fun l' hx' hl' hy' hW' => ?_) (fun l' s hx' hl' hy' hs => ?_)
    · refine hΨ _ ((hI.err (n := 2)).fv (fv_98 (fun a a1 a2 => ?_) (hI.err (n := 2)).2.2.2.1.1.1))
      by_cases e93 : a = 93
      · subst e93; rfl
      · by_cases e113 : a = 113
        · subst e113; rfl
        · show u2 _ 113 2 _ a = u2 _ 113 2 _ a
          rw [u2_oth _ e113, u2_oth _ e113]
          show ur _ 120 _ a = u2 _ 93 2 _ a
          rw [ur_n _ _ a2, u2_oth _ e93]
          show u2 _ 93 2 _ a = _
          rw [u2_oth _ e93]
          exact ur_n _ _ a1
    · have e := nI_inj (by omega) (by omega) (hx.symm.trans hx')
      subst e
      rw [hy'] at hW
      exact hW.elim (fun h => absurd h hW') (fun h => absurd h (m1_nle (hw8 l hl)))
    · have e := nI_inj (by omega) (by omega) (hx.symm.trans hx')
      subst e
      have hs : s < lwf n l (plm (I 110)) 0 := hs
      have h8 := hw8 l hl
      rw [hy'] at hW
      exact hW.elim (fun h => by omega) (fun h => absurd ((nI_leI (by omega) (by omega)).mp h) (by omega))
  · refine c_X12_over (n := n) (by omega) hM m2 hn (fun l' hx' hl' hy' hW' => absurd ⟨by rw [hx']; exact nat_in (by omega) hl', hy'⟩ h) (fun _ => hΨ _ hI.err) (fun l' hx' hl' hy' hW' => absurd ⟨by rw [hx']; exact nat_in (by omega) hl', by rw [hy']; exact Int32.le_refl _⟩ h) (fun l' s hx' hl' hy' hs => absurd ⟨by rw [hx']; exact nat_in (by omega) hl', ?_⟩ h)
    have hs : s < lwf n l' (plm (I 110)) 0 := hs
    have h8 := hw8 l' hl'
    rw [hy']; exact m1_le (by omega)
  · rw [hw] at hW
    refine c_X12_over (n := n) (by omega) hM m2 hn (fun l' hx' hl' hy' hW' => ?_) (fun h => absurd ⟨by rw [hx]; exact nat_in (by omega) hl, by rw [hy]; exact Int32.le_refl _⟩ h) (fun l' hx' hl' hy' hW' => ?_) (fun l' s hx' hl' hy' hs => ?_)
    · have e := nI_inj (by omega) (by omega) (hx.symm.trans hx')
      subst e
      rw [hy] at hW'
      exact hW'.elim (fun h => absurd h hW) (fun h => absurd h (m1_nle (hw8 l hl)))
    · have e := nI_inj (by omega) (by omega) (hx.symm.trans hx')
      subst e
      show Ψ (some (.int (nI (lwf n l (plm (I 110)) 0)))) _ _ _
      rw [← hw]
      exact hΨ _ (hI.fv (fv_98 (fun a a1 a2 => (ur_n _ _ a2).trans (ur_n _ _ a1)) hz))
    · have hs : s < lwf n l' (plm (I 110)) 0 := hs
      have h8 := hw8 l' hl'
      exact absurd (hy.symm.trans hy') (m1_ne (by omega))
  · have hsw := hs
    rw [hw] at hs
    have h8 := hw8 l hl
    refine c_X12_over (n := n) (by omega) hM m2 hn (fun l' hx' hl' hy' hW' => ?_) (fun h => absurd ⟨by rw [hx]; exact nat_in (by omega) hl, by rw [hy]; exact m1_le (by omega)⟩ h) (fun l' hx' hl' hy' hW' => ?_) (fun l' s' hx' hl' hy' hs' => ?_)
    · have e := nI_inj (by omega) (by omega) (hx.symm.trans hx')
      subst e
      have hW' : lwf n l (plm (I 110)) 0 = 0 ∨ nI (lwf n l (plm (I 110)) 0) ≤ y := hW'
      rw [hy] at hW'
      exact hW'.elim (fun h => by omega) (fun h => absurd ((nI_leI (by omega) (by omega)).mp h) (by omega))
    · exact absurd (hy'.symm.trans hy) (m1_ne (by omega))
    · have hs' : s' < lwf n l' (plm (I 110)) 0 := hs'
      have h8' := hw8 l' hl'
      have e := nI_inj (by omega) (by omega) (hx.symm.trans hx')
      have e' := nI_inj (by omega) (by omega) (hy.symm.trans hy')
      subst e; subst e'
      rw [pth_pt hl hn hsw] at hΨ
      show Ψ (some (.int (oI (pt n (lwf n l (plm (I 110))) (plm (I 110)) s)))) _ _ _
      rw [← (pt_cg (hw l) (by omega) hS.pl s).1]
      exact hΨ _ (hI.fv (fv_98 (fun a a1 a2 => (ur_n _ _ a2).trans (ur_n _ _ a1)) hz))
end
