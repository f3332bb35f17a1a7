/-! more questions -/
section
variable {g : Sh} {P P' : HP} {I J K : HI} {k : Nat} {rd nt : Nat → Nat} {δ : Nat → List Int32} {nl nd tp wt : Nat} {M : Nat → Int32}
theorem PF.fv (h : PF P P') (hJ : ∀ a, a ≠ 17 → a ≠ 18 → J a = I a) (hK : ∀ a, a ≠ 118 → a ≠ 119 → K a = J a) (hz : Sz I 45) : FV P P' I K := by
  have e : ∀ a, a ≠ 17 → a ≠ 18 → a ≠ 118 → a ≠ 119 → K a = I a := fun a x1 x2 x3 x4 => (hK a x3 x4).trans (hJ a x1 x2)
  exact ⟨⟨fun a x _ => h.1 a x, h.2⟩, hz.mv (fun a x y => e a (by omega) (by omega) (by omega) (by omega)), fun a x1 x2 x3 x4 x5 x6 x7 x8 x9 x10 => e a x1 x2 x8 x9, by rw [e 109 (by decide) (by decide) (by decide) (by decide)], by rw [e 109 (by decide) (by decide) (by decide) (by decide)]⟩
theorem cz_eq (h : SP g P I 21 M k rd nt δ nl nd tp wt) : ∀ n, n ≤ k → cz (I 28) n = czM M n
  | 0, _ => rfl
  | n + 1, hn => by
    have h1 := cz_eq h n (by omega)
    have h2 := (h.2.1.2.1.2 n (by omega)).2.2.1
    have h3 := (h.2.1.1.2.2.2 n (by omega)).2.2.2.2.2
    show cz (I 28) n + (if I 28 n = 0 then 1 else 0) = czM M n + (if M (16 + 7 * n + 5) = 1 then 0 else 1)
    rw [h1, show I 28 n = M (16 + 7 * n + 5) from h2]
    rcases h3 with h3 | h3
    · rw [h3, if_pos rfl, if_neg (by decide)]
    · rw [h3, if_neg (by decide), if_pos rfl]
theorem SP.ris (h : SP g P I 21 M k rd nt δ nl nd tp wt) : Ris g P 21 k rd (fun i => kc (kdo M i)) := fun i hi => ⟨(h.2.1.2.2 i hi).1, (h.2.1.2.2 i hi).2.1, isR_kc (h.2.1.1.2.2.2 i hi).kd.1⟩
end
section
variable {Γ : GE}
theorem p_count {x : Int32} : PR Γ mX11_count mX12_count 0 0 [.ref 16, .int x] [.ref 109, .int x] := by
  intro g P I d Φ hd hI hΦ
  obtain ⟨⟨hL, hM⟩, ⟨k, rd, nt, δ, nl, nd, tp, wt, hS⟩, -, -, -, ⟨kt, t1, t2, t3, t4⟩, -⟩ := id hI
  have hk8 := hS.2.1.1.2.1
  have e : cntC I k x = cntM I k x := by
    unfold cntC cntM
    rw [cz_eq hS k (Nat.le_refl _), hS.1.2.1, hS.1.2.2, hS.1.1, hS.2.1.1.1, t1, t2, show I 35 1 = nI nl from hS.2.2.2.1.1, hS.2.2.2.1.2.2.1, show I 39 1 = nI nd from hS.2.2.2.2.1.1, hS.2.2.2.2.1.2.2.1, show I 29 1 = nI tp from hS.2.2.2.2.2.1.1, hS.2.2.2.2.2.1.2.1, show I 43 1 = nI wt from hS.2.2.2.2.2.2.1, hS.2.2.2.2.2.2.2.1]
  refine c_X11_count (k := k) (by omega) hL hS.1.1 hk8 (fun v h => hΦ _ _ _ _ hM.1 fun d' Ψ hd' hΨ => c_X12_count (k := k) (by omega) hM hS.2.1.1.1 hk8 (fun v' h' => ?_) (fun h' => ?_)) (fun h => hΦ _ _ _ _ hM.1 fun d' Ψ hd' hΨ => c_X12_count (k := k) (by omega) hM hS.2.1.1.1 hk8 (fun v' h' => ?_) (fun h' => hΨ _ hI.err))
  · rw [e, h'] at h
    rw [Option.some.inj h]
    exact hΨ _ hI
  · rw [e, h'] at h; cases h
  · have h' : cntM I k x = some v' := h'
    rw [e, h'] at h; cases h
theorem p_ofRide {x y : Int32} : PR Γ mX11_ofRide mX12_ofRide 0 0 [.ref 16, .int x, .int y] [.ref 109, .int x, .int y] := by
  intro g P I d Φ hd hI hΦ
  obtain ⟨⟨hL, hM⟩, ⟨k, rd, nt, δ, nl, nd, tp, wt, hS⟩, -⟩ := id hI
  have hk8 := hS.2.1.1.2.1
  refine c_X11_ofRide (k := k) (by omega) hL hS.wo hS.1.1 hk8 hS.ris (fun i f hx hi hy hf => hΦ _ _ _ _ hM.1 fun d' Ψ hd' hΨ => c_X12_ofRide (k := k) (by omega) hM hS.2.1.1.2.2.1 hS.2.1.1.1 hk8 hS.2.1.1.rd (fun r f' hx' hr hy' hf' => ?_) (fun h' => absurd ?_ h')) (fun h => hΦ _ _ _ _ hM.1 fun d' Ψ hd' hΨ => c_X12_ofRide (k := k) (by omega) hM hS.2.1.1.2.2.1 hS.2.1.1.1 hk8 hS.2.1.1.rd (fun r f' hx' hr hy' hf' => absurd ?_ h) (fun _ => hΨ _ hI.err))
  · have e := nI_inj (by omega) (by omega) (hx.symm.trans hx')
    have e2 := nI_inj (by omega) (by omega) (hy.symm.trans hy')
    subst e; subst e2
    rw [← fac_tol hS.2.1.1 hS.2.1.2.1 hS.2.1.2.2 hi hf]
    exact hΨ _ hI
  · rw [hx, hy]; exact ⟨nat_in (by omega) hi, n_ab (a := 0) (by omega) hf (by decide)⟩
  · rw [hx', hy']; exact ⟨nat_in (by omega) hr, n_ab (a := 0) (by omega) hf' (by decide)⟩
theorem p_as {x y : Int32} : PR Γ mX11_as mX12_as 0 0 [.ref 16, .int x, .int y] [.ref 109, .int x, .int y] := by
  intro g P I d Φ hd hI hΦ
  obtain ⟨⟨hL, hM⟩, ⟨k, rd, nt, δ, nl, nd, tp, wt, hS⟩, -⟩ := id hI
  have hk8 := hS.2.1.1.2.1
  refine c_X11_as (k := k) (kd := kdo (I 110)) (by omega) hL hS.1.1 hk8 hS.ris (fun i hi => ⟨(hS.2.1.1.2.2.2 i hi).kd.1, rfl⟩) (fun i f hx hi hy hf hu => hΦ _ _ _ _ hM.1 fun d' Ψ hd' hΨ => c_X12_as (k := k) (by omega) hM hS.2.1.1.1 hk8 hS.2.1.1.rd (fun r f' hx' hr hy' hf' hu' => ?_) (fun r f' hx' hr hy' hf' hu' => ?_) (fun h' => absurd ?_ h')) (fun i f hx hi hy hf hu => hΦ _ _ _ _ hM.1 fun d' Ψ hd' hΨ => c_X12_as (k := k) (by omega) hM hS.2.1.1.1 hk8 hS.2.1.1.rd (fun r f' hx' hr hy' hf' hu' => ?_) (fun r f' hx' hr hy' hf' hu' => hΨ _ hI.err) (fun h' => absurd ?_ h')) (fun h => hΦ _ _ _ _ hM.1 fun d' Ψ hd' hΨ => c_X12_as (k := k) (by omega) hM hS.2.1.1.1 hk8 hS.2.1.1.rd (fun r f' hx' hr hy' hf' _ => absurd ?_ h) (fun r f' hx' hr hy' hf' _ => absurd ?_ h) (fun _ => hΨ _ hI.err))
  · have e := nI_inj (by omega) (by omega) (hx.symm.trans hx')
    subst e
    rw [← (hS.2.1.2.2 i hi).2.2.2.2.2.2.1]
    exact hΨ _ hI
  · have e := nI_inj (by omega) (by omega) (hx.symm.trans hx')
    have e2 := nI_inj (by omega) (by omega) (hy.symm.trans hy')
    subst e; subst e2
    exact absurd hu hu'
  · rw [hx, hy]; exact ⟨nat_in (by omega) hi, n_ab (a := 0) (by omega) hf (by decide)⟩
  · have e := nI_inj (by omega) (by omega) (hx.symm.trans hx')
    have e2 := nI_inj (by omega) (by omega) (hy.symm.trans hy')
    subst e; subst e2
    exact absurd hu' hu
  · rw [hx, hy]; exact ⟨nat_in (by omega) hi, n_ab (a := 0) (by omega) hf (by decide)⟩
  · rw [hx', hy']; exact ⟨nat_in (by omega) hr, n_ab (a := 0) (by omega) hf' (by decide)⟩
  · rw [hx', hy']; exact ⟨nat_in (by omega) hr, n_ab (a := 0) (by omega) hf' (by decide)⟩
theorem p_law {x a b c e : Int32} : PR Γ mX11_law mX12_law 0 0 [.ref 16, .int x, .int a, .int b, .int c, .int e] [.ref 109, .int x, .int a, .int b, .int c, .int e] := by
  intro g P I d Φ hd hI hΦ
  obtain ⟨⟨hL, hM⟩, ⟨k, rd, nt, δ, nl, nd, tp, wt, hS⟩, -, hG, -⟩ := id hI
  refine c_X11_law (by omega) hL hS.2.2.1.1 (fun u hx hu P' J hp hJ => hΦ _ _ _ _ hM.1 fun d' Ψ hd' hΨ => c_X12_law (δ := δ) (by omega) (hM.pf hp) (fun v hv => by rw [hJ 110 (by decide) (by decide)]; exact hS.2.2.1.2.2 v hv) (fun v hxv hv K hK => ?_) (fun h' => absurd ?_ h')) (fun h => hΦ _ _ _ _ hM.1 fun d' Ψ hd' hΨ => c_X12_law (δ := δ) (by omega) hM hS.2.2.1.2.2 (fun v hxv hv K hK => absurd ?_ h) (fun _ => hΨ _ hI.err))
  · have e1 := nI_inj (by omega) (by omega) (hx.symm.trans hxv)
    subst e1
    rw [← gvC_D hS.2.2.1.2.1 hu]
    exact hΨ _ (hI.fv (hp.fv hJ hK hG.1.1))
  · rw [hx]; exact n_ab (a := 0) (by omega) hu (by decide)
  · rw [hxv]; exact n_ab (a := 0) (by omega) hv (by decide)
theorem p_strands {x : Int32} : PR Γ mX11_strands mX12_strands 0 0 [.ref 16, .int x] [.ref 109, .int x] := by
  intro g P I d Φ hd hI hΦ
  obtain ⟨⟨hL, hM⟩, ⟨k, rd, nt, δ, nl, nd, tp, wt, hS⟩, -, hG, -⟩ := id hI
  have hA := hS.la hG
  refine c_X11_strands (by omega) hL hA (fun n hx hn P' J hJ => hΦ _ _ _ _ hM.1 fun d' Ψ hd' hΨ => ?_) (fun h => hΦ _ _ _ _ hM.1 fun d' Ψ hd' hΨ => c_X12_strands (k := k) (δ := δ 0) (by omega) hM hS.2.1.1 (hS.2.2.1.2.2 0 (by decide)) (fun m hm hm2 K hK => absurd (by rw [hm]; exact n200 hm2) h) (fun _ => hΨ _ hI.err))
  have e : J 110 = I 110 := hJ.2.2.2.1 110 (by decide) (by decide) (by decide)
  refine c_X12_strands (k := k) (δ := δ 0) (by omega) (hM.pg hJ.1) (by rw [e]; exact hS.2.1.1) (by rw [e]; exact hS.2.2.1.2.2 0 (by decide)) (fun m hm hm2 K hK => ?_) (fun h => absurd (by rw [hx]; exact n200 hn) h)
  have e1 := nI_inj (by omega) (by omega) (hx.symm.trans hm)
  subst e1
  rw [e]
  exact hΨ _ (hI.fv (hJ.fv hK))
theorem p_then {x y z : Int32} : PR Γ mX11_then mX12_then 0 0 [.ref 16, .int x, .int y, .int z] [.ref 109, .int x, .int y, .int z] := by
  intro g P I d Φ hd hI hΦ
  obtain ⟨⟨hL, hM⟩, ⟨k, rd, nt, δ, nl, nd, tp, wt, hS⟩, -, hG, -⟩ := id hI
  have hA := hS.la hG
  have hk8 := hS.2.1.1.2.1
  refine c_X11_then (by omega) hL hA (fun n r f hx hn hy hr hz hf P' J hJ => hΦ _ _ _ _ hM.1 fun d' Ψ hd' hΨ => ?_) (fun h => hΦ _ _ _ _ hM.1 fun d' Ψ hd' hΨ => c_X12_then (k := k) (δ := δ 0) (by omega) hM hS.2.1.1 (hS.2.2.1.2.2 0 (by decide)) (fun n r f hx hn hy hr hz hf K hK => absurd ?_ h) (fun _ => hΨ _ hI.err))
  · have e : J 110 = I 110 := hJ.2.2.2.1 110 (by decide) (by decide) (by decide)
    refine c_X12_then (k := k) (δ := δ 0) (by omega) (hM.pg hJ.1) (by rw [e]; exact hS.2.1.1) (by rw [e]; exact hS.2.2.1.2.2 0 (by decide)) (fun n' r' f' hx' hn' hy' hr' hz' hf' K hK => ?_) (fun h => absurd ?_ h)
    · have e1 := nI_inj (by omega) (by omega) (hx.symm.trans hx')
      have e2 := nI_inj (by omega) (by omega) (hy.symm.trans hy')
      have e3 := nI_inj (by omega) (by omega) (hz.symm.trans hz')
      subst e1; subst e2; subst e3
      rw [e]
      exact hΨ _ (hI.fv (hJ.fv hK))
    · rw [hx, hy, hz]; exact ⟨n200 hn, nat_in (by omega) hr, n_ab (a := 0) (by omega) hf (by decide)⟩
  · rw [hx, hy, hz]; exact ⟨n200 hn, nat_in (by omega) hr, n_ab (a := 0) (by omega) hf (by decide)⟩
theorem p_stands {x : Int32} : PR Γ mX11_stands mX12_stands 0 0 [.ref 16, .int x] [.ref 109, .int x] := by
  intro g P I d Φ hd hI hΦ
  obtain ⟨⟨hL, hM⟩, ⟨k, rd, nt, δ, nl, nd, tp, wt, hS⟩, -, hG, -⟩ := id hI
  have hA := hS.la hG
  have hk8 := hS.2.1.1.2.1
  refine c_X11_stands (by omega) hL hA (fun r t hx hr ht P' J hJ => hΦ _ _ _ _ hM.1 fun d' Ψ hd' hΨ => ?_) (fun r hx hr ht P' J hJ => hΦ _ _ _ _ hM.1 fun d' Ψ hd' hΨ => ?_) (fun h => hΦ _ _ _ _ hM.1 fun d' Ψ hd' hΨ => c_X12_stands (k := k) (δ := δ 0) (by omega) hM hS.2.1.1 (hS.2.2.1.2.2 0 (by decide)) (fun r t hx hr _ K hK => absurd ?_ h) (fun r hx hr _ K hK => absurd ?_ h) (fun _ => hΨ _ hI.err))
  · have e : J 110 = I 110 := hJ.2.2.2.1 110 (by decide) (by decide) (by decide)
    refine c_X12_stands (k := k) (δ := δ 0) (by omega) (hM.pg hJ.1) (by rw [e]; exact hS.2.1.1) (by rw [e]; exact hS.2.2.1.2.2 0 (by decide)) (fun r' t' hx' hr' ht' K hK => ?_) (fun r' hx' hr' ht' K hK => ?_) (fun h => absurd ?_ h)
    · have e1 := nI_inj (by omega) (by omega) (hx.symm.trans hx')
      subst e1
      rw [e, ht ()] at ht'
      rw [← Option.some.inj ht']
      exact hΨ _ (hI.fv (hJ.fv hK))
    · have e1 := nI_inj (by omega) (by omega) (hx.symm.trans hx')
      subst e1
      rw [e, ht ()] at ht'
      cases ht'
    · rw [hx]; exact nat_in (by omega) hr
  · have e : fl J 2 110 = I 110 := (u2_oth _ (by decide)).trans (hJ.2.2.2.1 110 (by decide) (by decide) (by decide))
    refine c_X12_stands (k := k) (δ := δ 0) (by omega) (hM.pg hJ.1) (by rw [e]; exact hS.2.1.1) (by rw [e]; exact hS.2.2.1.2.2 0 (by decide)) (fun r' t' hx' hr' ht' K hK => ?_) (fun r' hx' hr' ht' K hK => ?_) (fun h => absurd ?_ h)
    · have e1 := nI_inj (by omega) (by omega) (hx.symm.trans hx')
      subst e1
      rw [e, ht ()] at ht'
      cases ht'
    · exact hΨ _ (hI.err.fv (hJ.fve hK))
    · rw [hx]; exact nat_in (by omega) hr
  · rw [hx]; exact nat_in (by omega) hr
  · rw [hx]; exact nat_in (by omega) hr
theorem p_comes {x : Int32} : PR Γ mX11_comes mX12_comes 0 0 [.ref 16, .int x] [.ref 109, .int x] := by
  intro g P I d Φ hd hI hΦ
  obtain ⟨⟨hL, hM⟩, ⟨k, rd, nt, δ, nl, nd, tp, wt, hS⟩, -, hG, -⟩ := id hI
  have hA := hS.la hG
  have hk8 := hS.2.1.1.2.1
  refine c_X11_comes (by omega) hL hA (fun r t hx hr hi ht P' J hJ => hΦ _ _ _ _ hM.1 fun d' Ψ hd' hΨ => ?_) (fun r hx hr hi ht P' J hJ => hΦ _ _ _ _ hM.1 fun d' Ψ hd' hΨ => ?_) (fun h => hΦ _ _ _ _ hM.1 fun d' Ψ hd' hΨ => c_X12_comes (k := k) (δ := δ 0) (by omega) hM hS.2.1.1 (hS.2.2.1.2.2 0 (by decide)) (fun r t hx hr _ _ K hK => absurd ?_ h) (fun r hx hr _ _ K hK => absurd ?_ h) (fun _ => hΨ _ hI.err) (fun r hx hr _ => absurd ?_ h)) (fun r hx hr hi => hΦ _ _ _ _ hM.1 fun d' Ψ hd' hΨ => c_X12_comes (k := k) (δ := δ 0) (by omega) hM hS.2.1.1 (hS.2.2.1.2.2 0 (by decide)) (fun r' t hx' hr' hi' _ K hK => ?_) (fun r' hx' hr' hi' _ K hK => ?_) (fun h => absurd ?_ h) (fun r' hx' hr' hi' => hΨ _ hI.err))
  · have e : J 110 = I 110 := hJ.2.2.2.1 110 (by decide) (by decide) (by decide)
    refine c_X12_comes (k := k) (δ := δ 0) (by omega) (hM.pg hJ.1) (by rw [e]; exact hS.2.1.1) (by rw [e]; exact hS.2.2.1.2.2 0 (by decide)) (fun r' t' hx' hr' hi' ht' K hK => ?_) (fun r' hx' hr' hi' ht' K hK => ?_) (fun h => absurd ?_ h) (fun r' hx' hr' hi' => ?_)
    · have e1 := nI_inj (by omega) (by omega) (hx.symm.trans hx')
      subst e1
      have ht' := ht' ()
      rw [e, ht ()] at ht'
      rw [← Option.some.inj ht']
      exact hΨ _ (hI.fv (hJ.fv hK))
    · have e1 := nI_inj (by omega) (by omega) (hx.symm.trans hx')
      subst e1
      have ht' := ht' ()
      rw [e, ht ()] at ht'
      cases ht'
    · rw [hx]; exact nat_in (by omega) hr
    · have e1 := nI_inj (by omega) (by omega) (hx.symm.trans hx')
      subst e1
      rw [e] at hi'
      exact absurd hi' hi
  · have e : fl J 2 110 = I 110 := (u2_oth _ (by decide)).trans (hJ.2.2.2.1 110 (by decide) (by decide) (by decide))
    refine c_X12_comes (k := k) (δ := δ 0) (by omega) (hM.pg hJ.1) (by rw [e]; exact hS.2.1.1) (by rw [e]; exact hS.2.2.1.2.2 0 (by decide)) (fun r' t' hx' hr' hi' ht' K hK => ?_) (fun r' hx' hr' hi' ht' K hK => ?_) (fun h => absurd ?_ h) (fun r' hx' hr' hi' => ?_)
    · have e1 := nI_inj (by omega) (by omega) (hx.symm.trans hx')
      subst e1
      have ht' := ht' ()
      rw [e, ht ()] at ht'
      cases ht'
    · exact hΨ _ (hI.err.fv (hJ.fve hK))
    · rw [hx]; exact nat_in (by omega) hr
    · have e1 := nI_inj (by omega) (by omega) (hx.symm.trans hx')
      subst e1
      rw [e] at hi'
      exact absurd hi' hi
  · rw [hx]; exact nat_in (by omega) hr
  · rw [hx]; exact nat_in (by omega) hr
  · rw [hx]; exact nat_in (by omega) hr
  · have e1 := nI_inj (by omega) (by omega) (hx.symm.trans hx')
    subst e1
    exact absurd hi hi'
  · have e1 := nI_inj (by omega) (by omega) (hx.symm.trans hx')
    subst e1
    exact absurd hi hi'
  · rw [hx]; exact nat_in (by omega) hr
end
