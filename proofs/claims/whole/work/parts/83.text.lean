/-! text -/
section
variable {g : Sh} {P P' : HP} {I J K : HI} {B k nl nd tp wt : Nat} {M M' : Nat → Int32} {rd nt : Nat → Nat} {δ : Nat → List Int32}
theorem TC_b {u : Nat} {ε : List Int32} (he : ∀ y, 168 + 52 * u ≤ y → y < 220 + 52 * u → M' y = M y) (h : TC u ε M) : TC u ε M' := by
  obtain ⟨⟨h0, h1⟩, h2⟩ := h
  refine ⟨⟨h0, h1⟩, ?_⟩
  rcases h2 with ⟨a, b⟩ | ⟨a, b, c⟩
  · exact Or.inl ⟨by rw [he _ (by omega) (by omega)]; exact a, b⟩
  · exact Or.inr ⟨a, by rw [he _ (by omega) (by omega)]; exact b, fun i hi => by rw [he _ (by omega) (by omega)]; exact c i hi⟩
theorem gd_ok {n : Nat} {f : PS → PS} (hf : Gd n f) (n50 : n ≤ 50) (h : (f (0, false, [])).2.1 = false) : (f (0, false, [])).1 ≤ n ∧ (f (0, false, [])).2.2.length ≤ 50 ∧ hgt (f (0, false, [])).2.2 (some 0) = some 1 ∧ 0 < (f (0, false, [])).2.2.length := by
  obtain ⟨-, -, g3, ε, g4, g5, g6⟩ := hf (0, false, [])
  have h1 : (f (0, false, [])).1 ≤ n := g3 (Nat.zero_le _)
  have h2 : (f (0, false, [])).2.2 = ε := g4
  have h3 : ε.length + 0 ≤ (f (0, false, [])).1 := g5
  have h4 := g6 h 0
  rw [h2]
  refine ⟨h1, by omega, h4, ?_⟩
  cases ε with
  | nil => exact absurd h4 (by decide)
  | cons a l => exact Nat.succ_pos _
theorem rd_is (t : Nat → Int32) (n u : Nat) : ∃ f : PS → PS, f = eth t n (pS t n u 5) ∧ rdT t n u = f (0, false, []) := ⟨_, rfl, rfl⟩
theorem rd_ok {t : Nat → Int32} {n u : Nat} (hu : u ≤ 1) (n50 : n ≤ 50) (h : (rdT t n u).2.1 = false) : (rdT t n u).1 ≤ n ∧ (rdT t n u).2.2.length ≤ 50 ∧ hgt (rdT t n u).2.2 (some 0) = some 1 ∧ 0 < (rdT t n u).2.2.length := by
  obtain ⟨f, h1, h2⟩ := rd_is t n u
  have hf : Gd n f := by rw [h1]; exact gd_eth (pS_Gd t n hu 5)
  rw [h2] at h ⊢
  exact gd_ok hf n50 h
theorem TG.new {u : Nat} (h5 : TG I 21 nt) (ks : K (21 + 10 + 2 * u) 1 = nI tp) (q4 : tp ≤ 50) (hb : ∀ i, i < tp → ∃ b, b < 256 ∧ K (21 + 11 + 2 * u) i = nI b) {R : PS} (eK : rdT (K (21 + 11 + 2 * u)) tp u = R) (r1 : R.2.1 = false) (r2 : R.1 = tp) (tw : ∀ w, w ≤ 1 → w ≠ u → K (21 + 10 + 2 * w) = I (21 + 10 + 2 * w) ∧ K (21 + 11 + 2 * w) = I (21 + 11 + 2 * w)) : TG K 21 (ur nt u tp) := fun w hw => by
  by_cases hwu : w = u
  · subst hwu
    rw [ur_s, eK]
    exact ⟨ks, q4, hb, r1, r2⟩
  · rw [ur_n _ _ hwu, (tw w hw hwu).1, (tw w hw hwu).2]
    exact h5 w hw
theorem TD.new {u : Nat} (h6 : TD I 21 nt δ) {R : PS} (eK : rdT (K (21 + 11 + 2 * u)) tp u = R) (tw : ∀ w, w ≤ 1 → w ≠ u → K (21 + 10 + 2 * w) = I (21 + 10 + 2 * w) ∧ K (21 + 11 + 2 * w) = I (21 + 11 + 2 * w)) : TD K 21 (ur nt u tp) (ur δ u R.2.2) := fun w hw => by
  by_cases hwu : w = u
  · subst hwu
    rw [ur_s, ur_s, eK]
  · rw [ur_n _ _ hwu, ur_n _ _ hwu, (tw w hw hwu).2]
    exact h6 w hw
theorem SP.text {u : Nat} (hS : SP g P I 21 (I 110) k rd nt δ nl nd tp wt) (hp : PF P P') (hu : u ≤ 1) {R : PS} (eK : rdT (K (21 + 11 + 2 * u)) tp u = R) (r1 : R.2.1 = false) (r2 : R.1 = tp) (ok1 : R.2.2.length ≤ 50) (ok2 : hgt R.2.2 (some 0) = some 1) (ok3 : 0 < R.2.2.length) (f : ∀ a, a ≠ 17 → a ≠ 18 → a ≠ 29 → a ≠ 31 + 2 * u → a ≠ 32 + 2 * u → a ≠ 109 → a ≠ 110 → a ≠ 117 → K a = I a) (em : ∀ y, y ≠ 4 → (y < 168 + 52 * u ∨ 220 + 52 * u ≤ y) → K 110 y = I 110 y) (ks : K (31 + 2 * u) 1 = nI tp) (hb : ∀ i, i < tp → ∃ b, b < 256 ∧ K (21 + 11 + 2 * u) i = nI b) (k29 : K 29 1 = 0) (k3 : K 110 4 = 0) (k4 : K 110 (168 + 52 * u) = nI R.2.2.length) (k5 : ∀ i, i < R.2.2.length → K 110 (169 + 52 * u + i) = R.2.2.getD i 0) : SP g P' K 21 (K 110) k rd (ur nt u tp) (ur δ u R.2.2) nl nd 0 wt := by
  obtain ⟨h1, ⟨h2, h3, h4⟩, ⟨h5, h6, h7⟩, hl, hld, ht, hw⟩ := hS
  have k8 := h2.2.1
  have k21 : K 21 = I 21 := f 21 (by decide) (by decide) (by decide) (by omega) (by omega) (by decide) (by decide) (by decide)
  have tw : ∀ w, w ≤ 1 → w ≠ u → K (21 + 10 + 2 * w) = I (21 + 10 + 2 * w) ∧ K (21 + 11 + 2 * w) = I (21 + 11 + 2 * w) := fun w hw hwu => ⟨f _ (by omega) (by omega) (by omega) (by omega) (by omega) (by omega) (by omega) (by omega), f _ (by omega) (by omega) (by omega) (by omega) (by omega) (by omega) (by omega) (by omega)⟩
  have ks' : K (21 + 10 + 2 * u) 1 = nI tp := by rw [show 21 + 10 + 2 * u = 31 + 2 * u by omega]; exact ks
  refine ⟨⟨by rw [k21]; exact h1.1, by rw [k21, em 0 (by decide) (by omega)]; exact h1.2.1, by rw [k21, em 6 (by decide) (by omega)]; exact h1.2.2⟩, ⟨VM_cg h2 (fun y hy => em y (by omega) (by omega)), ⟨fun j hj => ?_, fun i hi => ?_⟩, (h4.mv (fun a ha => f a (by omega) (by omega) (by omega) (by omega) (by omega) (by omega) (by omega) (by omega)) (fun i hi q hq => em _ (by omega) (by omega))).pf hp (by decide)⟩, ⟨h5.new ks' ht.2.2.1 hb eK r1 r2 tw, h6.new eK tw, fun w hw1 => ?_⟩, hl.cg (fun a x y => f a (by omega) (by omega) (by omega) (by omega) (by omega) (by omega) (by omega) (by omega)) (em 2 (by decide) (by omega)) (fun y _ _ => em y (by omega) (by omega)), hld.cg (fun a x y => f a (by omega) (by omega) (by omega) (by omega) (by omega) (by omega) (by omega) (by omega)) (em 3 (by decide) (by omega)) (fun y _ _ => em y (by omega) (by omega)), ⟨k29, k3, by decide, fun i hi => absurd hi (by omega)⟩, hw.cg (fun a x y => f a (by omega) (by omega) (by omega) (by omega) (by omega) (by omega) (by omega) (by omega)) (em 5 (by decide) (by omega)) (fun y _ _ => em y (by omega) (by omega))⟩
  · rw [f (21 + 2) (by decide) (by decide) (by decide) (by omega) (by omega) (by decide) (by decide) (by decide), em _ (by omega) (by omega)]; exact h3.1 j hj
  · rw [f (21 + 4) (by decide) (by decide) (by decide) (by omega) (by omega) (by decide) (by decide) (by decide), f (21 + 5) (by decide) (by decide) (by decide) (by omega) (by omega) (by decide) (by decide) (by decide), f (21 + 6) (by decide) (by decide) (by decide) (by omega) (by omega) (by decide) (by decide) (by decide), f (21 + 7) (by decide) (by decide) (by decide) (by omega) (by omega) (by decide) (by decide) (by decide), em _ (by omega) (by omega), em _ (by omega) (by omega), em _ (by omega) (by omega), em _ (by omega) (by omega)]; exact h3.2 i hi
  · by_cases hwu : w = u
    · subst hwu
      rw [ur_s]
      exact ⟨⟨ok2, ok1⟩, Or.inr ⟨ok3, k4, k5⟩⟩
    · rw [ur_n _ _ hwu]
      exact TC_b (fun y y1 y2 => em y (by omega) (by omega)) (h7 w hw1)
theorem SP.pf (h : SP g P I 21 M k rd nt δ nl nd tp wt) (hp : PF P P') : SP g P' I 21 M k rd nt δ nl nd tp wt := h.mv (fun _ _ _ => rfl) (hp.1 24 (by decide)) (fun a ha => ⟨hp.1 a (by omega), rfl⟩)
end
section
variable {Γ : GE}
theorem p_text {x : Int32} : PR Γ mX11_text mX12_text 0 0 [.ref 16, .int x] [.ref 109, .int x] := by
  intro g P I d Φ hd hI hΦ
  obtain ⟨⟨hL, hM⟩, ⟨k, rd, nt, δ, nl, nd, tp, wt, hS⟩, -, hG, -⟩ := id hI
  obtain ⟨q1, q3, q4, q5⟩ := id hS.2.2.2.2.2.1
  have k8 := hS.2.1.1.2.1
  have q5a : ∀ i, i < tp → I 30 i = I 110 (98 + i) := fun i hi => (q5 i hi).1
  have hB : ∀ i, i < tp → ∃ b, b < 256 ∧ I 110 (98 + i) = nI b := fun i hi => (q5 i hi).2
  have hB' : ∀ i, i < tp → ∃ b, b < 256 ∧ I 30 i = nI b := fun i hi => by rw [q5a i hi]; exact hB i hi
  have eR : ∀ u (N : Nat → Int32), (∀ i, i < tp → N i = I 110 (98 + i)) → rdT N tp u = rdT (I 30) tp u := fun u N hN => rdT_cg (fun i hi => by rw [hN i hi, q5a i hi]) u
  have o1 : ∀ u, x = nI u → u ≤ 1 → 0 ≤ x ∧ x ≤ 1 := fun u hx hu => by rw [hx]; exact n_ab (a := 0) (b := 1) (by omega) hu (by decide)
  refine c_X11_text (n := tp) (nt := nt) (by omega) hL q1 q4 hB' (fun u hu => ⟨(hS.2.2.1.1 u hu).1, (hS.2.2.1.1 u hu).2.1⟩) (fun u hx hu hok P' J hp j1 j2 j3 j4 => hΦ _ _ _ _ hM.1 fun d' Ψ hd' hΨ => ?_) (fun u hx hu hok P' J hp j1 j2 => hΦ _ _ _ _ hM.1 fun d' Ψ hd' hΨ => ?_) (fun h => hΦ _ _ _ _ hM.1 fun d' Ψ hd' hΨ => c_X12_text (n := tp) (by omega) hM q3 q4 hB (fun u hx hu _ K _ _ _ _ _ _ => absurd (o1 u hx hu) h) (fun u hx hu _ K _ _ _ => absurd (o1 u hx hu) h) (fun _ => hΨ _ hI.err))
  · have e110 : J 110 = I 110 := j1 110 (by decide) (by decide) (by decide) (by omega) (by omega)
    have e109 : J 109 = I 109 := j1 109 (by decide) (by decide) (by decide) (by omega) (by omega)
    have eT : ∀ v, rdT (tM J) tp v = rdT (I 30) tp v := fun v => eR v _ (fun i hi => by show J 110 (98 + i) = _; rw [e110])
    obtain ⟨R, hR⟩ : ∃ R, R = rdT (I 30) tp u := ⟨_, rfl⟩
    have ok := rd_ok hu q4 hok.1
    rw [← hR] at hok ok
    have m := c_X12_text (Γ := Γ) (x := x) (I := J) (P := P') (g := g) (d := d') (Φ := Ψ) (n := tp) (by omega) (hM.pf hp) (by rw [e110]; exact q3) q4 (by rw [e110]; exact hB)
    refine m (fun v hv hv1 hok' K k1 k2 k3 k4 k5 k6 => ?_) (fun v hv hv1 hok' K k1 k2 k3 => ?_) (fun h => absurd (o1 u hx hu) h)
    · have e1 := nI_inj (by omega) (by omega) (hx.symm.trans hv)
      subst e1
      rw [eT, ← hR] at k4 k5
      have f : ∀ a, a ≠ 17 → a ≠ 18 → a ≠ 29 → a ≠ 31 + 2 * u → a ≠ 32 + 2 * u → a ≠ 109 → a ≠ 110 → a ≠ 117 → K a = I a := fun a x1 x2 x3 x4 x5 x6 x7 x8 => (k1 a x6 x7 x8).trans (j1 a x1 x2 x3 x4 x5)
      have em : ∀ y, y ≠ 4 → (y < 168 + 52 * u ∨ 220 + 52 * u ≤ y) → K 110 y = I 110 y := fun y h1 h2 => by rw [k6 y h1 h2, e110]
      have kn : ∀ i, i < tp → K (21 + 11 + 2 * u) i = I 30 i := fun i hi => by rw [show 21 + 11 + 2 * u = 32 + 2 * u by omega, k1 _ (by omega) (by omega) (by omega)]; exact j4 i hi
      have ks : K (31 + 2 * u) 1 = nI tp := by rw [k1 _ (by omega) (by omega) (by omega)]; exact j3
      have eK : rdT (K (21 + 11 + 2 * u)) tp u = R := by rw [hR]; exact rdT_cg kn u
      have k29 : K 29 1 = 0 := by rw [k1 29 (by decide) (by decide) (by decide)]; exact j2
      refine hΨ _ (hI.st hp (fun a x1 x2 x3 x4 x5 x6 _ _ => f a x1 x2 (by omega) (by omega) (by omega) x4 x5 x6) (by rw [k2 3 (by decide) (by decide) (by decide) (by decide) (by decide), e109]) (by rw [k2 21 (by decide) (by decide) (by decide) (by decide) (by decide), e109]) ⟨k, rd, ur nt u tp, ur δ u R.2.2, nl, nd, 0, wt, hS.text hp hu eK hok.1 (Nat.le_antisymm ok.1 (Nat.not_lt.mp hok.2)) ok.2.1 ok.2.2.1 ok.2.2.2 f em ks (fun i hi => by rw [kn i hi]; exact hB' i hi) k29 k3 k4 k5⟩ (by rw [f 28 (by decide) (by decide) (by decide) (by omega) (by omega) (by decide) (by decide) (by decide)]; exact hG.2.2.1))
    · have e1 := nI_inj (by omega) (by omega) (hx.symm.trans hv)
      subst e1
      rw [eT, ← hR] at hok'
      exact absurd hok hok'
  · have e110 : J 110 = I 110 := j1 110 (by decide) (by decide) (by decide)
    have e109 : J 109 = I 109 := j1 109 (by decide) (by decide) (by decide)
    have eT : ∀ v, rdT (tM J) tp v = rdT (I 30) tp v := fun v => eR v _ (fun i hi => by show J 110 (98 + i) = _; rw [e110])
    have m := c_X12_text (Γ := Γ) (x := x) (I := J) (P := P') (g := g) (d := d') (Φ := Ψ) (n := tp) (by omega) (hM.pf hp) (by rw [e110]; exact q3) q4 (by rw [e110]; exact hB)
    refine m (fun v hv hv1 hok' K k1 k2 k3 k4 k5 k6 => ?_) (fun v hv hv1 hok' K k1 k2 k3 => ?_) (fun h => absurd (o1 u hx hu) h)
    · have e1 := nI_inj (by omega) (by omega) (hx.symm.trans hv)
      subst e1
      rw [eT] at hok'
      exact absurd hok' hok
    · have e1 := nI_inj (by omega) (by omega) (hx.symm.trans hv)
      subst e1
      rw [eT]
      rw [e110] at k3
      have f : ∀ a, a ≠ 17 → a ≠ 18 → a ≠ 29 → a ≠ 109 → a ≠ 110 → a ≠ 117 → K a = I a := fun a x1 x2 x3 x6 x7 x8 => (k1 a x6 x7 x8).trans (j1 a x1 x2 x3)
      have em : ∀ y, y ≠ 4 → K 110 y = I 110 y := fun y h1 => by rw [k3]; exact ur_n _ _ h1
      refine hΨ _ (hI.st hp (fun a x1 x2 x3 x4 x5 x6 _ _ => f a x1 x2 (by omega) x4 x5 x6) (by rw [k2 3 (by decide) (by decide) (by decide) (by decide) (by decide), e109]) (by rw [k2 21 (by decide) (by decide) (by decide) (by decide) (by decide), e109]) ⟨k, rd, nt, δ, nl, nd, 0, wt, SP.pf ?_ hp⟩ (by rw [f 28 (by decide) (by decide) (by decide) (by decide) (by decide) (by decide)]; exact hG.2.2.1))
      exact hS.rows (fun a x y => f a (by omega) (by omega) (by omega) (by omega) (by omega) (by omega)) (fun a x => f a (by omega) (by omega) (by omega) (by omega) (by omega) (by omega)) (fun y hy => em y (by omega)) (fun a x y => f a (by omega) (by omega) (by omega) (by omega) (by omega) (by omega)) (fun y hy => em y (by omega)) (hS.2.2.2.1.cg (fun a x y => f a (by omega) (by omega) (by omega) (by omega) (by omega) (by omega)) (em 2 (by decide)) (fun y _ _ => em y (by omega))) (hS.2.2.2.2.1.cg (fun a x y => f a (by omega) (by omega) (by omega) (by omega) (by omega) (by omega)) (em 3 (by decide)) (fun y _ _ => em y (by omega))) ⟨by rw [k1 (21 + 8) (by decide) (by decide) (by decide)]; exact j2, by rw [k3]; exact ur_s _ _ _, by decide, fun i hi => absurd hi (by omega)⟩ (hS.2.2.2.2.2.2.cg (fun a x y => f a (by omega) (by omega) (by omega) (by omega) (by omega) (by omega)) (em 5 (by decide)) (fun y _ _ => em y (by omega)))
end
