/-! calls that change the rows of the live state -/
section
variable {g : Sh} {P P' : HP} {I J : HI} {B k nl nd tp wt nl' nd' tp' wt' : Nat} {M M' : Nat → Int32} {rd nt : Nat → Nat} {δ : Nat → List Int32}
theorem SP.rows (h : SP g P I 21 M k rd nt δ nl nd tp wt) (hJ : ∀ a, 21 ≤ a → a < 29 → J a = I a) (hJr : ∀ a, 128 ≤ a → J a = I a) (hM : ∀ y, y < 2 ∨ (6 ≤ y ∧ y < 72) → M' y = M y) (hT : ∀ a, 31 ≤ a → a ≤ 34 → J a = I a) (hT2 : ∀ y, 168 ≤ y → M' y = M y) (hl : LN J 21 M' nl') (hd : LD J 21 M' nd') (ht : TP J 21 M' tp') (hw : WT J 21 M' wt') : SP g P J 21 M' k rd nt δ nl' nd' tp' wt' :=
  h.set (fun a x y => hJ a (by omega) y) (by rw [hJ 21 (by decide) (by decide)]) (by rw [hJ 21 (by decide) (by decide)]) (by rw [hJ 21 (by decide) (by decide), hM 6 (by omega)]; exact h.1.2.2) hJr (fun y hy => hM y (by omega)) hT hT2 hl hd ht hw
theorem ad2_o {r r' n a : Nat} {s t : Int32} (h1 : a ≠ r) (h2 : a ≠ r + 1) (h3 : a ≠ r') (h4 : a ≠ r' + 1) : ad2 I r r' n s t a = I a := by
  unfold ad2
  rw [u2_oth _ h3, u2_oth _ h4, u2_oth _ h1, u2_oth _ h2]
theorem ad2M_o {c b n y : Nat} {s t : Int32} (h1 : y ≠ c) (h2 : y ≠ b + 2 * n) (h3 : y ≠ b + 2 * n + 1) : ad2M M c b n s t y = M y := by
  unfold ad2M
  rw [ur_n _ _ h1, ur_n _ _ h3, ur_n _ _ h2]
theorem ad2M_a {c b n : Nat} {s t : Int32} (h1 : c < b) : ad2M M c b n s t (b + 2 * n) = s := by
  unfold ad2M
  rw [ur_n (a := c) _ _ (by omega), ur_n (a := b + 2 * n + 1) _ _ (by omega), ur_s]
theorem ad2M_b {c b n : Nat} {s t : Int32} (h1 : c < b) : ad2M M c b n s t (b + 2 * n + 1) = t := by
  unfold ad2M
  rw [ur_n (a := c) _ _ (by omega), ur_s]
theorem ad2M_c {c b n : Nat} {s t : Int32} : ad2M M c b n s t c = nI (n + 1) := ur_s _ _ _
theorem LN.add (h : LN I 21 M nl) (hn : nl < 8) (s t : Int32) : LN (ad2 I 35 37 nl s t) 21 (ad2M M 2 72 nl s t) (nl + 1) := by
  obtain ⟨q1, q2, q3, q4, q5⟩ := h
  unfold ad2
  refine ⟨?_, u2_s _ _ _ _, ad2M_c, hn, fun i hi => ?_⟩
  · show u2 _ 37 1 _ 35 1 = _
    rw [u2_oth _ (by decide), u2_oth _ (by decide), u2_s]
  · show u2 (u2 (u2 (u2 I 36 nl s) 35 1 _) 38 nl t) 37 1 _ 36 i = _ ∧ u2 (u2 (u2 (u2 I 36 nl s) 35 1 _) 38 nl t) 37 1 _ 38 i = _
    rw [u2_oth _ (by decide : (36 : Nat) ≠ 37), u2_oth _ (by decide : (36 : Nat) ≠ 38), u2_oth _ (by decide : (36 : Nat) ≠ 35), u2_oth _ (by decide : (38 : Nat) ≠ 37)]
    by_cases e : i = nl
    · subst e
      rw [u2_s, u2_s, ad2M_a (by decide), ad2M_b (by decide)]
      exact ⟨rfl, rfl⟩
    · rw [u2_o (fun h => e h.2), u2_o (fun h => e h.2), u2_oth _ (by decide : (38 : Nat) ≠ 35), u2_oth _ (by decide : (38 : Nat) ≠ 36), ad2M_o (y := 72 + 2 * i) (by omega) (by omega) (by omega), ad2M_o (y := 72 + 2 * i + 1) (by omega) (by omega) (by omega)]
      exact q5 i (by omega)
theorem LD.add (h : LD I 21 M nd) (hn : nd < 5) {t s : Int32} (ho : okD t s) : LD (ad2 I 39 41 nd t s) 21 (ad2M M 3 88 nd t s) (nd + 1) := by
  obtain ⟨q1, q2, q3, q4, q5⟩ := h
  unfold ad2
  refine ⟨?_, u2_s _ _ _ _, ad2M_c, hn, fun i hi => ?_⟩
  · show u2 _ 41 1 _ 39 1 = _
    rw [u2_oth _ (by decide), u2_oth _ (by decide), u2_s]
  · show u2 (u2 (u2 (u2 I 40 nd t) 39 1 _) 42 nd s) 41 1 _ 40 i = _ ∧ u2 (u2 (u2 (u2 I 40 nd t) 39 1 _) 42 nd s) 41 1 _ 42 i = _ ∧ _
    rw [u2_oth _ (by decide : (40 : Nat) ≠ 41), u2_oth _ (by decide : (40 : Nat) ≠ 42), u2_oth _ (by decide : (40 : Nat) ≠ 39), u2_oth _ (by decide : (42 : Nat) ≠ 41)]
    by_cases e : i = nd
    · subst e
      rw [u2_s, u2_s, ad2M_a (by decide), ad2M_b (by decide)]
      exact ⟨rfl, rfl, ho⟩
    · rw [u2_o (fun h => e h.2), u2_o (fun h => e h.2), u2_oth _ (by decide : (42 : Nat) ≠ 39), u2_oth _ (by decide : (42 : Nat) ≠ 40), ad2M_o (y := 88 + 2 * i) (by omega) (by omega) (by omega), ad2M_o (y := 88 + 2 * i + 1) (by omega) (by omega) (by omega)]
      exact q5 i (by omega)
theorem lnT_cg {f f' : Nat → Int32} {s n0 : Nat} (h : ∀ t, t < s → f t = f' t) : ∀ u n, lnT f s n0 u n = lnT f' s n0 u n
  | 0, _ => rfl
  | u + 1, n => by
    have ih := lnT_cg (n0 := n0) h u (n + 1)
    unfold lnT
    by_cases hc : lnc f s n0 n
    · have hc' : lnc f' s n0 n := ⟨hc.1, hc.2.1, by rw [← h (2 * n) (by have := hc.1; omega), ← h (2 * n + 1) (by have := hc.1; omega)]; exact hc.2.2⟩
      rw [if_pos hc, if_pos hc', ih]
    · have hc' : ¬ lnc f' s n0 n := fun q => hc ⟨q.1, q.2.1, by rw [h (2 * n) (by have := q.1; omega), h (2 * n + 1) (by have := q.1; omega)]; exact q.2.2⟩
      rw [if_neg hc, if_neg hc']
theorem lnT_b {f : Nat → Int32} {s n0 : Nat} : ∀ u n, 2 * n ≤ s → n0 + n ≤ 8 → 2 * lnT f s n0 u n ≤ s ∧ n0 + lnT f s n0 u n ≤ 8
  | 0, _, h1, h2 => ⟨h1, h2⟩
  | u + 1, n, h1, h2 => by
    unfold lnT
    by_cases hc : lnc f s n0 n
    · rw [if_pos hc]; exact lnT_b u (n + 1) (by have := hc.1; omega) (by have := hc.2.1; omega)
    · rw [if_neg hc]; exact ⟨h1, h2⟩
theorem LN.adds {f f' : Nat → Int32} {s : Nat} (h : LN I 21 M nl) (hf : ∀ t, t < s → f t = f' t) : ∀ n, 2 * n ≤ s → nl + n ≤ 8 → LN (adC I f nl n) 21 (adM M f' nl n) (nl + n)
  | 0, _, _ => h
  | n + 1, h1, h2 => by
    have ih := LN.adds h hf n (by omega) (by omega)
    unfold adC adM
    rw [← hf (2 * n) (by omega), ← hf (2 * n + 1) (by omega)]
    exact ih.add (by omega) _ _
theorem adM_o {f : Nat → Int32} {y : Nat} (h1 : y ≠ 2) (h2 : y < 72 ∨ 88 ≤ y) : ∀ n, nl + n ≤ 8 → adM M f nl n y = M y
  | 0, _ => rfl
  | n + 1, hn => by
    unfold adM
    rw [ad2M_o h1 (by omega) (by omega)]
    exact adM_o h1 h2 n (by omega)
end
section
variable {Γ : GE}
theorem p_unload : PR Γ mX11_unload mX12_unload 0 0 [.ref 16] [.ref 109] := by
  intro g P I d Φ hd hI hΦ
  obtain ⟨⟨hL, hM⟩, ⟨k, rd, nt, δ, nl, nd, tp, wt, hS⟩, -, hG, -⟩ := id hI
  obtain ⟨q1, q2, q3, q4, q5⟩ := hS.2.2.2.2.1
  refine c_X11_unload (by omega) hL q1 q2 q4 (hΦ _ _ _ _ hM.1 fun d' Ψ hd' hΨ => c_X12_unload (by omega) hM ?_)
  show Ψ (some (.int (I 110 3))) _ _ _
  rw [q3]
  have e : ∀ a, a ≠ 39 → a ≠ 41 → a ≠ 110 → u2 (u2 (u2 I 39 1 0) 41 1 0) 110 3 0 a = I a := fun a x y z => (u2_oth _ z).trans ((u2_oth _ y).trans (u2_oth _ x))
  have em : ∀ y, y ≠ 3 → u2 (u2 (u2 I 39 1 0) 41 1 0) 110 3 0 110 y = I 110 y := fun y hy => u2_o (fun h => hy h.2)
  refine hΨ _ (hI.st (PF.refl P) (fun a _ _ x _ y _ _ _ => e a (by omega) (by omega) y) rfl rfl ⟨k, rd, nt, δ, nl, 0, tp, wt, ?_⟩ hG.2.2.1)
  exact hS.rows (fun a x y => e a (by omega) (by omega) (by omega)) (fun a x => e a (by omega) (by omega) (by omega)) (fun y hy => em y (by omega)) (fun a x y => e a (by omega) (by omega) (by omega)) (fun y hy => em y (by omega)) (hS.2.2.2.1.cg (fun a x y => e a (by omega) (by omega) (by omega)) (em 2 (by decide)) (fun y _ _ => em y (by omega))) ⟨rfl, rfl, rfl, by decide, fun i hi => absurd hi (by omega)⟩ (hS.2.2.2.2.2.1.cg (fun a x y => e a (by omega) (by omega) (by omega)) (em 4 (by decide)) (fun y _ _ => em y (by omega))) (hS.2.2.2.2.2.2.cg (fun a x y => e a (by omega) (by omega) (by omega)) (em 5 (by decide)) (fun y _ _ => em y (by omega)))
theorem p_tell {v : Int32} : PR Γ mX11_tell mX12_tell 0 0 [.ref 16, .int v] [.ref 109, .int v] := by
  intro g P I d Φ hd hI hΦ
  obtain ⟨⟨hL, hM⟩, ⟨k, rd, nt, δ, nl, nd, tp, wt, hS⟩, -, hG, -⟩ := id hI
  obtain ⟨q1, q3, q4, q5⟩ := hS.2.2.2.2.2.2
  refine c_X11_tell (by omega) hL q1 q4 (fun hw => hΦ _ _ _ _ hM.1 fun d' Ψ hd' hΨ => c_X12_tell (k := wt) (by omega) hM q3 q4 (fun _ => ?_) (fun h => by omega)) (fun hw => hΦ _ _ _ _ hM.1 fun d' Ψ hd' hΨ => c_X12_tell (k := wt) (by omega) hM q3 q4 (fun h => by omega) (fun _ => hΨ _ hI.err))
  have e : ∀ a, a ≠ 43 → a ≠ 44 → a ≠ 110 → u2 (u2 (u2 (u2 I 44 wt v) 43 1 (nI (wt + 1))) 110 (148 + wt) v) 110 5 (nI (wt + 1)) a = I a := fun a x y z => (u2_oth _ z).trans ((u2_oth _ z).trans ((u2_oth _ x).trans (u2_oth _ y)))
  have em : ∀ y, y ≠ 5 → y ≠ 148 + wt → u2 (u2 (u2 (u2 I 44 wt v) 43 1 (nI (wt + 1))) 110 (148 + wt) v) 110 5 (nI (wt + 1)) 110 y = I 110 y := fun y hy hz => (u2_o (fun h => hy h.2)).trans (u2_o (fun h => hz h.2))
  refine hΨ _ (hI.st (PF.refl P) (fun a _ _ x _ y _ _ _ => e a (by omega) (by omega) y) rfl rfl ⟨k, rd, nt, δ, nl, nd, tp, wt + 1, ?_⟩ hG.2.2.1)
  refine hS.rows (fun a x y => e a (by omega) (by omega) (by omega)) (fun a x => e a (by omega) (by omega) (by omega)) (fun y hy => em y (by omega) (by omega)) (fun a x y => e a (by omega) (by omega) (by omega)) (fun y hy => em y (by omega) (by omega)) (hS.2.2.2.1.cg (fun a x y => e a (by omega) (by omega) (by omega)) (em 2 (by decide) (by omega)) (fun y _ _ => em y (by omega) (by omega))) (hS.2.2.2.2.1.cg (fun a x y => e a (by omega) (by omega) (by omega)) (em 3 (by decide) (by omega)) (fun y _ _ => em y (by omega) (by omega))) (hS.2.2.2.2.2.1.cg (fun a x y => e a (by omega) (by omega) (by omega)) (em 4 (by decide) (by omega)) (fun y _ _ => em y (by omega) (by omega))) ⟨?_, u2_s _ _ _ _, hw, fun i hi => ?_⟩
  · show u2 (u2 (u2 (u2 I 44 wt v) 43 1 (nI (wt + 1))) 110 (148 + wt) v) 110 5 (nI (wt + 1)) 43 1 = _
    rw [u2_oth _ (by decide), u2_oth _ (by decide), u2_s]
  · show u2 (u2 (u2 (u2 I 44 wt v) 43 1 (nI (wt + 1))) 110 (148 + wt) v) 110 5 (nI (wt + 1)) 44 i = _
    rw [u2_oth _ (by decide : (44 : Nat) ≠ 110), u2_oth _ (by decide : (44 : Nat) ≠ 110), u2_oth _ (by decide : (44 : Nat) ≠ 43)]
    by_cases hiw : i = wt
    · subst hiw
      rw [u2_s, u2_o (fun h => by omega), u2_s]
    · rw [u2_o (fun h => hiw h.2), em (148 + i) (by omega) (by omega)]
      exact q5 i (by omega)
theorem p_line {s t : Int32} : PR Γ mX11_line mX12_line 0 0 [.ref 16, .int s, .int t] [.ref 109, .int s, .int t] := by
  intro g P I d Φ hd hI hΦ
  obtain ⟨⟨hL, hM⟩, ⟨k, rd, nt, δ, nl, nd, tp, wt, hS⟩, -, hG, -⟩ := id hI
  have hl := hS.2.2.2.1
  obtain ⟨q1, q2, q3, q4, q5⟩ := id hl
  refine c_X11_line (by omega) hL q1 q2 q4 (fun ho h8 => hΦ _ _ _ _ hM.1 fun d' Ψ hd' hΨ => c_X12_line (k := nl) (by omega) hM q3 q4 (fun _ _ => ?_) (fun h => absurd ho h) (fun _ h => by omega)) (fun ho => hΦ _ _ _ _ hM.1 fun d' Ψ hd' hΨ => c_X12_line (k := nl) (by omega) hM q3 q4 (fun h => absurd h ho) (fun _ => hΨ _ hI.err) (fun h => absurd h ho)) (fun ho h8 => hΦ _ _ _ _ hM.1 fun d' Ψ hd' hΨ => c_X12_line (k := nl) (by omega) hM q3 q4 (fun _ h => by omega) (fun h => absurd ho h) (fun _ _ => hΨ _ hI.err))
  have o110 : ad2 I 35 37 nl s t 110 = I 110 := ad2_o (by decide) (by decide) (by decide) (by decide)
  rw [o110]
  have e : ∀ a, (a < 35 ∨ 38 < a) → a ≠ 110 → ur (ad2 I 35 37 nl s t) 110 (ad2M (I 110) 2 72 nl s t) a = I a := fun a x z => (ur_n _ _ z).trans (ad2_o (by omega) (by omega) (by omega) (by omega))
  have e0 : ur (ad2 I 35 37 nl s t) 110 (ad2M (I 110) 2 72 nl s t) 110 = ad2M (I 110) 2 72 nl s t := ur_s _ _ _
  have em : ∀ y, y ≠ 2 → (y < 72 ∨ 88 ≤ y) → ad2M (I 110) 2 72 nl s t y = I 110 y := fun y hy hz => ad2M_o hy (by omega) (by omega)
  refine hΨ _ (hI.st (PF.refl P) (fun a _ _ x _ y _ _ _ => e a (by omega) y) rfl rfl ⟨k, rd, nt, δ, nl + 1, nd, tp, wt, ?_⟩ hG.2.2.1)
  rw [e0]
  exact hS.rows (fun a x y => e a (by omega) (by omega)) (fun a x => e a (by omega) (by omega)) (fun y hy => em y (by omega) (by omega)) (fun a x y => e a (by omega) (by omega)) (fun y hy => em y (by omega) (by omega)) ((hl.add h8 s t).cg (fun a x y => ur_n _ _ (by omega)) rfl (fun _ _ _ => rfl)) (hS.2.2.2.2.1.cg (fun a x y => e a (by omega) (by omega)) (em 3 (by decide) (by omega)) (fun y _ _ => em y (by omega) (by omega))) (hS.2.2.2.2.2.1.cg (fun a x y => e a (by omega) (by omega)) (em 4 (by decide) (by omega)) (fun y _ _ => em y (by omega) (by omega))) (hS.2.2.2.2.2.2.cg (fun a x y => e a (by omega) (by omega)) (em 5 (by decide) (by omega)) (fun y _ _ => em y (by omega) (by omega)))
theorem p_load {s t : Int32} : PR Γ mX11_load mX12_load 0 0 [.ref 16, .int t, .int s] [.ref 109, .int t, .int s] := by
  intro g P I d Φ hd hI hΦ
  obtain ⟨⟨hL, hM⟩, ⟨k, rd, nt, δ, nl, nd, tp, wt, hS⟩, -, hG, -⟩ := id hI
  have hl := hS.2.2.2.2.1
  obtain ⟨q1, q2, q3, q4, q5⟩ := id hl
  refine c_X11_load (by omega) hL q1 q2 q4 (fun ho h8 => hΦ _ _ _ _ hM.1 fun d' Ψ hd' hΨ => c_X12_load (k := nd) (by omega) hM q3 q4 (fun _ _ => ?_) (fun h => absurd ho h) (fun _ h => by omega)) (fun ho => hΦ _ _ _ _ hM.1 fun d' Ψ hd' hΨ => c_X12_load (k := nd) (by omega) hM q3 q4 (fun h => absurd h ho) (fun _ => hΨ _ hI.err) (fun h => absurd h ho)) (fun ho h8 => hΦ _ _ _ _ hM.1 fun d' Ψ hd' hΨ => c_X12_load (k := nd) (by omega) hM q3 q4 (fun _ h => by omega) (fun h => absurd ho h) (fun _ _ => hΨ _ hI.err))
  have o110 : ad2 I 39 41 nd t s 110 = I 110 := ad2_o (by decide) (by decide) (by decide) (by decide)
  rw [o110]
  have e : ∀ a, (a < 39 ∨ 42 < a) → a ≠ 110 → ur (ad2 I 39 41 nd t s) 110 (ad2M (I 110) 3 88 nd t s) a = I a := fun a x z => (ur_n _ _ z).trans (ad2_o (by omega) (by omega) (by omega) (by omega))
  have e0 : ur (ad2 I 39 41 nd t s) 110 (ad2M (I 110) 3 88 nd t s) 110 = ad2M (I 110) 3 88 nd t s := ur_s _ _ _
  have em : ∀ y, y ≠ 3 → (y < 88 ∨ 98 ≤ y) → ad2M (I 110) 3 88 nd t s y = I 110 y := fun y hy hz => ad2M_o hy (by omega) (by omega)
  refine hΨ _ (hI.st (PF.refl P) (fun a _ _ x _ y _ _ _ => e a (by omega) y) rfl rfl ⟨k, rd, nt, δ, nl, nd + 1, tp, wt, ?_⟩ hG.2.2.1)
  rw [e0]
  exact hS.rows (fun a x y => e a (by omega) (by omega)) (fun a x => e a (by omega) (by omega)) (fun y hy => em y (by omega) (by omega)) (fun a x y => e a (by omega) (by omega)) (fun y hy => em y (by omega) (by omega)) (hS.2.2.2.1.cg (fun a x y => e a (by omega) (by omega)) (em 2 (by decide) (by omega)) (fun y _ _ => em y (by omega) (by omega))) ((hl.add h8 ho).cg (fun a x y => ur_n _ _ (by omega)) rfl (fun _ _ _ => rfl)) (hS.2.2.2.2.2.1.cg (fun a x y => e a (by omega) (by omega)) (em 4 (by decide) (by omega)) (fun y _ _ => em y (by omega) (by omega))) (hS.2.2.2.2.2.2.cg (fun a x y => e a (by omega) (by omega)) (em 5 (by decide) (by omega)) (fun y _ _ => em y (by omega) (by omega)))
theorem p_lines {x : Int32} : PR Γ mX11_lines mX12_lines 0 0 [.ref 16, .int x] [.ref 109, .int x] := by
  intro g P I d Φ hd hI hΦ
  obtain ⟨⟨hL, hM⟩, ⟨k, rd, nt, δ, nl, nd, tp, wt, hS⟩, -, hG, -, -, ⟨sz, s1, s2, s3, s4⟩, -⟩ := id hI
  have hl := hS.2.2.2.1
  obtain ⟨q1, q2, q3, q4, q5⟩ := id hl
  refine c_X11_lines (sz := sz) (by omega) hL s1 q1 q2 q4 (fun j hx hj hb => hΦ _ _ _ _ hM.1 fun d' Ψ hd' hΨ => ?_) (fun h => hΦ _ _ _ _ hM.1 fun d' Ψ hd' hΨ => c_X12_lines (k := nl) (sz := sz) (by omega) hM s2 q3 q4 (fun j hx hj _ => absurd (by rw [hx]; exact n_ab (a := 0) (b := 3) (by omega) (by omega) (by decide)) h) (fun _ => hΨ _ hI.err) (fun j hx hj _ => absurd (by rw [hx]; exact n_ab (a := 0) (b := 3) (by omega) (by omega) (by decide)) h)) (fun j hx hj hb => hΦ _ _ _ _ hM.1 fun d' Ψ hd' hΨ => c_X12_lines (k := nl) (sz := sz) (by omega) hM s2 q3 q4 (fun j' hx' hj' hb' => ?_) (fun h => absurd (by rw [hx]; exact n_ab (a := 0) (b := 3) (by omega) (by omega) (by decide)) h) (fun _ _ _ _ => hΨ _ hI.err))
  · have hb' := hb
    have ef : ∀ t, t < sz j → I (102 + 2 * j) t = I 126 (40 * j + t) := s4 j hj
    have en := lnT_cg (n0 := nl) ef 8 0
    have bn := lnT_b (f := I (102 + 2 * j)) (s := sz j) (n0 := nl) 8 0 (by omega) (by omega)
    have hd := hl.adds ef (lnT (I (102 + 2 * j)) (sz j) nl 8 0) bn.1 bn.2
    generalize lnT (I (102 + 2 * j)) (sz j) nl 8 0 = n at en bn hd hΨ ⊢
    generalize hJ1 : adC I (I (102 + 2 * j)) nl n = J1 at hd ⊢
    have o1 : ∀ a, (a < 35 ∨ 38 < a) → J1 a = I a := fun a x => by rw [← hJ1]; exact adC_o I _ nl a ⟨by omega, by omega, by omega, by omega⟩ n
    have o110 : J1 110 = I 110 := o1 110 (by decide)
    have o126 : J1 126 = I 126 := o1 126 (by decide)
    refine c_X12_lines (k := nl) (sz := sz) (by omega) hM (by rw [o1 125 (by decide)]; exact s2) (by rw [o110]; exact q3) q4 (fun j' hx' hj' hb' => ?_) (fun h => absurd (by rw [hx]; exact n_ab (a := 0) (b := 3) (by omega) (by omega) (by decide)) h) (fun j' hx' hj' hb' => ?_)
    · have e1 := nI_inj (by omega) (by omega) (hx.symm.trans hx')
      subst e1
      rw [o126, o110, ← en]
      have e : ∀ a, (a < 35 ∨ 38 < a) → a ≠ 110 → ur J1 110 (adM (I 110) (fun t => I 126 (40 * j + t)) nl n) a = I a := fun a x z => (ur_n _ _ z).trans (o1 a x)
      have e0 : ur J1 110 (adM (I 110) (fun t => I 126 (40 * j + t)) nl n) 110 = adM (I 110) (fun t => I 126 (40 * j + t)) nl n := ur_s _ _ _
      have em : ∀ y, y ≠ 2 → (y < 72 ∨ 88 ≤ y) → adM (I 110) (fun t => I 126 (40 * j + t)) nl n y = I 110 y := fun y hy hz => adM_o hy hz n bn.2
      refine hΨ _ (hI.st (PF.refl P) (fun a _ _ x _ y _ _ _ => e a (by omega) y) (by rw [e 109 (by decide) (by decide)]) (by rw [e 109 (by decide) (by decide)]) ⟨k, rd, nt, δ, nl + n, nd, tp, wt, ?_⟩ (by rw [e 28 (by decide) (by decide)]; exact hG.2.2.1))
      rw [e0]
      exact hS.rows (fun a x y => e a (by omega) (by omega)) (fun a x => e a (by omega) (by omega)) (fun y hy => em y (by omega) (by omega)) (fun a x y => e a (by omega) (by omega)) (fun y hy => em y (by omega) (by omega)) (hd.cg (fun a x y => ur_n _ _ (by omega)) rfl (fun _ _ _ => rfl)) (hS.2.2.2.2.1.cg (fun a x y => e a (by omega) (by omega)) (em 3 (by decide) (by omega)) (fun y _ _ => em y (by omega) (by omega))) (hS.2.2.2.2.2.1.cg (fun a x y => e a (by omega) (by omega)) (em 4 (by decide) (by omega)) (fun y _ _ => em y (by omega) (by omega))) (hS.2.2.2.2.2.2.cg (fun a x y => e a (by omega) (by omega)) (em 5 (by decide) (by omega)) (fun y _ _ => em y (by omega) (by omega)))
    · have e1 := nI_inj (by omega) (by omega) (hx.symm.trans hx')
      subst e1
      rw [o1 124 (by decide), ← s3 j hj] at hb'
      exact absurd hb' hb
  · have e1 := nI_inj (by omega) (by omega) (hx.symm.trans hx')
    subst e1
    exact absurd (by show I 124 j = 0; rw [← s3 j hj]; exact hb) hb'
theorem p_feed {w : Int64} {y : Int32} : PR Γ mX11_feed mX12_feed 0 0 [.ref 16, .long w, .int y] [.ref 109, .long w, .int y] := by
  intro g P I d Φ hd hI hΦ
  obtain ⟨⟨hL, hM⟩, ⟨k, rd, nt, δ, nl, nd, tp, wt, hS⟩, -, hG, -⟩ := id hI
  obtain ⟨q1, q3, q4, q5⟩ := hS.2.2.2.2.2.1
  refine c_X11_feed (by omega) hL q1 q4 (fun n hy n1 n8 n50 J j1 j2 j3 j4 => hΦ _ _ _ _ hM.1 fun d' Ψ hd' hΨ => ?_) (fun h => hΦ _ _ _ _ hM.1 fun d' Ψ hd' hΨ => c_X12_feed (t := tp) (by omega) hM q3 q4 (fun n hy n1 n8 _ K _ _ _ _ => absurd (by rw [hy]; exact n_ab (a := 1) n1 n8 (by decide)) h) (fun _ => hΨ _ hI.err) (fun n hy n1 n8 _ => absurd (by rw [hy]; exact n_ab (a := 1) n1 n8 (by decide)) h)) (fun n hy n1 n8 n50 => hΦ _ _ _ _ hM.1 fun d' Ψ hd' hΨ => c_X12_feed (t := tp) (by omega) hM q3 q4 (fun n' hy' _ _ h' K _ _ _ _ => ?_) (fun h => absurd (by rw [hy]; exact n_ab (a := 1) n1 n8 (by decide)) h) (fun _ _ _ _ _ => hΨ _ hI.err))
  · have o110 : J 110 = I 110 := j1 110 (by decide) (by decide)
    refine c_X12_feed (t := tp) (by omega) hM (by rw [o110]; exact q3) q4 (fun n' hy' _ _ _ K k1 k2 k3 k4 => ?_) (fun h => absurd (by rw [hy]; exact n_ab (a := 1) n1 n8 (by decide)) h) (fun n' hy' _ _ h' => ?_)
    · have e1 := nI_inj (by omega) (by omega) (hy.symm.trans hy')
      subst e1
      have e : ∀ a, a ≠ 29 → a ≠ 30 → a ≠ 110 → K a = I a := fun a x1 x2 x3 => (k1 a x3).trans (j1 a x1 x2)
      have em : ∀ z, z ≠ 4 → (z < 98 ∨ 148 ≤ z) → K 110 z = I 110 z := fun z h1 h2 => by rw [k4 z h1 (by omega), o110]
      refine hΨ _ (hI.st (PF.refl P) (fun a _ _ x _ y _ _ _ => e a (by omega) (by omega) y) (by rw [e 109 (by decide) (by decide) (by decide)]) (by rw [e 109 (by decide) (by decide) (by decide)]) ⟨k, rd, nt, δ, nl, nd, tp + n, wt, ?_⟩ (by rw [e 28 (by decide) (by decide) (by decide)]; exact hG.2.2.1))
      refine hS.rows (fun a x y => e a (by omega) (by omega) (by omega)) (fun a x => e a (by omega) (by omega) (by omega)) (fun y hy => em y (by omega) (by omega)) (fun a x y => e a (by omega) (by omega) (by omega)) (fun y hy => em y (by omega) (by omega)) (hS.2.2.2.1.cg (fun a x y => e a (by omega) (by omega) (by omega)) (em 2 (by decide) (by omega)) (fun y _ _ => em y (by omega) (by omega))) (hS.2.2.2.2.1.cg (fun a x y => e a (by omega) (by omega) (by omega)) (em 3 (by decide) (by omega)) (fun y _ _ => em y (by omega) (by omega))) ⟨?_, k2, n50, fun i hi => ?_⟩ (hS.2.2.2.2.2.2.cg (fun a x y => e a (by omega) (by omega) (by omega)) (em 5 (by decide) (by omega)) (fun y _ _ => em y (by omega) (by omega)))
      · rw [k1 (21 + 8) (by decide)]; exact j2
      · rw [k1 (21 + 9) (by decide)]
        by_cases hi2 : i < tp
        · rw [k4 (98 + i) (by omega) (by omega), o110]
          exact ⟨by show J 30 i = _; rw [j4 i hi2]; exact (q5 i hi2).1, (q5 i hi2).2⟩
        · have hK := k3 (i - tp) (by omega)
          have hJ := j3 (i - tp) (by omega)
          rw [show 98 + tp + (i - tp) = 98 + i by omega] at hK
          rw [show tp + (i - tp) = i by omega] at hJ
          rw [hK]
          exact ⟨hJ, bt_b w (i - tp)⟩
    · have e1 := nI_inj (by omega) (by omega) (hy.symm.trans hy')
      omega
  · have e1 := nI_inj (by omega) (by omega) (hy.symm.trans hy')
    omega
end
