/-! sheets and voices -/
section
variable {g : Sh} {P P' : HP} {I J : HI} {B k nl nd tp wt : Nat} {M M' : Nat → Int32} {rd nt : Nat → Nat} {δ : Nat → List Int32}
/-- only sheets and traces are changed -/
theorem IV.sh (h : IV g P I) (f : ∀ a, a ≠ 94 → a ≠ 95 → a ≠ 97 → (a < 101 ∨ 108 < a) → a ≠ 109 → (a < 123 ∨ 127 < a) → J a = I a) (m3 : J 109 3 = I 109 3) (hT : Trq J) (hH : Shq J) : IV g P J := by
  obtain ⟨hLM, hS, ⟨hK, hK2⟩, ⟨⟨a1, a2⟩, a3, a5, a6⟩, hE, -, -, ⟨c1, c2, c3⟩⟩ := h
  have q : ∀ a, a < 94 → J a = I a := fun a y => f a (by omega) (by omega) (by omega) (by omega) (by omega) (by omega)
  have q2 : ∀ a, 110 ≤ a → a < 123 → J a = I a := fun a x y => f a (by omega) (by omega) (by omega) (by omega) (by omega) (by omega)
  have g1 : ∀ a, 128 ≤ a → P a = P a ∧ J a = I a := fun a ha => ⟨rfl, f a (by omega) (by omega) (by omega) (by omega) (by omega) (by omega)⟩
  refine ⟨hLM, ?_, ⟨fun hn => ?_, ?_⟩, ⟨⟨a1.mv (fun a x y => q a (by omega)), a2.mv (fun a x y => q a (by omega))⟩, a3, ?_, ?_⟩, ?_, hT, hH, ?_, ?_, ?_⟩
  · rw [q2 110 (by decide) (by decide)]
    exact hS.mv (fun a x y => q a (by omega)) rfl g1
  · rw [q 16 (by decide)] at hn
    rw [q2 111 (by decide) (by decide)]
    exact (hK hn).mv (fun a x y => q a (by omega)) rfl g1
  · rw [q 16 (by decide), m3]; exact hK2
  · rw [q 28 (by decide)]; exact a5
  · rw [q 76 (by decide)]; exact a6
  · unfold Erq
    rw [q 93 (by decide), q2 113 (by decide) (by decide)]; exact hE
  · rw [q2 114 (by decide) (by decide), q2 115 (by decide) (by decide)]; exact c1
  · rw [f 99 (by decide) (by decide) (by decide) (by decide) (by decide) (by decide), q2 121 (by decide) (by decide)]; exact c2
  · rw [f 100 (by decide) (by decide) (by decide) (by decide) (by decide) (by decide), q2 122 (by decide) (by decide)]; exact c3
theorem Trq.mv (h : Trq I) (e1 : J 94 = I 94) (e2 : J 95 = I 95) (e3 : J 109 21 = I 109 21) (e4 : J 123 = I 123) : Trq J := by
  obtain ⟨kt, t1, t2, t3, t4⟩ := h
  exact ⟨kt, by rw [e1]; exact t1, by rw [e3]; exact t2, t3, by rw [e2, e4]; exact t4⟩
end
section
variable {Γ : GE}
theorem p_sheet {x b n : Int32} : PR Γ mX11_sheet mX12_sheet 0 0 [.ref 16, .int x, .int b, .int n] [.ref 109, .int x, .int b, .int n] := by
  intro g P I d Φ hd hI hΦ
  obtain ⟨⟨hL, hM⟩, -, -, -, -, hT, ⟨sz, s1, s2, s3, s4⟩, -⟩ := id hI
  refine c_X11_sheet (sz := sz) (by omega) hL s1 (fun j m hx hj ho hm hb => hΦ _ _ _ _ hM.1 fun d' Ψ hd' hΨ => ?_) (fun h => hΦ _ _ _ _ hM.1 fun d' Ψ hd' hΨ => ?_) (fun h h1 h2 => hΦ _ _ _ _ hM.1 fun d' Ψ hd' hΨ => ?_) (fun h h1 h2 h3 => hΦ _ _ _ _ hM.1 fun d' Ψ hd' hΨ => ?_)
  · refine c_X12_sheet (by omega) hM (fun j' m' hx' hj' _ hm' hb' => ?_) (fun h => absurd ho h) (fun _ h1 h2 => ?_) (fun _ h1 h2 h3 => ?_)
    · have e1 := nI_inj (by omega) (by omega) (hx.symm.trans hx')
      have e2 : m = m' := by
        rcases hb with ⟨b1, b2⟩ | ⟨b1, b2⟩ <;> rcases hb' with ⟨b3, b4⟩ | ⟨b3, b4⟩
        · rw [b2, b4]
        · exact absurd b1 b3
        · exact absurd b3 b1
        · exact nI_inj (by omega) (by omega) (b2.symm.trans b4)
      subst e1; subst e2
      have f : ∀ a, a ≠ 97 → a ≠ 101 + 2 * j → a ≠ 102 + 2 * j → a ≠ 124 → a ≠ 125 → a ≠ 126 → shM (shI I j m b) j m b a = I a := fun a x1 x2 x3 x4 x5 x6 => by
        unfold shM shI
        rw [ur_n _ _ x6, u2_oth _ x5, u2_oth _ x4, ur_n _ _ x3, u2_oth _ x2, u2_oth _ x1]
      have i1 : ∀ a, a = 124 ∨ a = 125 ∨ a = 126 → shI I j m b a = I a := fun a ha => by
        unfold shI
        rw [ur_n _ _ (by omega), u2_oth _ (by omega), u2_oth _ (by omega)]
      have l1 : ∀ a, a < 124 → shM (shI I j m b) j m b a = shI I j m b a := fun a ha => by
        unfold shM
        rw [ur_n _ _ (by omega), u2_oth _ (by omega), u2_oth _ (by omega)]
      refine hΨ _ (hI.sh (fun a x1 x2 x3 x4 x5 x6 => f a x3 (by omega) (by omega) (by omega) (by omega) (by omega)) (by rw [f 109 (by decide) (by omega) (by omega) (by decide) (by decide) (by decide)]) (hT.mv (f 94 (by decide) (by omega) (by omega) (by decide) (by decide) (by decide)) (f 95 (by decide) (by omega) (by omega) (by decide) (by decide) (by decide)) (by rw [f 109 (by decide) (by omega) (by omega) (by decide) (by decide) (by decide)]) (f 123 (by decide) (by omega) (by omega) (by decide) (by decide) (by decide))) ⟨fun i => if i = j then m else sz i, fun i hi => ?_, fun i hi => ?_, fun i hi => ?_, fun i hi t ht => ?_⟩)
      · show shM (shI I j m b) j m b (101 + 2 * i) 1 = nI (if i = j then m else sz i) ∧ (if i = j then m else sz i) ≤ 40
        rw [l1 _ (by omega)]
        unfold shI
        rw [ur_n _ _ (by omega)]
        by_cases hij : i = j
        · subst hij
          rw [u2_s, if_pos rfl]
          exact ⟨rfl, hm⟩
        · rw [u2_oth _ (by omega), u2_oth _ (by omega), if_neg hij]
          exact s1 i hi
      · show shM (shI I j m b) j m b 125 i = nI (if i = j then m else sz i) ∧ (if i = j then m else sz i) ≤ 40
        have e : shM (shI I j m b) j m b 125 i = if i = j then nI m else I 125 i := by
          unfold shM
          rw [ur_n _ _ (by decide), u2_at, u2_oth _ (by decide), i1 125 (by decide)]
          simp only [true_and]
        rw [e]
        by_cases hij : i = j
        · simp only [if_pos hij]; exact ⟨trivial, hm⟩
        · simp only [if_neg hij]; exact s2 i hi
      · have e : shM (shI I j m b) j m b 124 i = if i = j then b else I 124 i := by
          unfold shM
          rw [ur_n _ _ (by decide), u2_oth _ (by decide), u2_at, i1 124 (by decide)]
          simp only [true_and]
        have e' : shM (shI I j m b) j m b 97 i = if i = j then b else I 97 i := by
          rw [l1 97 (by decide)]
          unfold shI
          rw [ur_n _ _ (by omega), u2_oth _ (by omega), u2_at]
          simp only [true_and]
        rw [e, e', s3 i hi]
      · have ht : t < (if i = j then m else sz i) := ht
        have e : shM (shI I j m b) j m b 126 = zfr (I 126) (40 * j) 40 := by
          unfold shM
          rw [ur_s, i1 126 (by decide)]
        rw [e, l1 _ (by omega)]
        unfold zfr
        by_cases hij : i = j
        · subst hij
          rw [if_pos rfl] at ht
          rw [if_pos (by omega)]
          unfold shI
          rw [ur_s]
          exact if_pos ht
        · rw [if_neg hij] at ht
          have := (s1 i hi).2
          rw [if_neg (by omega)]
          unfold shI
          rw [ur_n _ _ (by omega), u2_oth _ (by omega), u2_oth _ (by omega)]
          exact s4 i hi t ht
    · rcases hb with ⟨b1, b2⟩ | ⟨b1, b2⟩
      · exact absurd b1 h1
      · rw [b2] at h2; exact absurd h2 (nI_pos (by omega))
    · rcases hb with ⟨b1, b2⟩ | ⟨b1, b2⟩
      · exact absurd b1 h1
      · rw [b2] at h3
        exact absurd (i32_lt.mp h3) (by rw [nI_toInt (by omega), show (40 : Int32).toInt = 40 from rfl]; omega)
  · exact c_X12_sheet (by omega) hM (fun _ _ _ _ a _ _ => absurd a h) (fun _ => hΨ _ hI.err) (fun a => absurd a h) (fun a => absurd a h)
  · refine c_X12_sheet (by omega) hM (fun j' m' hx' hj' _ hm' hb' => ?_) (fun a => absurd h a) (fun _ _ _ => hΨ _ hI.err) (fun _ _ a => absurd h2 a)
    rcases hb' with ⟨b1, b2⟩ | ⟨b1, b2⟩
    · exact absurd b1 h1
    · rw [b2] at h2; exact absurd h2 (nI_pos (by omega))
  · refine c_X12_sheet (by omega) hM (fun j' m' hx' hj' _ hm' hb' => ?_) (fun a => absurd h a) (fun _ _ a => absurd a h2) (fun _ _ _ _ => hΨ _ hI.err)
    rcases hb' with ⟨b1, b2⟩ | ⟨b1, b2⟩
    · exact absurd b1 h1
    · rw [b2] at h3
      exact absurd (i32_lt.mp h3) (by rw [nI_toInt (by omega), show (40 : Int32).toInt = 40 from rfl]; omega)
theorem p_put {x i v : Int32} : PR Γ mX11_put mX12_put 0 0 [.ref 16, .int x, .int i, .int v] [.ref 109, .int x, .int i, .int v] := by
  intro g P I d Φ hd hI hΦ
  obtain ⟨⟨hL, hM⟩, -, -, -, -, hT, ⟨sz, s1, s2, s3, s4⟩, -⟩ := id hI
  have o4 : ∀ j, x = nI j → j < 4 → 0 ≤ x ∧ x ≤ 3 := fun j hx hj => by rw [hx]; exact n_ab (a := 0) (b := 3) (by omega) (by omega) (by decide)
  refine c_X11_put (sz := sz) (by omega) hL s1 (fun j m hx hj h0 hi hm => hΦ _ _ _ _ hM.1 fun d' Ψ hd' hΨ => ?_) (fun h => hΦ _ _ _ _ hM.1 fun d' Ψ hd' hΨ => ?_) (fun j hx hj h0 => hΦ _ _ _ _ hM.1 fun d' Ψ hd' hΨ => ?_) (fun j hx hj h0 hn => hΦ _ _ _ _ hM.1 fun d' Ψ hd' hΨ => ?_)
  · have z := (s1 j hj).2
    obtain ⟨J1, hJ1⟩ : ∃ J1, J1 = u2 I (102 + 2 * j) m (lows v (I 97 j)) := ⟨_, rfl⟩
    rw [← hJ1]
    have o : ∀ a, a ≠ 102 + 2 * j → J1 a = I a := fun a ha => by rw [hJ1]; exact u2_oth _ ha
    refine c_X12_put (sz := sz) (by omega) hM (by rw [o 125 (by omega)]; exact s2) (fun j' m' hx' hj' h0' hi' hm' => ?_) (fun h => absurd (o4 j hx hj) h) (fun j' hx' hj' h0' => ?_) (fun j' hx' hj' h0' hn => ?_)
    · have e1 := nI_inj (by omega) (by omega) (hx.symm.trans hx')
      have z' := (s1 j' hj').2
      have e2 := nI_inj (by omega) (by omega) (hi.symm.trans hi')
      subst e1; subst e2
      rw [o 124 (by omega), ← s3 j hj]
      have f : ∀ a, a ≠ 102 + 2 * j → a ≠ 126 → u2 J1 126 (40 * j + m) (lows v (I 97 j)) a = I a := fun a x1 x2 => (u2_oth _ x2).trans (o a x1)
      refine hΨ _ (hI.sh (fun a x1 x2 x3 x4 x5 x6 => f a (by omega) (by omega)) (by rw [f 109 (by omega) (by decide)]) (hT.mv (f 94 (by omega) (by decide)) (f 95 (by omega) (by decide)) (by rw [f 109 (by omega) (by decide)]) (f 123 (by omega) (by decide))) ⟨sz, fun i hi => by rw [f _ (by omega) (by omega)]; exact s1 i hi, by rw [f 125 (by omega) (by decide)]; exact s2, by rw [f 97 (by omega) (by decide), f 124 (by omega) (by decide)]; exact s3, fun a ha t ht => ?_⟩)
      rw [u2_oth _ (show 102 + 2 * a ≠ 126 by omega), u2_at, o 126 (by omega), hJ1, u2_at]
      have za := (s1 a ha).2
      by_cases c : a = j ∧ t = m
      · rw [if_pos ⟨by omega, c.2⟩, if_pos ⟨rfl, by omega⟩]
      · rw [if_neg (by omega), if_neg (by omega)]
        exact s4 a ha t ht
    · have e1 := nI_inj (by omega) (by omega) (hx.symm.trans hx')
      subst e1
      rw [o 124 (by omega), ← s3 j hj] at h0'
      exact absurd h0' h0
    · have e1 := nI_inj (by omega) (by omega) (hx.symm.trans hx')
      subst e1
      exact absurd (by rw [hi]; exact nat_in (by omega) hm) hn
  · exact c_X12_put (sz := sz) (by omega) hM s2 (fun j _ hx hj _ _ _ => absurd (o4 j hx hj) h) (fun _ => hΨ _ hI.err) (fun j hx hj _ => absurd (o4 j hx hj) h) (fun j hx hj _ _ => absurd (o4 j hx hj) h)
  · refine c_X12_put (sz := sz) (by omega) hM s2 (fun j' _ hx' hj' h0' _ _ => ?_) (fun h => absurd (o4 j hx hj) h) (fun _ _ _ _ => hΨ _ hI.err) (fun j' hx' hj' h0' _ => ?_)
    · have e1 := nI_inj (by omega) (by omega) (hx.symm.trans hx')
      subst e1
      exact absurd (show I 124 j = 0 by rw [← s3 j hj]; exact h0) h0'
    · have e1 := nI_inj (by omega) (by omega) (hx.symm.trans hx')
      subst e1
      exact absurd (show I 124 j = 0 by rw [← s3 j hj]; exact h0) h0'
  · have z := (s1 j hj).2
    refine c_X12_put (sz := sz) (by omega) hM s2 (fun j' m' hx' hj' h0' hi' hm' => ?_) (fun h => absurd (o4 j hx hj) h) (fun j' hx' hj' h0' => ?_) (fun _ _ _ _ _ => hΨ _ hI.err)
    · have e1 := nI_inj (by omega) (by omega) (hx.symm.trans hx')
      subst e1
      exact absurd (by rw [hi']; exact nat_in (by omega) hm') hn
    · have e1 := nI_inj (by omega) (by omega) (hx.symm.trans hx')
      subst e1
      exact absurd (show I 97 j = 0 by rw [s3 j hj]; exact h0') h0
end
