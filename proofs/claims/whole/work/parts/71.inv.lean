/-! the class and the model side by side -/
def LN (I : HI) (B : Nat) (M : Nat → Int32) (nl : Nat) : Prop := I (B + 14) 1 = nI nl ∧ I (B + 16) 1 = nI nl ∧ M 2 = nI nl ∧ nl ≤ 8 ∧ ∀ i, i < nl → I (B + 15) i = M (72 + 2 * i) ∧ I (B + 17) i = M (72 + 2 * i + 1)
def LD (I : HI) (B : Nat) (M : Nat → Int32) (nd : Nat) : Prop := I (B + 18) 1 = nI nd ∧ I (B + 20) 1 = nI nd ∧ M 3 = nI nd ∧ nd ≤ 5 ∧ ∀ i, i < nd → I (B + 19) i = M (88 + 2 * i) ∧ I (B + 21) i = M (88 + 2 * i + 1) ∧ okD (M (88 + 2 * i)) (M (88 + 2 * i + 1))
def TP (I : HI) (B : Nat) (M : Nat → Int32) (tp : Nat) : Prop := I (B + 8) 1 = nI tp ∧ M 4 = nI tp ∧ tp ≤ 50 ∧ ∀ i, i < tp → I (B + 9) i = M (98 + i) ∧ ∃ b, b < 256 ∧ M (98 + i) = nI b
def WT (I : HI) (B : Nat) (M : Nat → Int32) (wt : Nat) : Prop := I (B + 22) 1 = nI wt ∧ M 5 = nI wt ∧ wt ≤ 20 ∧ ∀ i, i < wt → I (B + 23) i = M (148 + i)
/-- a State and a row of the model -/
def SP (g : Sh) (P : HP) (I : HI) (B : Nat) (M : Nat → Int32) (k : Nat) (rd nt : Nat → Nat) (δ : Nat → List Int32) (nl nd tp wt : Nat) : Prop :=
  (I B 7 = nI k ∧ I B 8 = M 0 ∧ I B 9 = M 6) ∧ (VM M k ∧ RD I B k M ∧ RR g P I B k rd M) ∧ (TG I B nt ∧ TD I B nt δ ∧ ∀ u, u ≤ 1 → TC u (δ u) M) ∧ LN I B M nl ∧ LD I B M nd ∧ TP I B M tp ∧ WT I B M wt
def SR (g : Sh) (P : HP) (I : HI) (B : Nat) (M : Nat → Int32) : Prop := ∃ k rd nt δ nl nd tp wt, SP g P I B M k rd nt δ nl nd tp wt
def GA (g : Sh) (P : HP) (I : HI) : Prop := (Sz I 45 ∧ Sz I 69) ∧ ((∀ j, j < 8 → RQ g P 21 j) ∧ ∀ j, j < 8 → RQ g P 69 j) ∧ (∀ j, j < 8 → I 28 j = 0 ∨ I 28 j = 1) ∧ ∀ j, j < 8 → I 76 j = 0 ∨ I 76 j = 1
def Erq (I : HI) : Prop := ∀ j, j < 6 → I 93 j = I 113 j
def Trq (I : HI) : Prop := ∃ kt, I 94 1 = nI kt ∧ I 109 21 = nI kt ∧ kt ≤ 40 ∧ ∀ j, j < kt → I 95 j = I 123 j
def Shq (I : HI) : Prop := ∃ sz, Zs I sz ∧ (∀ j, j < 4 → I 125 j = nI (sz j) ∧ sz j ≤ 40) ∧ (∀ j, j < 4 → I 97 j = I 124 j) ∧ ∀ j, j < 4 → ∀ i, i < sz j → I (102 + 2 * j) i = I 126 (40 * j + i)
def Coq (I : HI) : Prop := (∀ j, j < 9 → I 114 j = lst j ∧ I 115 j = grt j) ∧ I 99 = I 121 ∧ I 100 = I 122
def IV (g : Sh) (P : HP) (I : HI) : Prop := (Ly g P ∧ Mo g P) ∧ SR g P I 21 (I 110) ∧ ((¬ I 16 4 = 0 → SR g P I 69 (I 111)) ∧ I 16 4 = I 109 3) ∧ GA g P I ∧ Erq I ∧ Trq I ∧ Shq I ∧ Coq I
section
variable {g : Sh} {P P' : HP} {I J : HI} {B k nl nd tp wt : Nat} {M M' : Nat → Int32} {rd nt : Nat → Nat} {δ : Nat → List Int32}
theorem RR.ex {g' : Sh} (h : RR g P I B k rd M) (hg : ∀ a, 128 ≤ a → a < g.1 → g'.2.1 a = g.2.1 a) (hn : g.1 ≤ g'.1) (hP : ∀ i, i < k → P' (B + 3) i = P (B + 3) i) (hJ : ∀ a, 128 ≤ a → a < g.1 → P' a = P a ∧ J a = I a) : RR g' P' J B k rd M := fun i hi => by
  obtain ⟨h1, h2, h3, h4, h5, h6, h7, h8⟩ := h i hi
  have e := hJ (rd i) h3 h2.2.2
  exact ⟨by rw [hP i hi]; exact h1, ⟨by rw [hg _ h3 h2.2.2]; exact h2.1, h2.2.1, Nat.lt_of_lt_of_le h2.2.2 hn⟩, h3, by rw [e.1]; exact h4, by rw [e.2]; exact h5, by rw [e.2]; exact h6, by rw [e.2]; exact h7, by rw [e.2]; exact h8⟩
theorem SP.mv (h : SP g P I B M k rd nt δ nl nd tp wt) (hJ : ∀ a, B ≤ a → a < B + 24 → J a = I a) (hP : P' (B + 3) = P (B + 3)) (hR : ∀ a, 128 ≤ a → P' a = P a ∧ J a = I a) : SP g P' J B M k rd nt δ nl nd tp wt := by
  obtain ⟨h1, ⟨h2, h3, h4⟩, ⟨h5, h6, h7⟩, h8, h9, h10, h11⟩ := h
  have f : ∀ i, i < 24 → J (B + i) = I (B + i) := fun i hi => hJ (B + i) (by omega) (by omega)
  have f0 : J B = I B := hJ B (by omega) (by omega)
  refine ⟨?_, ⟨h2, ?_, h4.ex (fun _ _ _ => rfl) (Nat.le_refl _) (fun i _ => by rw [hP]) (fun a ha _ => hR a ha)⟩, ⟨h5.mv (fun a a1 a2 => hJ a (by omega) (by omega)), h6.mv (fun a a1 a2 => hJ a (by omega) (by omega)), h7⟩, ?_, ?_, ?_, ?_⟩
  · rw [f0]; exact h1
  · unfold RD
    rw [f 2 (by decide), f 4 (by decide), f 5 (by decide), f 6 (by decide), f 7 (by decide)]
    exact h3
  · unfold LN
    rw [f 14 (by decide), f 15 (by decide), f 16 (by decide), f 17 (by decide)]
    exact h8
  · unfold LD
    rw [f 18 (by decide), f 19 (by decide), f 20 (by decide), f 21 (by decide)]
    exact h9
  · unfold TP
    rw [f 8 (by decide), f 9 (by decide)]
    exact h10
  · unfold WT
    rw [f 22 (by decide), f 23 (by decide)]
    exact h11
theorem SR.mv (h : SR g P I B M) (hJ : ∀ a, B ≤ a → a < B + 24 → J a = I a) (hP : P' (B + 3) = P (B + 3)) (hR : ∀ a, 128 ≤ a → P' a = P a ∧ J a = I a) : SR g P' J B M := by
  obtain ⟨k, rd, nt, δ, nl, nd, tp, wt, hS⟩ := h
  exact ⟨k, rd, nt, δ, nl, nd, tp, wt, hS.mv hJ hP hR⟩
theorem SP.sz (h : SP g P I B M k rd nt δ nl nd tp wt) : Sz I B := by
  obtain ⟨h1, ⟨h2, h3, h4⟩, ⟨h5, h6, h7⟩, h8, h9, h10, h11⟩ := h
  have t0 := h5 0 (by decide)
  have t1 := h5 1 (by decide)
  exact ⟨⟨k, h1.1, h2.2.1⟩, sRow_all ⟨tp, h10.1, h10.2.2.1⟩ ⟨nt 0, t0.1, t0.2.1⟩ ⟨nt 1, t1.1, t1.2.1⟩ ⟨nl, h8.1, h8.2.2.2.1⟩ ⟨nl, h8.2.1, h8.2.2.2.1⟩ ⟨nd, h9.1, h9.2.2.2.1⟩ ⟨nd, h9.2.1, h9.2.2.2.1⟩ ⟨wt, h11.1, h11.2.2.1⟩⟩
theorem SP.la (h : SP g P I 21 M k rd nt δ nl nd tp wt) (hG : GA g P I) : LA g P I k rd M nt δ := ⟨⟨h.sz, hG.1.1⟩, hG.2.1.1, hG.2.2.1, h.2.2.1.1, h.2.2.1.2.1, h.1.1, h.2.1.1, h.2.1.2.1, h.2.1.2.2⟩
/-- only scratch is changed -/
def FV (P P' : HP) (I J : HI) : Prop := ((∀ a, a ≠ 17 → a ≠ 48 → P' a = P a) ∧ P' 17 0 = P 17 0) ∧ Sz J 45 ∧ (∀ a, a ≠ 17 → a ≠ 18 → (a < 45 ∨ 69 ≤ a) → a ≠ 98 → a ≠ 109 → a ≠ 112 → a ≠ 117 → a ≠ 118 → a ≠ 119 → a ≠ 120 → J a = I a) ∧ J 109 3 = I 109 3 ∧ J 109 21 = I 109 21
theorem Shq.mv (h : Shq I) (e1 : ∀ a, 101 ≤ a → a < 109 → J a = I a) (e2 : J 97 = I 97) (e3 : J 124 = I 124) (e4 : J 125 = I 125) (e5 : J 126 = I 126) : Shq J := by
  obtain ⟨sz, h1, h2, h3, h4⟩ := h
  exact ⟨sz, fun i hi => by rw [e1 _ (by omega) (by omega)]; exact h1 i hi, by rw [e4]; exact h2, by rw [e2, e3]; exact h3, fun j hj i hi => by rw [e5, e1 _ (by omega) (by omega)]; exact h4 j hj i hi⟩
theorem RQ.mv {j : Nat} (h : RQ g P B j) (e : P' (B + 3) = P (B + 3)) : RQ g P' B j := by unfold RQ; rw [e]; exact h
theorem IV.fv (h : IV g P I) (hF : FV P P' I J) : IV g P' J := by
  obtain ⟨⟨hL, hM⟩, hS, ⟨hK, hK2⟩, ⟨⟨a1, a2⟩, ⟨a3, a4⟩, a5, a6⟩, hE, ⟨kt, t1, t2, t3, t4⟩, hH, ⟨c1, c2, c3⟩⟩ := h
  obtain ⟨⟨p1, p2⟩, z, f, m3, m21⟩ := hF
  have hp : PG P P' := ⟨fun a b1 b2 b3 b4 => p1 a b1 b3, p2⟩
  have e : ∀ a, 19 ≤ a → (a < 45 ∨ 69 ≤ a) → a ≠ 98 → a ≠ 109 → a ≠ 112 → (a < 117 ∨ 120 < a) → J a = I a := fun a b1 b2 b3 b4 b5 b6 => f a (by omega) (by omega) b2 b3 b4 b5 (by omega) (by omega) (by omega) (by omega)
  have e16 : J 16 = I 16 := f 16 (by decide) (by decide) (by decide) (by decide) (by decide) (by decide) (by decide) (by decide) (by decide) (by decide)
  have e110 : J 110 = I 110 := e 110 (by decide) (by decide) (by decide) (by decide) (by decide) (by decide)
  have e111 : J 111 = I 111 := e 111 (by decide) (by decide) (by decide) (by decide) (by decide) (by decide)
  have g1 : ∀ a, 128 ≤ a → P' a = P a ∧ J a = I a := fun a ha => ⟨p1 a (by omega) (by omega), e a (by omega) (by omega) (by omega) (by omega) (by omega) (by omega)⟩
  refine ⟨⟨hL.pg hp, hM.pg hp⟩, ?_, ⟨fun hn => ?_, ?_⟩, ⟨⟨z, ?_⟩, ⟨fun j hj => (a3 j hj).mv (p1 24 (by decide) (by decide)), fun j hj => (a4 j hj).mv (p1 72 (by decide) (by decide))⟩, ?_, ?_⟩, ?_, ⟨kt, ?_, ?_, t3, ?_⟩, ?_, ?_, ?_, ?_⟩
  · rw [e110]
    exact hS.mv (fun a x1 x2 => e a (by omega) (by omega) (by omega) (by omega) (by omega) (by omega)) (p1 24 (by decide) (by decide)) g1
  · rw [e16] at hn
    rw [e111]
    exact (hK hn).mv (fun a x1 x2 => e a (by omega) (by omega) (by omega) (by omega) (by omega) (by omega)) (p1 72 (by decide) (by decide)) g1
  · rw [e16, m3]; exact hK2
  · obtain ⟨z1, z2⟩ := a2
    refine ⟨?_, fun q hq => ?_⟩
    · rw [e 69 (by decide) (by decide) (by decide) (by decide) (by decide) (by decide)]; exact z1
    · have : q.2.1 < 24 := by revert q; decide
      rw [e (69 + q.2.1) (by omega) (by omega) (by omega) (by omega) (by omega) (by omega)]; exact z2 q hq
  · rw [e 28 (by decide) (by decide) (by decide) (by decide) (by decide) (by decide)]; exact a5
  · rw [e 76 (by decide) (by decide) (by decide) (by decide) (by decide) (by decide)]; exact a6
  · unfold Erq
    rw [e 93 (by decide) (by decide) (by decide) (by decide) (by decide) (by decide), e 113 (by decide) (by decide) (by decide) (by decide) (by decide) (by decide)]; exact hE
  · rw [e 94 (by decide) (by decide) (by decide) (by decide) (by decide) (by decide)]; exact t1
  · rw [m21]; exact t2
  · rw [e 95 (by decide) (by decide) (by decide) (by decide) (by decide) (by decide), e 123 (by decide) (by decide) (by decide) (by decide) (by decide) (by decide)]; exact t4
  · exact hH.mv (fun a x1 x2 => e a (by omega) (by omega) (by omega) (by omega) (by omega) (by omega)) (e 97 (by decide) (by decide) (by decide) (by decide) (by decide) (by decide)) (e 124 (by decide) (by decide) (by decide) (by decide) (by decide) (by decide)) (e 125 (by decide) (by decide) (by decide) (by decide) (by decide) (by decide)) (e 126 (by decide) (by decide) (by decide) (by decide) (by decide) (by decide))
  · rw [e 114 (by decide) (by decide) (by decide) (by decide) (by decide) (by decide), e 115 (by decide) (by decide) (by decide) (by decide) (by decide) (by decide)]; exact c1
  · rw [e 99 (by decide) (by decide) (by decide) (by decide) (by decide) (by decide), e 121 (by decide) (by decide) (by decide) (by decide) (by decide) (by decide)]; exact c2
  · rw [e 100 (by decide) (by decide) (by decide) (by decide) (by decide) (by decide), e 122 (by decide) (by decide) (by decide) (by decide) (by decide) (by decide)]; exact c3
theorem IV.err {n : Nat} (h : IV g P I) : IV g P (flM (fl I n) n) := by
  obtain ⟨hLM, hS, hK, ⟨⟨a1, a2⟩, a3, a5, a6⟩, hE, hT, hH, hC⟩ := h
  have e : ∀ a, a ≠ 93 → a ≠ 113 → flM (fl I n) n a = I a := fun a x y => (u2_oth _ y).trans (u2_oth _ x)
  refine ⟨hLM, hS.mv (fun a x1 x2 => e a (by omega) (by omega)) rfl (fun a ha => ⟨rfl, e a (by omega) (by omega)⟩), ⟨fun hn => (hK.1 hn).mv (fun a x1 x2 => e a (by omega) (by omega)) rfl (fun a ha => ⟨rfl, e a (by omega) (by omega)⟩), hK.2⟩, ⟨⟨?_, ?_⟩, a3, a5, a6⟩, ?_, hT, hH.mv (fun a x1 x2 => e a (by omega) (by omega)) rfl rfl rfl rfl, hC⟩
  · exact ⟨a1.1, fun q hq => by have : q.2.1 < 24 := (by revert q; decide); rw [e (45 + q.2.1) (by omega) (by omega)]; exact a1.2 q hq⟩
  · exact ⟨a2.1, fun q hq => by have : q.2.1 < 24 := (by revert q; decide); rw [e (69 + q.2.1) (by omega) (by omega)]; exact a2.2 q hq⟩
  · intro j hj
    show u2 (fl I n) 113 n (fl I n 113 n + 1) 93 j = u2 (fl I n) 113 n (fl I n 113 n + 1) 113 j
    have x1 : fl I n 113 = I 113 := u2_oth _ (by decide)
    rw [u2_oth _ (by decide : (93 : Nat) ≠ 113), u2_at, x1]
    unfold fl
    rw [u2_at]
    by_cases hn : j = n
    · rw [if_pos ⟨rfl, hn⟩, if_pos ⟨rfl, hn⟩, ← hn, hE j hj]
    · rw [if_neg (fun h => hn h.2), if_neg (fun h => hn h.2), hE j hj]
end
/-- both answer alike, and stand side by side behind it -/
def PR (Γ : GE) (m1 m2 : MD) (mc ms : Nat) (x1 x2 : List Value) : Prop := ∀ (g : Sh) (P : HP) (I : HI) (d : Nat) (Φ : Option Value → Sh → HP → HI → Prop), 100 ≤ d → IV g P I → (∀ v g1 P1 J1, Cel g1 109 12 → (∀ (d' : Nat) (Ψ : Option Value → Sh → HP → HI → Prop), 100 ≤ d' → (∀ J2, IV g1 P1 J2 → Ψ (some (.int v)) g1 P1 J2) → MM Γ m2 d' 0 0 x2 g1 P1 J1 Ψ) → Φ (some (.int v)) g1 P1 J1) → MM Γ m1 d mc ms x1 g P I Φ
