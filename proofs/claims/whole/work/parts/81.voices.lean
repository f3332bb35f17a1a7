/-! move and voice -/
theorem hld_n {p m s : Nat} (h : p + m ≤ s) (hs : s ≤ 40) : hld (nI p) (nI m) s := by
  have e : (nI s - nI m).toInt = (s : Int) - m := by rw [sub32 (by rw [nI_toInt (by omega), nI_toInt (by omega)]; omega) (by rw [nI_toInt (by omega), nI_toInt (by omega)]; omega), nI_toInt (by omega), nI_toInt (by omega)]
  exact ⟨(n_ab (a := 0) (n := p) (b := 40) (by omega) (by omega) (by decide)).1, (n_ab (a := 0) (n := m) (b := 40) (by omega) (by omega) (by decide)).1, i32_le.mpr (by rw [e, nI_toInt (by omega)]; omega)⟩
theorem mads_o {a : Nat} (h : a ≠ 109) (h2 : a ≠ 123) : ∀ (l : List Int32) (I : HI), mads I l a = I a
  | [], _ => rfl
  | v :: l, I => by
    show mads (madd I v) l a = I a
    rw [mads_o h h2 l, madd_o h h2]
theorem mads_s {s : Nat} (h : s ≠ 21) : ∀ (l : List Int32) (I : HI), mads I l 109 s = I 109 s
  | [], _ => rfl
  | v :: l, I => by
    show mads (madd I v) l 109 s = I 109 s
    rw [mads_s h l, madd_s h]
theorem tm_eq : ∀ (l : List Int32) (A C : HI) (kt : Nat), A 94 1 = nI kt → C 109 21 = nI kt → kt ≤ 40 → (∀ j, j < kt → A 95 j = C 123 j) → ∃ kt', tads A l 94 1 = nI kt' ∧ mads C l 109 21 = nI kt' ∧ kt' ≤ 40 ∧ ∀ j, j < kt' → tads A l 95 j = mads C l 123 j
  | [], A, C, kt, h1, h2, h3, h4 => ⟨kt, h1, h2, h3, h4⟩
  | v :: l, A, C, kt, h1, h2, h3, h4 => by
    show ∃ kt', tads (tadd A v) l 94 1 = nI kt' ∧ mads (madd C v) l 109 21 = nI kt' ∧ kt' ≤ 40 ∧ ∀ j, j < kt' → tads (tadd A v) l 95 j = mads (madd C v) l 123 j
    have c1 : (A 94 1).toNatClampNeg = kt := by rw [h1, nI_clamp (by omega)]
    have c2 : (C 109 21).toNatClampNeg = kt := by rw [h2, nI_clamp (by omega)]
    by_cases hk : kt < 40
    · refine tm_eq l _ _ (kt + 1) ?_ ?_ hk (fun j hj => ?_)
      · unfold tadd; rw [c1, if_pos hk, u2_s, h1, nI_1]
      · unfold madd; rw [c2, if_pos hk, u2_s, h2, nI_1]
      · unfold tadd madd
        rw [c1, c2, if_pos hk, if_pos hk, u2_oth _ (by decide : (95 : Nat) ≠ 94), u2_oth _ (by decide : (123 : Nat) ≠ 109), u2_at, u2_at]
        by_cases hjk : j = kt
        · rw [if_pos ⟨rfl, hjk⟩, if_pos ⟨rfl, hjk⟩]
        · rw [if_neg (fun h => hjk h.2), if_neg (fun h => hjk h.2)]
          exact h4 j (by omega)
    · have e1 : tadd A v = A := by unfold tadd; rw [c1, if_neg hk]
      have e2 : madd C v = C := by unfold madd; rw [c2, if_neg hk]
      rw [e1, e2]
      exact tm_eq l A C kt h1 h2 h3 h4
section
variable {Γ : GE}
theorem p_voice {x y v : Int32} : PR Γ mX11_voice mX12_voice 0 0 [.ref 16, .int x, .int y, .int v] [.ref 109, .int x, .int y, .int v] := by
  intro g P I d Φ hd hI hΦ
  obtain ⟨⟨hL, hM⟩, ⟨k, rd, nt, δ, nl, nd, tp, wt, hS⟩, -, hG, -, ⟨kt, t1, t2, t3, t4⟩, hH, -⟩ := id hI
  have k8 := hS.2.1.1.2.1
  refine c_X11_voice (k := k) (kt := kt) (rd := rd) (kd := kdo (I 110)) (by omega) hL hS.1.1 k8 (fun i hi => ?_) t1 t3 (fun i f hx hi hy hf => hΦ _ _ _ _ hM.1 fun d' Ψ hd' hΨ => ?_) (fun h => hΦ _ _ _ _ hM.1 fun d' Ψ hd' hΨ => c_X12_voice (k := k) (kd := kdo (I 110)) (by omega) hM hS.2.1.1.1 k8 hS.2.1.1.rd (fun i f hx hi hy hf => absurd ⟨by rw [hx]; exact nat_in (by omega) hi, by rw [hy]; exact n_ab (a := 0) (b := 3) (by omega) hf (by decide)⟩ h) (fun _ => hΨ _ hI.err))
  · obtain ⟨h1, h2, h3, h4, -⟩ := hS.2.1.2.2 i hi
    exact ⟨h1, ⟨h2, h4, by omega, by omega, hL.tra.2⟩, (hS.2.1.1.2.2.2 i hi).kd.1⟩
  · obtain ⟨l, hl⟩ : ∃ l, l = vT (kdo (I 110) i) f := ⟨_, rfl⟩
    rw [← hl]
    obtain ⟨J, hJ⟩ : ∃ J, J = tads (u2 I 94 1 0) l := ⟨_, rfl⟩
    rw [← hJ]
    have o : ∀ a, a ≠ 94 → a ≠ 95 → J a = I a := fun a x1 x2 => by rw [hJ, tads_o x1 x2, u2_oth _ x1]
    have o110 : J 110 = I 110 := o 110 (by decide) (by decide)
    refine c_X12_voice (k := k) (kd := kdo (I 110)) (by omega) hM (by rw [o110]; exact hS.2.1.1.1) k8 (by rw [o110]; exact hS.2.1.1.rd) (fun i' f' hx' hi' hy' hf' => ?_) (fun h => absurd ⟨by rw [hx]; exact nat_in (by omega) hi, by rw [hy]; exact n_ab (a := 0) (b := 3) (by omega) hf (by decide)⟩ h)
    have e1 := nI_inj (by omega) (by omega) (hx.symm.trans hx')
    have e2 := nI_inj (by omega) (by omega) (hy.symm.trans hy')
    subst e1; subst e2
    obtain ⟨-, -, r3, -, -, r6, -, r8⟩ := hS.2.1.2.2 i hi
    rw [o110, ← hl, ← r6, ← r8]
    obtain ⟨K, hK⟩ : ∃ K, K = mads (u2 (u2 J 109 21 0) 109 22 (I (rd i) 1)) l := ⟨_, rfl⟩
    rw [← hK]
    have f1 : ∀ a, a ≠ 109 → a ≠ 123 → K a = J a := fun a x1 x2 => by rw [hK, mads_o x1 x2, u2_oth _ x1, u2_oth _ x1]
    have k3 : K 109 3 = I 109 3 := by rw [hK, mads_s (by decide), u2_o (by decide), u2_o (by decide), o 109 (by decide) (by decide)]
    obtain ⟨kt', q1, q2, q3, q4⟩ := tm_eq l (u2 I 94 1 0) (u2 (u2 J 109 21 0) 109 22 (I (rd i) 1)) 0 (u2_s _ _ _ _) (by rw [u2_o (by decide), u2_s]; rfl) (by decide) (fun j hj => absurd hj (by omega))
    rw [← hJ] at q1 q4
    rw [← hK] at q2 q4
    have g' : ∀ a, a ≠ 94 → a ≠ 95 → a ≠ 109 → a ≠ 123 → K a = I a := fun a x1 x2 x3 x4 => (f1 a x3 x4).trans (o a x1 x2)
    refine hΨ _ (hI.sh (fun a x1 x2 x3 x4 x5 x6 => g' a x1 x2 x5 (by omega)) k3 ⟨kt', by rw [f1 94 (by decide) (by decide)]; exact q1, q2, q3, fun j hj => by rw [f1 95 (by decide) (by decide)]; exact q4 j hj⟩ (hH.mv (fun a x1 x2 => g' a (by omega) (by omega) (by omega) (by omega)) (g' 97 (by decide) (by decide) (by decide) (by decide)) (g' 124 (by decide) (by decide) (by decide) (by decide)) (g' 125 (by decide) (by decide) (by decide) (by decide)) (g' 126 (by decide) (by decide) (by decide) (by decide))))
theorem p_move {x i y k n : Int32} : PR Γ mX11_move mX12_move 0 0 [.ref 16, .int x, .int i, .int y, .int k, .int n] [.ref 109, .int x, .int i, .int y, .int k, .int n] := by
  intro g P I d Φ hd hI hΦ
  obtain ⟨⟨hL, hM⟩, -, -, -, -, hT, ⟨sz, s1, s2, s3, s4⟩, -⟩ := id hI
  have o4 : ∀ (z : Int32) j, z = nI j → j < 4 → 0 ≤ z ∧ z ≤ 3 := fun z j hx hj => by rw [hx]; exact n_ab (a := 0) (b := 3) (by omega) (by omega) (by decide)
  have q4 : ∀ a b a' b', x = nI a → a < 4 → y = nI b → b < 4 → x = nI a' → a' < 4 → y = nI b' → b' < 4 → a = a' ∧ b = b' := fun a b a' b' h1 h2 h3 h4 h5 h6 h7 h8 => ⟨nI_inj (by omega) (by omega) (h1.symm.trans h5), nI_inj (by omega) (by omega) (h3.symm.trans h7)⟩
  have t97 : ∀ j, j < 4 → I 124 j = I 97 j := fun j hj => (s3 j hj).symm
  refine c_X11_move (sz := sz) (by omega) hL s1 (fun a b p q m hx ha hy hb h0 he hp hq hn h1 h2 => hΦ _ _ _ _ hM.1 fun d' Ψ hd' hΨ => ?_) (fun h => hΦ _ _ _ _ hM.1 fun d' Ψ hd' hΨ => ?_) (fun a b hx ha hy hb h0 => hΦ _ _ _ _ hM.1 fun d' Ψ hd' hΨ => ?_) (fun a b hx ha hy hb h0 he => hΦ _ _ _ _ hM.1 fun d' Ψ hd' hΨ => ?_) (fun a b hx ha hy hb h0 he hh => hΦ _ _ _ _ hM.1 fun d' Ψ hd' hΨ => ?_)
  · have za := (s1 a ha).2
    have zb := (s1 b hb).2
    obtain ⟨J, hJ⟩ : ∃ J, J = ur I (102 + 2 * b) (va_cpy (I (102 + 2 * a)) (I (102 + 2 * b)) p q m) := ⟨_, rfl⟩
    rw [← hJ]
    have o : ∀ c, c ≠ 102 + 2 * b → J c = I c := fun c hc => by rw [hJ]; exact ur_n _ _ hc
    have t97' : ∀ j, j < 4 → J 124 j = I 97 j := fun j hj => by rw [o 124 (by omega)]; exact t97 j hj
    refine c_X12_move (sz := sz) (by omega) hM (by rw [o 125 (by omega)]; exact s2) (fun a' b' p' q' m' hx' ha' hy' hb' h0' he' hp' hq' hn' h1' h2' => ?_) (fun h => absurd ⟨o4 x a hx ha, o4 y b hy hb⟩ h) (fun a' b' hx' ha' hy' hb' h0' => ?_) (fun a' b' hx' ha' hy' hb' h0' he' => ?_) (fun a' b' hx' ha' hy' hb' h0' he' hh => ?_)
    · obtain ⟨e1, e2⟩ := q4 a b a' b' hx ha hy hb hx' ha' hy' hb'
      have za' := (s1 a' ha').2
      have zb' := (s1 b' hb').2
      have e3 := nI_inj (by omega) (by omega) (hp.symm.trans hp')
      have e4 := nI_inj (by omega) (by omega) (hq.symm.trans hq')
      have e5 := nI_inj (by omega) (by omega) (hn.symm.trans hn')
      subst e1; subst e2; subst e3; subst e4; subst e5
      obtain ⟨K, hK⟩ : ∃ K, K = mvM J a b p q m := ⟨_, rfl⟩
      rw [← hK]
      have f1 : ∀ c, c ≠ 126 → c ≠ 127 → K c = J c := fun c x1 x2 => by rw [hK]; unfold mvM; rw [ur_n _ _ x1, ur_n _ _ x2]
      have k126 : K 126 = va_cpy (I 126) (I 126) (40 * a + p) (40 * b + q) m := by rw [hK]; unfold mvM; rw [ur_s, o 126 (by omega)]
      have f : ∀ c, c ≠ 102 + 2 * b → c ≠ 126 → c ≠ 127 → K c = I c := fun c x1 x2 x3 => (f1 c x2 x3).trans (o c x1)
      refine hΨ _ (hI.sh (fun c x1 x2 x3 x4 x5 x6 => f c (by omega) (by omega) (by omega)) (by rw [f 109 (by omega) (by decide) (by decide)]) (hT.mv (f 94 (by omega) (by decide) (by decide)) (f 95 (by omega) (by decide) (by decide)) (by rw [f 109 (by omega) (by decide) (by decide)]) (f 123 (by omega) (by decide) (by decide))) ⟨sz, fun i hi => by rw [f _ (by omega) (by omega) (by omega)]; exact s1 i hi, by rw [f 125 (by omega) (by decide) (by decide)]; exact s2, by rw [f 97 (by omega) (by decide) (by decide), f 124 (by omega) (by decide) (by decide)]; exact s3, fun c hc t ht => ?_⟩)
      have zc := (s1 c hc).2
      rw [k126]
      unfold va_cpy
      by_cases hcb : c = b
      · subst hcb
        rw [f1 _ (by omega) (by omega), hJ, ur_s]
        unfold va_cpy
        by_cases hq' : q ≤ t ∧ t < q + m
        · rw [if_pos hq', if_pos (by omega), s4 a ha _ (by omega)]
          congr 1
          omega
        · rw [if_neg hq', if_neg (by omega)]
          exact s4 c hc t ht
      · rw [f _ (by omega) (by omega) (by omega), if_neg (by omega)]
        exact s4 c hc t ht
    · obtain ⟨e1, e2⟩ := q4 a b a' b' hx ha hy hb hx' ha' hy' hb'
      subst e1; subst e2
      rw [t97' a ha, t97' b hb] at h0'
      exact h0'.elim (fun h => absurd h h0) (fun h => absurd (he.trans h) h0)
    · obtain ⟨e1, e2⟩ := q4 a b a' b' hx ha hy hb hx' ha' hy' hb'
      subst e1; subst e2
      rw [t97' a ha, t97' b hb] at he'
      exact absurd he he'
    · obtain ⟨e1, e2⟩ := q4 a b a' b' hx ha hy hb hx' ha' hy' hb'
      subst e1; subst e2
      rw [hp, hq, hn] at hh
      exact absurd ⟨hld_n h1 za, hld_n h2 zb⟩ hh
  · exact c_X12_move (sz := sz) (by omega) hM s2 (fun a b _ _ _ hx ha hy hb _ _ _ _ _ _ _ => absurd ⟨o4 x a hx ha, o4 y b hy hb⟩ h) (fun _ => hΨ _ hI.err) (fun a b hx ha hy hb _ => absurd ⟨o4 x a hx ha, o4 y b hy hb⟩ h) (fun a b hx ha hy hb _ _ => absurd ⟨o4 x a hx ha, o4 y b hy hb⟩ h) (fun a b hx ha hy hb _ _ _ => absurd ⟨o4 x a hx ha, o4 y b hy hb⟩ h)
  · have w : ∀ a' b', x = nI a' → a' < 4 → y = nI b' → b' < 4 → (I 124 a' = 0 ∨ I 124 b' = 0) := fun a' b' hx' ha' hy' hb' => by
      obtain ⟨e1, e2⟩ := q4 a b a' b' hx ha hy hb hx' ha' hy' hb'
      subst e1; subst e2
      rw [t97 a ha, t97 b hb]; exact h0
    exact c_X12_move (sz := sz) (by omega) hM s2 (fun a' b' _ _ _ hx' ha' hy' hb' h0' he' _ _ _ _ _ => (w a' b' hx' ha' hy' hb').elim (fun h => absurd h h0') (fun h => absurd (he'.trans h) h0')) (fun h => absurd ⟨o4 x a hx ha, o4 y b hy hb⟩ h) (fun _ _ _ _ _ _ _ => hΨ _ hI.err) (fun a' b' hx' ha' hy' hb' h0' _ => absurd (w a' b' hx' ha' hy' hb') h0') (fun a' b' hx' ha' hy' hb' h0' _ _ => absurd (w a' b' hx' ha' hy' hb') h0')
  · have w : ∀ a' b', x = nI a' → a' < 4 → y = nI b' → b' < 4 → ¬ (I 124 a' = 0 ∨ I 124 b' = 0) ∧ ¬ I 124 a' = I 124 b' := fun a' b' hx' ha' hy' hb' => by
      obtain ⟨e1, e2⟩ := q4 a b a' b' hx ha hy hb hx' ha' hy' hb'
      subst e1; subst e2
      rw [t97 a ha, t97 b hb]; exact ⟨h0, he⟩
    exact c_X12_move (sz := sz) (by omega) hM s2 (fun a' b' _ _ _ hx' ha' hy' hb' h0' he' _ _ _ _ _ => absurd he' (w a' b' hx' ha' hy' hb').2) (fun h => absurd ⟨o4 x a hx ha, o4 y b hy hb⟩ h) (fun a' b' hx' ha' hy' hb' h0' => absurd h0' (w a' b' hx' ha' hy' hb').1) (fun _ _ _ _ _ _ _ _ => hΨ _ hI.err) (fun a' b' hx' ha' hy' hb' _ he' _ => absurd he' (w a' b' hx' ha' hy' hb').2)
  · have za := (s1 a ha).2
    have zb := (s1 b hb).2
    refine c_X12_move (sz := sz) (by omega) hM s2 (fun a' b' p q m hx' ha' hy' hb' h0' he' hp hq hn h1 h2 => ?_) (fun h => absurd ⟨o4 x a hx ha, o4 y b hy hb⟩ h) (fun a' b' hx' ha' hy' hb' h0' => ?_) (fun a' b' hx' ha' hy' hb' h0' he' => ?_) (fun _ _ _ _ _ _ _ _ _ => hΨ _ hI.err)
    · obtain ⟨e1, e2⟩ := q4 a b a' b' hx ha hy hb hx' ha' hy' hb'
      subst e1; subst e2
      rw [hp, hq, hn] at hh
      exact absurd ⟨hld_n h1 za, hld_n h2 zb⟩ hh
    · obtain ⟨e1, e2⟩ := q4 a b a' b' hx ha hy hb hx' ha' hy' hb'
      subst e1; subst e2
      have h0' : I 124 a = 0 ∨ I 124 b = 0 := h0'
      rw [t97 a ha, t97 b hb] at h0'
      exact absurd h0' h0
    · obtain ⟨e1, e2⟩ := q4 a b a' b' hx ha hy hb hx' ha' hy' hb'
      subst e1; subst e2
      have he' : ¬ I 124 a = I 124 b := he'
      rw [t97 a ha, t97 b hb] at he'
      exact absurd he he'
end
