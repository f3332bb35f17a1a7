/-! the class: gusts; where one stands, how one comes -/
/-- a ride's moving numbers -/
def cR (J : HI) (B i : Nat) : R4 := (J (B + 4) i, J (B + 5) i, J (B + 7) i, J (B + 6) i)
/-- the heap is the same but for a ride's moving numbers -/
def FG (B i : Nat) (I J : HI) : Prop := (∀ a, (a < B + 4 ∨ B + 7 < a) → J a = I a) ∧ ∀ a j, j ≠ i → J a j = I a j
theorem FG.refl (B i : Nat) (I : HI) : FG B i I I := ⟨fun _ _ => rfl, fun _ _ _ => rfl⟩
theorem FG.trans {B i : Nat} {I J K : HI} (h : FG B i I J) (h2 : FG B i J K) : FG B i I K := ⟨fun a ha => (h2.1 a ha).trans (h.1 a ha), fun a j hj => (h2.2 a j hj).trans (h.2 a j hj)⟩
theorem FG_u {B i a : Nat} {I J : HI} {v : Int32} (h : FG B i I J) (h1 : B + 4 ≤ a) (h2 : a ≤ B + 7) : FG B i I (u2 J a i v) := ⟨fun b hb => by rw [u2_oth _ (by omega)]; exact h.1 b hb, fun b j hj => by rw [u2_o (fun q => hj q.2)]; exact h.2 b j hj⟩
theorem FG_rs {I : HI} {B i : Nat} (p : Int32) : FG B i I (rsI I B i p) := by
  unfold rsI
  split
  · exact FG_u (FG_u (FG_u (FG_u (FG.refl _ _ _) (by omega) (by omega)) (by omega) (by omega)) (by omega) (by omega)) (by omega) (by omega)
  · split
    · exact FG_u (FG_u (FG.refl _ _ _) (by omega) (by omega)) (by omega) (by omega)
    · exact FG_u (FG_u (FG.refl _ _ _) (by omega) (by omega)) (by omega) (by omega)
theorem cR_go {I : HI} {B i ci : Nat} {wt m : Int32} (h : ¬ I (B + 7) i = 1) : cR (rsI I B i (pcn ci (I (B + 2)) wt m (I (B + 4) i) (I (B + 5) i))) B i = r1s (c8 (I (B + 2))) ci wt m (cR I B i) := by
  unfold r1s
  rw [if_neg (show ¬ (cR I B i).2.2.1 = 1 from h), pcn_c8]
  show _ = if 10 * I (B + 2) 0 ≤ I (B + 4) i + pcn ci (I (B + 2)) wt m (I (B + 4) i) (I (B + 5) i) then _ else if I (B + 4) i + pcn ci (I (B + 2)) wt m (I (B + 4) i) (I (B + 5) i) < 0 then _ else _
  unfold rsI cR
  generalize pcn ci (I (B + 2)) wt m (I (B + 4) i) (I (B + 5) i) = p
  by_cases c1 : 10 * I (B + 2) 0 ≤ I (B + 4) i + p
  · rw [if_pos c1, if_pos c1]
    rw [u2_oth _ (show B + 4 ≠ B + 7 by omega), u2_oth _ (show B + 4 ≠ B + 5 by omega), u2_oth _ (show B + 4 ≠ B + 6 by omega), u2_s, u2_oth _ (show B + 5 ≠ B + 7 by omega), u2_s, u2_s, u2_oth _ (show B + 6 ≠ B + 7 by omega), u2_oth _ (show B + 6 ≠ B + 5 by omega), u2_s]
    rfl
  · rw [if_neg c1, if_neg c1]
    by_cases c2 : I (B + 4) i + p < 0
    · rw [if_pos c2, if_pos c2]
      rw [u2_oth _ (show B + 4 ≠ B + 5 by omega), u2_s, u2_s, u2_oth _ (show B + 7 ≠ B + 5 by omega), u2_oth _ (show B + 7 ≠ B + 4 by omega), u2_oth _ (show B + 6 ≠ B + 5 by omega), u2_oth _ (show B + 6 ≠ B + 4 by omega)]
    · rw [if_neg c2, if_neg c2]
      rw [u2_oth _ (show B + 4 ≠ B + 5 by omega), u2_s, u2_s, u2_oth _ (show B + 7 ≠ B + 5 by omega), u2_oth _ (show B + 7 ≠ B + 4 by omega), u2_oth _ (show B + 6 ≠ B + 5 by omega), u2_oth _ (show B + 6 ≠ B + 4 by omega)]
section
variable {w : Nat → Int32} {ci : Nat} {wt m : Int32} {s : R4}
theorem r1s_in (h : s.2.2.1 = 1) : r1s w ci wt m s = s := if_pos h
theorem r1s_01 (h : s.2.2.1 = 0 ∨ s.2.2.1 = 1) : (r1s w ci wt m s).2.2.1 = 0 ∨ (r1s w ci wt m s).2.2.1 = 1 := by
  unfold r1s
  split
  · exact h
  · split
    · exact Or.inr rfl
    · split
      · exact h
      · exact h
theorem r1s_q (h5 : ¬ (r1s w ci wt m s).2.2.1 = 1) (h3 : (r1s w ci wt m s).1 = s.1) (h4 : (r1s w ci wt m s).2.1 = s.2.1) : r1s w ci wt m s = s := by
  obtain ⟨a, b, c, e⟩ := s
  unfold r1s at h3 h4 h5 ⊢
  by_cases h0 : (a, b, c, e).2.2.1 = 1
  · rw [if_pos h0]
  · rw [if_neg h0] at h3 h4 h5 ⊢
    by_cases c1 : 10 * w 0 ≤ (a, b, c, e).1 + pcn ci w wt m (a, b, c, e).1 (a, b, c, e).2.1
    · rw [if_pos c1] at h5
      exact absurd rfl h5
    · rw [if_neg c1] at h3 h4 ⊢
      by_cases c2 : (a, b, c, e).1 + pcn ci w wt m (a, b, c, e).1 (a, b, c, e).2.1 < 0
      · rw [if_pos c2] at h3 h4 ⊢
        have h3 : 0 = a := h3
        have h4 : 0 = b := h4
        rw [← h3, ← h4]
      · rw [if_neg c2] at h3 h4 ⊢
        have h3 : a + pcn ci w wt m a b = a := h3
        have h4 : pcn ci w wt m a b = b := h4
        show (a + pcn ci w wt m a b, pcn ci w wt m a b, c, e) = (a, b, c, e)
        rw [h3, h4]
theorem r1n_c {t : Nat} (h : r1s w ci wt m (r1n w ci wt m s t) = r1n w ci wt m s t) : ∀ n, r1n w ci wt m s (t + n) = r1n w ci wt m s t
  | 0 => rfl
  | n + 1 => by
    show r1s w ci wt m (r1n w ci wt m s (t + n)) = _
    rw [r1n_c h n, h]
theorem r1n_01 (h : s.2.2.1 = 0 ∨ s.2.2.1 = 1) : ∀ n, (r1n w ci wt m s n).2.2.1 = 0 ∨ (r1n w ci wt m s n).2.2.1 = 1
  | 0 => h
  | n + 1 => r1s_01 (r1n_01 h n)
end
theorem fnd_no {p : Nat → Prop} [DecidablePred p] : ∀ {u i : Nat}, (∀ j, i ≤ j → ¬ p j) → fnd p u i = none
  | 0, _, _ => rfl
  | u + 1, i, h => by
    unfold fnd
    rw [if_neg (h i (Nat.le_refl _))]
    exact fnd_no (fun j hj => h j (by omega))
section
variable {Γ : GE} {d : Nat} {g : Sh} {P : HP} {I : HI} {Φ : Option Value → Sh → HP → HI → Prop} {k : Nat} {rd : Nat → Nat} {M : Nat → Int32} {nt : Nat → Nat} {δ : Nat → List Int32}
/-- a ride's tick, by itself -/
theorem r_goes1 {B i r ci : Nat} {x : Int32} {s : R4} (hd : 6 ≤ d) (hS : St g P B) (hO : WOK (I (B + 2))) (hk : I B 7 = nI k) (hk8 : k ≤ 8) (hi : i < k) (hx : x = nI i) (hp : P (B + 3) i = some r) (hr : Cel g r ci) (hc : isR ci) (hin : I (B + 7) i = 0) (hs : cR I B i = s) (hΦ : ∀ J v, FG B i I J → cR J B i = r1s (c8 (I (B + 2))) ci (I r 2) (I r 3) s → v = bz (goB J B i s.1 s.2.1) → Φ (some (.int v)) g P J) : MM Γ mX8_goesOn d 0 0 [.ref B, .int x] g P I Φ := by
  refine c_X8_goesOn hd hS hO hk hk8 hi hx hp hr hc ?_
  refine hΦ _ _ (FG_rs _) ?_ ?_
  · rw [← hs]
    exact cR_go (by rw [hin]; decide)
  · rw [← hs]
    rfl
theorem goB_iff {J : HI} {B i : Nat} {s s' : R4} (hJ : cR J B i = s') (h01 : s'.2.2.1 = 0 ∨ s'.2.2.1 = 1) : ¬ goB J B i s.1 s.2.1 ↔ (¬ s'.2.2.1 = 1 ∧ s'.1 = s.1 ∧ s'.2.1 = s.2.1) := by
  have e5 : J (B + 7) i = s'.2.2.1 := congrArg (fun q : R4 => q.2.2.1) hJ
  have e3 : J (B + 4) i = s'.1 := congrArg (fun q : R4 => q.1) hJ
  have e4 : J (B + 5) i = s'.2.1 := congrArg (fun q : R4 => q.2.1) hJ
  unfold goB
  rw [e5, e3, e4]
  constructor
  · intro h
    refine ⟨fun q => h (Or.inl (by rw [q]; decide)), Classical.byContradiction fun q => h (Or.inr (Or.inl q)), Classical.byContradiction fun q => h (Or.inr (Or.inr q))⟩
  · rintro ⟨h1, h2, h3⟩ h
    rcases h with h | h | h
    · exact h (h01.resolve_right h1)
    · exact h h2
    · exact h h3
theorem c_X8_comesWithin {B i n r ci : Nat} {x y : Int32} {s : Nat → R4} (hd : 7 ≤ d) (hS : St g P B) (hB : B + 24 ≤ 128) (hO : WOK (I (B + 2))) (hk : I B 7 = nI k) (hk8 : k ≤ 8) (hi : i < k) (hx : x = nI i) (hy : y = nI n) (hn : n ≤ 200) (hp : P (B + 3) i = some r) (hr : Cel g r ci) (hc : isR ci) (hr128 : 128 ≤ r) (hin : I (B + 7) i = 0) (hs : Unit → s = r1n (c8 (I (B + 2))) ci (I r 2) (I r 3) (cR I B i)) (h1 : ∀ t, 1 ≤ t → t ≤ n → (Unit → fnd (inB s) (n + 1) 0 = some t) → ∀ J, FG B i I J → (Unit → cR J B i = s t) → Φ (some (.int (nI t))) g P J) (h2 : (Unit → fnd (inB s) (n + 1) 0 = none) → ∀ J, FG B i I J → Φ (some (.int 0)) g P J) : MM Γ mX8_comesWithin d 0 0 [.ref B, .int x, .int y] g P I Φ := by
  refine MM_entry [some _, some _, some _, none] (by decide) (Nat.le_of_ble_eq_true rfl) rfl ?_
  have s1 := hS.c
  obtain ⟨u1, v2, u3⟩ := hS.in
  have s0 : Unit → s 0 = cR I B i := fun _ => by rw [hs ()]; rfl
  have s01 : ∀ t, (s t).2.2.1 = 0 ∨ (s t).2.2.1 = 1 := fun t => by rw [hs ()]; exact r1n_01 (Or.inl hin) t
  have sS : ∀ t, Unit → s (t + 1) = r1s (c8 (I (B + 2))) ci (I r 2) (I r 3) (s t) := fun t _ => by rw [hs ()]; rfl
  have f0 : Unit → fnd (inB s) (n + 1) 0 = fnd (inB s) n 1 := fun _ => by
    show (if inB s 0 then some 0 else fnd (inB s) n (0 + 1)) = _
    rw [if_neg (show ¬ inB s 0 by show ¬ (s 0).2.2.1 = 1; rw [s0 ()]; show ¬ I (B + 7) i = 1; rw [hin]; decide)]
  have loop : ∀ (N t : Nat) (z : Int32) (J : HI), n + 1 - t ≤ N → 1 ≤ t → t ≤ n + 1 → z = nI t → FG B i I J → (Unit → cR J B i = s (t - 1)) → J (B + 7) i = 0 → (Unit → fnd (inB s) (n + 1) 0 = fnd (inB s) (n + 1 - t) t) → E Γ mX8_comesWithin d 0 0 (QM Γ 0 0 Φ) 0 0 2 [some (.ref B), some (.int x), some (.int y), some (.int z)] [] g P J := by
    intro N
    induction N with
    | zero =>
      intro t z J hN ht1 ht hz q1 q2 q3 q4
      have htn : t = n + 1 := by omega
      have hΦ := h2 (fun _ => by rw [q4 (), htn, Nat.sub_self]; rfl) J q1
      refine E_iload_n (i := 3) dX8_comesWithin_2 rfl rfl ?_
      refine E_iload_n (i := 2) dX8_comesWithin_3 rfl rfl ?_
      refine E_icmp_gt (tgt := 34) dX8_comesWithin_4 (by decide) (fun c_4 => ?_) (fun c_4 => absurd (by rw [hz, hy, htn]; exact nI_lt (by omega) (by omega)) c_4)
      refine E_iconst (v := 0) dX8_comesWithin_34 (by decide) ?_
      refine E_iret dX8_comesWithin_35 rfl ?_
      exact hΦ
    | succ N ih =>
      intro t z J hN ht1 ht hz q1 q2 q3 q4
      by_cases htn : t = n + 1
      · have hΦ := h2 (fun _ => by rw [q4 (), htn, Nat.sub_self]; rfl) J q1
        refine E_iload_n (i := 3) dX8_comesWithin_2 rfl rfl ?_
        refine E_iload_n (i := 2) dX8_comesWithin_3 rfl rfl ?_
        refine E_icmp_gt (tgt := 34) dX8_comesWithin_4 (by decide) (fun c_4 => ?_) (fun c_4 => absurd (by rw [hz, hy, htn]; exact nI_lt (by omega) (by omega)) c_4)
        refine E_iconst (v := 0) dX8_comesWithin_34 (by decide) ?_
        refine E_iret dX8_comesWithin_35 rfl ?_
        exact hΦ
      · have et : n + 1 - t = (n + 1 - (t + 1)) + 1 := by omega
        have jw : J (B + 2) = I (B + 2) := q1.1 _ (by omega)
        have jr : J r = I r := q1.1 _ (by omega)
        have jk : J B 7 = nI k := by rw [q1.1 B (by omega)]; exact hk
        have sT : Unit → s t = r1s (c8 (I (B + 2))) ci (I r 2) (I r 3) (s (t - 1)) := fun _ => by
          have := sS (t - 1) ()
          rw [show t - 1 + 1 = t by omega] at this
          exact this
        have key : E Γ mX8_comesWithin d 0 0 (QM Γ 0 0 Φ) 0 0 7 [some (.ref B), some (.int x), some (.int y), some (.int z)] [] g P J := by
          refine E_aload_n (i := 0) dX8_comesWithin_7 rfl rfl ?_
          refine E_iload_n (i := 1) dX8_comesWithin_8 rfl rfl ?_
          refine k_X8_comesWithin_9 (mc' := 0) (ms' := 0) (rc := 0) (rs := 0) (by omega) (Nat.le_of_ble_eq_true rfl) (by assumption) (r_goes1 (s := s (t - 1)) (by omega) hS (by rw [jw]; exact hO) jk hk8 hi hx hp hr hc q3 (q2 ()) (fun K v w1 w2 w3 => ?_))
          rw [jw, jr, ← sT ()] at w2
          have w2' : Unit → cR K B i = s t := fun _ => w2
          have hgo := goB_iff (s := s (t - 1)) w2 (s01 t)
          have k7 : Unit → K (B + 7) i = (s t).2.2.1 := fun _ => congrArg (fun q : R4 => q.2.2.1) w2
          clear w2
          by_cases hg : goB K B i (s (t - 1)).1 (s (t - 1)).2.1
          · rw [bz_t hg] at w3
            subst w3
            clear hgo hg
            by_cases hin2 : K (B + 7) i = 0
            · have hni : ¬ inB s t := fun h => by
                have h : (s t).2.2.1 = 1 := h
                rw [← k7 (), hin2] at h
                exact absurd h (by decide)
              have hf : Unit → fnd (inB s) (n + 1) 0 = fnd (inB s) (n + 1 - (t + 1)) (t + 1) := fun _ => by rw [q4 (), et, fnd, if_neg hni]
              clear hni
              refine E_if_ne (tgt := 17) dX8_comesWithin_12 (by decide) (fun c_12 => ?_) (fun c_12 => absurd c_12 (by decide))
              refine E_aload_n (i := 0) dX8_comesWithin_17 rfl rfl ?_
              refine E_gr dX8_comesWithin_18 gf_X8_34_8 rfl (by assumption) (by assumption) ?_
              refine E_iload_n (i := 1) dX8_comesWithin_21 rfl rfl ?_
              refine E_zaj i dX8_comesWithin_22 (by assumption) hx (by omega) (by rw [u3]; omega) ?_
              refine E_if_eq (tgt := 28) dX8_comesWithin_23 (by decide) (fun c_23 => ?_) (fun c_23 => absurd (hin2) c_23)
              refine E_incC (c := 1) dX8_comesWithin_28 rfl (by decide) (by decide) rfl ?_
              refine E_lv (lv' := [_, _, _, _]) rfl ?_
              refine E_goto (tgt := 2) dX8_comesWithin_31 (by decide) ?_
              exact ih (t + 1) _ _ (by omega) (by omega) (by omega) (by rw [hz, nI_1]) (q1.trans w1) w2' hin2 hf
            · have hi1 : inB s t := by
                have h := k7 ()
                exact (s01 t).resolve_left (fun q => hin2 (by rw [h, q]))
              have hf : Unit → fnd (inB s) (n + 1) 0 = some t := fun _ => by rw [q4 (), et, fnd, if_pos hi1]
              clear hi1
              have hΦ := h1 t ht1 (by omega) hf K (q1.trans w1) w2'
              refine E_if_ne (tgt := 17) dX8_comesWithin_12 (by decide) (fun c_12 => ?_) (fun c_12 => absurd c_12 (by decide))
              refine E_aload_n (i := 0) dX8_comesWithin_17 rfl rfl ?_
              refine E_gr dX8_comesWithin_18 gf_X8_34_8 rfl (by assumption) (by assumption) ?_
              refine E_iload_n (i := 1) dX8_comesWithin_21 rfl rfl ?_
              refine E_zaj i dX8_comesWithin_22 (by assumption) hx (by omega) (by rw [u3]; omega) ?_
              refine E_if_eq (tgt := 28) dX8_comesWithin_23 (by decide) (fun c_23 => absurd c_23 (hin2)) (fun c_23 => ?_)
              refine E_iload_n (i := 3) dX8_comesWithin_26 rfl rfl ?_
              refine E_iret dX8_comesWithin_27 rfl ?_
              rw [hz]
              exact hΦ
          · rw [bz_f hg] at w3
            subst w3
            obtain ⟨b1, b2, b3⟩ := hgo.mp hg
            have hq : Unit → ∀ j, t ≤ j → s j = s t := fun _ j hj => by
              have e0 : s t = s (t - 1) := by
                rw [sT ()] at b1 b2 b3 ⊢
                exact r1s_q b1 b2 b3
              have e1 : r1s (c8 (I (B + 2))) ci (I r 2) (I r 3) (s t) = s t := by
                have h := sT ()
                rw [← e0] at h
                exact h.symm
              have e2 := r1n_c (w := c8 (I (B + 2))) (ci := ci) (wt := I r 2) (m := I r 3) (s := cR I B i) (t := t) (by rw [← hs ()]; exact e1) (j - t)
              rw [← hs (), show t + (j - t) = j by omega] at e2
              exact e2
            have hf : Unit → fnd (inB s) (n + 1) 0 = none := fun _ => by
              rw [q4 ()]
              exact fnd_no (fun j hj h => by
                have h : (s j).2.2.1 = 1 := h
                rw [hq () j hj] at h
                exact b1 h)
            have hΦ := h2 hf K (q1.trans w1)
            clear hgo hg b1 b2 b3
            refine E_if_ne (tgt := 17) dX8_comesWithin_12 (by decide) (fun c_12 => absurd (rfl) c_12) (fun c_12 => ?_)
            refine E_iconst (v := 0) dX8_comesWithin_15 (by decide) ?_
            refine E_iret dX8_comesWithin_16 rfl ?_
            exact hΦ
        refine E_iload_n (i := 3) dX8_comesWithin_2 rfl rfl ?_
        refine E_iload_n (i := 2) dX8_comesWithin_3 rfl rfl ?_
        refine E_icmp_gt (tgt := 34) dX8_comesWithin_4 (by decide) (fun c_4 => absurd c_4 (by rw [hz, hy]; exact nI_nlt (by omega) (by omega))) (fun c_4 => ?_)
        exact key
  refine E_iconst (v := 1) dX8_comesWithin_0 (by decide) ?_
  refine E_istore_nC (i := 3) dX8_comesWithin_1 rfl (by decide) rfl ?_
  refine E_lv (lv' := [_, _, _, _]) rfl ?_
  exact loop n 1 _ _ (by omega) (by omega) (by omega) rfl (FG.refl _ _ _) (fun _ => (s0 ()).symm) hin (fun _ => f0 ())
end
