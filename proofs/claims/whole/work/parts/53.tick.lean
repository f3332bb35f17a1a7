/-! a tick, as the model's row has it -/
/-- a ride's kind in the model's row -/
def kdo (M : Nat → Int32) (r : Nat) : Nat := (M (16 + 7 * r + 0)).toNatClampNeg
/-- its new pace -/
def pcM (M : Nat → Int32) (r : Nat) : Int32 := pcn (kc (kdo M r)) (wm M) (M (16 + 7 * r + 1)) (M (16 + 7 * r + 2)) (M (16 + 7 * r + 3)) (M (16 + 7 * r + 4))
/-- the strands behind one that comes in -/
def stn (δ : List Int32) (wt p s : Int32) : Int32 := if 0 < s - gvl 0 δ wt p s 0 then s - gvl 0 δ wt p s 0 else 0
def goM (δ : List Int32) (M : Nat → Int32) (r : Nat) : Nat → Int32 :=
  if 10 * M 7 ≤ M (16 + 7 * r + 3) + pcM M r then ur (ur (ur (ur (ur M 15 (stn δ (M (16 + 7 * r + 1)) (pcM M r) (M 15))) (16 + 7 * r + 5) 1) (16 + 7 * r + 6) (pcM M r)) (16 + 7 * r + 3) (10 * M 7)) (16 + 7 * r + 4) 0
  else if M (16 + 7 * r + 3) + pcM M r < 0 then ur (ur M (16 + 7 * r + 3) 0) (16 + 7 * r + 4) 0
  else ur (ur M (16 + 7 * r + 3) (M (16 + 7 * r + 3) + pcM M r)) (16 + 7 * r + 4) (pcM M r)
def st1 (δ : List Int32) (M : Nat → Int32) (r : Nat) : Nat → Int32 := if M (16 + 7 * r + 5) = 1 then M else goM δ M r
def tkr (δ : List Int32) (M : Nat → Int32) : Nat → Nat → Int32
  | 0 => M
  | j + 1 => st1 δ (tkr δ M j) j
def tkM (δ : List Int32) (k : Nat) (M : Nat → Int32) : Nat → Int32 := ur (tkr δ M k) 0 (tkr δ M k 0 + 1)
def tks (δ : List Int32) (k : Nat) (M : Nat → Int32) : Nat → Nat → Int32
  | 0 => M
  | n + 1 => tkM δ k (tks δ k M n)
/-- a ride's numbers are as they may be -/
def VR (M : Nat → Int32) (r : Nat) : Prop := (∃ kd, kd ≤ 6 ∧ M (16 + 7 * r + 0) = nI kd) ∧ (1 ≤ (M (16 + 7 * r + 1)).toInt ∧ (M (16 + 7 * r + 1)).toInt ≤ 300) ∧ (0 ≤ (M (16 + 7 * r + 2)).toInt ∧ (M (16 + 7 * r + 2)).toInt ≤ 99) ∧ (0 ≤ (M (16 + 7 * r + 3)).toInt ∧ (M (16 + 7 * r + 3)).toInt ≤ 10 * (M 7).toInt) ∧ (-300 ≤ (M (16 + 7 * r + 4)).toInt ∧ (M (16 + 7 * r + 4)).toInt ≤ 300) ∧ (M (16 + 7 * r + 5) = 0 ∨ M (16 + 7 * r + 5) = 1)
def VM (M : Nat → Int32) (k : Nat) : Prop := M 1 = nI k ∧ k ≤ 8 ∧ WOK (wm M) ∧ ∀ r, r < k → VR M r
theorem hel_b {v a b : Int32} (h : a ≤ b) : a ≤ hel v a b ∧ hel v a b ≤ b := by
  unfold hel
  by_cases h1 : b < v
  · rw [if_pos h1]
    by_cases h2 : a < b
    · rw [if_pos h2]
      exact ⟨h, Int32.le_refl _⟩
    · rw [if_neg h2]
      exact ⟨Int32.le_refl _, h⟩
  · rw [if_neg h1]
    by_cases h2 : a < v
    · rw [if_pos h2]
      exact ⟨Int32.le_of_lt h2, Int32.not_lt.mp h1⟩
    · rw [if_neg h2]
      exact ⟨Int32.le_refl _, h⟩
theorem pcn_b {ci : Nat} {w : Nat → Int32} {wt m pl pa : Int32} : -300 ≤ (pcn ci w wt m pl pa).toInt ∧ (pcn ci w wt m pl pa).toInt ≤ 300 := by
  have h := hel_b (v := rub (pa + gnc ci w wt m pl pa) (rbc ci w)) (a := -300) (b := 300) (by decide)
  exact ⟨i32_le.mp h.1, i32_le.mp h.2⟩
theorem gvl0_b (δ : List Int32) (a b c e : Int32) : 0 ≤ (gvl 0 δ a b c e).toInt ∧ (gvl 0 δ a b c e).toInt ≤ 99 := by
  have h := hel_b (v := vof (nm4 a b c e) δ) (a := 0) (b := 99) (by decide)
  unfold gvl
  rw [if_pos rfl]
  exact ⟨i32_le.mp h.1, i32_le.mp h.2⟩
theorem stn_b {δ : List Int32} {wt p s : Int32} (h1 : 0 ≤ s.toInt) (h2 : s.toInt ≤ 999) : 0 ≤ (stn δ wt p s).toInt ∧ (stn δ wt p s).toInt ≤ 999 := by
  have h := gvl0_b δ wt p s 0
  unfold stn
  have e : (s - gvl 0 δ wt p s 0).toInt = s.toInt - (gvl 0 δ wt p s 0).toInt := sub32 (by omega) (by omega)
  by_cases hc : 0 < s - gvl 0 δ wt p s 0
  · rw [if_pos hc]
    have := i32_lt.mp hc
    rw [e] at this ⊢
    have z : (0 : Int32).toInt = 0 := rfl
    omega
  · rw [if_neg hc]
    exact ⟨by decide, by decide⟩
/-- what a ride's tick leaves as it was -/
theorem goM_o {δ : List Int32} {M : Nat → Int32} {r y : Nat} (h : y ≠ 15) (h3 : y ≠ 16 + 7 * r + 3) (h4 : y ≠ 16 + 7 * r + 4) (h5 : y ≠ 16 + 7 * r + 5) (h6 : y ≠ 16 + 7 * r + 6) : goM δ M r y = M y := by
  unfold goM
  split
  · rw [ur_n _ _ h4, ur_n _ _ h3, ur_n _ _ h6, ur_n _ _ h5, ur_n _ _ h]
  · split
    · rw [ur_n _ _ h4, ur_n _ _ h3]
    · rw [ur_n _ _ h4, ur_n _ _ h3]
section
variable {δ : List Int32} {M : Nat → Int32} {r k : Nat}
theorem VM.span (h : VM M k) : 20 ≤ (M 7).toInt ∧ (M 7).toInt ≤ 400 := h.2.2.1.b.1
theorem VM.str (h : VM M k) : 0 ≤ (M 15).toInt ∧ (M 15).toInt ≤ 999 := h.2.2.1.b.2.2.2.2.2.2.2.2
theorem end_i (h : VM M k) : (10 * M 7).toInt = 10 * (M 7).toInt := by
  have := h.span
  exact mul32 (by show _ ≤ 10 * (M 7).toInt; omega) (by show 10 * (M 7).toInt < _; omega)
theorem pl_i (h : VM M k) (hr : r < k) : (M (16 + 7 * r + 3) + pcM M r).toInt = (M (16 + 7 * r + 3)).toInt + (pcM M r).toInt := by
  have a := h.span
  obtain ⟨-, -, -, b, -, -⟩ := h.2.2.2 r hr
  have c : -300 ≤ (pcM M r).toInt ∧ (pcM M r).toInt ≤ 300 := pcn_b
  exact add32 (by omega) (by omega)
theorem VM_go (h : VM M k) (hr : r < k) : VM (goM δ M r) k := by
  have hk := h.2.1
  have hs := h.span
  have e10 := end_i h
  have epl := pl_i h hr
  have pb : -300 ≤ (pcM M r).toInt ∧ (pcM M r).toInt ≤ 300 := pcn_b
  have e7 : goM δ M r 7 = M 7 := goM_o (by omega) (by omega) (by omega) (by omega) (by omega)
  have c15 : goM δ M r 15 = M 15 ∨ goM δ M r 15 = stn δ (M (16 + 7 * r + 1)) (pcM M r) (M 15) := by
    unfold goM
    split
    · right
      rw [ur_n _ _ (by omega), ur_n _ _ (by omega), ur_n _ _ (by omega), ur_n _ _ (by omega), ur_s]
    · left
      split
      · rw [ur_n _ _ (by omega), ur_n _ _ (by omega)]
      · rw [ur_n _ _ (by omega), ur_n _ _ (by omega)]
  refine ⟨?_, hk, ?_, ?_⟩
  · rw [goM_o (by omega) (by omega) (by omega) (by omega) (by omega)]
    exact h.1
  · intro j hj
    have hw := h.2.2.1 j hj
    by_cases e : j = 8
    · subst e
      show lst 8 ≤ goM δ M r 15 ∧ goM δ M r 15 ≤ grt 8
      rcases c15 with c | c
      · rw [c]
        exact hw
      · rw [c]
        have := stn_b (δ := δ) (wt := M (16 + 7 * r + 1)) (p := pcM M r) h.str.1 h.str.2
        exact ⟨i32_le.mpr this.1, i32_le.mpr this.2⟩
    · show lst j ≤ goM δ M r (7 + j) ∧ goM δ M r (7 + j) ≤ grt j
      rw [goM_o (by omega) (by omega) (by omega) (by omega) (by omega)]
      exact hw
  · intro r' hr'
    obtain ⟨v1, v2, v3, v4, v5, v6⟩ := h.2.2.2 r' hr'
    have o0 : goM δ M r (16 + 7 * r' + 0) = M (16 + 7 * r' + 0) := goM_o (by omega) (by omega) (by omega) (by omega) (by omega)
    have o1 : goM δ M r (16 + 7 * r' + 1) = M (16 + 7 * r' + 1) := goM_o (by omega) (by omega) (by omega) (by omega) (by omega)
    have o2 : goM δ M r (16 + 7 * r' + 2) = M (16 + 7 * r' + 2) := goM_o (by omega) (by omega) (by omega) (by omega) (by omega)
    by_cases e : r' = r
    · subst e
      refine ⟨by rw [o0]; exact v1, by rw [o1]; exact v2, by rw [o2]; exact v3, ?_⟩
      rw [e7]
      unfold goM
      by_cases c1 : 10 * M 7 ≤ M (16 + 7 * r' + 3) + pcM M r'
      · rw [if_pos c1]
        refine ⟨?_, ?_, ?_⟩
        · rw [ur_n _ _ (by omega), ur_s, e10]
          omega
        · rw [ur_s]
          exact ⟨by decide, by decide⟩
        · rw [ur_n _ _ (by omega), ur_n _ _ (by omega), ur_n _ _ (by omega), ur_s]
          exact Or.inr rfl
      · rw [if_neg c1]
        have c1' := i32_lt.mp (Int32.not_le.mp c1)
        by_cases c2 : M (16 + 7 * r' + 3) + pcM M r' < 0
        · rw [if_pos c2]
          refine ⟨?_, ?_, ?_⟩
          · rw [ur_n _ _ (by omega), ur_s]
            exact ⟨by decide, by show (0 : Int) ≤ _; omega⟩
          · rw [ur_s]
            exact ⟨by decide, by decide⟩
          · rw [ur_n _ _ (by omega), ur_n _ _ (by omega)]
            exact v6
        · rw [if_neg c2]
          have c2' := i32_le.mp (Int32.not_lt.mp c2)
          refine ⟨?_, ?_, ?_⟩
          · rw [ur_n _ _ (by omega), ur_s]
            exact ⟨c2', by rw [e10] at c1'; omega⟩
          · rw [ur_s]
            exact pb
          · rw [ur_n _ _ (by omega), ur_n _ _ (by omega)]
            exact v6
    · have o3 : goM δ M r (16 + 7 * r' + 3) = M (16 + 7 * r' + 3) := goM_o (by omega) (by omega) (by omega) (by omega) (by omega)
      have o4 : goM δ M r (16 + 7 * r' + 4) = M (16 + 7 * r' + 4) := goM_o (by omega) (by omega) (by omega) (by omega) (by omega)
      have o5 : goM δ M r (16 + 7 * r' + 5) = M (16 + 7 * r' + 5) := goM_o (by omega) (by omega) (by omega) (by omega) (by omega)
      exact ⟨by rw [o0]; exact v1, by rw [o1]; exact v2, by rw [o2]; exact v3, by rw [o3, e7]; exact v4, by rw [o4]; exact v5, by rw [o5]; exact v6⟩
theorem VM_st (h : VM M k) (hr : r < k) : VM (st1 δ M r) k := by
  unfold st1
  split
  · exact h
  · exact VM_go h hr
theorem VM_tkr (h : VM M k) : ∀ j, j ≤ k → VM (tkr δ M j) k
  | 0, _ => h
  | j + 1, hj => VM_st (VM_tkr h j (by omega)) (by omega)
theorem VM_0 {v : Int32} (h : VM M k) : VM (ur M 0 v) k := by
  have e : ∀ y, y ≠ 0 → ur M 0 v y = M y := fun y hy => ur_n _ _ hy
  refine ⟨by rw [e 1 (by decide)]; exact h.1, h.2.1, fun j hj => ?_, fun r hr => ?_⟩
  · show lst j ≤ ur M 0 v (7 + j) ∧ ur M 0 v (7 + j) ≤ grt j
    rw [e _ (by omega)]
    exact h.2.2.1 j hj
  · have := h.2.2.2 r hr
    unfold VR at this ⊢
    rw [e (16 + 7 * r + 0) (by omega), e (16 + 7 * r + 1) (by omega), e (16 + 7 * r + 2) (by omega), e (16 + 7 * r + 3) (by omega), e (16 + 7 * r + 4) (by omega), e (16 + 7 * r + 5) (by omega), e 7 (by decide)]
    exact this
theorem VM_tk (h : VM M k) : VM (tkM δ k M) k := VM_0 (VM_tkr h k (Nat.le_refl _))
theorem VM_tks (h : VM M k) : ∀ n, VM (tks δ k M n) k
  | 0 => h
  | n + 1 => VM_tk (VM_tks h n)
theorem st1_o {y : Nat} (h : y ≠ 15) (h3 : y < 16 ∨ 16 + 7 * r + 7 ≤ y ∨ y < 16 + 7 * r + 3) : st1 δ M r y = M y := by
  unfold st1
  split
  · rfl
  · exact goM_o h (by omega) (by omega) (by omega) (by omega)
theorem tkr_o {y : Nat} (h : y ≠ 15) (hy : y < 16 ∨ 16 + 7 * k ≤ y) : ∀ j, j ≤ k → tkr δ M j y = M y
  | 0, _ => rfl
  | j + 1, hj => by
    show st1 δ (tkr δ M j) j y = M y
    rw [st1_o h (by omega), tkr_o h hy j (by omega)]
theorem tks_o {y : Nat} (h0 : y ≠ 0) (h : y ≠ 15) (hy : y < 16 ∨ 16 + 7 * k ≤ y) : ∀ n, tks δ k M n y = M y
  | 0 => rfl
  | n + 1 => by
    show ur (tkr δ (tks δ k M n) k) 0 (tkr δ (tks δ k M n) k 0 + 1) y = M y
    rw [ur_n _ _ h0, tkr_o h hy k (Nat.le_refl _), tks_o h0 h hy n]
theorem tks_0 : ∀ n, tks δ k M n 0 = M 0 + nI n
  | 0 => (i_add0 _).symm
  | n + 1 => by
    show ur (tkr δ (tks δ k M n) k) 0 (tkr δ (tks δ k M n) k 0 + 1) 0 = M 0 + nI (n + 1)
    rw [ur_s, tkr_o (by decide) (Or.inl (by decide)) k (Nat.le_refl _), tks_0 n, ← nI_1]
    exact Int32.add_assoc _ _ _
theorem TC_tks {u : Nat} {ε : List Int32} (hk : k ≤ 8) (hu : u ≤ 1) (h : TC u ε M) (n : Nat) : TC u ε (tks δ k M n) := by
  have e : ∀ y, 168 ≤ y → tks δ k M n y = M y := fun y hy => tks_o (by omega) (by omega) (by omega) n
  refine ⟨h.1, ?_⟩
  rcases h.2 with ⟨a, b⟩ | ⟨a, b, c⟩
  · exact Or.inl ⟨by rw [e _ (by omega)]; exact a, b⟩
  · exact Or.inr ⟨a, by rw [e _ (by omega)]; exact b, fun i hi => by rw [e _ (by omega)]; exact c i hi⟩
theorem TC_tkr {u : Nat} {ε : List Int32} (hk : k ≤ 8) (h : TC u ε M) (j : Nat) (hj : j ≤ k) : TC u ε (tkr δ M j) := by
  have e : ∀ y, 168 ≤ y → tkr δ M j y = M y := fun y hy => tkr_o (k := k) (by omega) (by omega) j hj
  refine ⟨h.1, ?_⟩
  rcases h.2 with ⟨a, b⟩ | ⟨a, b, c⟩
  · exact Or.inl ⟨by rw [e _ (by omega)]; exact a, b⟩
  · exact Or.inr ⟨a, by rw [e _ (by omega)]; exact b, fun i hi => by rw [e _ (by omega)]; exact c i hi⟩
/-! what doesn't matter: NOW -/
theorem wm_0 {v : Int32} : wm (ur M 0 v) = wm M := by
  funext j
  show ur M 0 v (7 + j) = M (7 + j)
  exact ur_n _ _ (by omega)
theorem pcM_0 {v : Int32} : pcM (ur M 0 v) r = pcM M r := by
  unfold pcM kdo
  rw [wm_0, ur_n _ _ (by omega), ur_n _ _ (by omega), ur_n _ _ (by omega), ur_n _ _ (by omega), ur_n _ _ (by omega)]
theorem ur_sw {f : Nat → Int32} {a b : Nat} {x y : Int32} (h : a ≠ b) : ur (ur f a x) b y = ur (ur f b y) a x := by
  funext j
  unfold ur
  by_cases h1 : j = b
  · rw [if_pos h1, if_neg (by omega), if_pos h1]
  · by_cases h2 : j = a
    · rw [if_neg h1, if_pos h2, if_pos h2]
    · simp [h1, h2]
theorem goM_0 {v : Int32} : goM δ (ur M 0 v) r = ur (goM δ M r) 0 v := by
  unfold goM
  rw [pcM_0, ur_n (f := M) (a := 0) v (show 7 ≠ 0 by omega), ur_n (f := M) (a := 0) v (show 16 + 7 * r + 3 ≠ 0 by omega), ur_n (f := M) (a := 0) v (show 16 + 7 * r + 1 ≠ 0 by omega), ur_n (f := M) (a := 0) v (show 15 ≠ 0 by omega)]
  split
  · rw [ur_sw (a := 0) (b := 15) (by omega), ur_sw (a := 0) (by omega), ur_sw (a := 0) (by omega), ur_sw (a := 0) (by omega), ur_sw (a := 0) (by omega)]
  · split
    · rw [ur_sw (a := 0) (by omega), ur_sw (a := 0) (by omega)]
    · rw [ur_sw (a := 0) (by omega), ur_sw (a := 0) (by omega)]
theorem st1_0 {v : Int32} : st1 δ (ur M 0 v) r = ur (st1 δ M r) 0 v := by
  unfold st1
  rw [ur_n _ _ (by omega)]
  split
  · rfl
  · exact goM_0
theorem tkr_0 {v : Int32} : ∀ j, tkr δ (ur M 0 v) j = ur (tkr δ M j) 0 v
  | 0 => rfl
  | j + 1 => by
    show st1 δ (tkr δ (ur M 0 v) j) j = ur (st1 δ (tkr δ M j) j) 0 v
    rw [tkr_0 j, st1_0]
/-- a tick that changed no ride is followed by such -/
theorem tks_q (hq : tkr δ M k = M) : ∀ n, tks δ k M n = ur M 0 (M 0 + nI n)
  | 0 => by
    show M = ur M 0 (M 0 + nI 0)
    rw [show M 0 + nI 0 = M 0 from i_add0 _, ur_id]
  | n + 1 => by
    have e := tks_0 (δ := δ) (k := k) (M := M) (n + 1)
    show ur (tkr δ (tks δ k M n) k) 0 (tkr δ (tks δ k M n) k 0 + 1) = _
    have h : tkr δ (tks δ k M n) k = ur M 0 (M 0 + nI n) := by rw [tks_q hq n, tkr_0, hq]
    have e2 : tks δ k M (n + 1) 0 = tkr δ (tks δ k M n) k 0 + 1 := by
      show ur (tkr δ (tks δ k M n) k) 0 (tkr δ (tks δ k M n) k 0 + 1) 0 = _
      exact ur_s _ _ _
    rw [← e2, e, h, ur_ur]
theorem tks_add (m : Nat) : ∀ n, tks δ k M (m + n) = tks δ k (tks δ k M m) n
  | 0 => rfl
  | n + 1 => by
    show tkM δ k (tks δ k M (m + n)) = tkM δ k (tks δ k (tks δ k M m) n)
    rw [tks_add m n]
/-- a ride's tick that changed nothing -/
theorem goM_q (h5 : ¬ goM δ M r (16 + 7 * r + 5) = 1) (h3 : goM δ M r (16 + 7 * r + 3) = M (16 + 7 * r + 3)) (h4 : goM δ M r (16 + 7 * r + 4) = M (16 + 7 * r + 4)) : goM δ M r = M := by
  unfold goM at h3 h4 h5 ⊢
  by_cases c1 : 10 * M 7 ≤ M (16 + 7 * r + 3) + pcM M r
  · rw [if_pos c1, ur_n _ _ (by omega), ur_n _ _ (by omega), ur_n _ _ (by omega), ur_s] at h5
    exact absurd rfl h5
  · rw [if_neg c1] at h3 h4 ⊢
    by_cases c2 : M (16 + 7 * r + 3) + pcM M r < 0
    · rw [if_pos c2] at h3 h4 ⊢
      rw [ur_n _ _ (by omega), ur_s] at h3
      rw [ur_s] at h4
      have e1 : ur M (16 + 7 * r + 3) 0 = M := by rw [h3]; exact ur_id _ _
      have e2 : ur M (16 + 7 * r + 4) 0 = M := by rw [h4]; exact ur_id _ _
      rw [e1, e2]
    · rw [if_neg c2] at h3 h4 ⊢
      rw [ur_n _ _ (by omega), ur_s] at h3
      rw [ur_s] at h4
      rw [h3, ur_id, h4, ur_id]
end
/-! one ride by itself -/
abbrev R4 : Type := Int32 × Int32 × Int32 × Int32
/-- a tick of a ride by itself: place, pace, in, came -/
def r1s (w : Nat → Int32) (ci : Nat) (wt m : Int32) (s : R4) : R4 :=
  if s.2.2.1 = 1 then s
  else if 10 * w 0 ≤ s.1 + pcn ci w wt m s.1 s.2.1 then (10 * w 0, 0, 1, pcn ci w wt m s.1 s.2.1)
  else if s.1 + pcn ci w wt m s.1 s.2.1 < 0 then (0, 0, s.2.2.1, s.2.2.2)
  else (s.1 + pcn ci w wt m s.1 s.2.1, pcn ci w wt m s.1 s.2.1, s.2.2.1, s.2.2.2)
def r1n (w : Nat → Int32) (ci : Nat) (wt m : Int32) (s : R4) : Nat → R4
  | 0 => s
  | n + 1 => r1s w ci wt m (r1n w ci wt m s n)
/-- the wire but for its strands -/
def c8 (w : Nat → Int32) : Nat → Int32 := fun j => if j < 8 then w j else 0
theorem pcn_c8 (ci : Nat) (w : Nat → Int32) (wt m pl pa : Int32) : pcn ci (c8 w) wt m pl pa = pcn ci w wt m pl pa := by
  have e0 : c8 w 0 = w 0 := rfl
  have e1 : c8 w 1 = w 1 := rfl
  have e2 : c8 w 2 = w 2 := rfl
  have e3 : c8 w 3 = w 3 := rfl
  have e4 : c8 w 4 = w 4 := rfl
  have e6 : c8 w 6 = w 6 := rfl
  have e7 : c8 w 7 = w 7 := rfl
  unfold pcn gnc gkc rbc rl stp dep taut
  rw [e0, e1, e2, e3, e4, e6, e7]
def mR (M : Nat → Int32) (r : Nat) : R4 := (M (16 + 7 * r + 3), M (16 + 7 * r + 4), M (16 + 7 * r + 5), M (16 + 7 * r + 6))
section
variable {δ : List Int32} {M : Nat → Int32} {r k : Nat}
theorem mR_st : mR (st1 δ M r) r = r1s (c8 (wm M)) (kc (kdo M r)) (M (16 + 7 * r + 1)) (M (16 + 7 * r + 2)) (mR M r) := by
  unfold r1s st1
  show _ = if M (16 + 7 * r + 5) = 1 then _ else _
  by_cases h : M (16 + 7 * r + 5) = 1
  · rw [if_pos h, if_pos h]
  · rw [if_neg h, if_neg h, pcn_c8]
    show mR (goM δ M r) r = if 10 * M 7 ≤ M (16 + 7 * r + 3) + pcM M r then _ else if M (16 + 7 * r + 3) + pcM M r < 0 then _ else _
    unfold goM mR
    by_cases c1 : 10 * M 7 ≤ M (16 + 7 * r + 3) + pcM M r
    · rw [if_pos c1, if_pos c1]
      rw [ur_n _ _ (show 16 + 7 * r + 3 ≠ 16 + 7 * r + 4 by omega), ur_s, ur_s, ur_n _ _ (show 16 + 7 * r + 5 ≠ 16 + 7 * r + 4 by omega), ur_n _ _ (show 16 + 7 * r + 5 ≠ 16 + 7 * r + 3 by omega), ur_n _ _ (show 16 + 7 * r + 5 ≠ 16 + 7 * r + 6 by omega), ur_s, ur_n _ _ (show 16 + 7 * r + 6 ≠ 16 + 7 * r + 4 by omega), ur_n _ _ (show 16 + 7 * r + 6 ≠ 16 + 7 * r + 3 by omega), ur_s]
      rfl
    · rw [if_neg c1, if_neg c1]
      by_cases c2 : M (16 + 7 * r + 3) + pcM M r < 0
      · rw [if_pos c2, if_pos c2]
        rw [ur_n _ _ (show 16 + 7 * r + 3 ≠ 16 + 7 * r + 4 by omega), ur_s, ur_s, ur_n _ _ (show 16 + 7 * r + 5 ≠ 16 + 7 * r + 4 by omega), ur_n _ _ (show 16 + 7 * r + 5 ≠ 16 + 7 * r + 3 by omega), ur_n _ _ (show 16 + 7 * r + 6 ≠ 16 + 7 * r + 4 by omega), ur_n _ _ (show 16 + 7 * r + 6 ≠ 16 + 7 * r + 3 by omega)]
      · rw [if_neg c2, if_neg c2]
        rw [ur_n _ _ (show 16 + 7 * r + 3 ≠ 16 + 7 * r + 4 by omega), ur_s, ur_s, ur_n _ _ (show 16 + 7 * r + 5 ≠ 16 + 7 * r + 4 by omega), ur_n _ _ (show 16 + 7 * r + 5 ≠ 16 + 7 * r + 3 by omega), ur_n _ _ (show 16 + 7 * r + 6 ≠ 16 + 7 * r + 4 by omega), ur_n _ _ (show 16 + 7 * r + 6 ≠ 16 + 7 * r + 3 by omega)]
        rfl
theorem mR_o {r' : Nat} (h : r' ≠ r) : mR (st1 δ M r) r' = mR M r' := by
  unfold mR
  rw [st1_o (by omega) (by omega), st1_o (by omega) (by omega), st1_o (by omega) (by omega), st1_o (by omega) (by omega)]
theorem c8_tkr {j : Nat} : c8 (wm (tkr δ M j)) = c8 (wm M) := by
  funext i
  unfold c8
  split
  · show tkr δ M j (7 + i) = M (7 + i)
    exact tkr_o (k := j) (by omega) (by omega) j (Nat.le_refl _)
  · rfl
theorem mR_tkr (hr : r < k) : ∀ j, j ≤ k → mR (tkr δ M j) r = if r < j then r1s (c8 (wm M)) (kc (kdo M r)) (M (16 + 7 * r + 1)) (M (16 + 7 * r + 2)) (mR M r) else mR M r
  | 0, _ => by rw [if_neg (by omega)]; rfl
  | j + 1, hj => by
    have ih := mR_tkr hr j (by omega)
    show mR (st1 δ (tkr δ M j) j) r = _
    by_cases e : r = j
    · subst e
      rw [if_neg (by omega)] at ih
      have e0 : tkr δ M r (16 + 7 * r + 0) = M (16 + 7 * r + 0) := tkr_o (k := r) (by omega) (by omega) r (Nat.le_refl _)
      have e1 : tkr δ M r (16 + 7 * r + 1) = M (16 + 7 * r + 1) := tkr_o (k := r) (by omega) (by omega) r (Nat.le_refl _)
      have e2 : tkr δ M r (16 + 7 * r + 2) = M (16 + 7 * r + 2) := tkr_o (k := r) (by omega) (by omega) r (Nat.le_refl _)
      rw [mR_st, c8_tkr, e1, e2, ih, if_pos (by omega)]
      unfold kdo
      rw [e0]
    · rw [mR_o e, ih]
      by_cases h : r < j
      · rw [if_pos h, if_pos (by omega)]
      · rw [if_neg h, if_neg (by omega)]
theorem tkr_k {f : Nat} (hf : f < 3) : ∀ j, tkr δ M j (16 + 7 * r + f) = M (16 + 7 * r + f)
  | 0 => rfl
  | j + 1 => by
    show st1 δ (tkr δ M j) j _ = _
    unfold st1
    split
    · exact tkr_k hf j
    · rw [goM_o (by omega) (by omega) (by omega) (by omega) (by omega)]
      exact tkr_k hf j
theorem tks_k {f : Nat} (hf : f < 3) : ∀ n, tks δ k M n (16 + 7 * r + f) = M (16 + 7 * r + f)
  | 0 => rfl
  | n + 1 => by
    show ur (tkr δ (tks δ k M n) k) 0 (tkr δ (tks δ k M n) k 0 + 1) (16 + 7 * r + f) = _
    rw [ur_n _ _ (by omega), tkr_k hf, tks_k hf n]
theorem c8_tks : ∀ n, c8 (wm (tks δ k M n)) = c8 (wm M)
  | 0 => rfl
  | n + 1 => by
    show c8 (wm (ur (tkr δ (tks δ k M n) k) 0 (tkr δ (tks δ k M n) k 0 + 1))) = _
    rw [wm_0, c8_tkr, c8_tks n]
/-- of a ride the ticks tell what they tell of it by itself -/
theorem mR_tks (hr : r < k) : ∀ n, mR (tks δ k M n) r = r1n (c8 (wm M)) (kc (kdo M r)) (M (16 + 7 * r + 1)) (M (16 + 7 * r + 2)) (mR M r) n
  | 0 => rfl
  | n + 1 => by
    have e : mR (tks δ k M (n + 1)) r = mR (tkr δ (tks δ k M n) k) r := by
      show mR (ur (tkr δ (tks δ k M n) k) 0 (tkr δ (tks δ k M n) k 0 + 1)) r = _
      unfold mR
      rw [ur_n _ _ (by omega), ur_n _ _ (by omega), ur_n _ _ (by omega), ur_n _ _ (by omega)]
    rw [e, mR_tkr hr k (Nat.le_refl _), if_pos hr, c8_tks, mR_tks hr n, tks_k (by omega), tks_k (by omega)]
    unfold kdo
    rw [tks_k (by omega)]
    rfl
end
