/-! ways over lines -/
theorem lw_st {n last : Nat} {pl : Nat → Nat → Prop} [∀ a b, Decidable (pl a b)] {f i : Nat} (h : ¬ lw n last pl f i = 0) : lw n last pl (f + 1) i = lw n last pl f i := by
  conv => lhs; unfold lw
  rw [if_neg h]
theorem lw_mono {n last : Nat} {pl : Nat → Nat → Prop} [∀ a b, Decidable (pl a b)] {f i : Nat} (h : ¬ lw n last pl f i = 0) : ∀ k, lw n last pl (f + k) i = lw n last pl f i
  | 0 => rfl
  | k + 1 => by
    have := lw_mono h k
    have e : lw n last pl (f + k + 1) i = lw n last pl (f + k) i := lw_st (by rw [this]; exact h)
    show lw n last pl (f + k + 1) i = _
    rw [e, this]
theorem lw_eq {n last : Nat} {pl : Nat → Nat → Prop} [∀ a b, Decidable (pl a b)] (f i : Nat) : lw n last pl (f + 1) i = if lw n last pl f i = 0 then (if i < n ∧ fnd (fun b => lw n last pl f b = f + 1 ∧ pl i b) n 0 ≠ none then f + 2 else 0) else lw n last pl f i := rfl
theorem lw_new {n last : Nat} {pl : Nat → Nat → Prop} [∀ a b, Decidable (pl a b)] {f i : Nat} (h : lw n last pl f i = 0) (h2 : ¬ lw n last pl (f + 1) i = 0) : lw n last pl (f + 1) i = f + 2 ∧ i < n ∧ ∃ b, b < n ∧ lw n last pl f b = f + 1 ∧ pl i b := by
  rw [lw_eq, if_pos h] at h2 ⊢
  split at h2
  · next hc =>
    rw [if_pos hc]
    refine ⟨rfl, hc.1, ?_⟩
    cases e : fnd (fun b => lw n last pl f b = f + 1 ∧ pl i b) n 0 with
    | none => exact absurd e hc.2
    | some b =>
      have := fnd_some e
      exact ⟨b, by omega, this.2.2.1.1, this.2.2.1.2⟩
  · exact absurd rfl h2
theorem lw_new' {n last : Nat} {pl : Nat → Nat → Prop} [∀ a b, Decidable (pl a b)] {f i b : Nat} (h : lw n last pl f i = 0) (hi : i < n) (hb : b < n) (h1 : lw n last pl f b = f + 1) (h2 : pl i b) : lw n last pl (f + 1) i = f + 2 := by
  rw [lw_eq, if_pos h, if_pos ⟨hi, fun e => fnd_none e b (by omega) (by omega) ⟨h1, h2⟩⟩]
theorem lw_down {n last : Nat} {pl : Nat → Nat → Prop} [∀ a b, Decidable (pl a b)] : ∀ {f b : Nat}, ¬ lw n last pl f b = 0 → lw n last pl (lw n last pl f b - 1) b = lw n last pl f b
  | 0, b, h => by
    have := lw_le (n := n) (last := last) (pl := pl) 0 b
    have e : lw n last pl 0 b = 1 := by omega
    rw [e]
    exact e
  | f + 1, b, h => by
    by_cases c : lw n last pl f b = 0
    · have := (lw_new c h).1
      rw [this]
      exact this
    · rw [lw_st c]
      exact lw_down c
/-- a way of m pulls from a line to the last -/
def wk (n last : Nat) (pl : Nat → Nat → Prop) : Nat → Nat → Prop
  | 0, i => i = last
  | m + 1, i => i < n ∧ ∃ b, b < n ∧ pl i b ∧ wk n last pl m b
theorem lw_wk {n last : Nat} {pl : Nat → Nat → Prop} [∀ a b, Decidable (pl a b)] : ∀ {f i : Nat}, ¬ lw n last pl f i = 0 → wk n last pl (lw n last pl f i - 1) i
  | 0, i, h => by
    have e : i = last := by
      by_cases c : i = last
      · exact c
      · refine absurd ?_ h
        unfold lw
        rw [if_neg c]
    unfold lw
    rw [if_pos e]
    exact e
  | f + 1, i, h => by
    by_cases c : lw n last pl f i = 0
    · obtain ⟨h1, h2, b, h3, h4, h5⟩ := lw_new c h
      rw [h1]
      have := lw_wk (n := n) (last := last) (pl := pl) (f := f) (i := b) (by omega)
      rw [h4] at this
      exact ⟨h2, b, h3, h5, this⟩
    · rw [lw_st c]
      exact lw_wk c
theorem wk_lw {n last : Nat} {pl : Nat → Nat → Prop} [∀ a b, Decidable (pl a b)] : ∀ {m i f : Nat}, wk n last pl m i → m ≤ f → ¬ lw n last pl f i = 0 ∧ lw n last pl f i ≤ m + 1
  | 0, i, f, h, _ => by
    have e : lw n last pl 0 i = 1 := by
      unfold lw
      rw [if_pos (show i = last from h)]
    have := lw_mono (n := n) (last := last) (pl := pl) (f := 0) (i := i) (by omega) f
    rw [Nat.zero_add] at this
    omega
  | m + 1, i, f, h, hf => by
    obtain ⟨hi, b, hb, hp, hw⟩ := h
    obtain ⟨h1, h2⟩ := wk_lw (f := m) hw (Nat.le_refl _)
    have h3 := lw_down h1
    generalize hv : lw n last pl m b = v at h1 h2 h3
    by_cases c : lw n last pl (v - 1) i = 0
    · have e := lw_new' c hi hb (show lw n last pl (v - 1) b = v - 1 + 1 by omega) hp
      have := lw_mono (n := n) (last := last) (pl := pl) (f := v - 1 + 1) (i := i) (by omega) (f - (v - 1 + 1))
      rw [show v - 1 + 1 + (f - (v - 1 + 1)) = f by omega] at this
      omega
    · have := lw_mono c (f - (v - 1))
      rw [show v - 1 + (f - (v - 1)) = f by omega] at this
      have hl := lw_le (n := n) (last := last) (pl := pl) (v - 1) i
      omega
/-- how many of the first k lines are reached -/
def lcnt (n last : Nat) (pl : Nat → Nat → Prop) [∀ a b, Decidable (pl a b)] (f : Nat) : Nat → Nat
  | 0 => 0
  | k + 1 => lcnt n last pl f k + (if lw n last pl f k = 0 then 0 else 1)
theorem lcnt_le {n last : Nat} {pl : Nat → Nat → Prop} [∀ a b, Decidable (pl a b)] (f : Nat) : ∀ k, lcnt n last pl f k ≤ k
  | 0 => Nat.le_refl _
  | k + 1 => by
    have := lcnt_le (n := n) (last := last) (pl := pl) f k
    unfold lcnt
    split <;> omega
theorem lcnt_mono {n last : Nat} {pl : Nat → Nat → Prop} [∀ a b, Decidable (pl a b)] (f : Nat) : ∀ k, lcnt n last pl f k ≤ lcnt n last pl (f + 1) k
  | 0 => Nat.le_refl _
  | k + 1 => by
    have := lcnt_mono (n := n) (last := last) (pl := pl) f k
    unfold lcnt
    by_cases c : lw n last pl f k = 0
    · rw [if_pos c]
      omega
    · rw [if_neg c, if_neg (by rw [lw_st c]; exact c)]
      omega
theorem lcnt_more {n last : Nat} {pl : Nat → Nat → Prop} [∀ a b, Decidable (pl a b)] {f i : Nat} (h1 : lw n last pl f i = 0) (h2 : ¬ lw n last pl (f + 1) i = 0) : ∀ k, i < k → lcnt n last pl f k + 1 ≤ lcnt n last pl (f + 1) k
  | 0, h => absurd h (by omega)
  | k + 1, h => by
    unfold lcnt
    by_cases e : i = k
    · subst e
      have := lcnt_mono (n := n) (last := last) (pl := pl) f i
      rw [if_pos h1, if_neg h2]
      omega
    · have := lcnt_more h1 h2 k (by omega)
      by_cases c : lw n last pl f k = 0
      · rw [if_pos c]
        omega
      · rw [if_neg c, if_neg (by rw [lw_st c]; exact c)]
        omega
theorem lcnt_0 {n last : Nat} {pl : Nat → Nat → Prop} [∀ a b, Decidable (pl a b)] (hl : last < n) : ∀ k, last < k → 1 ≤ lcnt n last pl 0 k
  | 0, h => absurd h (by omega)
  | k + 1, h => by
    unfold lcnt
    by_cases e : last = k
    · have : lw n last pl 0 k = 1 := by
        unfold lw
        rw [if_pos e.symm]
      rw [if_neg (by omega)]
      omega
    · have := lcnt_0 (n := n) (last := last) (pl := pl) hl k (by omega)
      omega
theorem lev_cnt {n last : Nat} {pl : Nat → Nat → Prop} [∀ a b, Decidable (pl a b)] (hl : last < n) : ∀ {f i : Nat}, lw n last pl f i = f + 1 → f + 1 ≤ lcnt n last pl f n
  | 0, _, _ => lcnt_0 hl n hl
  | f + 1, i, h => by
    have c : lw n last pl f i = 0 := by
      by_cases c : lw n last pl f i = 0
      · exact c
      · have := lw_le (n := n) (last := last) (pl := pl) f i
        rw [lw_st c] at h
        omega
    obtain ⟨_, hi, b, _, h3, _⟩ := lw_new c (by omega)
    have h4 := lev_cnt (n := n) (last := last) (pl := pl) hl h3
    have h5 := lcnt_more c (by omega) n hi
    omega
theorem lw_fix {n last : Nat} {pl : Nat → Nat → Prop} [∀ a b, Decidable (pl a b)] (hl : last < n) (i : Nat) : ∀ k, lw n last pl (n - 1 + k) i = lw n last pl (n - 1) i
  | 0 => rfl
  | k + 1 => by
    have ih := lw_fix (n := n) (last := last) (pl := pl) hl i k
    by_cases c : lw n last pl (n - 1 + k) i = 0
    · by_cases c2 : lw n last pl (n - 1 + k + 1) i = 0
      · rw [← ih, c]
        exact c2
      · have h1 := (lw_new c c2).1
        have h2 := lev_cnt (n := n) (last := last) (pl := pl) hl (f := n - 1 + k + 1) (i := i) (by omega)
        have h3 := lcnt_le (n := n) (last := last) (pl := pl) (n - 1 + k + 1) n
        omega
    · rw [← ih]
      exact lw_st c
/-- how many lines go over from a line, both with them; 0: it can't be -/
abbrev lwf (n last : Nat) (pl : Nat → Nat → Prop) [∀ a b, Decidable (pl a b)] (i : Nat) : Nat := lw n last pl (n - 1) i
theorem wk_f {n last : Nat} {pl : Nat → Nat → Prop} [∀ a b, Decidable (pl a b)] (hl : last < n) {m i : Nat} (h : wk n last pl m i) : ¬ lwf n last pl i = 0 ∧ lwf n last pl i ≤ m + 1 := by
  have := wk_lw (f := n - 1 + m) h (by omega)
  rw [lw_fix hl] at this
  exact this
/-- what holds of the model's numbers while it looks for ways -/
def mA (n last : Nat) (pl : Nat → Nat → Prop) (t : Nat → Nat) : Prop := ∀ i, i < 8 → t i = 99 ∨ ∃ m, t i = m + 1 ∧ m < 98 ∧ wk n last pl m i
def mB (n last : Nat) (pl : Nat → Nat → Prop) [∀ a b, Decidable (pl a b)] (f k : Nat) (t : Nat → Nat) : Prop := ∀ i, i < k → ¬ lw n last pl f i = 0 → t i ≤ lw n last pl f i
theorem mA_le {n last : Nat} {pl : Nat → Nat → Prop} [∀ a b, Decidable (pl a b)] {t : Nat → Nat} (h : mA n last pl t) {i : Nat} (hi : i < 8) : t i ≤ 99 := by
  rcases h i hi with h | ⟨m, h1, h2, _⟩ <;> omega
/-- one look at a pair -/
def mStep (pl : Nat → Nat → Prop) [∀ a b, Decidable (pl a b)] (a b : Nat) (t : Nat → Nat) : Nat → Nat := fun i => if i = a then (if a ≠ b ∧ pl a b then min (t a) (t b + 1) else t a) else t i
theorem mStep_le {pl : Nat → Nat → Prop} [∀ a b, Decidable (pl a b)] {t : Nat → Nat} {a b i : Nat} : mStep pl a b t i ≤ t i := by
  unfold mStep
  by_cases h : i = a
  · subst h
    rw [if_pos rfl]
    split
    · exact Nat.min_le_left _ _
    · exact Nat.le_refl _
  · rw [if_neg h]
    exact Nat.le_refl _
theorem mStep_A {n last : Nat} {pl : Nat → Nat → Prop} [∀ a b, Decidable (pl a b)] {t : Nat → Nat} {a b : Nat} (ha : a < n) (hb : b < n) (hn : n ≤ 8) (h : mA n last pl t) : mA n last pl (mStep pl a b t) := by
  intro i hi
  unfold mStep
  by_cases e : i = a
  · subst e
    rw [if_pos rfl]
    split
    · next hc =>
      have h2 := h b (by omega)
      by_cases hm : t i ≤ t b + 1
      · rw [Nat.min_eq_left hm]
        exact h i hi
      · rw [Nat.min_eq_right (by omega)]
        have := mA_le h hi
        rcases h2 with h2 | ⟨m, h3, h4, h5⟩
        · omega
        · refine Or.inr ⟨m + 1, by omega, by omega, ha, b, hb, hc.2, h5⟩
    · exact h i hi
  · rw [if_neg e]
    exact h i hi
/-- within a round: rows before a are done, a is done up to b -/
def mC (n last : Nat) (pl : Nat → Nat → Prop) [∀ a b, Decidable (pl a b)] (f a b : Nat) (t : Nat → Nat) : Prop := mA n last pl t ∧ mB n last pl f n t ∧ mB n last pl (f + 1) a t ∧ ∀ c, c < b → c ≠ a → pl a c → ¬ lw n last pl f c = 0 → t a ≤ lw n last pl f c + 1
theorem mC_step {n last : Nat} {pl : Nat → Nat → Prop} [∀ a b, Decidable (pl a b)] {t : Nat → Nat} {f a b : Nat} (ha : a < n) (hb : b < n) (hn : n ≤ 8) (h : mC n last pl f a b t) : mC n last pl f a (b + 1) (mStep pl a b t) := by
  obtain ⟨h1, h2, h3, h4⟩ := h
  refine ⟨mStep_A ha hb hn h1, fun i hi hz => Nat.le_trans mStep_le (h2 i hi hz), fun i hi hz => Nat.le_trans mStep_le (h3 i hi hz), ?_⟩
  intro c hc hne hp hz
  by_cases e : c = b
  · subst e
    unfold mStep
    rw [if_pos rfl, if_pos ⟨fun e => hne e.symm, hp⟩]
    have := h2 c hb hz
    have := Nat.min_le_right (t a) (t c + 1)
    omega
  · exact Nat.le_trans mStep_le (h4 c (by omega) hne hp hz)
theorem mC_row {n last : Nat} {pl : Nat → Nat → Prop} [∀ a b, Decidable (pl a b)] {t : Nat → Nat} {f a : Nat} (ha : a < n) (h : mC n last pl f a n t) : mC n last pl f (a + 1) 0 t := by
  obtain ⟨h1, h2, h3, h4⟩ := h
  refine ⟨h1, h2, ?_, fun c hc => absurd hc (by omega)⟩
  intro i hi hz
  by_cases e : i = a
  · subst e
    by_cases c : lw n last pl f i = 0
    · obtain ⟨q1, q2, b, q3, q4, q5⟩ := lw_new c hz
      have := h4 b q3 (fun e => by rw [e, c] at q4; omega) q5 (by omega)
      omega
    · rw [lw_st c]
      exact h2 i ha c
  · exact h3 i (by omega) hz
theorem mC_round {n last : Nat} {pl : Nat → Nat → Prop} [∀ a b, Decidable (pl a b)] {t : Nat → Nat} {f : Nat} (h : mC n last pl f n 0 t) : mC n last pl (f + 1) 0 0 t := ⟨h.1, h.2.2.1, fun c hc => absurd hc (by omega), fun c hc => absurd hc (by omega)⟩
/-- what the model's numbers become -/
def mny (n last : Nat) (pl : Nat → Nat → Prop) [∀ a b, Decidable (pl a b)] (i : Nat) : Nat := if lwf n last pl i = 0 then 99 else lwf n last pl i
theorem wk_out {n last : Nat} {pl : Nat → Nat → Prop} [∀ a b, Decidable (pl a b)] (hl : last < n) : ∀ {m i : Nat}, wk n last pl m i → i < n
  | 0, _, h => by
    have : _ = last := h
    omega
  | _ + 1, _, h => h.1
theorem m_end {n last : Nat} {pl : Nat → Nat → Prop} [∀ a b, Decidable (pl a b)] {t : Nat → Nat} {f : Nat} (hl : last < n) (hn : n ≤ 8) (hf : n - 1 ≤ f) (h : mC n last pl f 0 0 t) : ∀ i, i < 8 → t i = mny n last pl i := by
  obtain ⟨h1, h2, _, _⟩ := h
  intro i hi
  unfold mny
  have e : lw n last pl f i = lwf n last pl i := by
    have := lw_fix (n := n) (last := last) (pl := pl) hl i (f - (n - 1))
    rw [show n - 1 + (f - (n - 1)) = f by omega] at this
    exact this
  by_cases c : lwf n last pl i = 0
  · rw [if_pos c]
    rcases h1 i hi with h | ⟨m, _, _, h⟩
    · exact h
    · exact absurd c (wk_f hl h).1
  · rw [if_neg c]
    have hw : wk n last pl (lwf n last pl i - 1) i := lw_wk c
    have b := h2 i (wk_out hl hw) (by rw [e]; exact c)
    rw [e] at b
    have q := lw_le (n := n) (last := last) (pl := pl) (n - 1) i
    rcases h1 i hi with h | ⟨m, h3, _, h⟩
    · have : lwf n last pl i ≤ n - 1 + 1 := q
      omega
    · have := (wk_f hl h).2
      omega
theorem m_begin {n last : Nat} {pl : Nat → Nat → Prop} [∀ a b, Decidable (pl a b)] (hl : last < n) (hn : n ≤ 8) : mC n last pl 0 0 0 (fun i => if i = last then 1 else 99) := by
  refine ⟨?_, ?_, fun c hc => absurd hc (by omega), fun c hc => absurd hc (by omega)⟩
  · intro i hi
    by_cases e : i = last
    · refine Or.inr ⟨0, if_pos e, by omega, e⟩
    · exact Or.inl (if_neg e)
  · intro i hi hz
    by_cases e : i = last
    · show (if i = last then 1 else 99) ≤ _
      rw [if_pos e]
      omega
    · refine absurd ?_ hz
      unfold lw
      rw [if_neg e]
/-- the lines of the first row, place by place -/
def pt (n : Nat) (L : Nat → Nat) (pl : Nat → Nat → Prop) [∀ a b, Decidable (pl a b)] : Nat → Option Nat
  | 0 => some 0
  | s + 1 => match pt n L pl s with
    | none => none
    | some a => fnd (fun b => L b + (s + 1) = L 0 ∧ pl a b) n 0
/-- there is always a next line -/
theorem lwf_next {n last : Nat} {pl : Nat → Nat → Prop} [∀ a b, Decidable (pl a b)] {a : Nat} (h : 2 ≤ lwf n last pl a) : ∃ b, b < n ∧ lwf n last pl b + 1 = lwf n last pl a ∧ pl a b := by
  have h0 : ¬ lwf n last pl a = 0 := by omega
  have h1 := lw_down h0
  have hle := lw_le (n := n) (last := last) (pl := pl) (n - 1) a
  generalize hv : lwf n last pl a = v at h h0
  have h1' : lw n last pl (v - 1) a = v := by
    have e : lw n last pl (n - 1) a = v := hv
    rw [e] at h1
    exact h1
  have hle' : v ≤ n - 1 + 1 := by
    have e : lw n last pl (n - 1) a = v := hv
    omega
  obtain ⟨u, rfl⟩ : ∃ u, v = u + 2 := ⟨v - 2, by omega⟩
  have h2 : lw n last pl (u + 1) a = u + 2 := h1'
  have c : lw n last pl u a = 0 := by
    by_cases c : lw n last pl u a = 0
    · exact c
    · have := lw_le (n := n) (last := last) (pl := pl) u a
      rw [lw_st c] at h2
      omega
  obtain ⟨_, _, b, q1, q2, q3⟩ := lw_new c (by omega)
  refine ⟨b, q1, ?_, q3⟩
  have := lw_mono (n := n) (last := last) (pl := pl) (f := u) (i := b) (by omega) (n - 1 - u)
  rw [show u + (n - 1 - u) = n - 1 by omega] at this
  show lw n last pl (n - 1) b + 1 = u + 2
  omega
theorem pt_ok {n last : Nat} {pl : Nat → Nat → Prop} [∀ a b, Decidable (pl a b)] {s : Nat} (hs : s < lwf n last pl 0) (h0 : 0 < n) : ∃ a, pt n (lwf n last pl) pl s = some a ∧ a < n ∧ lwf n last pl a + s = lwf n last pl 0 := by
  induction s with
  | zero => exact ⟨0, rfl, h0, rfl⟩
  | succ s ih =>
    obtain ⟨a, h1, h2, h3⟩ := ih (by omega)
    obtain ⟨b, q1, q2, q3⟩ := lwf_next (n := n) (last := last) (pl := pl) (a := a) (by omega)
    unfold pt
    rw [h1]
    show ∃ a_1, fnd (fun b => lwf n last pl b + (s + 1) = lwf n last pl 0 ∧ pl a b) n 0 = some a_1 ∧ _
    obtain ⟨c, hc⟩ := fnd_is (p := fun b => lwf n last pl b + (s + 1) = lwf n last pl 0 ∧ pl a b) (u := n) (i := 0) (j := b) (by omega) (by omega) ⟨by omega, q3⟩
    have := fnd_some hc
    exact ⟨c, hc, by omega, this.2.2.1.1⟩
