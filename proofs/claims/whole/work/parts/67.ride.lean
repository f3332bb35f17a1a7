/-! the class: a ride is made -/
/-- a shape with pointers that holds another -/
def SX (g g' : Sh) (P P' : HP) : Prop := g.1 ≤ g'.1 ∧ ∀ a, a < g.1 → g'.2.1 a = g.2.1 a ∧ g'.2.2 a = g.2.2 a ∧ P' a = P a
theorem Cel_lt {g : Sh} {a c : Nat} (h : Cel g a c) : a < g.1 := h.2.2
section
variable {g g' : Sh} {P P' : HP}
theorem Cel.sx (s : SX g g' P P') {a c : Nat} (h : Cel g a c) : Cel g' a c := ⟨by rw [(s.2 a h.2.2).1]; exact h.1, h.2.1, Nat.lt_of_lt_of_le h.2.2 s.1⟩
theorem AS.sx (s : SX g g' P P') {a c n : Nat} (h : AS g a c n) : AS g' a c n := ⟨h.1.sx s, by rw [(s.2 a h.1.2.2).2.1]; exact h.2⟩
theorem RS.sx (s : SX g g' P P') {r q n : Nat} (h : RS g P r q n) : RS g' P' r q n := ⟨h.1.sx s, by rw [(s.2 r h.1.2.2).2.2]; exact h.2.1, h.2.2.1.sx s, by rw [(s.2 q h.2.2.1.2.2).2.1]; exact h.2.2.2⟩
theorem Wi.sx (s : SX g g' P P') {a v : Nat} (h : Wi g P a v) : Wi g' P' a v := ⟨h.1.sx s, by rw [(s.2 a h.1.2.2).2.2]; exact h.2.1, h.2.2.1.sx s, by rw [(s.2 v h.2.2.1.2.2).2.1]; exact h.2.2.2⟩
theorem St.sx (s : SX g g' P P') {B : Nat} (h : St g P B) : St g' P' B := by
  obtain ⟨h1, h2, h3, h4, h5, h6, h7, h8, h9, h10⟩ := h
  have e : P' B = P B := (s.2 B h1.2.2).2.2
  exact ⟨h1.sx s, by rw [e]; exact h2, by rw [e]; exact h3, h4.sx s, ⟨by rw [e]; exact h5.1, h5.2.sx s⟩, ⟨by rw [e]; exact h6.1, h6.2.sx s⟩, ⟨by rw [e]; exact h7.1, h7.2.sx s⟩, ⟨by rw [e]; exact h8.1, h8.2.sx s⟩, ⟨by rw [e]; exact h9.1, h9.2.sx s⟩, fun q hq => ⟨by rw [e]; exact (h10 q hq).1, (h10 q hq).2.sx s⟩⟩
theorem Ly.sx (s : SX g g' P P') (h : Ly g P) : Ly g' P' := by
  obtain ⟨⟨a1, a2, a3, a4, a5⟩, ⟨b1, b2, b3⟩, c, ⟨d1, d2⟩, e, f, i, j, k, l, ⟨m1, m2, m3⟩, n⟩ := h
  have e16 : P' 16 = P 16 := (s.2 16 a1.2.2).2.2
  have e96 : P' 96 = P 96 := (s.2 96 e.2.1.2.2).2.2
  have e17 : P' 17 = P 17 := (s.2 17 m1.2.2).2.2
  exact ⟨⟨a1.sx s, by rw [e16]; exact a2, by rw [e16]; exact a3, by rw [e16]; exact a4, by rw [e16]; exact a5⟩, ⟨b1.sx s, b2.sx s, b3.sx s⟩, ⟨by rw [e16]; exact c.1, c.2.sx s⟩, ⟨by rw [e16]; exact d1, d2.sx s⟩, ⟨by rw [e16]; exact e.1, e.2.sx s⟩, ⟨by rw [e16]; exact f.1, f.2.sx s⟩, ⟨by rw [e16]; exact i.1, i.2.sx s⟩, ⟨by rw [e16]; exact j.1, j.2.sx s⟩, ⟨by rw [e16]; exact k.1, k.2.sx s⟩, fun q hq => ⟨by rw [e96]; exact (l q hq).1, (l q hq).2.sx s⟩, ⟨m1.sx s, by rw [e17]; exact m2, m3.sx s⟩, Nat.le_trans n s.1⟩
theorem Mo.sx (s : SX g g' P P') (h : Mo g P) : Mo g' P' := by
  obtain ⟨a, b, c1, c2, c3, c4, c5⟩ := h
  have e9 : P' 109 = P 109 := (s.2 109 a.2.2).2.2
  have e6 : P' 116 = P 116 := (s.2 116 c2.2.2).2.2
  exact ⟨a.sx s, fun q hq => by obtain ⟨x1, x2, x3⟩ := b q hq; exact ⟨by rw [e9]; exact x1, x2.sx s, by rw [(s.2 _ x2.2.2).2.1]; exact x3⟩, by rw [e9]; exact c1, c2.sx s, by rw [(s.2 116 c2.2.2).2.1]; exact c3, by rw [e6]; exact c4, by rw [e6]; exact c5⟩
theorem SX_new {kd ln : Nat} {f : Nat → Option Nat} : SX g (gNew g kd ln) P (ur P g.1 f) := ⟨Nat.le_succ _, fun a ha => ⟨ur_n _ _ (by omega), ur_n _ _ (by omega), ur_n _ _ (by omega)⟩⟩
theorem Cel_new {kd ln : Nat} (h : 16 ≤ g.1) : Cel (gNew g kd ln) g.1 kd := ⟨ur_s _ _ _, h, Nat.lt_succ_self _⟩
end
section
variable {Γ : GE} {d : Nat} {g : Sh} {P : HP} {I : HI} {Φ : Option Value → Sh → HP → HI → Prop}
theorem init5_5 {b t : Nat} {x0 x1 x2 x3 : Int32} (hd : 1 ≤ d) (hb : Cel g b 5) (hΦ : Φ none g (u2 P b 4 (some t)) (u2 (u2 (u2 (u2 I b 0 x0) b 1 x1) b 2 x2) b 3 x3)) : MM Γ mX5_init d 0 0 [.ref b, .int x0, .int x1, .int x2, .int x3, .ref t] g P I Φ := by
  refine MM_entry [some _, some _, some _, some _, some _, some _] (by decide) (Nat.le_of_ble_eq_true rfl) rfl ?_
  refine E_aload_n (i := 0) dX5_init_0 rfl rfl ?_
  refine E_objInit dX5_init_1 w_571 w_97 w_98 (Nat.le_of_ble_eq_true rfl) (by omega) ?_
  refine E_aload_n (i := 0) dX5_init_4 rfl rfl ?_
  refine E_iload_n (i := 1) dX5_init_5 rfl rfl ?_
  refine E_piF dX5_init_6 rfl gff_X5_9_5 rfl (by assumption) ?_
  refine E_aload_n (i := 0) dX5_init_9 rfl rfl ?_
  refine E_iload_n (i := 2) dX5_init_10 rfl rfl ?_
  refine E_piF dX5_init_11 rfl gff_X5_15_5 rfl (by assumption) ?_
  refine E_aload_n (i := 0) dX5_init_14 rfl rfl ?_
  refine E_iload_n (i := 3) dX5_init_15 rfl rfl ?_
  refine E_piF dX5_init_16 rfl gff_X5_18_5 rfl (by assumption) ?_
  refine E_aload_n (i := 0) dX5_init_19 rfl rfl ?_
  refine E_iload dX5_init_20 rfl ?_
  refine E_piF dX5_init_22 rfl gff_X5_21_5 rfl (by assumption) ?_
  refine E_aload_n (i := 0) dX5_init_25 rfl rfl ?_
  refine E_aload dX5_init_26 rfl ?_
  refine E_prF dX5_init_28 rfl gff_X5_24_5 (Or.inl ⟨_, rfl⟩) (by assumption) ?_
  refine E_vret dX5_init_31 rfl ?_
  exact hΦ
theorem init5_6 {b t : Nat} {x0 x1 x2 x3 : Int32} (hd : 1 ≤ d) (hb : Cel g b 6) (hΦ : Φ none g (u2 P b 4 (some t)) (u2 (u2 (u2 (u2 I b 0 x0) b 1 x1) b 2 x2) b 3 x3)) : MM Γ mX5_init d 0 0 [.ref b, .int x0, .int x1, .int x2, .int x3, .ref t] g P I Φ := by
  refine MM_entry [some _, some _, some _, some _, some _, some _] (by decide) (Nat.le_of_ble_eq_true rfl) rfl ?_
  refine E_aload_n (i := 0) dX5_init_0 rfl rfl ?_
  refine E_objInit dX5_init_1 w_571 w_97 w_98 (Nat.le_of_ble_eq_true rfl) (by omega) ?_
  refine E_aload_n (i := 0) dX5_init_4 rfl rfl ?_
  refine E_iload_n (i := 1) dX5_init_5 rfl rfl ?_
  refine E_piF dX5_init_6 rfl gff_X5_9_6 rfl (by assumption) ?_
  refine E_aload_n (i := 0) dX5_init_9 rfl rfl ?_
  refine E_iload_n (i := 2) dX5_init_10 rfl rfl ?_
  refine E_piF dX5_init_11 rfl gff_X5_15_6 rfl (by assumption) ?_
  refine E_aload_n (i := 0) dX5_init_14 rfl rfl ?_
  refine E_iload_n (i := 3) dX5_init_15 rfl rfl ?_
  refine E_piF dX5_init_16 rfl gff_X5_18_6 rfl (by assumption) ?_
  refine E_aload_n (i := 0) dX5_init_19 rfl rfl ?_
  refine E_iload dX5_init_20 rfl ?_
  refine E_piF dX5_init_22 rfl gff_X5_21_6 rfl (by assumption) ?_
  refine E_aload_n (i := 0) dX5_init_25 rfl rfl ?_
  refine E_aload dX5_init_26 rfl ?_
  refine E_prF dX5_init_28 rfl gff_X5_24_6 (Or.inl ⟨_, rfl⟩) (by assumption) ?_
  refine E_vret dX5_init_31 rfl ?_
  exact hΦ
theorem init5_2 {b t : Nat} {x0 x1 x2 x3 : Int32} (hd : 1 ≤ d) (hb : Cel g b 2) (hΦ : Φ none g (u2 P b 4 (some t)) (u2 (u2 (u2 (u2 I b 0 x0) b 1 x1) b 2 x2) b 3 x3)) : MM Γ mX5_init d 0 0 [.ref b, .int x0, .int x1, .int x2, .int x3, .ref t] g P I Φ := by
  refine MM_entry [some _, some _, some _, some _, some _, some _] (by decide) (Nat.le_of_ble_eq_true rfl) rfl ?_
  refine E_aload_n (i := 0) dX5_init_0 rfl rfl ?_
  refine E_objInit dX5_init_1 w_571 w_97 w_98 (Nat.le_of_ble_eq_true rfl) (by omega) ?_
  refine E_aload_n (i := 0) dX5_init_4 rfl rfl ?_
  refine E_iload_n (i := 1) dX5_init_5 rfl rfl ?_
  refine E_piF dX5_init_6 rfl gff_X5_9_2 rfl (by assumption) ?_
  refine E_aload_n (i := 0) dX5_init_9 rfl rfl ?_
  refine E_iload_n (i := 2) dX5_init_10 rfl rfl ?_
  refine E_piF dX5_init_11 rfl gff_X5_15_2 rfl (by assumption) ?_
  refine E_aload_n (i := 0) dX5_init_14 rfl rfl ?_
  refine E_iload_n (i := 3) dX5_init_15 rfl rfl ?_
  refine E_piF dX5_init_16 rfl gff_X5_18_2 rfl (by assumption) ?_
  refine E_aload_n (i := 0) dX5_init_19 rfl rfl ?_
  refine E_iload dX5_init_20 rfl ?_
  refine E_piF dX5_init_22 rfl gff_X5_21_2 rfl (by assumption) ?_
  refine E_aload_n (i := 0) dX5_init_25 rfl rfl ?_
  refine E_aload dX5_init_26 rfl ?_
  refine E_prF dX5_init_28 rfl gff_X5_24_2 (Or.inl ⟨_, rfl⟩) (by assumption) ?_
  refine E_vret dX5_init_31 rfl ?_
  exact hΦ
theorem init5_0 {b t : Nat} {x0 x1 x2 x3 : Int32} (hd : 1 ≤ d) (hb : Cel g b 0) (hΦ : Φ none g (u2 P b 4 (some t)) (u2 (u2 (u2 (u2 I b 0 x0) b 1 x1) b 2 x2) b 3 x3)) : MM Γ mX5_init d 0 0 [.ref b, .int x0, .int x1, .int x2, .int x3, .ref t] g P I Φ := by
  refine MM_entry [some _, some _, some _, some _, some _, some _] (by decide) (Nat.le_of_ble_eq_true rfl) rfl ?_
  refine E_aload_n (i := 0) dX5_init_0 rfl rfl ?_
  refine E_objInit dX5_init_1 w_571 w_97 w_98 (Nat.le_of_ble_eq_true rfl) (by omega) ?_
  refine E_aload_n (i := 0) dX5_init_4 rfl rfl ?_
  refine E_iload_n (i := 1) dX5_init_5 rfl rfl ?_
  refine E_piF dX5_init_6 rfl gff_X5_9_0 rfl (by assumption) ?_
  refine E_aload_n (i := 0) dX5_init_9 rfl rfl ?_
  refine E_iload_n (i := 2) dX5_init_10 rfl rfl ?_
  refine E_piF dX5_init_11 rfl gff_X5_15_0 rfl (by assumption) ?_
  refine E_aload_n (i := 0) dX5_init_14 rfl rfl ?_
  refine E_iload_n (i := 3) dX5_init_15 rfl rfl ?_
  refine E_piF dX5_init_16 rfl gff_X5_18_0 rfl (by assumption) ?_
  refine E_aload_n (i := 0) dX5_init_19 rfl rfl ?_
  refine E_iload dX5_init_20 rfl ?_
  refine E_piF dX5_init_22 rfl gff_X5_21_0 rfl (by assumption) ?_
  refine E_aload_n (i := 0) dX5_init_25 rfl rfl ?_
  refine E_aload dX5_init_26 rfl ?_
  refine E_prF dX5_init_28 rfl gff_X5_24_0 (Or.inl ⟨_, rfl⟩) (by assumption) ?_
  refine E_vret dX5_init_31 rfl ?_
  exact hΦ
theorem init5_9 {b t : Nat} {x0 x1 x2 x3 : Int32} (hd : 1 ≤ d) (hb : Cel g b 9) (hΦ : Φ none g (u2 P b 4 (some t)) (u2 (u2 (u2 (u2 I b 0 x0) b 1 x1) b 2 x2) b 3 x3)) : MM Γ mX5_init d 0 0 [.ref b, .int x0, .int x1, .int x2, .int x3, .ref t] g P I Φ := by
  refine MM_entry [some _, some _, some _, some _, some _, some _] (by decide) (Nat.le_of_ble_eq_true rfl) rfl ?_
  refine E_aload_n (i := 0) dX5_init_0 rfl rfl ?_
  refine E_objInit dX5_init_1 w_571 w_97 w_98 (Nat.le_of_ble_eq_true rfl) (by omega) ?_
  refine E_aload_n (i := 0) dX5_init_4 rfl rfl ?_
  refine E_iload_n (i := 1) dX5_init_5 rfl rfl ?_
  refine E_piF dX5_init_6 rfl gff_X5_9_9 rfl (by assumption) ?_
  refine E_aload_n (i := 0) dX5_init_9 rfl rfl ?_
  refine E_iload_n (i := 2) dX5_init_10 rfl rfl ?_
  refine E_piF dX5_init_11 rfl gff_X5_15_9 rfl (by assumption) ?_
  refine E_aload_n (i := 0) dX5_init_14 rfl rfl ?_
  refine E_iload_n (i := 3) dX5_init_15 rfl rfl ?_
  refine E_piF dX5_init_16 rfl gff_X5_18_9 rfl (by assumption) ?_
  refine E_aload_n (i := 0) dX5_init_19 rfl rfl ?_
  refine E_iload dX5_init_20 rfl ?_
  refine E_piF dX5_init_22 rfl gff_X5_21_9 rfl (by assumption) ?_
  refine E_aload_n (i := 0) dX5_init_25 rfl rfl ?_
  refine E_aload dX5_init_26 rfl ?_
  refine E_prF dX5_init_28 rfl gff_X5_24_9 (Or.inl ⟨_, rfl⟩) (by assumption) ?_
  refine E_vret dX5_init_31 rfl ?_
  exact hΦ
theorem init5_3 {b t : Nat} {x0 x1 x2 x3 : Int32} (hd : 1 ≤ d) (hb : Cel g b 3) (hΦ : Φ none g (u2 P b 4 (some t)) (u2 (u2 (u2 (u2 I b 0 x0) b 1 x1) b 2 x2) b 3 x3)) : MM Γ mX5_init d 0 0 [.ref b, .int x0, .int x1, .int x2, .int x3, .ref t] g P I Φ := by
  refine MM_entry [some _, some _, some _, some _, some _, some _] (by decide) (Nat.le_of_ble_eq_true rfl) rfl ?_
  refine E_aload_n (i := 0) dX5_init_0 rfl rfl ?_
  refine E_objInit dX5_init_1 w_571 w_97 w_98 (Nat.le_of_ble_eq_true rfl) (by omega) ?_
  refine E_aload_n (i := 0) dX5_init_4 rfl rfl ?_
  refine E_iload_n (i := 1) dX5_init_5 rfl rfl ?_
  refine E_piF dX5_init_6 rfl gff_X5_9_3 rfl (by assumption) ?_
  refine E_aload_n (i := 0) dX5_init_9 rfl rfl ?_
  refine E_iload_n (i := 2) dX5_init_10 rfl rfl ?_
  refine E_piF dX5_init_11 rfl gff_X5_15_3 rfl (by assumption) ?_
  refine E_aload_n (i := 0) dX5_init_14 rfl rfl ?_
  refine E_iload_n (i := 3) dX5_init_15 rfl rfl ?_
  refine E_piF dX5_init_16 rfl gff_X5_18_3 rfl (by assumption) ?_
  refine E_aload_n (i := 0) dX5_init_19 rfl rfl ?_
  refine E_iload dX5_init_20 rfl ?_
  refine E_piF dX5_init_22 rfl gff_X5_21_3 rfl (by assumption) ?_
  refine E_aload_n (i := 0) dX5_init_25 rfl rfl ?_
  refine E_aload dX5_init_26 rfl ?_
  refine E_prF dX5_init_28 rfl gff_X5_24_3 (Or.inl ⟨_, rfl⟩) (by assumption) ?_
  refine E_vret dX5_init_31 rfl ?_
  exact hΦ
theorem init5_1 {b t : Nat} {x0 x1 x2 x3 : Int32} (hd : 1 ≤ d) (hb : Cel g b 1) (hΦ : Φ none g (u2 P b 4 (some t)) (u2 (u2 (u2 (u2 I b 0 x0) b 1 x1) b 2 x2) b 3 x3)) : MM Γ mX5_init d 0 0 [.ref b, .int x0, .int x1, .int x2, .int x3, .ref t] g P I Φ := by
  refine MM_entry [some _, some _, some _, some _, some _, some _] (by decide) (Nat.le_of_ble_eq_true rfl) rfl ?_
  refine E_aload_n (i := 0) dX5_init_0 rfl rfl ?_
  refine E_objInit dX5_init_1 w_571 w_97 w_98 (Nat.le_of_ble_eq_true rfl) (by omega) ?_
  refine E_aload_n (i := 0) dX5_init_4 rfl rfl ?_
  refine E_iload_n (i := 1) dX5_init_5 rfl rfl ?_
  refine E_piF dX5_init_6 rfl gff_X5_9_1 rfl (by assumption) ?_
  refine E_aload_n (i := 0) dX5_init_9 rfl rfl ?_
  refine E_iload_n (i := 2) dX5_init_10 rfl rfl ?_
  refine E_piF dX5_init_11 rfl gff_X5_15_1 rfl (by assumption) ?_
  refine E_aload_n (i := 0) dX5_init_14 rfl rfl ?_
  refine E_iload_n (i := 3) dX5_init_15 rfl rfl ?_
  refine E_piF dX5_init_16 rfl gff_X5_18_1 rfl (by assumption) ?_
  refine E_aload_n (i := 0) dX5_init_19 rfl rfl ?_
  refine E_iload dX5_init_20 rfl ?_
  refine E_piF dX5_init_22 rfl gff_X5_21_1 rfl (by assumption) ?_
  refine E_aload_n (i := 0) dX5_init_25 rfl rfl ?_
  refine E_aload dX5_init_26 rfl ?_
  refine E_prF dX5_init_28 rfl gff_X5_24_1 (Or.inl ⟨_, rfl⟩) (by assumption) ?_
  refine E_vret dX5_init_31 rfl ?_
  exact hΦ
theorem init6_6 {b t : Nat} {x0 x1 x2 x3 : Int32} (hd : 2 ≤ d) (hb : Cel g b 6) (hΦ : Φ none g (u2 P b 4 (some t)) (u2 (u2 (u2 (u2 I b 0 x0) b 1 x1) b 2 x2) b 3 x3)) : MM Γ mX6_init d 0 0 [.ref b, .int x0, .int x1, .int x2, .int x3, .ref t] g P I Φ := by
  refine MM_entry [some _, some _, some _, some _, some _, some _] (by decide) (Nat.le_of_ble_eq_true rfl) rfl ?_
  refine E_aload_n (i := 0) dX6_init_0 rfl rfl ?_
  refine E_iload_n (i := 1) dX6_init_1 rfl rfl ?_
  refine E_iload_n (i := 2) dX6_init_2 rfl rfl ?_
  refine E_iload_n (i := 3) dX6_init_3 rfl rfl ?_
  refine E_iload dX6_init_4 rfl ?_
  refine E_aload dX6_init_6 rfl ?_
  refine k_X6_init_8 (mc' := 0) (ms' := 0) (rc := 0) (rs := 0) (by omega) (Nat.le_of_ble_eq_true rfl) (init5_6 (by omega) hb ?_)
  refine E_vret dX6_init_11 rfl ?_
  exact hΦ
theorem init2_2 {b t : Nat} {x0 x1 x2 x3 : Int32} (hd : 2 ≤ d) (hb : Cel g b 2) (hΦ : Φ none g (u2 P b 4 (some t)) (u2 (u2 (u2 (u2 I b 0 x0) b 1 x1) b 2 x2) b 3 x3)) : MM Γ mX2_init d 0 0 [.ref b, .int x0, .int x1, .int x2, .int x3, .ref t] g P I Φ := by
  refine MM_entry [some _, some _, some _, some _, some _, some _] (by decide) (Nat.le_of_ble_eq_true rfl) rfl ?_
  refine E_aload_n (i := 0) dX2_init_0 rfl rfl ?_
  refine E_iload_n (i := 1) dX2_init_1 rfl rfl ?_
  refine E_iload_n (i := 2) dX2_init_2 rfl rfl ?_
  refine E_iload_n (i := 3) dX2_init_3 rfl rfl ?_
  refine E_iload dX2_init_4 rfl ?_
  refine E_aload dX2_init_6 rfl ?_
  refine k_X2_init_8 (mc' := 0) (ms' := 0) (rc := 0) (rs := 0) (by omega) (Nat.le_of_ble_eq_true rfl) (init5_2 (by omega) hb ?_)
  refine E_vret dX2_init_11 rfl ?_
  exact hΦ
theorem init6_0 {b t : Nat} {x0 x1 x2 x3 : Int32} (hd : 2 ≤ d) (hb : Cel g b 0) (hΦ : Φ none g (u2 P b 4 (some t)) (u2 (u2 (u2 (u2 I b 0 x0) b 1 x1) b 2 x2) b 3 x3)) : MM Γ mX6_init d 0 0 [.ref b, .int x0, .int x1, .int x2, .int x3, .ref t] g P I Φ := by
  refine MM_entry [some _, some _, some _, some _, some _, some _] (by decide) (Nat.le_of_ble_eq_true rfl) rfl ?_
  refine E_aload_n (i := 0) dX6_init_0 rfl rfl ?_
  refine E_iload_n (i := 1) dX6_init_1 rfl rfl ?_
  refine E_iload_n (i := 2) dX6_init_2 rfl rfl ?_
  refine E_iload_n (i := 3) dX6_init_3 rfl rfl ?_
  refine E_iload dX6_init_4 rfl ?_
  refine E_aload dX6_init_6 rfl ?_
  refine k_X6_init_8 (mc' := 0) (ms' := 0) (rc := 0) (rs := 0) (by omega) (Nat.le_of_ble_eq_true rfl) (init5_0 (by omega) hb ?_)
  refine E_vret dX6_init_11 rfl ?_
  exact hΦ
theorem init0_0 {b t : Nat} {x0 x1 x2 x3 : Int32} (hd : 3 ≤ d) (hb : Cel g b 0) (hΦ : Φ none g (u2 P b 4 (some t)) (u2 (u2 (u2 (u2 I b 0 x0) b 1 x1) b 2 x2) b 3 x3)) : MM Γ mX0_init d 0 0 [.ref b, .int x0, .int x1, .int x2, .int x3, .ref t] g P I Φ := by
  refine MM_entry [some _, some _, some _, some _, some _, some _] (by decide) (Nat.le_of_ble_eq_true rfl) rfl ?_
  refine E_aload_n (i := 0) dX0_init_0 rfl rfl ?_
  refine E_iload_n (i := 1) dX0_init_1 rfl rfl ?_
  refine E_iload_n (i := 2) dX0_init_2 rfl rfl ?_
  refine E_iload_n (i := 3) dX0_init_3 rfl rfl ?_
  refine E_iload dX0_init_4 rfl ?_
  refine E_aload dX0_init_6 rfl ?_
  refine k_X0_init_8 (mc' := 0) (ms' := 0) (rc := 0) (rs := 0) (by omega) (Nat.le_of_ble_eq_true rfl) (init6_0 (by omega) hb ?_)
  refine E_vret dX0_init_11 rfl ?_
  exact hΦ
theorem init9_9 {b t : Nat} {x0 x1 x2 x3 : Int32} (hd : 2 ≤ d) (hb : Cel g b 9) (hΦ : Φ none g (u2 P b 4 (some t)) (u2 (u2 (u2 (u2 I b 0 x0) b 1 x1) b 2 x2) b 3 x3)) : MM Γ mX9_init d 0 0 [.ref b, .int x0, .int x1, .int x2, .int x3, .ref t] g P I Φ := by
  refine MM_entry [some _, some _, some _, some _, some _, some _] (by decide) (Nat.le_of_ble_eq_true rfl) rfl ?_
  refine E_aload_n (i := 0) dX9_init_0 rfl rfl ?_
  refine E_iload_n (i := 1) dX9_init_1 rfl rfl ?_
  refine E_iload_n (i := 2) dX9_init_2 rfl rfl ?_
  refine E_iload_n (i := 3) dX9_init_3 rfl rfl ?_
  refine E_iload dX9_init_4 rfl ?_
  refine E_aload dX9_init_6 rfl ?_
  refine k_X9_init_8 (mc' := 0) (ms' := 0) (rc := 0) (rs := 0) (by omega) (Nat.le_of_ble_eq_true rfl) (init5_9 (by omega) hb ?_)
  refine E_vret dX9_init_11 rfl ?_
  exact hΦ
theorem init6_3 {b t : Nat} {x0 x1 x2 x3 : Int32} (hd : 2 ≤ d) (hb : Cel g b 3) (hΦ : Φ none g (u2 P b 4 (some t)) (u2 (u2 (u2 (u2 I b 0 x0) b 1 x1) b 2 x2) b 3 x3)) : MM Γ mX6_init d 0 0 [.ref b, .int x0, .int x1, .int x2, .int x3, .ref t] g P I Φ := by
  refine MM_entry [some _, some _, some _, some _, some _, some _] (by decide) (Nat.le_of_ble_eq_true rfl) rfl ?_
  refine E_aload_n (i := 0) dX6_init_0 rfl rfl ?_
  refine E_iload_n (i := 1) dX6_init_1 rfl rfl ?_
  refine E_iload_n (i := 2) dX6_init_2 rfl rfl ?_
  refine E_iload_n (i := 3) dX6_init_3 rfl rfl ?_
  refine E_iload dX6_init_4 rfl ?_
  refine E_aload dX6_init_6 rfl ?_
  refine k_X6_init_8 (mc' := 0) (ms' := 0) (rc := 0) (rs := 0) (by omega) (Nat.le_of_ble_eq_true rfl) (init5_3 (by omega) hb ?_)
  refine E_vret dX6_init_11 rfl ?_
  exact hΦ
theorem init0_3 {b t : Nat} {x0 x1 x2 x3 : Int32} (hd : 3 ≤ d) (hb : Cel g b 3) (hΦ : Φ none g (u2 P b 4 (some t)) (u2 (u2 (u2 (u2 I b 0 x0) b 1 x1) b 2 x2) b 3 x3)) : MM Γ mX0_init d 0 0 [.ref b, .int x0, .int x1, .int x2, .int x3, .ref t] g P I Φ := by
  refine MM_entry [some _, some _, some _, some _, some _, some _] (by decide) (Nat.le_of_ble_eq_true rfl) rfl ?_
  refine E_aload_n (i := 0) dX0_init_0 rfl rfl ?_
  refine E_iload_n (i := 1) dX0_init_1 rfl rfl ?_
  refine E_iload_n (i := 2) dX0_init_2 rfl rfl ?_
  refine E_iload_n (i := 3) dX0_init_3 rfl rfl ?_
  refine E_iload dX0_init_4 rfl ?_
  refine E_aload dX0_init_6 rfl ?_
  refine k_X0_init_8 (mc' := 0) (ms' := 0) (rc := 0) (rs := 0) (by omega) (Nat.le_of_ble_eq_true rfl) (init6_3 (by omega) hb ?_)
  refine E_vret dX0_init_11 rfl ?_
  exact hΦ
theorem init3_3 {b t : Nat} {x0 x1 x2 x3 : Int32} (hd : 4 ≤ d) (hb : Cel g b 3) (hΦ : Φ none g (u2 P b 4 (some t)) (u2 (u2 (u2 (u2 I b 0 x0) b 1 x1) b 2 x2) b 3 x3)) : MM Γ mX3_init d 0 0 [.ref b, .int x0, .int x1, .int x2, .int x3, .ref t] g P I Φ := by
  refine MM_entry [some _, some _, some _, some _, some _, some _] (by decide) (Nat.le_of_ble_eq_true rfl) rfl ?_
  refine E_aload_n (i := 0) dX3_init_0 rfl rfl ?_
  refine E_iload_n (i := 1) dX3_init_1 rfl rfl ?_
  refine E_iload_n (i := 2) dX3_init_2 rfl rfl ?_
  refine E_iload_n (i := 3) dX3_init_3 rfl rfl ?_
  refine E_iload dX3_init_4 rfl ?_
  refine E_aload dX3_init_6 rfl ?_
  refine k_X3_init_8 (mc' := 0) (ms' := 0) (rc := 0) (rs := 0) (by omega) (Nat.le_of_ble_eq_true rfl) (init0_3 (by omega) hb ?_)
  refine E_vret dX3_init_11 rfl ?_
  exact hΦ
theorem init2_1 {b t : Nat} {x0 x1 x2 x3 : Int32} (hd : 2 ≤ d) (hb : Cel g b 1) (hΦ : Φ none g (u2 P b 4 (some t)) (u2 (u2 (u2 (u2 I b 0 x0) b 1 x1) b 2 x2) b 3 x3)) : MM Γ mX2_init d 0 0 [.ref b, .int x0, .int x1, .int x2, .int x3, .ref t] g P I Φ := by
  refine MM_entry [some _, some _, some _, some _, some _, some _] (by decide) (Nat.le_of_ble_eq_true rfl) rfl ?_
  refine E_aload_n (i := 0) dX2_init_0 rfl rfl ?_
  refine E_iload_n (i := 1) dX2_init_1 rfl rfl ?_
  refine E_iload_n (i := 2) dX2_init_2 rfl rfl ?_
  refine E_iload_n (i := 3) dX2_init_3 rfl rfl ?_
  refine E_iload dX2_init_4 rfl ?_
  refine E_aload dX2_init_6 rfl ?_
  refine k_X2_init_8 (mc' := 0) (ms' := 0) (rc := 0) (rs := 0) (by omega) (Nat.le_of_ble_eq_true rfl) (init5_1 (by omega) hb ?_)
  refine E_vret dX2_init_11 rfl ?_
  exact hΦ
theorem init1_1 {b t : Nat} {x0 x1 x2 x3 : Int32} (hd : 3 ≤ d) (hb : Cel g b 1) (hΦ : Φ none g (u2 P b 4 (some t)) (u2 (u2 (u2 (u2 I b 0 x0) b 1 x1) b 2 x2) b 3 x3)) : MM Γ mX1_init d 0 0 [.ref b, .int x0, .int x1, .int x2, .int x3, .ref t] g P I Φ := by
  refine MM_entry [some _, some _, some _, some _, some _, some _] (by decide) (Nat.le_of_ble_eq_true rfl) rfl ?_
  refine E_aload_n (i := 0) dX1_init_0 rfl rfl ?_
  refine E_iload_n (i := 1) dX1_init_1 rfl rfl ?_
  refine E_iload_n (i := 2) dX1_init_2 rfl rfl ?_
  refine E_iload_n (i := 3) dX1_init_3 rfl rfl ?_
  refine E_iload dX1_init_4 rfl ?_
  refine E_aload dX1_init_6 rfl ?_
  refine k_X1_init_8 (mc' := 0) (ms' := 0) (rc := 0) (rs := 0) (by omega) (Nat.le_of_ble_eq_true rfl) (init2_1 (by omega) hb ?_)
  refine E_vret dX1_init_11 rfl ?_
  exact hΦ
/-- the heap behind a ride that is made -/
def mdP (g : Sh) (P : HP) : HP := u2 (ur P g.1 (fun _ => none)) g.1 4 (some 94)
def mdI (g : Sh) (I : HI) (x0 x1 x2 x3 : Int32) : HI := u2 (u2 (u2 (u2 (ur I g.1 (fun _ => 0)) g.1 0 x0) g.1 1 x1) g.1 2 x2) g.1 3 x3
theorem made_0 {x1 x2 x3 : Int32} (hd : 5 ≤ d) (hL : Ly g P) (hΦ : Φ (some (.ref g.1)) (gNew g 5 0) (mdP g P) (mdI g I 0 x1 x2 x3)) : MM Γ mX11_made d 1 5 [.ref 16, .int 0, .int x1, .int x2, .int x3] g P I Φ := by
  refine MM_entry [some _, some _, some _, some _, some _] (by decide) (Nat.le_of_ble_eq_true rfl) rfl ?_
  have hg : 16 ≤ g.1 := Nat.le_trans (by decide) hL.far
  have hL' := hL.sx (SX_new (kd := 5) (ln := 0) (f := fun _ => none))
  have l0 := hL'.gw
  have l1 := hL'.tra.1
  have hb : Cel (gNew g 5 0) g.1 5 := Cel_new hg
  refine E_iload_n (i := 1) dX11_made_0 rfl rfl ?_
  refine E_tswOut (tgt := 142) dX11_made_1 (by decide) (by decide) ?_
  refine E_new (μ := mX11_made) (N := 5) (rc := 0) (rs := 0) dX11_made_142 cf_5 w_670 hg ?_
  refine E_dup dX11_made_145 rfl ?_
  refine E_iload_n (i := 1) dX11_made_146 rfl rfl ?_
  refine E_iload_n (i := 2) dX11_made_147 rfl rfl ?_
  refine E_iload_n (i := 3) dX11_made_148 rfl rfl ?_
  refine E_iload dX11_made_149 rfl ?_
  refine E_aload_n (i := 0) dX11_made_151 rfl rfl ?_
  refine E_gr dX11_made_152 gf_X11_44_11 rfl (by assumption) (by assumption) ?_
  refine k_X11_made_155 (mc' := 0) (ms' := 0) (rc := 0) (rs := 0) (by omega) (Nat.le_of_ble_eq_true rfl) (init5_5 (by omega) hb ?_)
  refine E_aret dX11_made_158 rfl (Or.inl ⟨_, rfl⟩) (Or.inr ⟨_, rfl⟩) ?_
  exact hΦ
theorem made_1 {x1 x2 x3 : Int32} (hd : 5 ≤ d) (hL : Ly g P) (hΦ : Φ (some (.ref g.1)) (gNew g 6 0) (mdP g P) (mdI g I 1 x1 x2 x3)) : MM Γ mX11_made d 1 5 [.ref 16, .int 1, .int x1, .int x2, .int x3] g P I Φ := by
  refine MM_entry [some _, some _, some _, some _, some _] (by decide) (Nat.le_of_ble_eq_true rfl) rfl ?_
  have hg : 16 ≤ g.1 := Nat.le_trans (by decide) hL.far
  have hL' := hL.sx (SX_new (kd := 6) (ln := 0) (f := fun _ => none))
  have l0 := hL'.gw
  have l1 := hL'.tra.1
  have hb : Cel (gNew g 6 0) g.1 6 := Cel_new hg
  refine E_iload_n (i := 1) dX11_made_0 rfl rfl ?_
  refine E_tswIn (tgt := 40) dX11_made_1 (by decide) (by decide) rfl (by decide) ?_
  refine E_new (μ := mX11_made) (N := 5) (rc := 0) (rs := 0) dX11_made_40 cf_6 w_563 hg ?_
  refine E_dup dX11_made_43 rfl ?_
  refine E_iload_n (i := 1) dX11_made_44 rfl rfl ?_
  refine E_iload_n (i := 2) dX11_made_45 rfl rfl ?_
  refine E_iload_n (i := 3) dX11_made_46 rfl rfl ?_
  refine E_iload dX11_made_47 rfl ?_
  refine E_aload_n (i := 0) dX11_made_49 rfl rfl ?_
  refine E_gr dX11_made_50 gf_X11_44_11 rfl (by assumption) (by assumption) ?_
  refine k_X11_made_53 (mc' := 0) (ms' := 0) (rc := 0) (rs := 0) (by omega) (Nat.le_of_ble_eq_true rfl) (init6_6 (by omega) hb ?_)
  refine E_aret dX11_made_56 rfl (Or.inl ⟨_, rfl⟩) (Or.inr ⟨_, rfl⟩) ?_
  exact hΦ
theorem made_2 {x1 x2 x3 : Int32} (hd : 5 ≤ d) (hL : Ly g P) (hΦ : Φ (some (.ref g.1)) (gNew g 2 0) (mdP g P) (mdI g I 2 x1 x2 x3)) : MM Γ mX11_made d 1 5 [.ref 16, .int 2, .int x1, .int x2, .int x3] g P I Φ := by
  refine MM_entry [some _, some _, some _, some _, some _] (by decide) (Nat.le_of_ble_eq_true rfl) rfl ?_
  have hg : 16 ≤ g.1 := Nat.le_trans (by decide) hL.far
  have hL' := hL.sx (SX_new (kd := 2) (ln := 0) (f := fun _ => none))
  have l0 := hL'.gw
  have l1 := hL'.tra.1
  have hb : Cel (gNew g 2 0) g.1 2 := Cel_new hg
  refine E_iload_n (i := 1) dX11_made_0 rfl rfl ?_
  refine E_tswIn (tgt := 57) dX11_made_1 (by decide) (by decide) rfl (by decide) ?_
  refine E_new (μ := mX11_made) (N := 5) (rc := 0) (rs := 0) dX11_made_57 cf_2 w_610 hg ?_
  refine E_dup dX11_made_60 rfl ?_
  refine E_iload_n (i := 1) dX11_made_61 rfl rfl ?_
  refine E_iload_n (i := 2) dX11_made_62 rfl rfl ?_
  refine E_iload_n (i := 3) dX11_made_63 rfl rfl ?_
  refine E_iload dX11_made_64 rfl ?_
  refine E_aload_n (i := 0) dX11_made_66 rfl rfl ?_
  refine E_gr dX11_made_67 gf_X11_44_11 rfl (by assumption) (by assumption) ?_
  refine k_X11_made_70 (mc' := 0) (ms' := 0) (rc := 0) (rs := 0) (by omega) (Nat.le_of_ble_eq_true rfl) (init2_2 (by omega) hb ?_)
  refine E_aret dX11_made_73 rfl (Or.inl ⟨_, rfl⟩) (Or.inr ⟨_, rfl⟩) ?_
  exact hΦ
theorem made_3 {x1 x2 x3 : Int32} (hd : 5 ≤ d) (hL : Ly g P) (hΦ : Φ (some (.ref g.1)) (gNew g 0 0) (mdP g P) (mdI g I 3 x1 x2 x3)) : MM Γ mX11_made d 1 5 [.ref 16, .int 3, .int x1, .int x2, .int x3] g P I Φ := by
  refine MM_entry [some _, some _, some _, some _, some _] (by decide) (Nat.le_of_ble_eq_true rfl) rfl ?_
  have hg : 16 ≤ g.1 := Nat.le_trans (by decide) hL.far
  have hL' := hL.sx (SX_new (kd := 0) (ln := 0) (f := fun _ => none))
  have l0 := hL'.gw
  have l1 := hL'.tra.1
  have hb : Cel (gNew g 0 0) g.1 0 := Cel_new hg
  refine E_iload_n (i := 1) dX11_made_0 rfl rfl ?_
  refine E_tswIn (tgt := 74) dX11_made_1 (by decide) (by decide) rfl (by decide) ?_
  refine E_new (μ := mX11_made) (N := 5) (rc := 0) (rs := 0) dX11_made_74 cf_0 w_622 hg ?_
  refine E_dup dX11_made_77 rfl ?_
  refine E_iload_n (i := 1) dX11_made_78 rfl rfl ?_
  refine E_iload_n (i := 2) dX11_made_79 rfl rfl ?_
  refine E_iload_n (i := 3) dX11_made_80 rfl rfl ?_
  refine E_iload dX11_made_81 rfl ?_
  refine E_aload_n (i := 0) dX11_made_83 rfl rfl ?_
  refine E_gr dX11_made_84 gf_X11_44_11 rfl (by assumption) (by assumption) ?_
  refine k_X11_made_87 (mc' := 0) (ms' := 0) (rc := 0) (rs := 0) (by omega) (Nat.le_of_ble_eq_true rfl) (init0_0 (by omega) hb ?_)
  refine E_aret dX11_made_90 rfl (Or.inl ⟨_, rfl⟩) (Or.inr ⟨_, rfl⟩) ?_
  exact hΦ
theorem made_4 {x1 x2 x3 : Int32} (hd : 5 ≤ d) (hL : Ly g P) (hΦ : Φ (some (.ref g.1)) (gNew g 9 0) (mdP g P) (mdI g I 4 x1 x2 x3)) : MM Γ mX11_made d 1 5 [.ref 16, .int 4, .int x1, .int x2, .int x3] g P I Φ := by
  refine MM_entry [some _, some _, some _, some _, some _] (by decide) (Nat.le_of_ble_eq_true rfl) rfl ?_
  have hg : 16 ≤ g.1 := Nat.le_trans (by decide) hL.far
  have hL' := hL.sx (SX_new (kd := 9) (ln := 0) (f := fun _ => none))
  have l0 := hL'.gw
  have l1 := hL'.tra.1
  have hb : Cel (gNew g 9 0) g.1 9 := Cel_new hg
  refine E_iload_n (i := 1) dX11_made_0 rfl rfl ?_
  refine E_tswIn (tgt := 91) dX11_made_1 (by decide) (by decide) rfl (by decide) ?_
  refine E_new (μ := mX11_made) (N := 5) (rc := 0) (rs := 0) dX11_made_91 cf_9 w_634 hg ?_
  refine E_dup dX11_made_94 rfl ?_
  refine E_iload_n (i := 1) dX11_made_95 rfl rfl ?_
  refine E_iload_n (i := 2) dX11_made_96 rfl rfl ?_
  refine E_iload_n (i := 3) dX11_made_97 rfl rfl ?_
  refine E_iload dX11_made_98 rfl ?_
  refine E_aload_n (i := 0) dX11_made_100 rfl rfl ?_
  refine E_gr dX11_made_101 gf_X11_44_11 rfl (by assumption) (by assumption) ?_
  refine k_X11_made_104 (mc' := 0) (ms' := 0) (rc := 0) (rs := 0) (by omega) (Nat.le_of_ble_eq_true rfl) (init9_9 (by omega) hb ?_)
  refine E_aret dX11_made_107 rfl (Or.inl ⟨_, rfl⟩) (Or.inr ⟨_, rfl⟩) ?_
  exact hΦ
theorem made_5 {x1 x2 x3 : Int32} (hd : 5 ≤ d) (hL : Ly g P) (hΦ : Φ (some (.ref g.1)) (gNew g 3 0) (mdP g P) (mdI g I 5 x1 x2 x3)) : MM Γ mX11_made d 1 5 [.ref 16, .int 5, .int x1, .int x2, .int x3] g P I Φ := by
  refine MM_entry [some _, some _, some _, some _, some _] (by decide) (Nat.le_of_ble_eq_true rfl) rfl ?_
  have hg : 16 ≤ g.1 := Nat.le_trans (by decide) hL.far
  have hL' := hL.sx (SX_new (kd := 3) (ln := 0) (f := fun _ => none))
  have l0 := hL'.gw
  have l1 := hL'.tra.1
  have hb : Cel (gNew g 3 0) g.1 3 := Cel_new hg
  refine E_iload_n (i := 1) dX11_made_0 rfl rfl ?_
  refine E_tswIn (tgt := 108) dX11_made_1 (by decide) (by decide) rfl (by decide) ?_
  refine E_new (μ := mX11_made) (N := 5) (rc := 0) (rs := 0) dX11_made_108 cf_3 w_646 hg ?_
  refine E_dup dX11_made_111 rfl ?_
  refine E_iload_n (i := 1) dX11_made_112 rfl rfl ?_
  refine E_iload_n (i := 2) dX11_made_113 rfl rfl ?_
  refine E_iload_n (i := 3) dX11_made_114 rfl rfl ?_
  refine E_iload dX11_made_115 rfl ?_
  refine E_aload_n (i := 0) dX11_made_117 rfl rfl ?_
  refine E_gr dX11_made_118 gf_X11_44_11 rfl (by assumption) (by assumption) ?_
  refine k_X11_made_121 (mc' := 0) (ms' := 0) (rc := 0) (rs := 0) (by omega) (Nat.le_of_ble_eq_true rfl) (init3_3 (by omega) hb ?_)
  refine E_aret dX11_made_124 rfl (Or.inl ⟨_, rfl⟩) (Or.inr ⟨_, rfl⟩) ?_
  exact hΦ
theorem made_6 {x1 x2 x3 : Int32} (hd : 5 ≤ d) (hL : Ly g P) (hΦ : Φ (some (.ref g.1)) (gNew g 1 0) (mdP g P) (mdI g I 6 x1 x2 x3)) : MM Γ mX11_made d 1 5 [.ref 16, .int 6, .int x1, .int x2, .int x3] g P I Φ := by
  refine MM_entry [some _, some _, some _, some _, some _] (by decide) (Nat.le_of_ble_eq_true rfl) rfl ?_
  have hg : 16 ≤ g.1 := Nat.le_trans (by decide) hL.far
  have hL' := hL.sx (SX_new (kd := 1) (ln := 0) (f := fun _ => none))
  have l0 := hL'.gw
  have l1 := hL'.tra.1
  have hb : Cel (gNew g 1 0) g.1 1 := Cel_new hg
  refine E_iload_n (i := 1) dX11_made_0 rfl rfl ?_
  refine E_tswIn (tgt := 125) dX11_made_1 (by decide) (by decide) rfl (by decide) ?_
  refine E_new (μ := mX11_made) (N := 5) (rc := 0) (rs := 0) dX11_made_125 cf_1 w_658 hg ?_
  refine E_dup dX11_made_128 rfl ?_
  refine E_iload_n (i := 1) dX11_made_129 rfl rfl ?_
  refine E_iload_n (i := 2) dX11_made_130 rfl rfl ?_
  refine E_iload_n (i := 3) dX11_made_131 rfl rfl ?_
  refine E_iload dX11_made_132 rfl ?_
  refine E_aload_n (i := 0) dX11_made_134 rfl rfl ?_
  refine E_gr dX11_made_135 gf_X11_44_11 rfl (by assumption) (by assumption) ?_
  refine k_X11_made_138 (mc' := 0) (ms' := 0) (rc := 0) (rs := 0) (by omega) (Nat.le_of_ble_eq_true rfl) (init1_1 (by omega) hb ?_)
  refine E_aret dX11_made_141 rfl (Or.inl ⟨_, rfl⟩) (Or.inr ⟨_, rfl⟩) ?_
  exact hΦ
theorem c_X11_made {x x1 x2 x3 : Int32} {kd : Nat} (hd : 5 ≤ d) (hL : Ly g P) (hx : x = nI kd) (hkd : kd ≤ 6) (hΦ : Φ (some (.ref g.1)) (gNew g (kc kd) 0) (mdP g P) (mdI g I x x1 x2 x3)) : MM Γ mX11_made d 1 5 [.ref 16, .int x, .int x1, .int x2, .int x3] g P I Φ := by
  subst hx
  match kd, hkd with
  | 0, _ => exact made_0 hd hL hΦ
  | 1, _ => exact made_1 hd hL hΦ
  | 2, _ => exact made_2 hd hL hΦ
  | 3, _ => exact made_3 hd hL hΦ
  | 4, _ => exact made_4 hd hL hΦ
  | 5, _ => exact made_5 hd hL hΦ
  | 6, _ => exact made_6 hd hL hΦ
/-- what a ride that was let go has changed -/
def RN (g : Sh) (P : HP) (I : HI) (g' : Sh) (P' : HP) (J : HI) (k : Nat) (x y z : Int32) : Prop := (∃ kd, kd ≤ 6 ∧ x = nI kd ∧ g' = gNew g (kc kd) 0) ∧ ((∀ a, a ≠ 17 → a ≠ 24 → a ≠ g.1 → P' a = P a) ∧ P' 17 0 = P 17 0 ∧ (∀ i, i ≠ k → P' 24 i = P 24 i) ∧ P' 24 k = some g.1 ∧ P' g.1 4 = some 94) ∧ (J g.1 0 = x ∧ J g.1 1 = nI k ∧ J g.1 2 = y ∧ J g.1 3 = z) ∧ (∀ a, a ≠ 17 → a ≠ 18 → a ≠ 21 → (a < 25 ∨ 28 < a) → a ≠ g.1 → J a = I a) ∧ (∀ s, s ≠ 7 → J 21 s = I 21 s) ∧ J 21 7 = nI (k + 1) ∧ (∀ a, 25 ≤ a → a ≤ 28 → (∀ i, i ≠ k → J a i = I a i) ∧ J a k = 0)
theorem c_X11_ride {x y z : Int32} {k : Nat} {nt : Nat → Nat} {δ : Nat → List Int32} (hd : 57 ≤ d) (hL : Ly g P) (hT : TG I 21 nt) (hδ : TD I 21 nt δ) (hk : I 21 7 = nI k) (hk8 : k ≤ 8) (h1 : okR x y z → (Unit → ¬ gvl 1 (δ 1) y (I 23 7) (I 23 8) (I 21 8) = 0) → k < 8 → ∀ g' P' J, RN g P I g' P' J k x y z → Φ (some (.int (nI k))) g' P' J) (h2 : ¬ okR x y z → Φ (some (.int (er 1))) g P (fl I 1)) (h3 : okR x y z → (Unit → gvl 1 (δ 1) y (I 23 7) (I 23 8) (I 21 8) = 0) → ∀ P' J, PF P P' → (∀ a, a ≠ 17 → a ≠ 18 → J a = I a) → Φ (some (.int (er 3))) g P' (fl J 3)) (h4 : okR x y z → (Unit → ¬ gvl 1 (δ 1) y (I 23 7) (I 23 8) (I 21 8) = 0) → k = 8 → ∀ P' J, PF P P' → (∀ a, a ≠ 17 → a ≠ 18 → J a = I a) → Φ (some (.int (er 4))) g P' (fl J 4)) : MM Γ mX11_ride d 1 5 [.ref 16, .int x, .int y, .int z] g P I Φ := by
  refine MM_entry [some _, some _, some _, some _] (by decide) (Nat.le_of_ble_eq_true rfl) rfl ?_
  have l0 := hL.gw
  by_cases hc : 0 ≤ x ∧ x ≤ 6
  · by_cases hc2 : 1 ≤ y ∧ y ≤ 300
    · by_cases hc3 : 0 ≤ z ∧ z ≤ 99
      · obtain ⟨v, hv⟩ := hid (gvl 1 (δ 1) y (I 23 7) (I 23 8) (I 21 8))
        rw [hv ()] at h1 h3 h4
        have h1 := h1 ⟨hc, hc2, hc3⟩
        have h3 := h3 ⟨hc, hc2, hc3⟩
        have h4 := h4 ⟨hc, hc2, hc3⟩
        have hgv : Unit → gvC I 21 1 nt y (I 23 7) (I 23 8) (I 21 8) = v := fun _ => by rw [gvC_D hδ (by decide)]; exact hv ()
        by_cases hz : v = 0
        · have hΦ := h3 (fun _ => hz)
          refine E_iload_n (i := 1) dX11_ride_0 rfl rfl ?_
          refine E_iconst (v := 0) dX11_ride_1 (by decide) ?_
          refine E_bipush (v := 6) dX11_ride_2 (by decide) ?_
          refine k_X11_ride_4 (mc' := 0) (ms' := 0) (rc := 1) (rs := 5) (by omega) (Nat.le_of_ble_eq_true rfl) (c_X11_within ?_)
          rw [bz_t hc]
          refine E_if_eq (tgt := 31) dX11_ride_7 (by decide) (fun c_7 => absurd c_7 (by decide)) (fun c_7 => ?_)
          refine E_iload_n (i := 2) dX11_ride_10 rfl rfl ?_
          refine E_iconst (v := 1) dX11_ride_11 (by decide) ?_
          refine E_sipush (v := 300) dX11_ride_12 (by decide) ?_
          refine k_X11_ride_15 (mc' := 0) (ms' := 0) (rc := 1) (rs := 5) (by omega) (Nat.le_of_ble_eq_true rfl) (c_X11_within ?_)
          rw [bz_t hc2]
          refine E_if_eq (tgt := 31) dX11_ride_18 (by decide) (fun c_18 => absurd c_18 (by decide)) (fun c_18 => ?_)
          refine E_iload_n (i := 3) dX11_ride_21 rfl rfl ?_
          refine E_iconst (v := 0) dX11_ride_22 (by decide) ?_
          refine E_bipush (v := 99) dX11_ride_23 (by decide) ?_
          refine k_X11_ride_25 (mc' := 0) (ms' := 0) (rc := 1) (rs := 5) (by omega) (Nat.le_of_ble_eq_true rfl) (c_X11_within ?_)
          rw [bz_t hc3]
          refine E_if_ne (tgt := 37) dX11_ride_28 (by decide) (fun c_28 => ?_) (fun c_28 => absurd c_28 (by decide))
          refine E_aload_n (i := 0) dX11_ride_37 rfl rfl ?_
          refine E_iload_n (i := 2) dX11_ride_38 rfl rfl ?_
          refine k_X11_ride_39 (mc' := 0) (ms' := 0) (rc := 1) (rs := 5) (by omega) (Nat.le_of_ble_eq_true rfl) (by assumption) (c_X11_mayGo (by omega) hL hT (fun P' J f1 f2 => ?_))
          rw [hgv (), bz_f (fun h => h hz)]
          have hL' := hL.pf f1
          have l0' := hL'.gw
          refine E_if_ne (tgt := 51) dX11_ride_42 (by decide) (fun c_42 => absurd (rfl) c_42) (fun c_42 => ?_)
          refine E_aload_n (i := 0) dX11_ride_45 rfl rfl ?_
          refine E_iconst (v := 3) dX11_ride_46 (by decide) ?_
          refine k_X11_ride_47 (mc' := 0) (ms' := 0) (rc := 1) (rs := 5) (by omega) (Nat.le_of_ble_eq_true rfl) (by assumption) (c_X11_fail (k := 3) hL' rfl (by decide) (by decide) ?_)
          refine E_iret dX11_ride_50 rfl ?_
          exact hΦ P' J f1 f2
        · have h1 := h1 (fun _ => hz)
          have h4 := h4 (fun _ => hz)
          by_cases h8 : k = 8
          · have hΦ := h4 h8
            refine E_iload_n (i := 1) dX11_ride_0 rfl rfl ?_
            refine E_iconst (v := 0) dX11_ride_1 (by decide) ?_
            refine E_bipush (v := 6) dX11_ride_2 (by decide) ?_
            refine k_X11_ride_4 (mc' := 0) (ms' := 0) (rc := 1) (rs := 5) (by omega) (Nat.le_of_ble_eq_true rfl) (c_X11_within ?_)
            rw [bz_t hc]
            refine E_if_eq (tgt := 31) dX11_ride_7 (by decide) (fun c_7 => absurd c_7 (by decide)) (fun c_7 => ?_)
            refine E_iload_n (i := 2) dX11_ride_10 rfl rfl ?_
            refine E_iconst (v := 1) dX11_ride_11 (by decide) ?_
            refine E_sipush (v := 300) dX11_ride_12 (by decide) ?_
            refine k_X11_ride_15 (mc' := 0) (ms' := 0) (rc := 1) (rs := 5) (by omega) (Nat.le_of_ble_eq_true rfl) (c_X11_within ?_)
            rw [bz_t hc2]
            refine E_if_eq (tgt := 31) dX11_ride_18 (by decide) (fun c_18 => absurd c_18 (by decide)) (fun c_18 => ?_)
            refine E_iload_n (i := 3) dX11_ride_21 rfl rfl ?_
            refine E_iconst (v := 0) dX11_ride_22 (by decide) ?_
            refine E_bipush (v := 99) dX11_ride_23 (by decide) ?_
            refine k_X11_ride_25 (mc' := 0) (ms' := 0) (rc := 1) (rs := 5) (by omega) (Nat.le_of_ble_eq_true rfl) (c_X11_within ?_)
            rw [bz_t hc3]
            refine E_if_ne (tgt := 37) dX11_ride_28 (by decide) (fun c_28 => ?_) (fun c_28 => absurd c_28 (by decide))
            refine E_aload_n (i := 0) dX11_ride_37 rfl rfl ?_
            refine E_iload_n (i := 2) dX11_ride_38 rfl rfl ?_
            refine k_X11_ride_39 (mc' := 0) (ms' := 0) (rc := 1) (rs := 5) (by omega) (Nat.le_of_ble_eq_true rfl) (by assumption) (c_X11_mayGo (by omega) hL hT (fun P' J f1 f2 => ?_))
            rw [hgv (), bz_t hz]
            have hL' := hL.pf f1
            have l0' := hL'.gw
            have l1' := hL'.live
            have l2' := hL'.s21.c
            have j7 : J 21 7 = nI k := by rw [f2 21 (by decide) (by decide)]; exact hk
            refine E_if_ne (tgt := 51) dX11_ride_42 (by decide) (fun c_42 => ?_) (fun c_42 => absurd c_42 (by decide))
            refine E_aload_n (i := 0) dX11_ride_51 rfl rfl ?_
            refine E_gr dX11_ride_52 gf_X11_21_11 rfl (by assumption) (by assumption) ?_
            refine E_gi dX11_ride_55 gf_X11_116_8 rfl (by assumption) ?_
            refine E_bipush (v := 8) dX11_ride_58 (by decide) ?_
            refine E_icmp_lt (tgt := 69) dX11_ride_60 (by decide) (fun c_60 => absurd c_60 (by rw [j7, h8]; decide)) (fun c_60 => ?_)
            refine E_aload_n (i := 0) dX11_ride_63 rfl rfl ?_
            refine E_iconst (v := 4) dX11_ride_64 (by decide) ?_
            refine k_X11_ride_65 (mc' := 0) (ms' := 0) (rc := 1) (rs := 5) (by omega) (Nat.le_of_ble_eq_true rfl) (by assumption) (c_X11_fail (k := 4) hL' rfl (by decide) (by decide) ?_)
            refine E_iret dX11_ride_68 rfl ?_
            exact hΦ P' J f1 f2
          · have hk7 : k < 8 := by omega
            have hh1 := h1 hk7
            clear h1 h2 h3 h4
            obtain ⟨kd, hkx, hkd⟩ := in_04 (n := 6) (by omega) hc
            have rest : ∀ (P1 : HP) (L : HI), PF P P1 → (∀ a, a ≠ 17 → a ≠ 18 → L a = I a) → E Γ mX11_ride d 1 5 (QM Γ 1 5 Φ) 1 5 69 [some (.ref 16), some (.int x), some (.int y), some (.int z)] [] g P1 L := by
              intro P1 L f1 f2
              have hL' := hL.pf f1
              have l0' := hL'.gw
              have l1' := hL'.live
              have l2' := hL'.s21.c
              have j7 : L 21 7 = nI k := by rw [f2 21 (by decide) (by decide)]; exact hk
              have hfar := hL.far
              have hg : 16 ≤ g.1 := Nat.le_trans (by decide) hfar
              obtain ⟨g', hg'⟩ := hid (gNew g (kc kd) 0)
              obtain ⟨P2, hP2⟩ := hid (mdP g P1)
              obtain ⟨L2, hL2⟩ := hid (mdI g L x (nI k) y z)
              have sx : SX g g' P1 P2 := by
                rw [← hg' (), ← hP2 ()]
                refine ⟨Nat.le_succ _, fun a ha => ⟨ur_n _ _ (by omega), ur_n _ _ (by omega), ?_⟩⟩
                unfold mdP
                rw [u2_oth _ (by omega), ur_n _ _ (by omega)]
              have hL2' := hL'.sx sx
              have hb : Cel g' g.1 (kc kd) := by rw [← hg' ()]; exact Cel_new hg
              have o2 : ∀ a, a ≠ g.1 → L2 a = L a := fun a ha => by rw [← hL2 ()]; unfold mdI; rw [u2_oth _ ha, u2_oth _ ha, u2_oth _ ha, u2_oth _ ha, ur_n _ _ ha]
              have p2 : ∀ a, a ≠ g.1 → P2 a = P1 a := fun a ha => by rw [← hP2 ()]; unfold mdP; rw [u2_oth _ ha, ur_n _ _ ha]
              have b0 : L2 g.1 0 = x := by rw [← hL2 ()]; unfold mdI; rw [u2_o (by omega), u2_o (by omega), u2_o (by omega), u2_s]
              have b1 : L2 g.1 1 = nI k := by rw [← hL2 ()]; unfold mdI; rw [u2_o (by omega), u2_o (by omega), u2_s]
              have b2 : L2 g.1 2 = y := by rw [← hL2 ()]; unfold mdI; rw [u2_o (by omega), u2_s]
              have b3 : L2 g.1 3 = z := by rw [← hL2 ()]; unfold mdI; rw [u2_s]
              have b4 : P2 g.1 4 = some 94 := by rw [← hP2 ()]; unfold mdP; rw [u2_s]
              have k7 : L2 21 7 = nI k := by rw [o2 21 (by omega)]; exact j7
              have lI : ∀ a, a ≠ 17 → a ≠ 18 → a ≠ g.1 → L2 a = I a := fun a a1 a2 a3 => by rw [o2 a a3]; exact f2 a a1 a2
              have mj : Unit → gNew g (kc kd) 0 = g' := fun _ => hg' ()
              have l2'' := hL2'.s21.c
              refine E_aload_n (i := 0) dX11_ride_69 rfl rfl ?_
              refine E_gr dX11_ride_70 gf_X11_21_11 rfl (by assumption) (by assumption) ?_
              refine E_aload_n (i := 0) dX11_ride_73 rfl rfl ?_
              refine E_iload_n (i := 1) dX11_ride_74 rfl rfl ?_
              refine E_aload_n (i := 0) dX11_ride_75 rfl rfl ?_
              refine E_gr dX11_ride_76 gf_X11_21_11 rfl (by assumption) (by assumption) ?_
              refine E_gi dX11_ride_79 gf_X11_116_8 rfl (by assumption) ?_
              rw [j7]
              refine E_iload_n (i := 2) dX11_ride_82 rfl rfl ?_
              refine E_iload_n (i := 3) dX11_ride_83 rfl rfl ?_
              refine k_X11_ride_84 (mc' := 1) (ms' := 5) (rc := 0) (rs := 0) (by omega) (Nat.le_of_ble_eq_true rfl) (by assumption) (c_X11_made (by omega) hL' hkx hkd ?_)
              rw [hg' (), hP2 (), hL2 ()]
              refine k_X11_ride_87 (mc' := 0) (ms' := 0) (rc := 0) (rs := 0) (by omega) (Nat.le_of_ble_eq_true rfl) (by assumption) (c_X8_addRide (B := 21) hL2'.s21 k7 hk7 hb (isR_kc hkd) ?_)
              refine E_iret dX11_ride_90 rfl ?_
              refine hh1 g' _ _ ⟨⟨kd, hkd, hkx, (hg' ()).symm⟩, ⟨fun a a1 a2 a3 => ?_, ?_, fun i hi => ?_, ?_, ?_⟩, ⟨?_, ?_, ?_, ?_⟩, fun a a1 a2 a3 a4 a5 => ?_, fun s hs => ?_, u2_s _ _ _ _, fun a a1 a2 => ⟨fun i hi => ?_, ?_⟩⟩
              · rw [u2_oth _ a2, p2 a a3]
                exact f1.1 a a1
              · rw [u2_oth _ (by decide), p2 17 (by omega)]
                exact f1.2
              · show u2 P2 24 k (some g.1) 24 i = P 24 i
                rw [u2_o (fun q => hi q.2), p2 24 (by omega), f1.1 24 (by decide)]
              · exact u2_s _ _ _ _
              · rw [u2_oth _ (by omega)]
                exact b4
              · rw [u2_oth _ (by omega), u2_oth _ (by omega), u2_oth _ (by omega), u2_oth _ (by omega), u2_oth _ (by omega)]; exact b0
              · rw [u2_oth _ (by omega), u2_oth _ (by omega), u2_oth _ (by omega), u2_oth _ (by omega), u2_oth _ (by omega)]; exact b1
              · rw [u2_oth _ (by omega), u2_oth _ (by omega), u2_oth _ (by omega), u2_oth _ (by omega), u2_oth _ (by omega)]; exact b2
              · rw [u2_oth _ (by omega), u2_oth _ (by omega), u2_oth _ (by omega), u2_oth _ (by omega), u2_oth _ (by omega)]; exact b3
              · rw [u2_oth _ a3, u2_oth _ (by omega), u2_oth _ (by omega), u2_oth _ (by omega), u2_oth _ (by omega)]
                exact lI a a1 a2 a5
              · rw [u2_o (fun q => hs q.2), u2_oth _ (by decide), u2_oth _ (by decide), u2_oth _ (by decide), u2_oth _ (by decide), lI 21 (by decide) (by decide) (by omega)]
              · rw [u2_oth _ (by omega), u2_o (fun q => hi q.2), u2_o (fun q => hi q.2), u2_o (fun q => hi q.2), u2_o (fun q => hi q.2), lI a (by omega) (by omega) (by omega)]
              · rw [u2_oth _ (by omega)]
                have ha : a = 25 ∨ a = 26 ∨ a = 27 ∨ a = 28 := by omega
                rcases ha with rfl | rfl | rfl | rfl
                · rw [u2_oth _ (by decide), u2_oth _ (by decide), u2_oth _ (by decide)]; exact u2_s _ _ _ _
                · rw [u2_oth _ (by decide), u2_oth _ (by decide)]; exact u2_s _ _ _ _
                · rw [u2_oth _ (by decide)]; exact u2_s _ _ _ _
                · exact u2_s _ _ _ _
            refine E_iload_n (i := 1) dX11_ride_0 rfl rfl ?_
            refine E_iconst (v := 0) dX11_ride_1 (by decide) ?_
            refine E_bipush (v := 6) dX11_ride_2 (by decide) ?_
            refine k_X11_ride_4 (mc' := 0) (ms' := 0) (rc := 1) (rs := 5) (by omega) (Nat.le_of_ble_eq_true rfl) (c_X11_within ?_)
            rw [bz_t hc]
            refine E_if_eq (tgt := 31) dX11_ride_7 (by decide) (fun c_7 => absurd c_7 (by decide)) (fun c_7 => ?_)
            refine E_iload_n (i := 2) dX11_ride_10 rfl rfl ?_
            refine E_iconst (v := 1) dX11_ride_11 (by decide) ?_
            refine E_sipush (v := 300) dX11_ride_12 (by decide) ?_
            refine k_X11_ride_15 (mc' := 0) (ms' := 0) (rc := 1) (rs := 5) (by omega) (Nat.le_of_ble_eq_true rfl) (c_X11_within ?_)
            rw [bz_t hc2]
            refine E_if_eq (tgt := 31) dX11_ride_18 (by decide) (fun c_18 => absurd c_18 (by decide)) (fun c_18 => ?_)
            refine E_iload_n (i := 3) dX11_ride_21 rfl rfl ?_
            refine E_iconst (v := 0) dX11_ride_22 (by decide) ?_
            refine E_bipush (v := 99) dX11_ride_23 (by decide) ?_
            refine k_X11_ride_25 (mc' := 0) (ms' := 0) (rc := 1) (rs := 5) (by omega) (Nat.le_of_ble_eq_true rfl) (c_X11_within ?_)
            rw [bz_t hc3]
            refine E_if_ne (tgt := 37) dX11_ride_28 (by decide) (fun c_28 => ?_) (fun c_28 => absurd c_28 (by decide))
            refine E_aload_n (i := 0) dX11_ride_37 rfl rfl ?_
            refine E_iload_n (i := 2) dX11_ride_38 rfl rfl ?_
            refine k_X11_ride_39 (mc' := 0) (ms' := 0) (rc := 1) (rs := 5) (by omega) (Nat.le_of_ble_eq_true rfl) (by assumption) (c_X11_mayGo (by omega) hL hT (fun P' J f1 f2 => ?_))
            rw [hgv (), bz_t hz]
            have hL' := hL.pf f1
            have l0' := hL'.gw
            have l1' := hL'.live
            have l2' := hL'.s21.c
            have j7 : J 21 7 = nI k := by rw [f2 21 (by decide) (by decide)]; exact hk
            refine E_if_ne (tgt := 51) dX11_ride_42 (by decide) (fun c_42 => ?_) (fun c_42 => absurd c_42 (by decide))
            refine E_aload_n (i := 0) dX11_ride_51 rfl rfl ?_
            refine E_gr dX11_ride_52 gf_X11_21_11 rfl (by assumption) (by assumption) ?_
            refine E_gi dX11_ride_55 gf_X11_116_8 rfl (by assumption) ?_
            refine E_bipush (v := 8) dX11_ride_58 (by decide) ?_
            refine E_icmp_lt (tgt := 69) dX11_ride_60 (by decide) (fun c_60 => ?_) (fun c_60 => absurd (by rw [j7]; exact nI_lt (b := 8) hk7 (by omega)) c_60)
            exact rest P' J f1 f2
      · have hΦ := h2 (fun h => hc3 h.2.2)
        refine E_iload_n (i := 1) dX11_ride_0 rfl rfl ?_
        refine E_iconst (v := 0) dX11_ride_1 (by decide) ?_
        refine E_bipush (v := 6) dX11_ride_2 (by decide) ?_
        refine k_X11_ride_4 (mc' := 0) (ms' := 0) (rc := 1) (rs := 5) (by omega) (Nat.le_of_ble_eq_true rfl) (c_X11_within ?_)
        rw [bz_t hc]
        refine E_if_eq (tgt := 31) dX11_ride_7 (by decide) (fun c_7 => absurd c_7 (by decide)) (fun c_7 => ?_)
        refine E_iload_n (i := 2) dX11_ride_10 rfl rfl ?_
        refine E_iconst (v := 1) dX11_ride_11 (by decide) ?_
        refine E_sipush (v := 300) dX11_ride_12 (by decide) ?_
        refine k_X11_ride_15 (mc' := 0) (ms' := 0) (rc := 1) (rs := 5) (by omega) (Nat.le_of_ble_eq_true rfl) (c_X11_within ?_)
        rw [bz_t hc2]
        refine E_if_eq (tgt := 31) dX11_ride_18 (by decide) (fun c_18 => absurd c_18 (by decide)) (fun c_18 => ?_)
        refine E_iload_n (i := 3) dX11_ride_21 rfl rfl ?_
        refine E_iconst (v := 0) dX11_ride_22 (by decide) ?_
        refine E_bipush (v := 99) dX11_ride_23 (by decide) ?_
        refine k_X11_ride_25 (mc' := 0) (ms' := 0) (rc := 1) (rs := 5) (by omega) (Nat.le_of_ble_eq_true rfl) (c_X11_within ?_)
        rw [bz_f hc3]
        refine E_if_ne (tgt := 37) dX11_ride_28 (by decide) (fun c_28 => absurd (rfl) c_28) (fun c_28 => ?_)
        refine E_aload_n (i := 0) dX11_ride_31 rfl rfl ?_
        refine E_iconst (v := 1) dX11_ride_32 (by decide) ?_
        refine k_X11_ride_33 (mc' := 0) (ms' := 0) (rc := 1) (rs := 5) (by omega) (Nat.le_of_ble_eq_true rfl) (by assumption) (c_X11_fail (k := 1) hL rfl (by decide) (by decide) ?_)
        refine E_iret dX11_ride_36 rfl ?_
        exact hΦ
    · have hΦ := h2 (fun h => hc2 h.2.1)
      refine E_iload_n (i := 1) dX11_ride_0 rfl rfl ?_
      refine E_iconst (v := 0) dX11_ride_1 (by decide) ?_
      refine E_bipush (v := 6) dX11_ride_2 (by decide) ?_
      refine k_X11_ride_4 (mc' := 0) (ms' := 0) (rc := 1) (rs := 5) (by omega) (Nat.le_of_ble_eq_true rfl) (c_X11_within ?_)
      rw [bz_t hc]
      refine E_if_eq (tgt := 31) dX11_ride_7 (by decide) (fun c_7 => absurd c_7 (by decide)) (fun c_7 => ?_)
      refine E_iload_n (i := 2) dX11_ride_10 rfl rfl ?_
      refine E_iconst (v := 1) dX11_ride_11 (by decide) ?_
      refine E_sipush (v := 300) dX11_ride_12 (by decide) ?_
      refine k_X11_ride_15 (mc' := 0) (ms' := 0) (rc := 1) (rs := 5) (by omega) (Nat.le_of_ble_eq_true rfl) (c_X11_within ?_)
      rw [bz_f hc2]
      refine E_if_eq (tgt := 31) dX11_ride_18 (by decide) (fun c_18 => ?_) (fun c_18 => absurd (rfl) c_18)
      refine E_aload_n (i := 0) dX11_ride_31 rfl rfl ?_
      refine E_iconst (v := 1) dX11_ride_32 (by decide) ?_
      refine k_X11_ride_33 (mc' := 0) (ms' := 0) (rc := 1) (rs := 5) (by omega) (Nat.le_of_ble_eq_true rfl) (by assumption) (c_X11_fail (k := 1) hL rfl (by decide) (by decide) ?_)
      refine E_iret dX11_ride_36 rfl ?_
      exact hΦ
  · have hΦ := h2 (fun h => hc h.1)
    refine E_iload_n (i := 1) dX11_ride_0 rfl rfl ?_
    refine E_iconst (v := 0) dX11_ride_1 (by decide) ?_
    refine E_bipush (v := 6) dX11_ride_2 (by decide) ?_
    refine k_X11_ride_4 (mc' := 0) (ms' := 0) (rc := 1) (rs := 5) (by omega) (Nat.le_of_ble_eq_true rfl) (c_X11_within ?_)
    rw [bz_f hc]
    refine E_if_eq (tgt := 31) dX11_ride_7 (by decide) (fun c_7 => ?_) (fun c_7 => absurd (rfl) c_7)
    refine E_aload_n (i := 0) dX11_ride_31 rfl rfl ?_
    refine E_iconst (v := 1) dX11_ride_32 (by decide) ?_
    refine k_X11_ride_33 (mc' := 0) (ms' := 0) (rc := 1) (rs := 5) (by omega) (Nat.le_of_ble_eq_true rfl) (by assumption) (c_X11_fail (k := 1) hL rfl (by decide) (by decide) ?_)
    refine E_iret dX11_ride_36 rfl ?_
    exact hΦ
end
