/-! over: the class -/
/-- the first of i, i + 1, .., i + u - 1 with p -/
def fnd (p : Nat → Prop) [DecidablePred p] : Nat → Nat → Option Nat
  | 0, _ => none
  | u + 1, i => if p i then some i else fnd p u (i + 1)
theorem fnd_some {p : Nat → Prop} [DecidablePred p] : ∀ {u i b : Nat}, fnd p u i = some b → i ≤ b ∧ b < i + u ∧ p b ∧ ∀ j, i ≤ j → j < b → ¬ p j
  | 0, _, _, h => by cases h
  | u + 1, i, b, h => by
    unfold fnd at h
    by_cases hp : p i
    · rw [if_pos hp] at h
      cases h
      exact ⟨Nat.le_refl _, by omega, hp, fun j h1 h2 => by omega⟩
    · rw [if_neg hp] at h
      obtain ⟨h1, h2, h3, h4⟩ := fnd_some h
      refine ⟨by omega, by omega, h3, fun j g1 g2 => ?_⟩
      by_cases e : j = i
      · rw [e]; exact hp
      · exact h4 j (by omega) g2
theorem fnd_none {p : Nat → Prop} [DecidablePred p] : ∀ {u i : Nat}, fnd p u i = none → ∀ j, i ≤ j → j < i + u → ¬ p j
  | 0, _, _ => fun j h1 h2 => by omega
  | u + 1, i, h => by
    unfold fnd at h
    by_cases hp : p i
    · rw [if_pos hp] at h; cases h
    · rw [if_neg hp] at h
      intro j g1 g2
      by_cases e : j = i
      · rw [e]; exact hp
      · exact fnd_none h j (by omega) (by omega)
theorem fnd_congr {p q : Nat → Prop} [DecidablePred p] [DecidablePred q] : ∀ {u i : Nat}, (∀ j, i ≤ j → j < i + u → (p j ↔ q j)) → fnd p u i = fnd q u i
  | 0, _, _ => rfl
  | u + 1, i, h => by
    unfold fnd
    rw [fnd_congr (u := u) (i := i + 1) (fun j h1 h2 => h j (by omega) (by omega))]
    by_cases hp : p i
    · rw [if_pos hp, if_pos ((h i (by omega) (by omega)).mp hp)]
    · rw [if_neg hp, if_neg (fun e => hp ((h i (by omega) (by omega)).mpr e))]
theorem fnd_is {p : Nat → Prop} [DecidablePred p] {u i j : Nat} (h1 : i ≤ j) (h2 : j < i + u) (h : p j) : ∃ b, fnd p u i = some b := by
  cases e : fnd p u i with
  | some b => exact ⟨b, rfl⟩
  | none => exact absurd h (fnd_none e j h1 h2)
/-- one line pulls another over -/
abbrev plc (st th w : Nat → Int32) (a b : Nat) : Prop := th b * w 0 / 10 ≤ st a
/-- of n lines, the number of those that go over from i to the last by at most f pulls; 0 -/
def lw (n last : Nat) (pl : Nat → Nat → Prop) [∀ a b, Decidable (pl a b)] : Nat → Nat → Nat
  | 0, i => if i = last then 1 else 0
  | f + 1, i => if lw n last pl f i = 0 then (if i < n ∧ fnd (fun b => lw n last pl f b = f + 1 ∧ pl i b) n 0 ≠ none then f + 2 else 0) else lw n last pl f i
theorem lw_le {n last : Nat} {pl : Nat → Nat → Prop} [∀ a b, Decidable (pl a b)] : ∀ f i, lw n last pl f i ≤ f + 1
  | 0, i => by unfold lw; split <;> omega
  | f + 1, i => by
    have := lw_le (n := n) (last := last) (pl := pl) f i
    unfold lw
    split
    · split <;> omega
    · omega
theorem lw_s1 {n last : Nat} {pl : Nat → Nat → Prop} [∀ a b, Decidable (pl a b)] (f i : Nat) : lw n last pl (f + 1) i = f + 1 ↔ lw n last pl f i = f + 1 := by
  constructor
  · intro h
    unfold lw at h
    split at h
    · split at h <;> omega
    · exact h
  · intro h
    unfold lw
    rw [if_neg (by omega), h]
/-- within a round -/
def lwx (n last : Nat) (pl : Nat → Nat → Prop) [∀ a b, Decidable (pl a b)] (f i j : Nat) : Nat := if j < i then lw n last pl (f + 1) j else lw n last pl f j
theorem lwx_le {n last : Nat} {pl : Nat → Nat → Prop} [∀ a b, Decidable (pl a b)] (f i j : Nat) : lwx n last pl f i j ≤ f + 2 := by
  have h1 := lw_le (n := n) (last := last) (pl := pl) f j
  have h2 := lw_le (n := n) (last := last) (pl := pl) (f + 1) j
  unfold lwx
  split <;> omega
theorem lwx_s1 {n last : Nat} {pl : Nat → Nat → Prop} [∀ a b, Decidable (pl a b)] (f i j : Nat) : lwx n last pl f i j = f + 1 ↔ lw n last pl f j = f + 1 := by
  unfold lwx
  split
  · exact lw_s1 f j
  · exact Iff.rfl
/-- a row of cells by a function of numbers, in its first m cells -/
def rowN (t : Nat → Nat) (m : Nat) (h : Nat → Int32) : Nat → Int32 := fun j => if j < m then nI (t j) else h j
theorem rowN_at {t : Nat → Nat} {m : Nat} {h : Nat → Int32} {j : Nat} (hj : j < m) : rowN t m h j = nI (t j) := if_pos hj
theorem rowN_ur {t t' : Nat → Nat} {m : Nat} {h : Nat → Int32} {i : Nat} {v : Nat} (hi : i < m) (h1 : t' i = v) (h2 : ∀ j, j ≠ i → t' j = t j) : ur (rowN t m h) i (nI v) = rowN t' m h := by
  funext j
  unfold ur rowN
  by_cases e : j = i
  · rw [if_pos e, e, if_pos hi, h1]
  · rw [if_neg e, h2 j e]
theorem rowN_congr {t t' : Nat → Nat} {m : Nat} {h : Nat → Int32} (he : ∀ j, j < m → t j = t' j) : rowN t m h = rowN t' m h := by
  funext j
  unfold rowN
  by_cases e : j < m
  · rw [if_pos e, if_pos e, he j e]
  · rw [if_neg e, if_neg e]
theorem rowN_s {t : Nat → Nat} {m : Nat} {h : Nat → Int32} {v : Int32} (hv : nI (t m) = v) : ur (rowN t m h) m v = rowN t (m + 1) h := by
  funext j
  unfold ur rowN
  by_cases e : j = m
  · rw [if_pos e, e, if_pos (by omega), hv]
  · rw [if_neg e]
    by_cases e2 : j < m
    · rw [if_pos e2, if_pos (by omega)]
    · rw [if_neg e2, if_neg (by omega)]
theorem rowN_0 (t : Nat → Nat) (h : Nat → Int32) : rowN t 0 h = h := by
  funext j
  unfold rowN
  rw [if_neg (by omega)]
theorem lw_out {n last : Nat} {pl : Nat → Nat → Prop} [∀ a b, Decidable (pl a b)] {f i : Nat} (h : ¬ i < n) : lw n last pl (f + 1) i = lw n last pl f i := by
  conv => lhs; unfold lw
  by_cases c : lw n last pl f i = 0
  · rw [if_pos c, if_neg (fun q => h q.1), c]
  · rw [if_neg c]
section
variable {Γ : GE} {d : Nat} {g : Sh} {P : HP} {I : HI} {Φ : Option Value → Sh → HP → HI → Prop}
theorem c_X11_pulls {x y : Int32} {a b n : Nat} (hd : 2 ≤ d) (hL : Ly g P) (e1 : I 35 1 = nI n) (e2 : I 37 1 = nI n) (hn : n ≤ 8) (hx : x = nI a) (hy : y = nI b) (ha : a < n) (hb : b < n) (hΦ : Φ (some (.int (bz (plc (I 36) (I 38) (I 23) a b)))) g P I) : MM Γ mX11_pulls d 0 0 [.ref 16, .int x, .int y] g P I Φ := by
  refine MM_entry [some _, some _, some _] (by decide) (Nat.le_of_ble_eq_true rfl) rfl ?_
  have h0 := hL.gw
  have l1 := hL.live
  have l2 := hL.s21.c
  have l3 : P 21 1 = some 22 := hL.s21.wp
  have l4 : Wi g P 22 23 := hL.s21.wi
  have l5 := l4.1
  obtain ⟨p1, p2⟩ : P 21 13 = some 35 ∧ RS g P 35 36 8 := hL.s21.str
  obtain ⟨q1, q2⟩ : P 21 14 = some 37 ∧ RS g P 37 38 8 := hL.s21.thi
  have p3 := p2.1
  have q3 := q2.1
  have r1 : Rw g P I 35 36 8 n := p2.w e1 (by omega) (by omega)
  have r2 : Rw g P I 37 38 8 n := q2.w e2 (by omega) (by omega)
  have v1 : rat I 36 n x = I 36 a := by rw [hx]; exact rat_in ha (by omega)
  have v2 : rat I 38 n y = I 38 b := by rw [hy]; exact rat_in hb (by omega)
  by_cases hc : plc (I 36) (I 38) (I 23) a b
  · rw [bz_t hc] at hΦ
    refine E_aload_n (i := 0) dX11_pulls_0 rfl rfl ?_
    refine E_gr dX11_pulls_1 gf_X11_21_11 rfl (by assumption) (by assumption) ?_
    refine E_gr dX11_pulls_4 gf_X11_320_8 rfl (by assumption) (by assumption) ?_
    refine E_iload_n (i := 2) dX11_pulls_7 rfl rfl ?_
    refine k_X11_pulls_8 (mc' := 0) (ms' := 0) (rc := 0) (rs := 0) (by omega) (Nat.le_of_ble_eq_true rfl) (by assumption) (c_X7_at (by omega) r2 ?_)
    rw [v2]
    refine E_aload_n (i := 0) dX11_pulls_11 rfl rfl ?_
    refine E_gr dX11_pulls_12 gf_X11_21_11 rfl (by assumption) (by assumption) ?_
    refine E_gr dX11_pulls_15 gf_X11_77_8 rfl (by assumption) (by assumption) ?_
    refine E_iconst (v := 0) dX11_pulls_18 (by decide) ?_
    refine k_X11_pulls_19 (mc' := 0) (ms' := 0) (rc := 0) (rs := 0) (by omega) (Nat.le_of_ble_eq_true rfl) (by assumption) (c_X10_ofk (k := 0) rfl (by decide) l4 ?_)
    refine E_imul dX11_pulls_22 ?_
    refine E_bipush (v := 10) dX11_pulls_23 (by decide) ?_
    refine E_idiv dX11_pulls_25 (by decide) ?_
    refine E_aload_n (i := 0) dX11_pulls_26 rfl rfl ?_
    refine E_gr dX11_pulls_27 gf_X11_21_11 rfl (by assumption) (by assumption) ?_
    refine E_gr dX11_pulls_30 gf_X11_213_8 rfl (by assumption) (by assumption) ?_
    refine E_iload_n (i := 1) dX11_pulls_33 rfl rfl ?_
    refine k_X11_pulls_34 (mc' := 0) (ms' := 0) (rc := 0) (rs := 0) (by omega) (Nat.le_of_ble_eq_true rfl) (by assumption) (c_X7_at (by omega) r1 ?_)
    rw [v1]
    refine E_icmp_gt (tgt := 44) dX11_pulls_37 (by decide) (fun c_37 => absurd c_37 (Int32.not_lt.mpr hc)) (fun c_37 => ?_)
    refine E_iconst (v := 1) dX11_pulls_40 (by decide) ?_
    refine E_goto (tgt := 45) dX11_pulls_41 (by decide) ?_
    refine E_zret dX11_pulls_45 rfl rfl ?_
    exact hΦ
  · rw [bz_f hc] at hΦ
    refine E_aload_n (i := 0) dX11_pulls_0 rfl rfl ?_
    refine E_gr dX11_pulls_1 gf_X11_21_11 rfl (by assumption) (by assumption) ?_
    refine E_gr dX11_pulls_4 gf_X11_320_8 rfl (by assumption) (by assumption) ?_
    refine E_iload_n (i := 2) dX11_pulls_7 rfl rfl ?_
    refine k_X11_pulls_8 (mc' := 0) (ms' := 0) (rc := 0) (rs := 0) (by omega) (Nat.le_of_ble_eq_true rfl) (by assumption) (c_X7_at (by omega) r2 ?_)
    rw [v2]
    refine E_aload_n (i := 0) dX11_pulls_11 rfl rfl ?_
    refine E_gr dX11_pulls_12 gf_X11_21_11 rfl (by assumption) (by assumption) ?_
    refine E_gr dX11_pulls_15 gf_X11_77_8 rfl (by assumption) (by assumption) ?_
    refine E_iconst (v := 0) dX11_pulls_18 (by decide) ?_
    refine k_X11_pulls_19 (mc' := 0) (ms' := 0) (rc := 0) (rs := 0) (by omega) (Nat.le_of_ble_eq_true rfl) (by assumption) (c_X10_ofk (k := 0) rfl (by decide) l4 ?_)
    refine E_imul dX11_pulls_22 ?_
    refine E_bipush (v := 10) dX11_pulls_23 (by decide) ?_
    refine E_idiv dX11_pulls_25 (by decide) ?_
    refine E_aload_n (i := 0) dX11_pulls_26 rfl rfl ?_
    refine E_gr dX11_pulls_27 gf_X11_21_11 rfl (by assumption) (by assumption) ?_
    refine E_gr dX11_pulls_30 gf_X11_213_8 rfl (by assumption) (by assumption) ?_
    refine E_iload_n (i := 1) dX11_pulls_33 rfl rfl ?_
    refine k_X11_pulls_34 (mc' := 0) (ms' := 0) (rc := 0) (rs := 0) (by omega) (Nat.le_of_ble_eq_true rfl) (by assumption) (c_X7_at (by omega) r1 ?_)
    rw [v1]
    refine E_icmp_gt (tgt := 44) dX11_pulls_37 (by decide) (fun c_37 => ?_) (fun c_37 => absurd (Int32.not_le.mp hc) c_37)
    refine E_iconst (v := 0) dX11_pulls_44 (by decide) ?_
    refine E_zret dX11_pulls_45 rfl rfl ?_
    exact hΦ
/-- what nextOf answers -/
def oI : Option Nat → Int32
  | some b => nI b
  | none => -1
abbrev nxP (I : HI) (y : Int32) (a b : Nat) : Prop := I 98 b = y ∧ plc (I 36) (I 38) (I 23) a b
theorem c_X11_nextOf {x y : Int32} {a n : Nat} (hd : 3 ≤ d) (hL : Ly g P) (e1 : I 35 1 = nI n) (e2 : I 37 1 = nI n) (hn : n ≤ 8) (hx : x = nI a) (ha : a < n) (hΦ : Φ (some (.int (oI (fnd (nxP I y a) n 0)))) g P I) : MM Γ mX11_nextOf d 0 0 [.ref 16, .int x, .int y] g P I Φ := by
  refine MM_entry [some _, some _, some _, none] (by decide) (Nat.le_of_ble_eq_true rfl) rfl ?_
  have h0 := hL.gw
  have l1 := hL.live
  have l2 := hL.s21.c
  obtain ⟨p1, p2⟩ : P 21 13 = some 35 ∧ RS g P 35 36 8 := hL.s21.str
  have p3 := p2.1
  obtain ⟨t1, t2, t3⟩ := hL.tog
  have loop : ∀ (u j : Nat) (z : Int32), j + u = n → z = nI j → fnd (nxP I y a) u j = fnd (nxP I y a) n 0 → E Γ mX11_nextOf d 0 0 (QM Γ 0 0 Φ) 0 0 2 [some (.ref 16), some (.int x), some (.int y), some (.int z)] [] g P I := by
    intro u
    induction u with
    | zero =>
      intro j z hj hz hf
      have hf' : none = fnd (nxP I y a) n 0 := hf
      rw [← hf'] at hΦ
      refine E_iload_n (i := 3) dX11_nextOf_2 rfl rfl ?_
      refine E_aload_n (i := 0) dX11_nextOf_3 rfl rfl ?_
      refine E_gr dX11_nextOf_4 gf_X11_21_11 rfl (by assumption) (by assumption) ?_
      refine E_gr dX11_nextOf_7 gf_X11_213_8 rfl (by assumption) (by assumption) ?_
      refine E_gi dX11_nextOf_10 gf_X11_159_7 rfl (by assumption) ?_
      refine E_icmp_ge (tgt := 43) dX11_nextOf_13 (by decide) (fun c_13 => ?_) (fun c_13 => absurd (by rw [e1, hz]; exact (nI_leI (by omega) (by omega)).mpr (by omega)) c_13)
      refine E_iconst (v := -1) dX11_nextOf_43 (by decide) ?_
      refine E_iret dX11_nextOf_44 rfl ?_
      exact hΦ
    | succ u ih =>
      intro j z hj hz hf
      by_cases c1 : I 98 j = y
      · by_cases c2 : plc (I 36) (I 38) (I 23) a j
        · have hf' : some j = fnd (nxP I y a) n 0 := by rw [← hf]; exact (if_pos ⟨c1, c2⟩).symm
          rw [← hf'] at hΦ
          refine E_iload_n (i := 3) dX11_nextOf_2 rfl rfl ?_
          refine E_aload_n (i := 0) dX11_nextOf_3 rfl rfl ?_
          refine E_gr dX11_nextOf_4 gf_X11_21_11 rfl (by assumption) (by assumption) ?_
          refine E_gr dX11_nextOf_7 gf_X11_213_8 rfl (by assumption) (by assumption) ?_
          refine E_gi dX11_nextOf_10 gf_X11_159_7 rfl (by assumption) ?_
          refine E_icmp_ge (tgt := 43) dX11_nextOf_13 (by decide) (fun c_13 => absurd c_13 (by rw [e1, hz]; exact nI_ge (by omega) (by omega))) (fun c_13 => ?_)
          refine E_aload_n (i := 0) dX11_nextOf_16 rfl rfl ?_
          refine E_gr dX11_nextOf_17 gf_X11_55_11 rfl (by assumption) (by assumption) ?_
          refine E_iload_n (i := 3) dX11_nextOf_20 rfl rfl ?_
          refine E_iaj j dX11_nextOf_21 (by assumption) hz (by omega) (by rw [t3]; omega) ?_
          refine E_iload_n (i := 2) dX11_nextOf_22 rfl rfl ?_
          refine E_icmp_ne (tgt := 37) dX11_nextOf_23 (by decide) (fun c_23 => absurd (c1) c_23) (fun c_23 => ?_)
          refine E_aload_n (i := 0) dX11_nextOf_26 rfl rfl ?_
          refine E_iload_n (i := 1) dX11_nextOf_27 rfl rfl ?_
          refine E_iload_n (i := 3) dX11_nextOf_28 rfl rfl ?_
          refine k_X11_nextOf_29 (mc' := 0) (ms' := 0) (rc := 0) (rs := 0) (by omega) (Nat.le_of_ble_eq_true rfl) (by assumption) (c_X11_pulls (by omega) hL e1 e2 hn hx hz ha (by omega) ?_)
          rw [bz_t c2]
          refine E_if_eq (tgt := 37) dX11_nextOf_32 (by decide) (fun c_32 => absurd c_32 (by decide)) (fun c_32 => ?_)
          refine E_iload_n (i := 3) dX11_nextOf_35 rfl rfl ?_
          refine E_iret dX11_nextOf_36 rfl ?_
          rw [hz]
          exact hΦ
        · refine E_iload_n (i := 3) dX11_nextOf_2 rfl rfl ?_
          refine E_aload_n (i := 0) dX11_nextOf_3 rfl rfl ?_
          refine E_gr dX11_nextOf_4 gf_X11_21_11 rfl (by assumption) (by assumption) ?_
          refine E_gr dX11_nextOf_7 gf_X11_213_8 rfl (by assumption) (by assumption) ?_
          refine E_gi dX11_nextOf_10 gf_X11_159_7 rfl (by assumption) ?_
          refine E_icmp_ge (tgt := 43) dX11_nextOf_13 (by decide) (fun c_13 => absurd c_13 (by rw [e1, hz]; exact nI_ge (by omega) (by omega))) (fun c_13 => ?_)
          refine E_aload_n (i := 0) dX11_nextOf_16 rfl rfl ?_
          refine E_gr dX11_nextOf_17 gf_X11_55_11 rfl (by assumption) (by assumption) ?_
          refine E_iload_n (i := 3) dX11_nextOf_20 rfl rfl ?_
          refine E_iaj j dX11_nextOf_21 (by assumption) hz (by omega) (by rw [t3]; omega) ?_
          refine E_iload_n (i := 2) dX11_nextOf_22 rfl rfl ?_
          refine E_icmp_ne (tgt := 37) dX11_nextOf_23 (by decide) (fun c_23 => absurd (c1) c_23) (fun c_23 => ?_)
          refine E_aload_n (i := 0) dX11_nextOf_26 rfl rfl ?_
          refine E_iload_n (i := 1) dX11_nextOf_27 rfl rfl ?_
          refine E_iload_n (i := 3) dX11_nextOf_28 rfl rfl ?_
          refine k_X11_nextOf_29 (mc' := 0) (ms' := 0) (rc := 0) (rs := 0) (by omega) (Nat.le_of_ble_eq_true rfl) (by assumption) (c_X11_pulls (by omega) hL e1 e2 hn hx hz ha (by omega) ?_)
          rw [bz_f c2]
          refine E_if_eq (tgt := 37) dX11_nextOf_32 (by decide) (fun c_32 => ?_) (fun c_32 => absurd (rfl) c_32)
          refine E_incC (c := 1) dX11_nextOf_37 rfl (by decide) (by decide) rfl ?_
          refine E_lv (lv' := [_, _, _, _]) rfl ?_
          refine E_goto (tgt := 2) dX11_nextOf_40 (by decide) ?_
          exact ih (j + 1) _ (by omega) (by rw [hz, nI_1]) (by rw [← hf]; exact (if_neg (fun h => c2 h.2)).symm)
      · refine E_iload_n (i := 3) dX11_nextOf_2 rfl rfl ?_
        refine E_aload_n (i := 0) dX11_nextOf_3 rfl rfl ?_
        refine E_gr dX11_nextOf_4 gf_X11_21_11 rfl (by assumption) (by assumption) ?_
        refine E_gr dX11_nextOf_7 gf_X11_213_8 rfl (by assumption) (by assumption) ?_
        refine E_gi dX11_nextOf_10 gf_X11_159_7 rfl (by assumption) ?_
        refine E_icmp_ge (tgt := 43) dX11_nextOf_13 (by decide) (fun c_13 => absurd c_13 (by rw [e1, hz]; exact nI_ge (by omega) (by omega))) (fun c_13 => ?_)
        refine E_aload_n (i := 0) dX11_nextOf_16 rfl rfl ?_
        refine E_gr dX11_nextOf_17 gf_X11_55_11 rfl (by assumption) (by assumption) ?_
        refine E_iload_n (i := 3) dX11_nextOf_20 rfl rfl ?_
        refine E_iaj j dX11_nextOf_21 (by assumption) hz (by omega) (by rw [t3]; omega) ?_
        refine E_iload_n (i := 2) dX11_nextOf_22 rfl rfl ?_
        refine E_icmp_ne (tgt := 37) dX11_nextOf_23 (by decide) (fun c_23 => ?_) (fun c_23 => absurd c_23 (c1))
        refine E_incC (c := 1) dX11_nextOf_37 rfl (by decide) (by decide) rfl ?_
        refine E_lv (lv' := [_, _, _, _]) rfl ?_
        refine E_goto (tgt := 2) dX11_nextOf_40 (by decide) ?_
        exact ih (j + 1) _ (by omega) (by rw [hz, nI_1]) (by rw [← hf]; exact (if_neg (fun h => c1 h.1)).symm)
  refine E_iconst (v := 0) dX11_nextOf_0 (by decide) ?_
  refine E_istore_nC (i := 3) dX11_nextOf_1 rfl (by decide) rfl ?_
  refine E_lv (lv' := [_, _, _, _]) rfl ?_
  exact loop n 0 _ (by omega) rfl rfl
theorem oI_neg {o : Option Nat} (h : ∀ b, o = some b → b < 1000) : oI o < 0 ↔ o = none := by
  cases o with
  | none => exact ⟨fun _ => rfl, fun _ => by decide⟩
  | some b => exact ⟨fun h2 => absurd h2 (nI_pos (by have := h b rfl; omega)), fun h2 => by cases h2⟩
/-- the class's heap behind findLinesToGo -/
def fgC (I : HI) (n l : Nat) : HI := ur I 98 (rowN (lw n l (plc (I 36) (I 38) (I 23)) (n - 1)) 8 (I 98))
theorem c_X11_findLinesToGo {x : Int32} {l n : Nat} (hd : 4 ≤ d) (hL : Ly g P) (e1 : I 35 1 = nI n) (e2 : I 37 1 = nI n) (hn : n ≤ 8) (hx : x = nI l) (hl : l < n) (hΦ : Φ none g P (fgC I n l)) : MM Γ mX11_findLinesToGo d 0 0 [.ref 16, .int x] g P I Φ := by
  refine MM_entry [some _, some _, none, none, none] (by decide) (Nat.le_of_ble_eq_true rfl) rfl ?_
  have h0 := hL.gw
  have l1 := hL.live
  have l2 := hL.s21.c
  obtain ⟨p1, p2⟩ : P 21 13 = some 35 ∧ RS g P 35 36 8 := hL.s21.str
  have p3 := p2.1
  obtain ⟨t1, t2, t3⟩ := hL.tog
  unfold fgC at hΦ
  have keep : ∀ (t : Nat → Nat) (m : Nat) (a : Nat), a ≠ 98 → (ur I 98 (rowN t m (I 98))) a = I a := fun t m a h => ur_n _ _ h
  have outer : ∀ (N f : Nat) (y : Int32) (w : Option Value) (J : HI), n - 1 - f ≤ N → f + 1 ≤ n → y = nI (f + 1) → J = ur I 98 (rowN (lw n l (plc (I 36) (I 38) (I 23)) f) 8 (I 98)) → E Γ mX11_findLinesToGo d 0 0 (QM Γ 0 0 Φ) 0 0 43 [some (.ref 16), some (.int x), some (.int (nI n)), some (.int y), w] [] g P J := by
    intro N
    induction N with
    | zero =>
      intro f y w J hN hf hy hJ
      have ef : f = n - 1 := by omega
      refine E_iload_n (i := 3) dX11_findLinesToGo_43 rfl rfl ?_
      refine E_iload_n (i := 2) dX11_findLinesToGo_44 rfl rfl ?_
      refine E_icmp_ge (tgt := 99) dX11_findLinesToGo_45 (by decide) (fun c_45 => ?_) (fun c_45 => absurd (by rw [hy]; exact (nI_leI (by omega) (by omega)).mpr (by omega)) c_45)
      refine E_vret dX11_findLinesToGo_99 rfl ?_
      rw [hJ, ef]
      exact hΦ
    | succ N ih =>
      intro f y w J hN hf hy hJ
      by_cases hfn : f + 1 = n
      · have ef : f = n - 1 := by omega
        refine E_iload_n (i := 3) dX11_findLinesToGo_43 rfl rfl ?_
        refine E_iload_n (i := 2) dX11_findLinesToGo_44 rfl rfl ?_
        refine E_icmp_ge (tgt := 99) dX11_findLinesToGo_45 (by decide) (fun c_45 => ?_) (fun c_45 => absurd (by rw [hy]; exact (nI_leI (by omega) (by omega)).mpr (by omega)) c_45)
        refine E_vret dX11_findLinesToGo_99 rfl ?_
        rw [hJ, ef]
        exact hΦ
      · have inner : ∀ (M i : Nat) (z : Int32) (K : HI), n - i ≤ M → i ≤ n → z = nI i → K = ur I 98 (rowN (lwx n l (plc (I 36) (I 38) (I 23)) f i) 8 (I 98)) → E Γ mX11_findLinesToGo d 0 0 (QM Γ 0 0 Φ) 0 0 51 [some (.ref 16), some (.int x), some (.int (nI n)), some (.int y), some (.int z)] [] g P K := by
          intro M
          induction M with
          | zero =>
            intro i z K hM hi hz hK
            have ei : i = n := by omega
            subst ei
            refine E_iload dX11_findLinesToGo_51 rfl ?_
            refine E_iload_n (i := 2) dX11_findLinesToGo_53 rfl rfl ?_
            refine E_icmp_ge (tgt := 93) dX11_findLinesToGo_54 (by decide) (fun c_54 => ?_) (fun c_54 => absurd (by rw [hz]; exact Int32.le_refl _) c_54)
            refine E_incC (c := 1) dX11_findLinesToGo_93 rfl (by decide) (by decide) rfl ?_
            refine E_lv (lv' := [_, _, _, _, _]) rfl ?_
            refine E_goto (tgt := 43) dX11_findLinesToGo_96 (by decide) ?_
            refine ih (f + 1) _ _ _ (by omega) (by omega) (by rw [hy, nI_1]) ?_
            rw [hK]
            refine congrArg (ur I 98) (rowN_congr (fun j hj => ?_))
            unfold lwx
            by_cases e : j < i
            · rw [if_pos e]
            · rw [if_neg e, lw_out (by omega)]
          | succ M ih2 =>
            intro i z K hM hi hz hK
            by_cases hin : i = n
            · subst hin
              refine E_iload dX11_findLinesToGo_51 rfl ?_
              refine E_iload_n (i := 2) dX11_findLinesToGo_53 rfl rfl ?_
              refine E_icmp_ge (tgt := 93) dX11_findLinesToGo_54 (by decide) (fun c_54 => ?_) (fun c_54 => absurd (by rw [hz]; exact Int32.le_refl _) c_54)
              refine E_incC (c := 1) dX11_findLinesToGo_93 rfl (by decide) (by decide) rfl ?_
              refine E_lv (lv' := [_, _, _, _, _]) rfl ?_
              refine E_goto (tgt := 43) dX11_findLinesToGo_96 (by decide) ?_
              refine ih (f + 1) _ _ _ (by omega) (by omega) (by rw [hy, nI_1]) ?_
              rw [hK]
              refine congrArg (ur I 98) (rowN_congr (fun j hj => ?_))
              unfold lwx
              by_cases e : j < i
              · rw [if_pos e]
              · rw [if_neg e, lw_out (by omega)]
            · have kk : ∀ a, a ≠ 98 → K a = I a := fun a h => by rw [hK]; exact keep _ _ _ h
              have k98 : ∀ j, j < 8 → K 98 j = nI (lwx n l (plc (I 36) (I 38) (I 23)) f i j) := fun j hj => by rw [hK, ur_s]; exact rowN_at hj
              have ki : K 98 i = nI (lw n l (plc (I 36) (I 38) (I 23)) f i) := by
                rw [k98 i (by omega)]
                unfold lwx
                rw [if_neg (by omega)]
              have hle := lw_le (n := n) (last := l) (pl := plc (I 36) (I 38) (I 23)) f i
              have ff : fnd (nxP K y i) n 0 = fnd (fun b => lw n l (plc (I 36) (I 38) (I 23)) f b = f + 1 ∧ plc (I 36) (I 38) (I 23) i b) n 0 := by
                refine fnd_congr (fun j _ hj => ?_)
                unfold nxP
                rw [k98 j (by omega), hy, kk 36 (by decide), kk 38 (by decide), kk 23 (by decide)]
                have l2 := lwx_le (n := n) (last := l) (pl := plc (I 36) (I 38) (I 23)) f i j
                constructor
                · intro ⟨h1, h2⟩
                  exact ⟨(lwx_s1 f i j).mp (nI_inj (by omega) (by omega) h1), h2⟩
                · intro ⟨h1, h2⟩
                  exact ⟨by rw [(lwx_s1 f i j).mpr h1], h2⟩
              have k35 : K 35 1 = nI n := by rw [kk 35 (by decide)]; exact e1
              have k37 : K 37 1 = nI n := by rw [kk 37 (by decide)]; exact e2
              have oth : ∀ j, j ≠ i → lwx n l (plc (I 36) (I 38) (I 23)) f (i + 1) j = lwx n l (plc (I 36) (I 38) (I 23)) f i j := by
                intro j hj
                unfold lwx
                by_cases e : j < i
                · rw [if_pos e, if_pos (by omega)]
                · rw [if_neg e, if_neg (by omega)]
              have own : lwx n l (plc (I 36) (I 38) (I 23)) f (i + 1) i = lw n l (plc (I 36) (I 38) (I 23)) (f + 1) i := by
                unfold lwx
                rw [if_pos (by omega)]
              by_cases c0 : lw n l (plc (I 36) (I 38) (I 23)) f i = 0
              · by_cases cf : fnd (nxP K y i) n 0 = none
                · have same : lw n l (plc (I 36) (I 38) (I 23)) (f + 1) i = lw n l (plc (I 36) (I 38) (I 23)) f i := by
                    rw [c0]
                    unfold lw
                    rw [if_pos c0, if_neg (fun h => h.2 (by rw [← ff]; exact cf))]
                  refine E_iload dX11_findLinesToGo_51 rfl ?_
                  refine E_iload_n (i := 2) dX11_findLinesToGo_53 rfl rfl ?_
                  refine E_icmp_ge (tgt := 93) dX11_findLinesToGo_54 (by decide) (fun c_54 => absurd c_54 (by rw [hz]; exact nI_ge (by omega) (by omega))) (fun c_54 => ?_)
                  refine E_aload_n (i := 0) dX11_findLinesToGo_57 rfl rfl ?_
                  refine E_gr dX11_findLinesToGo_58 gf_X11_55_11 rfl (by assumption) (by assumption) ?_
                  refine E_iload dX11_findLinesToGo_61 rfl ?_
                  refine E_iaj i dX11_findLinesToGo_63 (by assumption) hz (by omega) (by rw [t3]; omega) ?_
                  rw [ki, c0]
                  refine E_if_ne (tgt := 87) dX11_findLinesToGo_64 (by decide) (fun c_64 => absurd (rfl) c_64) (fun c_64 => ?_)
                  refine E_aload_n (i := 0) dX11_findLinesToGo_67 rfl rfl ?_
                  refine E_iload dX11_findLinesToGo_68 rfl ?_
                  refine E_iload_n (i := 3) dX11_findLinesToGo_70 rfl rfl ?_
                  refine k_X11_findLinesToGo_71 (mc' := 0) (ms' := 0) (rc := 0) (rs := 0) (by omega) (Nat.le_of_ble_eq_true rfl) (by assumption) (c_X11_nextOf (n := n) (by omega) hL k35 k37 hn hz (by omega) ?_)
                  rw [cf]
                  refine E_if_lt (tgt := 87) dX11_findLinesToGo_74 (by decide) (fun c_74 => ?_) (fun c_74 => absurd (by decide) c_74)
                  refine E_incC (c := 1) dX11_findLinesToGo_87 rfl (by decide) (by decide) rfl ?_
                  refine E_lv (lv' := [_, _, _, _, _]) rfl ?_
                  refine E_goto (tgt := 51) dX11_findLinesToGo_90 (by decide) ?_
                  refine ih2 (i + 1) _ _ (by omega) (by omega) (by rw [hz, nI_1]) ?_
                  rw [hK]
                  refine congrArg (ur I 98) (rowN_congr (fun j hj => ?_))
                  by_cases e : j = i
                  · rw [e, own, same]
                    unfold lwx
                    rw [if_neg (by omega)]
                  · rw [oth j e]
                · have new : lw n l (plc (I 36) (I 38) (I 23)) (f + 1) i = f + 2 := by
                    unfold lw
                    rw [if_pos c0, if_pos ⟨by omega, fun h => cf (by rw [ff]; exact h)⟩]
                  have bnd : ∀ b, fnd (nxP K y i) n 0 = some b → b < 1000 := fun b hb => by have := (fnd_some hb).2.1; omega
                  refine E_iload dX11_findLinesToGo_51 rfl ?_
                  refine E_iload_n (i := 2) dX11_findLinesToGo_53 rfl rfl ?_
                  refine E_icmp_ge (tgt := 93) dX11_findLinesToGo_54 (by decide) (fun c_54 => absurd c_54 (by rw [hz]; exact nI_ge (by omega) (by omega))) (fun c_54 => ?_)
                  refine E_aload_n (i := 0) dX11_findLinesToGo_57 rfl rfl ?_
                  refine E_gr dX11_findLinesToGo_58 gf_X11_55_11 rfl (by assumption) (by assumption) ?_
                  refine E_iload dX11_findLinesToGo_61 rfl ?_
                  refine E_iaj i dX11_findLinesToGo_63 (by assumption) hz (by omega) (by rw [t3]; omega) ?_
                  rw [ki, c0]
                  refine E_if_ne (tgt := 87) dX11_findLinesToGo_64 (by decide) (fun c_64 => absurd (rfl) c_64) (fun c_64 => ?_)
                  refine E_aload_n (i := 0) dX11_findLinesToGo_67 rfl rfl ?_
                  refine E_iload dX11_findLinesToGo_68 rfl ?_
                  refine E_iload_n (i := 3) dX11_findLinesToGo_70 rfl rfl ?_
                  refine k_X11_findLinesToGo_71 (mc' := 0) (ms' := 0) (rc := 0) (rs := 0) (by omega) (Nat.le_of_ble_eq_true rfl) (by assumption) (c_X11_nextOf (n := n) (by omega) hL k35 k37 hn hz (by omega) ?_)
                  refine E_if_lt (tgt := 87) dX11_findLinesToGo_74 (by decide) (fun c_74 => absurd c_74 (fun h => cf ((oI_neg bnd).mp h))) (fun c_74 => ?_)
                  refine E_aload_n (i := 0) dX11_findLinesToGo_77 rfl rfl ?_
                  refine E_gr dX11_findLinesToGo_78 gf_X11_55_11 rfl (by assumption) (by assumption) ?_
                  refine E_iload dX11_findLinesToGo_81 rfl ?_
                  refine E_iload_n (i := 3) dX11_findLinesToGo_83 rfl rfl ?_
                  refine E_iconst (v := 1) dX11_findLinesToGo_84 (by decide) ?_
                  refine E_iadd dX11_findLinesToGo_85 ?_
                  refine E_isj i dX11_findLinesToGo_86 (by assumption) hz (by first | decide | omega) (by rw [t3]; omega) ?_
                  refine E_incC (c := 1) dX11_findLinesToGo_87 rfl (by decide) (by decide) rfl ?_
                  refine E_lv (lv' := [_, _, _, _, _]) rfl ?_
                  refine E_goto (tgt := 51) dX11_findLinesToGo_90 (by decide) ?_
                  refine ih2 (i + 1) _ _ (by omega) (by omega) (by rw [hz, nI_1]) ?_
                  rw [hK, hy, nI_1, u2_ur, ur_s, ur_ur]
                  exact congrArg (ur I 98) (rowN_ur (by omega) (by rw [own, new]) oth)
              · have same : lw n l (plc (I 36) (I 38) (I 23)) (f + 1) i = lw n l (plc (I 36) (I 38) (I 23)) f i := by
                  conv => lhs; unfold lw
                  rw [if_neg c0]
                refine E_iload dX11_findLinesToGo_51 rfl ?_
                refine E_iload_n (i := 2) dX11_findLinesToGo_53 rfl rfl ?_
                refine E_icmp_ge (tgt := 93) dX11_findLinesToGo_54 (by decide) (fun c_54 => absurd c_54 (by rw [hz]; exact nI_ge (by omega) (by omega))) (fun c_54 => ?_)
                refine E_aload_n (i := 0) dX11_findLinesToGo_57 rfl rfl ?_
                refine E_gr dX11_findLinesToGo_58 gf_X11_55_11 rfl (by assumption) (by assumption) ?_
                refine E_iload dX11_findLinesToGo_61 rfl ?_
                refine E_iaj i dX11_findLinesToGo_63 (by assumption) hz (by omega) (by rw [t3]; omega) ?_
                rw [ki]
                refine E_if_ne (tgt := 87) dX11_findLinesToGo_64 (by decide) (fun c_64 => ?_) (fun c_64 => absurd c_64 (nI_ne (b := 0) (by omega) (by omega) c0))
                refine E_incC (c := 1) dX11_findLinesToGo_87 rfl (by decide) (by decide) rfl ?_
                refine E_lv (lv' := [_, _, _, _, _]) rfl ?_
                refine E_goto (tgt := 51) dX11_findLinesToGo_90 (by decide) ?_
                refine ih2 (i + 1) _ _ (by omega) (by omega) (by rw [hz, nI_1]) ?_
                rw [hK]
                refine congrArg (ur I 98) (rowN_congr (fun j hj => ?_))
                by_cases e : j = i
                · rw [e, own, same]
                  unfold lwx
                  rw [if_neg (by omega)]
                · rw [oth j e]
        refine E_iload_n (i := 3) dX11_findLinesToGo_43 rfl rfl ?_
        refine E_iload_n (i := 2) dX11_findLinesToGo_44 rfl rfl ?_
        refine E_icmp_ge (tgt := 99) dX11_findLinesToGo_45 (by decide) (fun c_45 => absurd c_45 (by rw [hy]; exact nI_ge (by omega) (by omega))) (fun c_45 => ?_)
        refine E_iconst (v := 0) dX11_findLinesToGo_48 (by decide) ?_
        refine E_istoreC dX11_findLinesToGo_49 (by decide) rfl ?_
        refine E_lv (lv' := [_, _, _, _, _]) rfl ?_
        refine inner n 0 _ _ (by omega) (by omega) rfl ?_
        rw [hJ]
        refine congrArg (ur I 98) (rowN_congr (fun j hj => ?_))
        unfold lwx
        rw [if_neg (by omega)]
  have init : ∀ (N j : Nat) (z : Int32) (J : HI), 8 - j ≤ N → j ≤ 8 → z = nI j → J = ur I 98 (rowN (lw n l (plc (I 36) (I 38) (I 23)) 0) j (I 98)) → E Γ mX11_findLinesToGo d 0 0 (QM Γ 0 0 Φ) 0 0 13 [some (.ref 16), some (.int x), some (.int (nI n)), some (.int z), none] [] g P J := by
    intro N
    induction N with
    | zero =>
      intro j z J hN hj hz hJ
      have : j = 8 := by omega
      subst this
      refine E_iload_n (i := 3) dX11_findLinesToGo_13 rfl rfl ?_
      refine E_bipush (v := 8) dX11_findLinesToGo_14 (by decide) ?_
      refine E_icmp_ge (tgt := 41) dX11_findLinesToGo_16 (by decide) (fun c_16 => ?_) (fun c_16 => absurd (by rw [hz]; decide) c_16)
      refine E_iconst (v := 1) dX11_findLinesToGo_41 (by decide) ?_
      refine E_istore_nC (i := 3) dX11_findLinesToGo_42 rfl (by decide) rfl ?_
      refine E_lv (lv' := [_, _, _, _, _]) rfl ?_
      exact outer n 0 _ _ _ (by omega) (by omega) rfl hJ
    | succ N ih =>
      intro j z J hN hj hz hJ
      by_cases hj8 : j = 8
      · subst hj8
        refine E_iload_n (i := 3) dX11_findLinesToGo_13 rfl rfl ?_
        refine E_bipush (v := 8) dX11_findLinesToGo_14 (by decide) ?_
        refine E_icmp_ge (tgt := 41) dX11_findLinesToGo_16 (by decide) (fun c_16 => ?_) (fun c_16 => absurd (by rw [hz]; decide) c_16)
        refine E_iconst (v := 1) dX11_findLinesToGo_41 (by decide) ?_
        refine E_istore_nC (i := 3) dX11_findLinesToGo_42 rfl (by decide) rfl ?_
        refine E_lv (lv' := [_, _, _, _, _]) rfl ?_
        exact outer n 0 _ _ _ (by omega) (by omega) rfl hJ
      · by_cases hjl : j = l
        · refine E_iload_n (i := 3) dX11_findLinesToGo_13 rfl rfl ?_
          refine E_bipush (v := 8) dX11_findLinesToGo_14 (by decide) ?_
          refine E_icmp_ge (tgt := 41) dX11_findLinesToGo_16 (by decide) (fun c_16 => absurd c_16 (by rw [hz]; exact nI_ge (b := 8) (by omega) (by omega))) (fun c_16 => ?_)
          refine E_aload_n (i := 0) dX11_findLinesToGo_19 rfl rfl ?_
          refine E_gr dX11_findLinesToGo_20 gf_X11_55_11 rfl (by assumption) (by assumption) ?_
          refine E_iload_n (i := 3) dX11_findLinesToGo_23 rfl rfl ?_
          refine E_iload_n (i := 3) dX11_findLinesToGo_24 rfl rfl ?_
          refine E_iload_n (i := 1) dX11_findLinesToGo_25 rfl rfl ?_
          refine E_icmp_ne (tgt := 33) dX11_findLinesToGo_26 (by decide) (fun c_26 => absurd (by rw [hz, hx, hjl]) c_26) (fun c_26 => ?_)
          refine E_iconst (v := 1) dX11_findLinesToGo_29 (by decide) ?_
          refine E_goto (tgt := 34) dX11_findLinesToGo_30 (by decide) ?_
          refine E_isj j dX11_findLinesToGo_34 (by assumption) hz (by first | decide | omega) (by rw [t3]; omega) ?_
          refine E_incC (c := 1) dX11_findLinesToGo_35 rfl (by decide) (by decide) rfl ?_
          refine E_lv (lv' := [_, _, _, _, _]) rfl ?_
          refine E_goto (tgt := 13) dX11_findLinesToGo_38 (by decide) ?_
          refine ih (j + 1) _ _ (by omega) (by omega) (by rw [hz, nI_1]) ?_
          rw [hJ, u2_ur, ur_s, ur_ur]
          refine congrArg (ur I 98) (rowN_s ?_)
          unfold lw
          rw [if_pos hjl]
          rfl
        · refine E_iload_n (i := 3) dX11_findLinesToGo_13 rfl rfl ?_
          refine E_bipush (v := 8) dX11_findLinesToGo_14 (by decide) ?_
          refine E_icmp_ge (tgt := 41) dX11_findLinesToGo_16 (by decide) (fun c_16 => absurd c_16 (by rw [hz]; exact nI_ge (b := 8) (by omega) (by omega))) (fun c_16 => ?_)
          refine E_aload_n (i := 0) dX11_findLinesToGo_19 rfl rfl ?_
          refine E_gr dX11_findLinesToGo_20 gf_X11_55_11 rfl (by assumption) (by assumption) ?_
          refine E_iload_n (i := 3) dX11_findLinesToGo_23 rfl rfl ?_
          refine E_iload_n (i := 3) dX11_findLinesToGo_24 rfl rfl ?_
          refine E_iload_n (i := 1) dX11_findLinesToGo_25 rfl rfl ?_
          refine E_icmp_ne (tgt := 33) dX11_findLinesToGo_26 (by decide) (fun c_26 => ?_) (fun c_26 => absurd c_26 (by rw [hz, hx]; exact nI_ne (by omega) (by omega) hjl))
          refine E_iconst (v := 0) dX11_findLinesToGo_33 (by decide) ?_
          refine E_isj j dX11_findLinesToGo_34 (by assumption) hz (by first | decide | omega) (by rw [t3]; omega) ?_
          refine E_incC (c := 1) dX11_findLinesToGo_35 rfl (by decide) (by decide) rfl ?_
          refine E_lv (lv' := [_, _, _, _, _]) rfl ?_
          refine E_goto (tgt := 13) dX11_findLinesToGo_38 (by decide) ?_
          refine ih (j + 1) _ _ (by omega) (by omega) (by rw [hz, nI_1]) ?_
          rw [hJ, u2_ur, ur_s, ur_ur]
          refine congrArg (ur I 98) (rowN_s ?_)
          unfold lw
          rw [if_neg hjl]
          rfl
  refine E_aload_n (i := 0) dX11_findLinesToGo_0 rfl rfl ?_
  refine E_gr dX11_findLinesToGo_1 gf_X11_21_11 rfl (by assumption) (by assumption) ?_
  refine E_gr dX11_findLinesToGo_4 gf_X11_213_8 rfl (by assumption) (by assumption) ?_
  refine E_gi dX11_findLinesToGo_7 gf_X11_159_7 rfl (by assumption) ?_
  rw [e1]
  refine E_istore_nC (i := 2) dX11_findLinesToGo_10 rfl (by decide) rfl ?_
  refine E_lv (lv' := [_, _, _, _, _]) rfl ?_
  refine E_iconst (v := 0) dX11_findLinesToGo_11 (by decide) ?_
  refine E_istore_nC (i := 3) dX11_findLinesToGo_12 rfl (by decide) rfl ?_
  refine E_lv (lv' := [_, _, _, _, _]) rfl ?_
  refine init 8 0 _ _ (by omega) (by omega) rfl ?_
  rw [rowN_0, ur_id]
/-- the line of a row's place s -/
def pth (I : HI) (n : Nat) : Nat → Option Nat
  | 0 => some 0
  | s + 1 => match pth I n s with
    | none => none
    | some a => fnd (nxP I (I 98 0 - nI (s + 1)) a) n 0
theorem pth_lt {I : HI} {n : Nat} (hn : 0 < n) : ∀ {s b : Nat}, pth I n s = some b → b < n
  | 0, b, h => by
    cases h
    exact hn
  | s + 1, b, h => by
    unfold pth at h
    split at h
    · cases h
    · have := (fnd_some h).2.1
      omega
theorem pth_none {I : HI} {n s : Nat} (h : pth I n s = none) : ∀ k, pth I n (s + k) = none
  | 0 => h
  | k + 1 => by
    have := pth_none h k
    show pth I n (s + k + 1) = none
    unfold pth
    rw [this]
theorem c_X11_lineOfRow {x : Int32} {k n : Nat} (hd : 4 ≤ d) (hL : Ly g P) (e1 : I 35 1 = nI n) (e2 : I 37 1 = nI n) (hn : n ≤ 8) (hn0 : 0 < n) (hx : x = nI k) (hk : k ≤ 8) (hΦ : Φ (some (.int (oI (pth I n k)))) g P I) : MM Γ mX11_lineOfRow d 0 0 [.ref 16, .int x] g P I Φ := by
  refine MM_entry [some _, some _, none, none] (by decide) (Nat.le_of_ble_eq_true rfl) rfl ?_
  have h0 := hL.gw
  obtain ⟨t1, t2, t3⟩ := hL.tog
  have loop : ∀ (N s : Nat) (y z : Int32), k - s ≤ N → s ≤ k → z = nI (s + 1) → y = oI (pth I n s) → E Γ mX11_lineOfRow d 0 0 (QM Γ 0 0 Φ) 0 0 4 [some (.ref 16), some (.int x), some (.int y), some (.int z)] [] g P I := by
    intro N
    induction N with
    | zero =>
      intro s y z hN hs hz hy
      have es : s = k := by omega
      subst es
      refine E_iload_n (i := 3) dX11_lineOfRow_4 rfl rfl ?_
      refine E_iload_n (i := 1) dX11_lineOfRow_5 rfl rfl ?_
      refine E_icmp_gt (tgt := 33) dX11_lineOfRow_6 (by decide) (fun c_6 => ?_) (fun c_6 => absurd (by rw [hz, hx]; exact (nI_ltI (by omega) (by omega)).mpr (by omega)) c_6)
      refine E_iload_n (i := 2) dX11_lineOfRow_33 rfl rfl ?_
      refine E_iret dX11_lineOfRow_34 rfl ?_
      rw [hy]
      exact hΦ
    | succ N ih =>
      intro s y z hN hs hz hy
      by_cases hsk : s = k
      · subst hsk
        refine E_iload_n (i := 3) dX11_lineOfRow_4 rfl rfl ?_
        refine E_iload_n (i := 1) dX11_lineOfRow_5 rfl rfl ?_
        refine E_icmp_gt (tgt := 33) dX11_lineOfRow_6 (by decide) (fun c_6 => ?_) (fun c_6 => absurd (by rw [hz, hx]; exact (nI_ltI (by omega) (by omega)).mpr (by omega)) c_6)
        refine E_iload_n (i := 2) dX11_lineOfRow_33 rfl rfl ?_
        refine E_iret dX11_lineOfRow_34 rfl ?_
        rw [hy]
        exact hΦ
      · cases hp : pth I n s with
        | none =>
          rw [hp] at hy
          have hk2 : pth I n k = none := by
            have := pth_none hp (k - s)
            rw [show s + (k - s) = k by omega] at this
            exact this
          rw [hk2] at hΦ
          refine E_iload_n (i := 3) dX11_lineOfRow_4 rfl rfl ?_
          refine E_iload_n (i := 1) dX11_lineOfRow_5 rfl rfl ?_
          refine E_icmp_gt (tgt := 33) dX11_lineOfRow_6 (by decide) (fun c_6 => absurd c_6 (by rw [hz, hx]; exact nI_nlt (by omega) (by omega))) (fun c_6 => ?_)
          refine E_iload_n (i := 2) dX11_lineOfRow_9 rfl rfl ?_
          refine E_if_lt (tgt := 33) dX11_lineOfRow_10 (by decide) (fun c_10 => ?_) (fun c_10 => absurd (by rw [hy]; decide) c_10)
          refine E_iload_n (i := 2) dX11_lineOfRow_33 rfl rfl ?_
          refine E_iret dX11_lineOfRow_34 rfl ?_
          rw [hy]
          exact hΦ
        | some a =>
          have ha := pth_lt hn0 hp
          rw [hp] at hy
          have hy' : y = nI a := hy
          refine E_iload_n (i := 3) dX11_lineOfRow_4 rfl rfl ?_
          refine E_iload_n (i := 1) dX11_lineOfRow_5 rfl rfl ?_
          refine E_icmp_gt (tgt := 33) dX11_lineOfRow_6 (by decide) (fun c_6 => absurd c_6 (by rw [hz, hx]; exact nI_nlt (by omega) (by omega))) (fun c_6 => ?_)
          refine E_iload_n (i := 2) dX11_lineOfRow_9 rfl rfl ?_
          refine E_if_lt (tgt := 33) dX11_lineOfRow_10 (by decide) (fun c_10 => absurd c_10 (by rw [hy']; exact nI_pos (by omega))) (fun c_10 => ?_)
          refine E_aload_n (i := 0) dX11_lineOfRow_13 rfl rfl ?_
          refine E_iload_n (i := 2) dX11_lineOfRow_14 rfl rfl ?_
          refine E_aload_n (i := 0) dX11_lineOfRow_15 rfl rfl ?_
          refine E_gr dX11_lineOfRow_16 gf_X11_55_11 rfl (by assumption) (by assumption) ?_
          refine E_iconst (v := 0) dX11_lineOfRow_19 (by decide) ?_
          refine E_iaj 0 dX11_lineOfRow_20 (by assumption) rfl (by decide) (by rw [t3]; decide) ?_
          refine E_iload_n (i := 3) dX11_lineOfRow_21 rfl rfl ?_
          refine E_isub dX11_lineOfRow_22 ?_
          refine k_X11_lineOfRow_23 (mc' := 0) (ms' := 0) (rc := 0) (rs := 0) (by omega) (Nat.le_of_ble_eq_true rfl) (by assumption) (c_X11_nextOf (by omega) hL e1 e2 hn hy' ha ?_)
          refine E_istore_nC (i := 2) dX11_lineOfRow_26 rfl (by decide) rfl ?_
          refine E_lv (lv' := [_, _, _, _]) rfl ?_
          refine E_incC (c := 1) dX11_lineOfRow_27 rfl (by decide) (by decide) rfl ?_
          refine E_lv (lv' := [_, _, _, _]) rfl ?_
          refine E_goto (tgt := 4) dX11_lineOfRow_30 (by decide) ?_
          refine ih (s + 1) _ _ (by omega) (by omega) (by rw [hz, nI_1]) ?_
          conv => rhs; unfold pth
          rw [hp, hz]
  refine E_iconst (v := 0) dX11_lineOfRow_0 (by decide) ?_
  refine E_istore_nC (i := 2) dX11_lineOfRow_1 rfl (by decide) rfl ?_
  refine E_lv (lv' := [_, _, _, _]) rfl ?_
  refine E_iconst (v := 1) dX11_lineOfRow_2 (by decide) ?_
  refine E_istore_nC (i := 3) dX11_lineOfRow_3 rfl (by decide) rfl ?_
  refine E_lv (lv' := [_, _, _, _]) rfl ?_
  exact loop k 0 _ _ (by omega) (by omega) rfl rfl
theorem c_X11_over {x y : Int32} {n : Nat} (hd : 5 ≤ d) (hL : Ly g P) (e1 : I 35 1 = nI n) (e2 : I 37 1 = nI n) (hn : n ≤ 8) (h1 : ∀ l, x = nI l → l < n → -1 ≤ y → (lw n l (plc (I 36) (I 38) (I 23)) (n - 1) 0 = 0 ∨ nI (lw n l (plc (I 36) (I 38) (I 23)) (n - 1) 0) ≤ y) → Φ (some (.int (er 2))) g P (fl (fgC I n l) 2)) (h2 : ¬ ((0 ≤ x ∧ x ≤ nI n - 1) ∧ -1 ≤ y) → Φ (some (.int (er 1))) g P (fl I 1)) (h3 : ∀ l, x = nI l → l < n → y = -1 → ¬ lw n l (plc (I 36) (I 38) (I 23)) (n - 1) 0 = 0 → Φ (some (.int (nI (lw n l (plc (I 36) (I 38) (I 23)) (n - 1) 0)))) g P (fgC I n l)) (h4 : ∀ l k, x = nI l → l < n → y = nI k → k < lw n l (plc (I 36) (I 38) (I 23)) (n - 1) 0 → Φ (some (.int (oI (pth (fgC I n l) n k)))) g P (fgC I n l)) : MM Γ mX11_over d 0 0 [.ref 16, .int x, .int y] g P I Φ := by
  refine MM_entry [some _, some _, some _] (by decide) (Nat.le_of_ble_eq_true rfl) rfl ?_
  have h0 := hL.gw
  have l1 := hL.live
  have l2 := hL.s21.c
  obtain ⟨p1, p2⟩ : P 21 13 = some 35 ∧ RS g P 35 36 8 := hL.s21.str
  have p3 := p2.1
  obtain ⟨t1, t2, t3⟩ := hL.tog
  by_cases hc : 0 ≤ x ∧ x ≤ nI n - 1
  · by_cases hy : -1 ≤ y
    · obtain ⟨l, hx, hl⟩ := in_nat (by omega) hc
      have g1 := h1 l hx hl hy
      have g3 := h3 l hx hl
      have g4 := fun k => h4 l k hx hl
      have ev : (fgC I n l) 98 0 = nI (lw n l (plc (I 36) (I 38) (I 23)) (n - 1) 0) := by unfold fgC; rw [ur_s]; exact rowN_at (by decide)
      have hle := lw_le (n := n) (last := l) (pl := plc (I 36) (I 38) (I 23)) (n - 1) 0
      have k35 : (fgC I n l) 35 1 = nI n := by unfold fgC; rw [ur_n _ _ (by decide)]; exact e1
      have k37 : (fgC I n l) 37 1 = nI n := by unfold fgC; rw [ur_n _ _ (by decide)]; exact e2
      by_cases c0 : lw n l (plc (I 36) (I 38) (I 23)) (n - 1) 0 = 0
      · have hΦ := g1 (Or.inl c0)
        refine E_iload_n (i := 1) dX11_over_0 rfl rfl ?_
        refine E_iconst (v := 0) dX11_over_1 (by decide) ?_
        refine E_aload_n (i := 0) dX11_over_2 rfl rfl ?_
        refine E_gr dX11_over_3 gf_X11_21_11 rfl (by assumption) (by assumption) ?_
        refine E_gr dX11_over_6 gf_X11_213_8 rfl (by assumption) (by assumption) ?_
        refine E_gi dX11_over_9 gf_X11_159_7 rfl (by assumption) ?_
        refine E_iconst (v := 1) dX11_over_12 (by decide) ?_
        refine E_isub dX11_over_13 ?_
        refine k_X11_over_14 (mc' := 0) (ms' := 0) (rc := 0) (rs := 0) (by omega) (Nat.le_of_ble_eq_true rfl) (c_X11_within ?_)
        rw [e1, bz_t hc]
        refine E_if_eq (tgt := 25) dX11_over_17 (by decide) (fun c_17 => absurd c_17 (by decide)) (fun c_17 => ?_)
        refine E_iload_n (i := 2) dX11_over_20 rfl rfl ?_
        refine E_iconst (v := -1) dX11_over_21 (by decide) ?_
        refine E_icmp_ge (tgt := 31) dX11_over_22 (by decide) (fun c_22 => ?_) (fun c_22 => absurd (hy) c_22)
        refine E_aload_n (i := 0) dX11_over_31 rfl rfl ?_
        refine E_iload_n (i := 1) dX11_over_32 rfl rfl ?_
        refine k_X11_over_33 (mc' := 0) (ms' := 0) (rc := 0) (rs := 0) (by omega) (Nat.le_of_ble_eq_true rfl) (by assumption) (c_X11_findLinesToGo (by omega) hL e1 e2 hn hx hl ?_)
        refine E_aload_n (i := 0) dX11_over_36 rfl rfl ?_
        refine E_gr dX11_over_37 gf_X11_55_11 rfl (by assumption) (by assumption) ?_
        refine E_iconst (v := 0) dX11_over_40 (by decide) ?_
        refine E_iaj 0 dX11_over_41 (by assumption) rfl (by decide) (by rw [t3]; decide) ?_
        rw [ev]
        refine E_if_eq (tgt := 55) dX11_over_42 (by decide) (fun c_42 => ?_) (fun c_42 => absurd (by rw [c0]; rfl) c_42)
        refine E_aload_n (i := 0) dX11_over_55 rfl rfl ?_
        refine E_iconst (v := 2) dX11_over_56 (by decide) ?_
        refine k_X11_over_57 (mc' := 0) (ms' := 0) (rc := 0) (rs := 0) (by omega) (Nat.le_of_ble_eq_true rfl) (by assumption) (c_X11_fail (k := 2) hL rfl (by decide) (by decide) ?_)
        refine E_iret dX11_over_60 rfl ?_
        exact hΦ
      · by_cases c1 : nI (lw n l (plc (I 36) (I 38) (I 23)) (n - 1) 0) ≤ y
        · have hΦ := g1 (Or.inr c1)
          refine E_iload_n (i := 1) dX11_over_0 rfl rfl ?_
          refine E_iconst (v := 0) dX11_over_1 (by decide) ?_
          refine E_aload_n (i := 0) dX11_over_2 rfl rfl ?_
          refine E_gr dX11_over_3 gf_X11_21_11 rfl (by assumption) (by assumption) ?_
          refine E_gr dX11_over_6 gf_X11_213_8 rfl (by assumption) (by assumption) ?_
          refine E_gi dX11_over_9 gf_X11_159_7 rfl (by assumption) ?_
          refine E_iconst (v := 1) dX11_over_12 (by decide) ?_
          refine E_isub dX11_over_13 ?_
          refine k_X11_over_14 (mc' := 0) (ms' := 0) (rc := 0) (rs := 0) (by omega) (Nat.le_of_ble_eq_true rfl) (c_X11_within ?_)
          rw [e1, bz_t hc]
          refine E_if_eq (tgt := 25) dX11_over_17 (by decide) (fun c_17 => absurd c_17 (by decide)) (fun c_17 => ?_)
          refine E_iload_n (i := 2) dX11_over_20 rfl rfl ?_
          refine E_iconst (v := -1) dX11_over_21 (by decide) ?_
          refine E_icmp_ge (tgt := 31) dX11_over_22 (by decide) (fun c_22 => ?_) (fun c_22 => absurd (hy) c_22)
          refine E_aload_n (i := 0) dX11_over_31 rfl rfl ?_
          refine E_iload_n (i := 1) dX11_over_32 rfl rfl ?_
          refine k_X11_over_33 (mc' := 0) (ms' := 0) (rc := 0) (rs := 0) (by omega) (Nat.le_of_ble_eq_true rfl) (by assumption) (c_X11_findLinesToGo (by omega) hL e1 e2 hn hx hl ?_)
          refine E_aload_n (i := 0) dX11_over_36 rfl rfl ?_
          refine E_gr dX11_over_37 gf_X11_55_11 rfl (by assumption) (by assumption) ?_
          refine E_iconst (v := 0) dX11_over_40 (by decide) ?_
          refine E_iaj 0 dX11_over_41 (by assumption) rfl (by decide) (by rw [t3]; decide) ?_
          rw [ev]
          refine E_if_eq (tgt := 55) dX11_over_42 (by decide) (fun c_42 => absurd c_42 (nI_ne (b := 0) (by omega) (by omega) c0)) (fun c_42 => ?_)
          refine E_iload_n (i := 2) dX11_over_45 rfl rfl ?_
          refine E_aload_n (i := 0) dX11_over_46 rfl rfl ?_
          refine E_gr dX11_over_47 gf_X11_55_11 rfl (by assumption) (by assumption) ?_
          refine E_iconst (v := 0) dX11_over_50 (by decide) ?_
          refine E_iaj 0 dX11_over_51 (by assumption) rfl (by decide) (by rw [t3]; decide) ?_
          rw [ev]
          refine E_icmp_lt (tgt := 61) dX11_over_52 (by decide) (fun c_52 => absurd c_52 (Int32.not_lt.mpr c1)) (fun c_52 => ?_)
          refine E_aload_n (i := 0) dX11_over_55 rfl rfl ?_
          refine E_iconst (v := 2) dX11_over_56 (by decide) ?_
          refine k_X11_over_57 (mc' := 0) (ms' := 0) (rc := 0) (rs := 0) (by omega) (Nat.le_of_ble_eq_true rfl) (by assumption) (c_X11_fail (k := 2) hL rfl (by decide) (by decide) ?_)
          refine E_iret dX11_over_60 rfl ?_
          exact hΦ
        · by_cases cm : y = -1
          · have hΦ := g3 cm c0
            refine E_iload_n (i := 1) dX11_over_0 rfl rfl ?_
            refine E_iconst (v := 0) dX11_over_1 (by decide) ?_
            refine E_aload_n (i := 0) dX11_over_2 rfl rfl ?_
            refine E_gr dX11_over_3 gf_X11_21_11 rfl (by assumption) (by assumption) ?_
            refine E_gr dX11_over_6 gf_X11_213_8 rfl (by assumption) (by assumption) ?_
            refine E_gi dX11_over_9 gf_X11_159_7 rfl (by assumption) ?_
            refine E_iconst (v := 1) dX11_over_12 (by decide) ?_
            refine E_isub dX11_over_13 ?_
            refine k_X11_over_14 (mc' := 0) (ms' := 0) (rc := 0) (rs := 0) (by omega) (Nat.le_of_ble_eq_true rfl) (c_X11_within ?_)
            rw [e1, bz_t hc]
            refine E_if_eq (tgt := 25) dX11_over_17 (by decide) (fun c_17 => absurd c_17 (by decide)) (fun c_17 => ?_)
            refine E_iload_n (i := 2) dX11_over_20 rfl rfl ?_
            refine E_iconst (v := -1) dX11_over_21 (by decide) ?_
            refine E_icmp_ge (tgt := 31) dX11_over_22 (by decide) (fun c_22 => ?_) (fun c_22 => absurd (hy) c_22)
            refine E_aload_n (i := 0) dX11_over_31 rfl rfl ?_
            refine E_iload_n (i := 1) dX11_over_32 rfl rfl ?_
            refine k_X11_over_33 (mc' := 0) (ms' := 0) (rc := 0) (rs := 0) (by omega) (Nat.le_of_ble_eq_true rfl) (by assumption) (c_X11_findLinesToGo (by omega) hL e1 e2 hn hx hl ?_)
            refine E_aload_n (i := 0) dX11_over_36 rfl rfl ?_
            refine E_gr dX11_over_37 gf_X11_55_11 rfl (by assumption) (by assumption) ?_
            refine E_iconst (v := 0) dX11_over_40 (by decide) ?_
            refine E_iaj 0 dX11_over_41 (by assumption) rfl (by decide) (by rw [t3]; decide) ?_
            rw [ev]
            refine E_if_eq (tgt := 55) dX11_over_42 (by decide) (fun c_42 => absurd c_42 (nI_ne (b := 0) (by omega) (by omega) c0)) (fun c_42 => ?_)
            refine E_iload_n (i := 2) dX11_over_45 rfl rfl ?_
            refine E_aload_n (i := 0) dX11_over_46 rfl rfl ?_
            refine E_gr dX11_over_47 gf_X11_55_11 rfl (by assumption) (by assumption) ?_
            refine E_iconst (v := 0) dX11_over_50 (by decide) ?_
            refine E_iaj 0 dX11_over_51 (by assumption) rfl (by decide) (by rw [t3]; decide) ?_
            rw [ev]
            refine E_icmp_lt (tgt := 61) dX11_over_52 (by decide) (fun c_52 => ?_) (fun c_52 => absurd (Int32.not_le.mp c1) c_52)
            refine E_iload_n (i := 2) dX11_over_61 rfl rfl ?_
            refine E_iconst (v := -1) dX11_over_62 (by decide) ?_
            refine E_icmp_ne (tgt := 75) dX11_over_63 (by decide) (fun c_63 => absurd (cm) c_63) (fun c_63 => ?_)
            refine E_aload_n (i := 0) dX11_over_66 rfl rfl ?_
            refine E_gr dX11_over_67 gf_X11_55_11 rfl (by assumption) (by assumption) ?_
            refine E_iconst (v := 0) dX11_over_70 (by decide) ?_
            refine E_iaj 0 dX11_over_71 (by assumption) rfl (by decide) (by rw [t3]; decide) ?_
            refine E_goto (tgt := 80) dX11_over_72 (by decide) ?_
            refine E_iret dX11_over_80 rfl ?_
            rw [ev]
            exact hΦ
          · have y1 := i32_le.mp hy
            have y2 := i32_lt.mp (Int32.not_le.mp c1)
            have y3 : ¬ y.toInt = -1 := fun e => cm (Int32.toInt_inj.mp e)
            have em : (-1 : Int32).toInt = -1 := rfl
            rw [nI_toInt (by omega)] at y2
            have hyk : y = nI y.toInt.toNat := by
              apply Int32.toInt_inj.mp
              rw [nI_toInt (by omega)]
              omega
            have hΦ := g4 y.toInt.toNat hyk (by omega)
            refine E_iload_n (i := 1) dX11_over_0 rfl rfl ?_
            refine E_iconst (v := 0) dX11_over_1 (by decide) ?_
            refine E_aload_n (i := 0) dX11_over_2 rfl rfl ?_
            refine E_gr dX11_over_3 gf_X11_21_11 rfl (by assumption) (by assumption) ?_
            refine E_gr dX11_over_6 gf_X11_213_8 rfl (by assumption) (by assumption) ?_
            refine E_gi dX11_over_9 gf_X11_159_7 rfl (by assumption) ?_
            refine E_iconst (v := 1) dX11_over_12 (by decide) ?_
            refine E_isub dX11_over_13 ?_
            refine k_X11_over_14 (mc' := 0) (ms' := 0) (rc := 0) (rs := 0) (by omega) (Nat.le_of_ble_eq_true rfl) (c_X11_within ?_)
            rw [e1, bz_t hc]
            refine E_if_eq (tgt := 25) dX11_over_17 (by decide) (fun c_17 => absurd c_17 (by decide)) (fun c_17 => ?_)
            refine E_iload_n (i := 2) dX11_over_20 rfl rfl ?_
            refine E_iconst (v := -1) dX11_over_21 (by decide) ?_
            refine E_icmp_ge (tgt := 31) dX11_over_22 (by decide) (fun c_22 => ?_) (fun c_22 => absurd (hy) c_22)
            refine E_aload_n (i := 0) dX11_over_31 rfl rfl ?_
            refine E_iload_n (i := 1) dX11_over_32 rfl rfl ?_
            refine k_X11_over_33 (mc' := 0) (ms' := 0) (rc := 0) (rs := 0) (by omega) (Nat.le_of_ble_eq_true rfl) (by assumption) (c_X11_findLinesToGo (by omega) hL e1 e2 hn hx hl ?_)
            refine E_aload_n (i := 0) dX11_over_36 rfl rfl ?_
            refine E_gr dX11_over_37 gf_X11_55_11 rfl (by assumption) (by assumption) ?_
            refine E_iconst (v := 0) dX11_over_40 (by decide) ?_
            refine E_iaj 0 dX11_over_41 (by assumption) rfl (by decide) (by rw [t3]; decide) ?_
            rw [ev]
            refine E_if_eq (tgt := 55) dX11_over_42 (by decide) (fun c_42 => absurd c_42 (nI_ne (b := 0) (by omega) (by omega) c0)) (fun c_42 => ?_)
            refine E_iload_n (i := 2) dX11_over_45 rfl rfl ?_
            refine E_aload_n (i := 0) dX11_over_46 rfl rfl ?_
            refine E_gr dX11_over_47 gf_X11_55_11 rfl (by assumption) (by assumption) ?_
            refine E_iconst (v := 0) dX11_over_50 (by decide) ?_
            refine E_iaj 0 dX11_over_51 (by assumption) rfl (by decide) (by rw [t3]; decide) ?_
            rw [ev]
            refine E_icmp_lt (tgt := 61) dX11_over_52 (by decide) (fun c_52 => ?_) (fun c_52 => absurd (Int32.not_le.mp c1) c_52)
            refine E_iload_n (i := 2) dX11_over_61 rfl rfl ?_
            refine E_iconst (v := -1) dX11_over_62 (by decide) ?_
            refine E_icmp_ne (tgt := 75) dX11_over_63 (by decide) (fun c_63 => ?_) (fun c_63 => absurd c_63 (cm))
            refine E_aload_n (i := 0) dX11_over_75 rfl rfl ?_
            refine E_iload_n (i := 2) dX11_over_76 rfl rfl ?_
            refine k_X11_over_77 (mc' := 0) (ms' := 0) (rc := 0) (rs := 0) (by omega) (Nat.le_of_ble_eq_true rfl) (by assumption) (c_X11_lineOfRow (n := n) (by omega) hL k35 k37 hn (by omega) hyk (by omega) ?_)
            refine E_iret dX11_over_80 rfl ?_
            exact hΦ
    · have hΦ := h2 (fun h => hy h.2)
      refine E_iload_n (i := 1) dX11_over_0 rfl rfl ?_
      refine E_iconst (v := 0) dX11_over_1 (by decide) ?_
      refine E_aload_n (i := 0) dX11_over_2 rfl rfl ?_
      refine E_gr dX11_over_3 gf_X11_21_11 rfl (by assumption) (by assumption) ?_
      refine E_gr dX11_over_6 gf_X11_213_8 rfl (by assumption) (by assumption) ?_
      refine E_gi dX11_over_9 gf_X11_159_7 rfl (by assumption) ?_
      refine E_iconst (v := 1) dX11_over_12 (by decide) ?_
      refine E_isub dX11_over_13 ?_
      refine k_X11_over_14 (mc' := 0) (ms' := 0) (rc := 0) (rs := 0) (by omega) (Nat.le_of_ble_eq_true rfl) (c_X11_within ?_)
      rw [e1, bz_t hc]
      refine E_if_eq (tgt := 25) dX11_over_17 (by decide) (fun c_17 => absurd c_17 (by decide)) (fun c_17 => ?_)
      refine E_iload_n (i := 2) dX11_over_20 rfl rfl ?_
      refine E_iconst (v := -1) dX11_over_21 (by decide) ?_
      refine E_icmp_ge (tgt := 31) dX11_over_22 (by decide) (fun c_22 => absurd c_22 (hy)) (fun c_22 => ?_)
      refine E_aload_n (i := 0) dX11_over_25 rfl rfl ?_
      refine E_iconst (v := 1) dX11_over_26 (by decide) ?_
      refine k_X11_over_27 (mc' := 0) (ms' := 0) (rc := 0) (rs := 0) (by omega) (Nat.le_of_ble_eq_true rfl) (by assumption) (c_X11_fail (k := 1) hL rfl (by decide) (by decide) ?_)
      refine E_iret dX11_over_30 rfl ?_
      exact hΦ
  · have hΦ := h2 (fun h => hc h.1)
    refine E_iload_n (i := 1) dX11_over_0 rfl rfl ?_
    refine E_iconst (v := 0) dX11_over_1 (by decide) ?_
    refine E_aload_n (i := 0) dX11_over_2 rfl rfl ?_
    refine E_gr dX11_over_3 gf_X11_21_11 rfl (by assumption) (by assumption) ?_
    refine E_gr dX11_over_6 gf_X11_213_8 rfl (by assumption) (by assumption) ?_
    refine E_gi dX11_over_9 gf_X11_159_7 rfl (by assumption) ?_
    refine E_iconst (v := 1) dX11_over_12 (by decide) ?_
    refine E_isub dX11_over_13 ?_
    refine k_X11_over_14 (mc' := 0) (ms' := 0) (rc := 0) (rs := 0) (by omega) (Nat.le_of_ble_eq_true rfl) (c_X11_within ?_)
    rw [e1, bz_f hc]
    refine E_if_eq (tgt := 25) dX11_over_17 (by decide) (fun c_17 => ?_) (fun c_17 => absurd (rfl) c_17)
    refine E_aload_n (i := 0) dX11_over_25 rfl rfl ?_
    refine E_iconst (v := 1) dX11_over_26 (by decide) ?_
    refine k_X11_over_27 (mc' := 0) (ms' := 0) (rc := 0) (rs := 0) (by omega) (Nat.le_of_ble_eq_true rfl) (by assumption) (c_X11_fail (k := 1) hL rfl (by decide) (by decide) ?_)
    refine E_iret dX11_over_30 rfl ?_
    exact hΦ
end
