/-! where all lies behind the two constructors -/
def RS (g : Sh) (P : HP) (r q n : Nat) : Prop := Cel g r 7 ∧ P r 0 = some q ∧ Cel g q 13 ∧ g.2.2 q = n
def AS (g : Sh) (a kd n : Nat) : Prop := Cel g a kd ∧ g.2.2 a = n
/-- a State's rows: slot, place of the row's object, room -/
def sRow : List (Nat × Nat × Nat) := [(10, 8, 50), (11, 10, 50), (12, 12, 50), (13, 14, 8), (14, 16, 8), (15, 18, 5), (16, 20, 5), (17, 22, 20)]
def St (g : Sh) (P : HP) (B : Nat) : Prop := Cel g B 8 ∧ P B 0 = some 17 ∧ P B 1 = some (B + 1) ∧ Wi g P (B + 1) (B + 2)
  ∧ (P B 2 = some (B + 3) ∧ AS g (B + 3) 16 8) ∧ (P B 3 = some (B + 4) ∧ AS g (B + 4) 13 8) ∧ (P B 4 = some (B + 5) ∧ AS g (B + 5) 13 8) ∧ (P B 5 = some (B + 6) ∧ AS g (B + 6) 13 8) ∧ (P B 6 = some (B + 7) ∧ AS g (B + 7) 14 8)
  ∧ ∀ q ∈ sRow, P B q.1 = some (B + q.2.1) ∧ RS g P (B + q.2.1) (B + q.2.1 + 1) q.2.2
def Ly (g : Sh) (P : HP) : Prop := (Cel g 16 11 ∧ P 16 0 = some 17 ∧ P 16 1 = some 21 ∧ P 16 2 = some 45 ∧ P 16 3 = some 69)
  ∧ (St g P 21 ∧ St g P 45 ∧ St g P 69)
  ∧ (P 16 5 = some 93 ∧ AS g 93 13 6) ∧ (P 16 6 = some 94 ∧ RS g P 94 95 40) ∧ (P 16 7 = some 96 ∧ AS g 96 15 4) ∧ (P 16 8 = some 97 ∧ AS g 97 13 4) ∧ (P 16 9 = some 98 ∧ AS g 98 13 8) ∧ (P 16 10 = some 99 ∧ AS g 99 13 5) ∧ (P 16 11 = some 100 ∧ AS g 100 13 5)
  ∧ (∀ i, i < 4 → P 96 i = some (101 + 2 * i) ∧ RS g P (101 + 2 * i) (102 + 2 * i) 40)
  ∧ (Cel g 17 4 ∧ P 17 0 = some 18 ∧ AS g 18 13 4)
  ∧ 128 ≤ g.1
section
variable {g : Sh} {P : HP}
theorem Ly.gw (h : Ly g P) : Cel g 16 11 := h.1.1
theorem Ly.live (h : Ly g P) : P 16 1 = some 21 := h.1.2.2.1
theorem Ly.ahead (h : Ly g P) : P 16 2 = some 45 := h.1.2.2.2.1
theorem Ly.kept (h : Ly g P) : P 16 3 = some 69 := h.1.2.2.2.2
theorem Ly.s21 (h : Ly g P) : St g P 21 := h.2.1.1
theorem Ly.s45 (h : Ly g P) : St g P 45 := h.2.1.2.1
theorem Ly.s69 (h : Ly g P) : St g P 69 := h.2.1.2.2
theorem Ly.ans (h : Ly g P) : P 16 5 = some 93 ∧ AS g 93 13 6 := h.2.2.1
theorem Ly.tra (h : Ly g P) : P 16 6 = some 94 ∧ RS g P 94 95 40 := h.2.2.2.1
theorem Ly.she (h : Ly g P) : P 16 7 = some 96 ∧ AS g 96 15 4 := h.2.2.2.2.1
theorem Ly.bit (h : Ly g P) : P 16 8 = some 97 ∧ AS g 97 13 4 := h.2.2.2.2.2.1
theorem Ly.tog (h : Ly g P) : P 16 9 = some 98 ∧ AS g 98 13 8 := h.2.2.2.2.2.2.1
theorem Ly.tri (h : Ly g P) : P 16 10 = some 99 ∧ AS g 99 13 5 := h.2.2.2.2.2.2.2.1
theorem Ly.bes (h : Ly g P) : P 16 11 = some 100 ∧ AS g 100 13 5 := h.2.2.2.2.2.2.2.2.1
theorem Ly.shr (h : Ly g P) : ∀ i, i < 4 → P 96 i = some (101 + 2 * i) ∧ RS g P (101 + 2 * i) (102 + 2 * i) 40 := h.2.2.2.2.2.2.2.2.2.1
theorem Ly.rea (h : Ly g P) : Cel g 17 4 ∧ P 17 0 = some 18 ∧ AS g 18 13 4 := h.2.2.2.2.2.2.2.2.2.2.1
theorem Ly.far (h : Ly g P) : 128 ≤ g.1 := h.2.2.2.2.2.2.2.2.2.2.2
theorem Ly.r16 (h : Ly g P) : P 16 0 = some 17 := h.1.2.1
variable {B : Nat}
theorem St.c (h : St g P B) : Cel g B 8 := h.1
theorem St.rd (h : St g P B) : P B 0 = some 17 := h.2.1
theorem St.wp (h : St g P B) : P B 1 = some (B + 1) := h.2.2.1
theorem St.wi (h : St g P B) : Wi g P (B + 1) (B + 2) := h.2.2.2.1
theorem St.ri (h : St g P B) : P B 2 = some (B + 3) ∧ AS g (B + 3) 16 8 := h.2.2.2.2.1
theorem St.pl (h : St g P B) : P B 3 = some (B + 4) ∧ AS g (B + 4) 13 8 := h.2.2.2.2.2.1
theorem St.pa (h : St g P B) : P B 4 = some (B + 5) ∧ AS g (B + 5) 13 8 := h.2.2.2.2.2.2.1
theorem St.ca (h : St g P B) : P B 5 = some (B + 6) ∧ AS g (B + 6) 13 8 := h.2.2.2.2.2.2.2.1
theorem St.in (h : St g P B) : P B 6 = some (B + 7) ∧ AS g (B + 7) 14 8 := h.2.2.2.2.2.2.2.2.1
theorem St.row (h : St g P B) : ∀ q ∈ sRow, P B q.1 = some (B + q.2.1) ∧ RS g P (B + q.2.1) (B + q.2.1 + 1) q.2.2 := h.2.2.2.2.2.2.2.2.2
theorem St.tape (h : St g P B) : P B 10 = some (B + 8) ∧ RS g P (B + 8) (B + 9) 50 := h.row (10, 8, 50) (by decide)
theorem St.wear (h : St g P B) : P B 11 = some (B + 10) ∧ RS g P (B + 10) (B + 11) 50 := h.row (11, 10, 50) (by decide)
theorem St.goes (h : St g P B) : P B 12 = some (B + 12) ∧ RS g P (B + 12) (B + 13) 50 := h.row (12, 12, 50) (by decide)
theorem St.str (h : St g P B) : P B 13 = some (B + 14) ∧ RS g P (B + 14) (B + 15) 8 := h.row (13, 14, 8) (by decide)
theorem St.thi (h : St g P B) : P B 14 = some (B + 16) ∧ RS g P (B + 16) (B + 17) 8 := h.row (14, 16, 8) (by decide)
theorem St.tim (h : St g P B) : P B 15 = some (B + 18) ∧ RS g P (B + 18) (B + 19) 5 := h.row (15, 18, 5) (by decide)
theorem St.sid (h : St g P B) : P B 16 = some (B + 20) ∧ RS g P (B + 20) (B + 21) 5 := h.row (16, 20, 5) (by decide)
theorem St.wai (h : St g P B) : P B 17 = some (B + 22) ∧ RS g P (B + 22) (B + 23) 20 := h.row (17, 22, 20) (by decide)
theorem RS.w {I : HI} {r q n k : Nat} (h : RS g P r q n) (hk : I r 1 = nI k) (h2 : k ≤ n) (h3 : n ≤ 1000) : Rw g P I r q n k := ⟨h.1, h.2.1, h.2.2.1, h.2.2.2, hk, h2, h3⟩
end
section
variable {Γ : GE} {d : Nat} {g : Sh} {P : HP} {I : HI} {Φ : Option Value → Sh → HP → HI → Prop}
theorem c_X10_ofk {a v k : Nat} {x : Int32} (hx : x = nI k) (hk : k ≤ 8) (hW : Wi g P a v) (hΦ : Φ (some (.int (I v k))) g P I) : MM Γ mX10_of d 0 0 [.ref a, .int x] g P I Φ := by
  refine c_X10_of hW ?_
  subst hx
  rw [if_pos ⟨nI_pos' (by omega), nI_le (b := 8) hk (by omega)⟩, nI_clamp (by omega)]
  exact hΦ
/-- fail(k): an error is counted and told -/
theorem c_X11_fail {x : Int32} {k : Nat} (hL : Ly g P) (hx : x = nI k) (h1 : 1 ≤ k) (h5 : k ≤ 5) (hΦ : Φ (some (.int (-1000000000 - nI k))) g P (u2 I 93 k (I 93 k + 1))) : MM Γ mX11_fail d 0 0 [.ref 16, .int x] g P I Φ := by
  refine MM_entry [some _, some _] (by decide) (Nat.le_of_ble_eq_true rfl) rfl ?_
  obtain ⟨a1, a2, a3⟩ := hL.ans
  have h0 := hL.gw
  refine E_aload_n (i := 0) dX11_fail_0 rfl rfl ?_
  refine E_gr dX11_fail_1 gf_X11_35_11 rfl (by assumption) (by assumption) ?_
  refine E_iload_n (i := 1) dX11_fail_4 rfl rfl ?_
  refine E_dup2 dX11_fail_5 rfl rfl ?_
  refine E_iaj k dX11_fail_6 (by assumption) hx (by omega) (by rw [a3]; omega) ?_
  refine E_iconst (v := 1) dX11_fail_7 (by decide) ?_
  refine E_iadd dX11_fail_8 ?_
  refine E_isj k dX11_fail_9 (by assumption) hx (by first | decide | omega) (by rw [a3]; omega) ?_
  refine E_ldcw (v := -1000000000) dX11_fail_10 w_362 ?_
  refine E_iload_n (i := 1) dX11_fail_13 rfl rfl ?_
  refine E_isub dX11_fail_14 ?_
  refine E_iret dX11_fail_15 rfl ?_
  rw [hx]
  exact hΦ
theorem if08 (c : Prop) [Decidable c] (h : c) {α : Type} (a b : α) : (if c then a else b) = a := if_pos h
abbrev onW (w : Nat → Int32) (x l : Int32) : Prop := (0 ≤ x ∧ x ≤ w 0) ∧ (0 ≤ l ∧ l ≤ 300)
theorem c_X11_isOnWire {x l : Int32} (hd : 1 ≤ d) (hL : Ly g P) (hΦ : Φ (some (.int (bz (onW (I 23) x l)))) g P I) : MM Γ mX11_isOnWire d 0 0 [.ref 16, .int x, .int l] g P I Φ := by
  refine MM_entry [some _, some _, some _] (by decide) (Nat.le_of_ble_eq_true rfl) rfl ?_
  have h0 := hL.gw
  have h1 := hL.live
  have h2 := hL.s21.c
  have h3 : P 21 1 = some 22 := hL.s21.wp
  have h4 : Wi g P 22 23 := hL.s21.wi
  have h5 := h4.1
  by_cases hc : 0 ≤ x ∧ x ≤ I 23 0
  · by_cases hc2 : 0 ≤ l ∧ l ≤ 300
    · rw [bz_t (show onW (I 23) x l from ⟨hc, hc2⟩)] at hΦ
      refine E_iload_n (i := 1) dX11_isOnWire_0 rfl rfl ?_
      refine E_iconst (v := 0) dX11_isOnWire_1 (by decide) ?_
      refine E_aload_n (i := 0) dX11_isOnWire_2 rfl rfl ?_
      refine E_gr dX11_isOnWire_3 gf_X11_21_11 rfl (by assumption) (by assumption) ?_
      refine E_gr dX11_isOnWire_6 gf_X11_77_8 rfl (by assumption) (by assumption) ?_
      refine E_iconst (v := 0) dX11_isOnWire_9 (by decide) ?_
      refine k_X11_isOnWire_10 (mc' := 0) (ms' := 0) (rc := 0) (rs := 0) (by omega) (Nat.le_of_ble_eq_true rfl) (by assumption) (c_X10_ofk (k := 0) rfl (by decide) h4 ?_)
      refine k_X11_isOnWire_13 (mc' := 0) (ms' := 0) (rc := 0) (rs := 0) (by omega) (Nat.le_of_ble_eq_true rfl) (c_X11_within ?_)
      rw [bz_t hc]
      refine E_if_eq (tgt := 34) dX11_isOnWire_16 (by decide) (fun c_16 => absurd c_16 (by decide)) (fun c_16 => ?_)
      refine E_iload_n (i := 2) dX11_isOnWire_19 rfl rfl ?_
      refine E_iconst (v := 0) dX11_isOnWire_20 (by decide) ?_
      refine E_sipush (v := 300) dX11_isOnWire_21 (by decide) ?_
      refine k_X11_isOnWire_24 (mc' := 0) (ms' := 0) (rc := 0) (rs := 0) (by omega) (Nat.le_of_ble_eq_true rfl) (c_X11_within ?_)
      rw [bz_t hc2]
      refine E_if_eq (tgt := 34) dX11_isOnWire_27 (by decide) (fun c_27 => absurd c_27 (by decide)) (fun c_27 => ?_)
      refine E_iconst (v := 1) dX11_isOnWire_30 (by decide) ?_
      refine E_goto (tgt := 35) dX11_isOnWire_31 (by decide) ?_
      refine E_zret dX11_isOnWire_35 rfl rfl ?_
      exact hΦ
    · rw [bz_f (show ¬ onW (I 23) x l from fun h => hc2 h.2)] at hΦ
      refine E_iload_n (i := 1) dX11_isOnWire_0 rfl rfl ?_
      refine E_iconst (v := 0) dX11_isOnWire_1 (by decide) ?_
      refine E_aload_n (i := 0) dX11_isOnWire_2 rfl rfl ?_
      refine E_gr dX11_isOnWire_3 gf_X11_21_11 rfl (by assumption) (by assumption) ?_
      refine E_gr dX11_isOnWire_6 gf_X11_77_8 rfl (by assumption) (by assumption) ?_
      refine E_iconst (v := 0) dX11_isOnWire_9 (by decide) ?_
      refine k_X11_isOnWire_10 (mc' := 0) (ms' := 0) (rc := 0) (rs := 0) (by omega) (Nat.le_of_ble_eq_true rfl) (by assumption) (c_X10_ofk (k := 0) rfl (by decide) h4 ?_)
      refine k_X11_isOnWire_13 (mc' := 0) (ms' := 0) (rc := 0) (rs := 0) (by omega) (Nat.le_of_ble_eq_true rfl) (c_X11_within ?_)
      rw [bz_t hc]
      refine E_if_eq (tgt := 34) dX11_isOnWire_16 (by decide) (fun c_16 => absurd c_16 (by decide)) (fun c_16 => ?_)
      refine E_iload_n (i := 2) dX11_isOnWire_19 rfl rfl ?_
      refine E_iconst (v := 0) dX11_isOnWire_20 (by decide) ?_
      refine E_sipush (v := 300) dX11_isOnWire_21 (by decide) ?_
      refine k_X11_isOnWire_24 (mc' := 0) (ms' := 0) (rc := 0) (rs := 0) (by omega) (Nat.le_of_ble_eq_true rfl) (c_X11_within ?_)
      rw [bz_f hc2]
      refine E_if_eq (tgt := 34) dX11_isOnWire_27 (by decide) (fun c_27 => ?_) (fun c_27 => absurd (rfl) c_27)
      refine E_iconst (v := 0) dX11_isOnWire_34 (by decide) ?_
      refine E_zret dX11_isOnWire_35 rfl rfl ?_
      exact hΦ
  · rw [bz_f (show ¬ onW (I 23) x l from fun h => hc h.1)] at hΦ
    refine E_iload_n (i := 1) dX11_isOnWire_0 rfl rfl ?_
    refine E_iconst (v := 0) dX11_isOnWire_1 (by decide) ?_
    refine E_aload_n (i := 0) dX11_isOnWire_2 rfl rfl ?_
    refine E_gr dX11_isOnWire_3 gf_X11_21_11 rfl (by assumption) (by assumption) ?_
    refine E_gr dX11_isOnWire_6 gf_X11_77_8 rfl (by assumption) (by assumption) ?_
    refine E_iconst (v := 0) dX11_isOnWire_9 (by decide) ?_
    refine k_X11_isOnWire_10 (mc' := 0) (ms' := 0) (rc := 0) (rs := 0) (by omega) (Nat.le_of_ble_eq_true rfl) (by assumption) (c_X10_ofk (k := 0) rfl (by decide) h4 ?_)
    refine k_X11_isOnWire_13 (mc' := 0) (ms' := 0) (rc := 0) (rs := 0) (by omega) (Nat.le_of_ble_eq_true rfl) (c_X11_within ?_)
    rw [bz_f hc]
    refine E_if_eq (tgt := 34) dX11_isOnWire_16 (by decide) (fun c_16 => ?_) (fun c_16 => absurd (rfl) c_16)
    refine E_iconst (v := 0) dX11_isOnWire_34 (by decide) ?_
    refine E_zret dX11_isOnWire_35 rfl rfl ?_
    exact hΦ
/-- the heap behind an error of the class -/
def fl (I : HI) (k : Nat) : HI := u2 I 93 k (I 93 k + 1)
def er (k : Nat) : Int32 := -1000000000 - nI k
theorem c_X11_depth {x l : Int32} (hd : 3 ≤ d) (hL : Ly g P) (hO : WOK (I 23)) (h1 : onW (I 23) x l → Φ (some (.int (dep (I 23) x l))) g P I) (h2 : ¬ onW (I 23) x l → Φ (some (.int (er 1))) g P (fl I 1)) : MM Γ mX11_depth d 0 0 [.ref 16, .int x, .int l] g P I Φ := by
  refine MM_entry [some _, some _, some _] (by decide) (Nat.le_of_ble_eq_true rfl) rfl ?_
  have h0 := hL.gw
  have l1 := hL.live
  have l2 := hL.s21.c
  have l3 : P 21 1 = some 22 := hL.s21.wp
  have l4 : Wi g P 22 23 := hL.s21.wi
  have l5 := l4.1
  by_cases hc : onW (I 23) x l
  · have hΦ := h1 hc
    refine E_aload_n (i := 0) dX11_depth_0 rfl rfl ?_
    refine E_iload_n (i := 1) dX11_depth_1 rfl rfl ?_
    refine E_iload_n (i := 2) dX11_depth_2 rfl rfl ?_
    refine k_X11_depth_3 (mc' := 0) (ms' := 0) (rc := 0) (rs := 0) (by omega) (Nat.le_of_ble_eq_true rfl) (by assumption) (c_X11_isOnWire (by omega) hL ?_)
    rw [bz_t hc]
    refine E_if_eq (tgt := 24) dX11_depth_6 (by decide) (fun c_6 => absurd c_6 (by decide)) (fun c_6 => ?_)
    refine E_aload_n (i := 0) dX11_depth_9 rfl rfl ?_
    refine E_gr dX11_depth_10 gf_X11_21_11 rfl (by assumption) (by assumption) ?_
    refine E_gr dX11_depth_13 gf_X11_77_8 rfl (by assumption) (by assumption) ?_
    refine E_iload_n (i := 1) dX11_depth_16 rfl rfl ?_
    refine E_iload_n (i := 2) dX11_depth_17 rfl rfl ?_
    refine k_X11_depth_18 (mc' := 0) (ms' := 0) (rc := 0) (rs := 0) (by omega) (Nat.le_of_ble_eq_true rfl) (by assumption) (c_X10_depthAt (by omega) l4 hO ?_)
    refine E_goto (tgt := 29) dX11_depth_21 (by decide) ?_
    refine E_iret dX11_depth_29 rfl ?_
    exact hΦ
  · have hΦ := h2 hc
    refine E_aload_n (i := 0) dX11_depth_0 rfl rfl ?_
    refine E_iload_n (i := 1) dX11_depth_1 rfl rfl ?_
    refine E_iload_n (i := 2) dX11_depth_2 rfl rfl ?_
    refine k_X11_depth_3 (mc' := 0) (ms' := 0) (rc := 0) (rs := 0) (by omega) (Nat.le_of_ble_eq_true rfl) (by assumption) (c_X11_isOnWire (by omega) hL ?_)
    rw [bz_f hc]
    refine E_if_eq (tgt := 24) dX11_depth_6 (by decide) (fun c_6 => ?_) (fun c_6 => absurd (rfl) c_6)
    refine E_aload_n (i := 0) dX11_depth_24 rfl rfl ?_
    refine E_iconst (v := 1) dX11_depth_25 (by decide) ?_
    refine k_X11_depth_26 (mc' := 0) (ms' := 0) (rc := 0) (rs := 0) (by omega) (Nat.le_of_ble_eq_true rfl) (by assumption) (c_X11_fail (k := 1) hL rfl (by decide) (by decide) ?_)
    refine E_iret dX11_depth_29 rfl ?_
    exact hΦ
theorem c_X11_steep {x l : Int32} (hd : 4 ≤ d) (hL : Ly g P) (hO : WOK (I 23)) (h1 : onW (I 23) x l → Φ (some (.int (stp (I 23) x l))) g P I) (h2 : ¬ onW (I 23) x l → Φ (some (.int (er 1))) g P (fl I 1)) : MM Γ mX11_steep d 0 0 [.ref 16, .int x, .int l] g P I Φ := by
  refine MM_entry [some _, some _, some _] (by decide) (Nat.le_of_ble_eq_true rfl) rfl ?_
  have h0 := hL.gw
  have l1 := hL.live
  have l2 := hL.s21.c
  have l3 : P 21 1 = some 22 := hL.s21.wp
  have l4 : Wi g P 22 23 := hL.s21.wi
  have l5 := l4.1
  by_cases hc : onW (I 23) x l
  · have hΦ := h1 hc
    refine E_aload_n (i := 0) dX11_steep_0 rfl rfl ?_
    refine E_iload_n (i := 1) dX11_steep_1 rfl rfl ?_
    refine E_iload_n (i := 2) dX11_steep_2 rfl rfl ?_
    refine k_X11_steep_3 (mc' := 0) (ms' := 0) (rc := 0) (rs := 0) (by omega) (Nat.le_of_ble_eq_true rfl) (by assumption) (c_X11_isOnWire (by omega) hL ?_)
    rw [bz_t hc]
    refine E_if_eq (tgt := 24) dX11_steep_6 (by decide) (fun c_6 => absurd c_6 (by decide)) (fun c_6 => ?_)
    refine E_aload_n (i := 0) dX11_steep_9 rfl rfl ?_
    refine E_gr dX11_steep_10 gf_X11_21_11 rfl (by assumption) (by assumption) ?_
    refine E_gr dX11_steep_13 gf_X11_77_8 rfl (by assumption) (by assumption) ?_
    refine E_iload_n (i := 1) dX11_steep_16 rfl rfl ?_
    refine E_iload_n (i := 2) dX11_steep_17 rfl rfl ?_
    refine k_X11_steep_18 (mc' := 0) (ms' := 0) (rc := 0) (rs := 0) (by omega) (Nat.le_of_ble_eq_true rfl) (by assumption) (c_X10_steepAt (by omega) l4 hO ?_)
    refine E_goto (tgt := 29) dX11_steep_21 (by decide) ?_
    refine E_iret dX11_steep_29 rfl ?_
    exact hΦ
  · have hΦ := h2 hc
    refine E_aload_n (i := 0) dX11_steep_0 rfl rfl ?_
    refine E_iload_n (i := 1) dX11_steep_1 rfl rfl ?_
    refine E_iload_n (i := 2) dX11_steep_2 rfl rfl ?_
    refine k_X11_steep_3 (mc' := 0) (ms' := 0) (rc := 0) (rs := 0) (by omega) (Nat.le_of_ble_eq_true rfl) (by assumption) (c_X11_isOnWire (by omega) hL ?_)
    rw [bz_f hc]
    refine E_if_eq (tgt := 24) dX11_steep_6 (by decide) (fun c_6 => ?_) (fun c_6 => absurd (rfl) c_6)
    refine E_aload_n (i := 0) dX11_steep_24 rfl rfl ?_
    refine E_iconst (v := 1) dX11_steep_25 (by decide) ?_
    refine k_X11_steep_26 (mc' := 0) (ms' := 0) (rc := 0) (rs := 0) (by omega) (Nat.le_of_ble_eq_true rfl) (by assumption) (c_X11_fail (k := 1) hL rfl (by decide) (by decide) ?_)
    refine E_iret dX11_steep_29 rfl ?_
    exact hΦ
theorem c_X11_pulled {x l : Int32} (hd : 3 ≤ d) (hL : Ly g P) (hO : WOK (I 23)) (h1 : onW (I 23) x l → Φ (some (.int (pul (I 23) x l))) g P I) (h2 : ¬ onW (I 23) x l → Φ (some (.int (er 1))) g P (fl I 1)) : MM Γ mX11_pulled d 0 0 [.ref 16, .int x, .int l] g P I Φ := by
  refine MM_entry [some _, some _, some _] (by decide) (Nat.le_of_ble_eq_true rfl) rfl ?_
  have h0 := hL.gw
  have l1 := hL.live
  have l2 := hL.s21.c
  have l3 : P 21 1 = some 22 := hL.s21.wp
  have l4 : Wi g P 22 23 := hL.s21.wi
  have l5 := l4.1
  by_cases hc : onW (I 23) x l
  · have hΦ := h1 hc
    refine E_aload_n (i := 0) dX11_pulled_0 rfl rfl ?_
    refine E_iload_n (i := 1) dX11_pulled_1 rfl rfl ?_
    refine E_iload_n (i := 2) dX11_pulled_2 rfl rfl ?_
    refine k_X11_pulled_3 (mc' := 0) (ms' := 0) (rc := 0) (rs := 0) (by omega) (Nat.le_of_ble_eq_true rfl) (by assumption) (c_X11_isOnWire (by omega) hL ?_)
    rw [bz_t hc]
    refine E_if_eq (tgt := 24) dX11_pulled_6 (by decide) (fun c_6 => absurd c_6 (by decide)) (fun c_6 => ?_)
    refine E_aload_n (i := 0) dX11_pulled_9 rfl rfl ?_
    refine E_gr dX11_pulled_10 gf_X11_21_11 rfl (by assumption) (by assumption) ?_
    refine E_gr dX11_pulled_13 gf_X11_77_8 rfl (by assumption) (by assumption) ?_
    refine E_iload_n (i := 1) dX11_pulled_16 rfl rfl ?_
    refine E_iload_n (i := 2) dX11_pulled_17 rfl rfl ?_
    refine k_X11_pulled_18 (mc' := 0) (ms' := 0) (rc := 0) (rs := 0) (by omega) (Nat.le_of_ble_eq_true rfl) (by assumption) (c_X10_pulledAt (by omega) l4 hO ?_)
    refine E_goto (tgt := 29) dX11_pulled_21 (by decide) ?_
    refine E_iret dX11_pulled_29 rfl ?_
    exact hΦ
  · have hΦ := h2 hc
    refine E_aload_n (i := 0) dX11_pulled_0 rfl rfl ?_
    refine E_iload_n (i := 1) dX11_pulled_1 rfl rfl ?_
    refine E_iload_n (i := 2) dX11_pulled_2 rfl rfl ?_
    refine k_X11_pulled_3 (mc' := 0) (ms' := 0) (rc := 0) (rs := 0) (by omega) (Nat.le_of_ble_eq_true rfl) (by assumption) (c_X11_isOnWire (by omega) hL ?_)
    rw [bz_f hc]
    refine E_if_eq (tgt := 24) dX11_pulled_6 (by decide) (fun c_6 => ?_) (fun c_6 => absurd (rfl) c_6)
    refine E_aload_n (i := 0) dX11_pulled_24 rfl rfl ?_
    refine E_iconst (v := 1) dX11_pulled_25 (by decide) ?_
    refine k_X11_pulled_26 (mc' := 0) (ms' := 0) (rc := 0) (rs := 0) (by omega) (Nat.le_of_ble_eq_true rfl) (by assumption) (c_X11_fail (k := 1) hL rfl (by decide) (by decide) ?_)
    refine E_iret dX11_pulled_29 rfl ?_
    exact hΦ
theorem c_X11_tight (hd : 1 ≤ d) (hL : Ly g P) (hΦ : Φ (some (.int (taut (I 23)))) g P I) : MM Γ mX11_tight d 0 0 [.ref 16] g P I Φ := by
  refine MM_entry [some _] (by decide) (Nat.le_of_ble_eq_true rfl) rfl ?_
  have h0 := hL.gw
  have l1 := hL.live
  have l2 := hL.s21.c
  have l3 : P 21 1 = some 22 := hL.s21.wp
  have l4 : Wi g P 22 23 := hL.s21.wi
  have l5 := l4.1
  refine E_aload_n (i := 0) dX11_tight_0 rfl rfl ?_
  refine E_gr dX11_tight_1 gf_X11_21_11 rfl (by assumption) (by assumption) ?_
  refine E_gr dX11_tight_4 gf_X11_77_8 rfl (by assumption) (by assumption) ?_
  refine k_X11_tight_7 (mc' := 0) (ms' := 0) (rc := 0) (rs := 0) (by omega) (Nat.le_of_ble_eq_true rfl) (by assumption) (c_X10_taut l4 ?_)
  refine E_iret dX11_tight_10 rfl ?_
  exact hΦ
theorem c_X11_seed {v : Int32} (hL : Ly g P) (hΦ : Φ (some (.int (I 21 9))) g P (u2 I 21 9 v)) : MM Γ mX11_seed d 0 0 [.ref 16, .int v] g P I Φ := by
  refine MM_entry [some _, some _, none] (by decide) (Nat.le_of_ble_eq_true rfl) rfl ?_
  have h0 := hL.gw
  have l1 := hL.live
  have l2 := hL.s21.c
  refine E_aload_n (i := 0) dX11_seed_0 rfl rfl ?_
  refine E_gr dX11_seed_1 gf_X11_21_11 rfl (by assumption) (by assumption) ?_
  refine E_gi dX11_seed_4 gf_X11_243_8 rfl (by assumption) ?_
  refine E_istore_nC (i := 2) dX11_seed_7 rfl (by decide) rfl ?_
  refine E_lv (lv' := [_, _, _]) rfl ?_
  refine E_aload_n (i := 0) dX11_seed_8 rfl rfl ?_
  refine E_gr dX11_seed_9 gf_X11_21_11 rfl (by assumption) (by assumption) ?_
  refine E_iload_n (i := 1) dX11_seed_12 rfl rfl ?_
  refine E_pi dX11_seed_13 gf_X11_243_8 rfl (by assumption) ?_
  refine E_iload_n (i := 2) dX11_seed_16 rfl rfl ?_
  refine E_iret dX11_seed_17 rfl ?_
  exact hΦ
abbrev okB (c k : Int32) : Prop := (1 ≤ c ∧ c ≤ 9999) ∧ (1 ≤ k ∧ k ≤ 99)
theorem ge1_ne {k : Int32} (h : 1 ≤ k) : ¬ k = 0 := fun e => by rw [e] at h; exact absurd h (by decide)
theorem c_X11_bridge {c k : Int32} (hd : 1 ≤ d) (hL : Ly g P) (h1 : okB c k → Φ (some (.int ((c + k - 1) / k))) g P I) (h2 : ¬ okB c k → Φ (some (.int (er 1))) g P (fl I 1)) : MM Γ mX11_bridge d 0 0 [.ref 16, .int c, .int k] g P I Φ := by
  refine MM_entry [some _, some _, some _] (by decide) (Nat.le_of_ble_eq_true rfl) rfl ?_
  have h0 := hL.gw
  by_cases hc : 1 ≤ c ∧ c ≤ 9999
  · by_cases hc2 : 1 ≤ k ∧ k ≤ 99
    · have hΦ := h1 ⟨hc, hc2⟩
      refine E_iload_n (i := 1) dX11_bridge_0 rfl rfl ?_
      refine E_iconst (v := 1) dX11_bridge_1 (by decide) ?_
      refine E_sipush (v := 9999) dX11_bridge_2 (by decide) ?_
      refine k_X11_bridge_5 (mc' := 0) (ms' := 0) (rc := 0) (rs := 0) (by omega) (Nat.le_of_ble_eq_true rfl) (c_X11_within ?_)
      rw [bz_t hc]
      refine E_if_eq (tgt := 21) dX11_bridge_8 (by decide) (fun c_8 => absurd c_8 (by decide)) (fun c_8 => ?_)
      refine E_iload_n (i := 2) dX11_bridge_11 rfl rfl ?_
      refine E_iconst (v := 1) dX11_bridge_12 (by decide) ?_
      refine E_bipush (v := 99) dX11_bridge_13 (by decide) ?_
      refine k_X11_bridge_15 (mc' := 0) (ms' := 0) (rc := 0) (rs := 0) (by omega) (Nat.le_of_ble_eq_true rfl) (c_X11_within ?_)
      rw [bz_t hc2]
      refine E_if_ne (tgt := 27) dX11_bridge_18 (by decide) (fun c_18 => ?_) (fun c_18 => absurd c_18 (by decide))
      refine E_iload_n (i := 1) dX11_bridge_27 rfl rfl ?_
      refine E_iload_n (i := 2) dX11_bridge_28 rfl rfl ?_
      refine E_iadd dX11_bridge_29 ?_
      refine E_iconst (v := 1) dX11_bridge_30 (by decide) ?_
      refine E_isub dX11_bridge_31 ?_
      refine E_iload_n (i := 2) dX11_bridge_32 rfl rfl ?_
      refine E_idiv dX11_bridge_33 (ge1_ne hc2.1) ?_
      refine E_iret dX11_bridge_34 rfl ?_
      exact hΦ
    · have hΦ := h2 (fun h => hc2 h.2)
      refine E_iload_n (i := 1) dX11_bridge_0 rfl rfl ?_
      refine E_iconst (v := 1) dX11_bridge_1 (by decide) ?_
      refine E_sipush (v := 9999) dX11_bridge_2 (by decide) ?_
      refine k_X11_bridge_5 (mc' := 0) (ms' := 0) (rc := 0) (rs := 0) (by omega) (Nat.le_of_ble_eq_true rfl) (c_X11_within ?_)
      rw [bz_t hc]
      refine E_if_eq (tgt := 21) dX11_bridge_8 (by decide) (fun c_8 => absurd c_8 (by decide)) (fun c_8 => ?_)
      refine E_iload_n (i := 2) dX11_bridge_11 rfl rfl ?_
      refine E_iconst (v := 1) dX11_bridge_12 (by decide) ?_
      refine E_bipush (v := 99) dX11_bridge_13 (by decide) ?_
      refine k_X11_bridge_15 (mc' := 0) (ms' := 0) (rc := 0) (rs := 0) (by omega) (Nat.le_of_ble_eq_true rfl) (c_X11_within ?_)
      rw [bz_f hc2]
      refine E_if_ne (tgt := 27) dX11_bridge_18 (by decide) (fun c_18 => absurd (rfl) c_18) (fun c_18 => ?_)
      refine E_aload_n (i := 0) dX11_bridge_21 rfl rfl ?_
      refine E_iconst (v := 1) dX11_bridge_22 (by decide) ?_
      refine k_X11_bridge_23 (mc' := 0) (ms' := 0) (rc := 0) (rs := 0) (by omega) (Nat.le_of_ble_eq_true rfl) (by assumption) (c_X11_fail (k := 1) hL rfl (by decide) (by decide) ?_)
      refine E_iret dX11_bridge_26 rfl ?_
      exact hΦ
  · have hΦ := h2 (fun h => hc h.1)
    refine E_iload_n (i := 1) dX11_bridge_0 rfl rfl ?_
    refine E_iconst (v := 1) dX11_bridge_1 (by decide) ?_
    refine E_sipush (v := 9999) dX11_bridge_2 (by decide) ?_
    refine k_X11_bridge_5 (mc' := 0) (ms' := 0) (rc := 0) (rs := 0) (by omega) (Nat.le_of_ble_eq_true rfl) (c_X11_within ?_)
    rw [bz_f hc]
    refine E_if_eq (tgt := 21) dX11_bridge_8 (by decide) (fun c_8 => ?_) (fun c_8 => absurd (rfl) c_8)
    refine E_aload_n (i := 0) dX11_bridge_21 rfl rfl ?_
    refine E_iconst (v := 1) dX11_bridge_22 (by decide) ?_
    refine k_X11_bridge_23 (mc' := 0) (ms' := 0) (rc := 0) (rs := 0) (by omega) (Nat.le_of_ble_eq_true rfl) (by assumption) (c_X11_fail (k := 1) hL rfl (by decide) (by decide) ?_)
    refine E_iret dX11_bridge_26 rfl ?_
    exact hΦ
theorem of1_5 {k : Int32} (h : 1 ≤ k ∧ k ≤ 5) : ∃ j : Nat, k = nI j ∧ 1 ≤ j ∧ j ≤ 5 := by
  obtain ⟨j, h1, h2⟩ := nI_of2 (x := k) (M := 5) (n := 5) rfl (by
    intro q
    have := Int32.lt_of_le_of_lt h.1 q
    exact absurd this (by decide)) h.2
  refine ⟨j, h2, ?_, h1⟩
  rw [h2] at h
  have := i32_le.mp h.1
  rw [nI_toInt (by omega)] at this
  have e : (1 : Int32).toInt = 1 := rfl
  omega
theorem c_X11_told {k : Int32} (hd : 1 ≤ d) (hL : Ly g P) (h1 : ∀ j, k = nI j → 1 ≤ j → j ≤ 5 → Φ (some (.int (I 93 j))) g P I) (h2 : ¬ (1 ≤ k ∧ k ≤ 5) → Φ (some (.int (er 1))) g P (fl I 1)) : MM Γ mX11_told d 0 0 [.ref 16, .int k] g P I Φ := by
  refine MM_entry [some _, some _] (by decide) (Nat.le_of_ble_eq_true rfl) rfl ?_
  have h0 := hL.gw
  obtain ⟨a1, a2, a3⟩ := hL.ans
  by_cases hc : 1 ≤ k ∧ k ≤ 5
  · obtain ⟨j, e1, e2, e3⟩ := of1_5 hc
    have hΦ := h1 j e1 e2 e3
    refine E_iload_n (i := 1) dX11_told_0 rfl rfl ?_
    refine E_iconst (v := 1) dX11_told_1 (by decide) ?_
    refine E_iconst (v := 5) dX11_told_2 (by decide) ?_
    refine k_X11_told_3 (mc' := 0) (ms' := 0) (rc := 0) (rs := 0) (by omega) (Nat.le_of_ble_eq_true rfl) (c_X11_within ?_)
    rw [bz_t hc]
    refine E_if_eq (tgt := 18) dX11_told_6 (by decide) (fun c_6 => absurd c_6 (by decide)) (fun c_6 => ?_)
    refine E_aload_n (i := 0) dX11_told_9 rfl rfl ?_
    refine E_gr dX11_told_10 gf_X11_35_11 rfl (by assumption) (by assumption) ?_
    refine E_iload_n (i := 1) dX11_told_13 rfl rfl ?_
    refine E_iaj j dX11_told_14 (by assumption) e1 (by omega) (by rw [a3]; omega) ?_
    refine E_goto (tgt := 23) dX11_told_15 (by decide) ?_
    refine E_iret dX11_told_23 rfl ?_
    exact hΦ
  · have hΦ := h2 hc
    refine E_iload_n (i := 1) dX11_told_0 rfl rfl ?_
    refine E_iconst (v := 1) dX11_told_1 (by decide) ?_
    refine E_iconst (v := 5) dX11_told_2 (by decide) ?_
    refine k_X11_told_3 (mc' := 0) (ms' := 0) (rc := 0) (rs := 0) (by omega) (Nat.le_of_ble_eq_true rfl) (c_X11_within ?_)
    rw [bz_f hc]
    refine E_if_eq (tgt := 18) dX11_told_6 (by decide) (fun c_6 => ?_) (fun c_6 => absurd (rfl) c_6)
    refine E_aload_n (i := 0) dX11_told_18 rfl rfl ?_
    refine E_iconst (v := 1) dX11_told_19 (by decide) ?_
    refine k_X11_told_20 (mc' := 0) (ms' := 0) (rc := 0) (rs := 0) (by omega) (Nat.le_of_ble_eq_true rfl) (by assumption) (c_X11_fail (k := 1) hL rfl (by decide) (by decide) ?_)
    refine E_iret dX11_told_23 rfl ?_
    exact hΦ
end
