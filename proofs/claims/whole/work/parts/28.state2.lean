/-! State: loops, copies -/
/-- the first k of a row by a function -/
def mp (h : Nat → Int32 → Int32) (f : Nat → Int32) (k : Nat) : Nat → Int32 := fun j => if j < k then h j (f j) else f j
theorem mp_0 (h : Nat → Int32 → Int32) (f : Nat → Int32) : mp h f 0 = f := by funext j; simp [mp]
theorem mp_s (h : Nat → Int32 → Int32) (f : Nat → Int32) (k : Nat) : ur (mp h f k) k (h k (f k)) = mp h f (k + 1) := by
  funext j
  unfold ur mp
  by_cases e : j = k
  · subst e
    rw [if_pos rfl, if_pos (by omega)]
  · rw [if_neg e]
    by_cases h2 : j < k
    · rw [if_pos h2, if_pos (by omega)]
    · rw [if_neg h2, if_neg (by omega)]
theorem mp_k (h : Nat → Int32 → Int32) (f : Nat → Int32) (k : Nat) : mp h f k k = f k := if_neg (by omega)
/-- the smaller, as Math.min has it -/
def mn (x y : Int32) : Int32 := if y < x then y else x
section
variable {Γ : GE} {d : Nat} {g : Sh} {P : HP} {I : HI} {Φ : Option Value → Sh → HP → HI → Prop}
theorem c_X8_keepPlacesOnWire {B k : Nat} (hd : 1 ≤ d) (hS : St g P B) (hk : I B 7 = nI k) (hk8 : k ≤ 8) (hΦ : Φ none g P (ur I (B + 4) (mp (fun _ x => mn x (10 * I (B + 2) 0)) (I (B + 4)) k))) : MM Γ mX8_keepPlacesOnWire d 0 0 [.ref B] g P I Φ := by
  refine MM_entry [some _, none] (by decide) (Nat.le_of_ble_eq_true rfl) rfl ?_
  have s1 := hS.c
  have s2 := hS.wp
  have s3 := hS.wi
  have s4 := s3.1
  obtain ⟨p1, p2, p3⟩ := hS.pl
  have nB4 : B ≠ B + 4 := by omega
  have n24 : B + 2 ≠ B + 4 := by omega
  have loop : ∀ (N j : Nat) (x : Int32) (J : HI), k - j ≤ N → j ≤ k → x = nI j → J = ur I (B + 4) (mp (fun _ x => mn x (10 * I (B + 2) 0)) (I (B + 4)) j) → E Γ mX8_keepPlacesOnWire d 0 0 (QM Γ 0 0 Φ) 0 0 2 [some (.ref B), some (.int x)] [] g P J := by
    intro N
    induction N with
    | zero =>
      intro j x J hN hj hx hJ
      have : j = k := by omega
      subst this
      have hs : J B 7 = nI j := by rw [hJ, ur_n _ _ nB4, hk]
      refine E_iload_n (i := 1) dX8_keepPlacesOnWire_2 rfl rfl ?_
      refine E_aload_n (i := 0) dX8_keepPlacesOnWire_3 rfl rfl ?_
      refine E_gi dX8_keepPlacesOnWire_4 gf_X8_38_8 rfl (by assumption) ?_
      refine E_icmp_ge (tgt := 38) dX8_keepPlacesOnWire_7 (by decide) (fun c_7 => ?_) (fun c_7 => absurd (by rw [hs, hx]; exact Int32.le_refl _) c_7)
      refine E_vret dX8_keepPlacesOnWire_38 rfl ?_
      rw [hJ]
      exact hΦ
    | succ N ih =>
      intro j x J hN hj hx hJ
      have hs : J B 7 = nI k := by rw [hJ, ur_n _ _ nB4, hk]
      by_cases hjk : j = k
      · subst hjk
        refine E_iload_n (i := 1) dX8_keepPlacesOnWire_2 rfl rfl ?_
        refine E_aload_n (i := 0) dX8_keepPlacesOnWire_3 rfl rfl ?_
        refine E_gi dX8_keepPlacesOnWire_4 gf_X8_38_8 rfl (by assumption) ?_
        refine E_icmp_ge (tgt := 38) dX8_keepPlacesOnWire_7 (by decide) (fun c_7 => ?_) (fun c_7 => absurd (by rw [hs, hx]; exact Int32.le_refl _) c_7)
        refine E_vret dX8_keepPlacesOnWire_38 rfl ?_
        rw [hJ]
        exact hΦ
      · refine E_iload_n (i := 1) dX8_keepPlacesOnWire_2 rfl rfl ?_
        refine E_aload_n (i := 0) dX8_keepPlacesOnWire_3 rfl rfl ?_
        refine E_gi dX8_keepPlacesOnWire_4 gf_X8_38_8 rfl (by assumption) ?_
        refine E_icmp_ge (tgt := 38) dX8_keepPlacesOnWire_7 (by decide) (fun c_7 => absurd c_7 (by rw [hs, hx]; exact nI_ge (by omega) (by omega))) (fun c_7 => ?_)
        refine E_aload_n (i := 0) dX8_keepPlacesOnWire_10 rfl rfl ?_
        refine E_gr dX8_keepPlacesOnWire_11 gf_X8_24_8 rfl (by assumption) (by assumption) ?_
        refine E_iload_n (i := 1) dX8_keepPlacesOnWire_14 rfl rfl ?_
        refine E_aload_n (i := 0) dX8_keepPlacesOnWire_15 rfl rfl ?_
        refine E_gr dX8_keepPlacesOnWire_16 gf_X8_24_8 rfl (by assumption) (by assumption) ?_
        refine E_iload_n (i := 1) dX8_keepPlacesOnWire_19 rfl rfl ?_
        refine E_iaj j dX8_keepPlacesOnWire_20 (by assumption) hx (by omega) (by rw [p3]; omega) ?_
        refine E_aload_n (i := 0) dX8_keepPlacesOnWire_21 rfl rfl ?_
        refine E_gr dX8_keepPlacesOnWire_22 gf_X8_12_8 rfl (by assumption) (by assumption) ?_
        refine k_X8_keepPlacesOnWire_25 (mc' := 0) (ms' := 0) (rc := 0) (rs := 0) (by omega) (Nat.le_of_ble_eq_true rfl) (by assumption) (c_X10_end s3 ?_)
        refine E_min dX8_keepPlacesOnWire_28 w_380 w_381 w_74 w_382 (Nat.le_of_ble_eq_true rfl) (by omega) ?_
        refine E_isj j dX8_keepPlacesOnWire_31 (by assumption) hx (by first | decide | omega) (by rw [p3]; omega) ?_
        refine E_incC (c := 1) dX8_keepPlacesOnWire_32 rfl (by decide) (by decide) rfl ?_
        refine E_lv (lv' := [_, _]) rfl ?_
        refine E_goto (tgt := 2) dX8_keepPlacesOnWire_35 (by decide) ?_
        refine ih (j + 1) _ _ (by omega) (by omega) (by rw [hx, nI_1]) ?_
        rw [hJ, ur_n _ _ n24, ur_s, mp_k]
        unfold u2
        rw [ur_s, ur_ur, ← mp_s]
        rfl
  refine E_iconst (v := 0) dX8_keepPlacesOnWire_0 (by decide) ?_
  refine E_istore_nC (i := 1) dX8_keepPlacesOnWire_1 rfl (by decide) rfl ?_
  refine E_lv (lv' := [_, _]) rfl ?_
  refine loop k 0 _ _ (by omega) (by omega) rfl ?_
  rw [mp_0, ur_id]
/-- how many of the first k are 0 -/
def cz (f : Nat → Int32) : Nat → Nat
  | 0 => 0
  | k + 1 => cz f k + (if f k = 0 then 1 else 0)
theorem cz_le (f : Nat → Int32) : ∀ k, cz f k ≤ k
  | 0 => Nat.le_refl _
  | k + 1 => by
    have := cz_le f k
    unfold cz
    split <;> omega
theorem c_X8_underWay {B k : Nat} (hS : St g P B) (hk : I B 7 = nI k) (hk8 : k ≤ 8) (hΦ : Φ (some (.int (nI (cz (I (B + 7)) k)))) g P I) : MM Γ mX8_underWay d 0 0 [.ref B] g P I Φ := by
  refine MM_entry [some _, none, none] (by decide) (Nat.le_of_ble_eq_true rfl) rfl ?_
  have s1 := hS.c
  obtain ⟨u1, v2, u3⟩ := hS.in
  have loop : ∀ (N j : Nat) (x y : Int32), k - j ≤ N → j ≤ k → x = nI j → y = nI (cz (I (B + 7)) j) → E Γ mX8_underWay d 0 0 (QM Γ 0 0 Φ) 0 0 4 [some (.ref B), some (.int y), some (.int x)] [] g P I := by
    intro N
    induction N with
    | zero =>
      intro j x y hN hj hx hy
      have : j = k := by omega
      subst this
      refine E_iload_n (i := 2) dX8_underWay_4 rfl rfl ?_
      refine E_aload_n (i := 0) dX8_underWay_5 rfl rfl ?_
      refine E_gi dX8_underWay_6 gf_X8_38_8 rfl (by assumption) ?_
      refine E_icmp_ge (tgt := 35) dX8_underWay_9 (by decide) (fun c_9 => ?_) (fun c_9 => absurd (by rw [hk, hx]; exact Int32.le_refl _) c_9)
      refine E_iload_n (i := 1) dX8_underWay_35 rfl rfl ?_
      refine E_iret dX8_underWay_36 rfl ?_
      rw [hy]
      exact hΦ
    | succ N ih =>
      intro j x y hN hj hx hy
      by_cases hjk : j = k
      · subst hjk
        refine E_iload_n (i := 2) dX8_underWay_4 rfl rfl ?_
        refine E_aload_n (i := 0) dX8_underWay_5 rfl rfl ?_
        refine E_gi dX8_underWay_6 gf_X8_38_8 rfl (by assumption) ?_
        refine E_icmp_ge (tgt := 35) dX8_underWay_9 (by decide) (fun c_9 => ?_) (fun c_9 => absurd (by rw [hk, hx]; exact Int32.le_refl _) c_9)
        refine E_iload_n (i := 1) dX8_underWay_35 rfl rfl ?_
        refine E_iret dX8_underWay_36 rfl ?_
        rw [hy]
        exact hΦ
      · by_cases hz : I (B + 7) j = 0
        · refine E_iload_n (i := 2) dX8_underWay_4 rfl rfl ?_
          refine E_aload_n (i := 0) dX8_underWay_5 rfl rfl ?_
          refine E_gi dX8_underWay_6 gf_X8_38_8 rfl (by assumption) ?_
          refine E_icmp_ge (tgt := 35) dX8_underWay_9 (by decide) (fun c_9 => absurd c_9 (by rw [hk, hx]; exact nI_ge (by omega) (by omega))) (fun c_9 => ?_)
          refine E_iload_n (i := 1) dX8_underWay_12 rfl rfl ?_
          refine E_aload_n (i := 0) dX8_underWay_13 rfl rfl ?_
          refine E_gr dX8_underWay_14 gf_X8_34_8 rfl (by assumption) (by assumption) ?_
          refine E_iload_n (i := 2) dX8_underWay_17 rfl rfl ?_
          refine E_zaj j dX8_underWay_18 (by assumption) hx (by omega) (by rw [u3]; omega) ?_
          refine E_if_eq (tgt := 26) dX8_underWay_19 (by decide) (fun c_19 => ?_) (fun c_19 => absurd (hz) c_19)
          refine E_iconst (v := 1) dX8_underWay_26 (by decide) ?_
          refine E_iadd dX8_underWay_27 ?_
          refine E_istore_nC (i := 1) dX8_underWay_28 rfl (by decide) rfl ?_
          refine E_lv (lv' := [_, _, _]) rfl ?_
          refine E_incC (c := 1) dX8_underWay_29 rfl (by decide) (by decide) rfl ?_
          refine E_lv (lv' := [_, _, _]) rfl ?_
          refine E_goto (tgt := 4) dX8_underWay_32 (by decide) ?_
          refine ih (j + 1) _ _ (by omega) (by omega) (by rw [hx, nI_1]) ?_
          unfold cz
          rw [hy, if_pos hz, nI_1]
        · refine E_iload_n (i := 2) dX8_underWay_4 rfl rfl ?_
          refine E_aload_n (i := 0) dX8_underWay_5 rfl rfl ?_
          refine E_gi dX8_underWay_6 gf_X8_38_8 rfl (by assumption) ?_
          refine E_icmp_ge (tgt := 35) dX8_underWay_9 (by decide) (fun c_9 => absurd c_9 (by rw [hk, hx]; exact nI_ge (by omega) (by omega))) (fun c_9 => ?_)
          refine E_iload_n (i := 1) dX8_underWay_12 rfl rfl ?_
          refine E_aload_n (i := 0) dX8_underWay_13 rfl rfl ?_
          refine E_gr dX8_underWay_14 gf_X8_34_8 rfl (by assumption) (by assumption) ?_
          refine E_iload_n (i := 2) dX8_underWay_17 rfl rfl ?_
          refine E_zaj j dX8_underWay_18 (by assumption) hx (by omega) (by rw [u3]; omega) ?_
          refine E_if_eq (tgt := 26) dX8_underWay_19 (by decide) (fun c_19 => absurd c_19 (hz)) (fun c_19 => ?_)
          refine E_iconst (v := 0) dX8_underWay_22 (by decide) ?_
          refine E_goto (tgt := 27) dX8_underWay_23 (by decide) ?_
          refine E_iadd dX8_underWay_27 ?_
          refine E_istore_nC (i := 1) dX8_underWay_28 rfl (by decide) rfl ?_
          refine E_lv (lv' := [_, _, _]) rfl ?_
          refine E_incC (c := 1) dX8_underWay_29 rfl (by decide) (by decide) rfl ?_
          refine E_lv (lv' := [_, _, _]) rfl ?_
          refine E_goto (tgt := 4) dX8_underWay_32 (by decide) ?_
          refine ih (j + 1) _ _ (by omega) (by omega) (by rw [hx, nI_1]) ?_
          unfold cz
          rw [hy, if_neg hz]
          exact nI_add _ 0
  refine E_iconst (v := 0) dX8_underWay_0 (by decide) ?_
  refine E_istore_nC (i := 1) dX8_underWay_1 rfl (by decide) rfl ?_
  refine E_lv (lv' := [_, _, _]) rfl ?_
  refine E_iconst (v := 0) dX8_underWay_2 (by decide) ?_
  refine E_istore_nC (i := 2) dX8_underWay_3 rfl (by decide) rfl ?_
  refine E_lv (lv' := [_, _, _]) rfl ?_
  exact loop k 0 _ _ (by omega) (by omega) rfl rfl
/-- what a State's ride's place in the row may hold -/
def RP (Γ : GE) (g : Sh) (P : HP) (I : HI) (B j : Nat) : Prop := P (B + 3) j = none ∨ ∃ r, P (B + 3) j = some r ∧ anyOf Γ g P I "GorgeWire$Ride" r
theorem c_X8_copyRide {B C j : Nat} {x : Int32} (hS : St g P B) (hC : St g P C) (hx : x = nI j) (hj : j < 8) (hp : RP Γ g P I C j) (hin : I (C + 7) j = 0 ∨ I (C + 7) j = 1) (hn : ∀ a b : Nat, a < 8 → b < 8 → C + a ≠ B + b) (hΦ : Φ none g (u2 P (B + 3) j (P (C + 3) j)) (u2 (u2 (u2 (u2 I (B + 4) j (I (C + 4) j)) (B + 5) j (I (C + 5) j)) (B + 6) j (I (C + 6) j)) (B + 7) j (I (C + 7) j))) : MM Γ mX8_copyRide d 0 0 [.ref B, .ref C, .int x] g P I Φ := by
  refine MM_entry [some _, some _, some _] (by decide) (Nat.le_of_ble_eq_true rfl) rfl ?_
  have s1 := hS.c
  have z1 := hC.c
  obtain ⟨a1, a2, a3⟩ := hS.ri
  obtain ⟨p1, p2, p3⟩ := hS.pl
  obtain ⟨q1, q2, q3⟩ := hS.pa
  obtain ⟨t1, t2, t3⟩ := hS.ca
  obtain ⟨u1, v2, u3⟩ := hS.in
  obtain ⟨A1, A2, A3⟩ := hC.ri
  obtain ⟨P1, P2, P3⟩ := hC.pl
  obtain ⟨Q1, Q2, Q3⟩ := hC.pa
  obtain ⟨T1, T2, T3⟩ := hC.ca
  obtain ⟨U1, V2, U3⟩ := hC.in
  have nb : ∀ {k : Nat} {v : Option Nat}, (u2 P (B + 3) j v) B k = P B k := fun {k v} => u2_o (by omega)
  have nc : ∀ {k : Nat} {v : Option Nat}, (u2 P (B + 3) j v) C k = P C k := fun {k v} => u2_o (fun h => hn 0 3 (by decide) (by decide) (by omega))
  have e5 : ∀ v, (u2 I (B + 4) j v) (C + 5) j = I (C + 5) j := fun v => u2_o (fun h => hn 5 4 (by decide) (by decide) h.1)
  have e6 : ∀ v v', (u2 (u2 I (B + 4) j v) (B + 5) j v') (C + 6) j = I (C + 6) j := fun v v' => by rw [u2_o (fun h => hn 6 5 (by decide) (by decide) h.1), u2_o (fun h => hn 6 4 (by decide) (by decide) h.1)]
  have e7 : ∀ v v' v'', (u2 (u2 (u2 I (B + 4) j v) (B + 5) j v') (B + 6) j v'') (C + 7) j = I (C + 7) j := fun v v' v'' => by rw [u2_o (fun h => hn 7 6 (by decide) (by decide) h.1), u2_o (fun h => hn 7 5 (by decide) (by decide) h.1), u2_o (fun h => hn 7 4 (by decide) (by decide) h.1)]
  rcases hp with hp | ⟨r, hp, hr⟩
  · rw [hp] at hΦ
    refine E_aload_n (i := 0) dX8_copyRide_0 rfl rfl ?_
    refine E_gr dX8_copyRide_1 gf_X8_20_8 rfl (by assumption) (by assumption) ?_
    refine E_iload_n (i := 2) dX8_copyRide_4 rfl rfl ?_
    refine E_aload_n (i := 1) dX8_copyRide_5 rfl rfl ?_
    refine E_gr dX8_copyRide_6 gf_X8_20_8 rfl (by assumption) (by assumption) ?_
    refine E_iload_n (i := 2) dX8_copyRide_9 rfl rfl ?_
    refine E_aajN (t := 1) j dX8_copyRide_10 (by decide) A2 hx (by rw [A3]; omega) (by omega) hp ?_
    refine E_asjN (t := 1) j dX8_copyRide_11 (by decide) a2 hx (by rw [a3]; omega) (by omega) ?_
    refine E_aload_n (i := 0) dX8_copyRide_12 rfl rfl ?_
    refine E_gr dX8_copyRide_13 gf_X8_24_8 rfl (by assumption) (by rw [nb]; assumption) ?_
    refine E_iload_n (i := 2) dX8_copyRide_16 rfl rfl ?_
    refine E_aload_n (i := 1) dX8_copyRide_17 rfl rfl ?_
    refine E_gr dX8_copyRide_18 gf_X8_24_8 rfl (by assumption) (by rw [nc]; assumption) ?_
    refine E_iload_n (i := 2) dX8_copyRide_21 rfl rfl ?_
    refine E_iaj j dX8_copyRide_22 (by assumption) hx (by omega) (by rw [P3]; omega) ?_
    refine E_isj j dX8_copyRide_23 (by assumption) hx (by first | decide | omega) (by rw [p3]; omega) ?_
    refine E_aload_n (i := 0) dX8_copyRide_24 rfl rfl ?_
    refine E_gr dX8_copyRide_25 gf_X8_28_8 rfl (by assumption) (by rw [nb]; assumption) ?_
    refine E_iload_n (i := 2) dX8_copyRide_28 rfl rfl ?_
    refine E_aload_n (i := 1) dX8_copyRide_29 rfl rfl ?_
    refine E_gr dX8_copyRide_30 gf_X8_28_8 rfl (by assumption) (by rw [nc]; assumption) ?_
    refine E_iload_n (i := 2) dX8_copyRide_33 rfl rfl ?_
    refine E_iaj j dX8_copyRide_34 (by assumption) hx (by omega) (by rw [Q3]; omega) ?_
    rw [e5]
    refine E_isj j dX8_copyRide_35 (by assumption) hx (by first | decide | omega) (by rw [q3]; omega) ?_
    refine E_aload_n (i := 0) dX8_copyRide_36 rfl rfl ?_
    refine E_gr dX8_copyRide_37 gf_X8_31_8 rfl (by assumption) (by rw [nb]; assumption) ?_
    refine E_iload_n (i := 2) dX8_copyRide_40 rfl rfl ?_
    refine E_aload_n (i := 1) dX8_copyRide_41 rfl rfl ?_
    refine E_gr dX8_copyRide_42 gf_X8_31_8 rfl (by assumption) (by rw [nc]; assumption) ?_
    refine E_iload_n (i := 2) dX8_copyRide_45 rfl rfl ?_
    refine E_iaj j dX8_copyRide_46 (by assumption) hx (by omega) (by rw [T3]; omega) ?_
    rw [e6]
    refine E_isj j dX8_copyRide_47 (by assumption) hx (by first | decide | omega) (by rw [t3]; omega) ?_
    refine E_aload_n (i := 0) dX8_copyRide_48 rfl rfl ?_
    refine E_gr dX8_copyRide_49 gf_X8_34_8 rfl (by assumption) (by rw [nb]; assumption) ?_
    refine E_iload_n (i := 2) dX8_copyRide_52 rfl rfl ?_
    refine E_aload_n (i := 1) dX8_copyRide_53 rfl rfl ?_
    refine E_gr dX8_copyRide_54 gf_X8_34_8 rfl (by assumption) (by rw [nc]; assumption) ?_
    refine E_iload_n (i := 2) dX8_copyRide_57 rfl rfl ?_
    refine E_zaj j dX8_copyRide_58 (by assumption) hx (by omega) (by rw [U3]; omega) ?_
    rw [e7]
    refine E_zsj j dX8_copyRide_59 (by assumption) hx (by first | decide | omega) (by rw [u3]; omega) (by first | exact Or.inl rfl | exact Or.inr rfl | assumption) ?_
    refine E_vret dX8_copyRide_60 rfl ?_
    exact hΦ
  · rw [hp] at hΦ
    refine E_aload_n (i := 0) dX8_copyRide_0 rfl rfl ?_
    refine E_gr dX8_copyRide_1 gf_X8_20_8 rfl (by assumption) (by assumption) ?_
    refine E_iload_n (i := 2) dX8_copyRide_4 rfl rfl ?_
    refine E_aload_n (i := 1) dX8_copyRide_5 rfl rfl ?_
    refine E_gr dX8_copyRide_6 gf_X8_20_8 rfl (by assumption) (by assumption) ?_
    refine E_iload_n (i := 2) dX8_copyRide_9 rfl rfl ?_
    refine E_aaj (t := 1) j dX8_copyRide_10 (by decide) A2 hx (by rw [A3]; omega) (by omega) hp ?_
    refine E_asj (t := 1) j dX8_copyRide_11 (by decide) a2 hx (by rw [a3]; omega) (by omega) hr ?_
    refine E_aload_n (i := 0) dX8_copyRide_12 rfl rfl ?_
    refine E_gr dX8_copyRide_13 gf_X8_24_8 rfl (by assumption) (by rw [nb]; assumption) ?_
    refine E_iload_n (i := 2) dX8_copyRide_16 rfl rfl ?_
    refine E_aload_n (i := 1) dX8_copyRide_17 rfl rfl ?_
    refine E_gr dX8_copyRide_18 gf_X8_24_8 rfl (by assumption) (by rw [nc]; assumption) ?_
    refine E_iload_n (i := 2) dX8_copyRide_21 rfl rfl ?_
    refine E_iaj j dX8_copyRide_22 (by assumption) hx (by omega) (by rw [P3]; omega) ?_
    refine E_isj j dX8_copyRide_23 (by assumption) hx (by first | decide | omega) (by rw [p3]; omega) ?_
    refine E_aload_n (i := 0) dX8_copyRide_24 rfl rfl ?_
    refine E_gr dX8_copyRide_25 gf_X8_28_8 rfl (by assumption) (by rw [nb]; assumption) ?_
    refine E_iload_n (i := 2) dX8_copyRide_28 rfl rfl ?_
    refine E_aload_n (i := 1) dX8_copyRide_29 rfl rfl ?_
    refine E_gr dX8_copyRide_30 gf_X8_28_8 rfl (by assumption) (by rw [nc]; assumption) ?_
    refine E_iload_n (i := 2) dX8_copyRide_33 rfl rfl ?_
    refine E_iaj j dX8_copyRide_34 (by assumption) hx (by omega) (by rw [Q3]; omega) ?_
    rw [e5]
    refine E_isj j dX8_copyRide_35 (by assumption) hx (by first | decide | omega) (by rw [q3]; omega) ?_
    refine E_aload_n (i := 0) dX8_copyRide_36 rfl rfl ?_
    refine E_gr dX8_copyRide_37 gf_X8_31_8 rfl (by assumption) (by rw [nb]; assumption) ?_
    refine E_iload_n (i := 2) dX8_copyRide_40 rfl rfl ?_
    refine E_aload_n (i := 1) dX8_copyRide_41 rfl rfl ?_
    refine E_gr dX8_copyRide_42 gf_X8_31_8 rfl (by assumption) (by rw [nc]; assumption) ?_
    refine E_iload_n (i := 2) dX8_copyRide_45 rfl rfl ?_
    refine E_iaj j dX8_copyRide_46 (by assumption) hx (by omega) (by rw [T3]; omega) ?_
    rw [e6]
    refine E_isj j dX8_copyRide_47 (by assumption) hx (by first | decide | omega) (by rw [t3]; omega) ?_
    refine E_aload_n (i := 0) dX8_copyRide_48 rfl rfl ?_
    refine E_gr dX8_copyRide_49 gf_X8_34_8 rfl (by assumption) (by rw [nb]; assumption) ?_
    refine E_iload_n (i := 2) dX8_copyRide_52 rfl rfl ?_
    refine E_aload_n (i := 1) dX8_copyRide_53 rfl rfl ?_
    refine E_gr dX8_copyRide_54 gf_X8_34_8 rfl (by assumption) (by rw [nc]; assumption) ?_
    refine E_iload_n (i := 2) dX8_copyRide_57 rfl rfl ?_
    refine E_zaj j dX8_copyRide_58 (by assumption) hx (by omega) (by rw [U3]; omega) ?_
    rw [e7]
    refine E_zsj j dX8_copyRide_59 (by assumption) hx (by first | decide | omega) (by rw [u3]; omega) (by first | exact Or.inl rfl | exact Or.inr rfl | assumption) ?_
    refine E_vret dX8_copyRide_60 rfl ?_
    exact hΦ
end
