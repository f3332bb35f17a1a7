/-! State: reads, a ride's tick -/
section Rules
variable {Γ : GE} {μ : MD} {d mc ms rc rs pc : Nat} {QQ : List Frame → Array Value → State → State → Prop} {lv : List (Option Value)} {st : List Value} {g : Sh} {P : HP} {I : HI}
theorem nI_vp {j n : Nat} (h : j < n) (h2 : j < 2 ^ 31) : vp_in (nI j) n := by
  unfold vp_in
  rw [nI_clamp h2]
  exact fun h => h.elim (nI_pos h2) (fun h => by omega)
theorem E_aaj {a t b : Nat} (j : Nat) {i : Int32} (hd : decode μ.2.1 pc = .ok (.aaload, 1)) (ht : t < 3) (hc : Cel g a (15 + t)) (hx : i = nI j) (hj : j < g.2.2 a) (hj2 : j < 2 ^ 31) (hp : P a j = some b)
    (kk : E Γ μ d mc ms QQ rc rs (pc + 1) lv (.ref b :: st) g P I) : E Γ μ d mc ms QQ rc rs pc lv (.int i :: .ref a :: st) g P I := by
  subst hx
  exact E_aald hd ht hc.1 hc.2.1 hc.2.2 (nI_vp hj hj2) (by rw [nI_clamp hj2]; exact hp) kk
theorem E_aajN {a t : Nat} (j : Nat) {i : Int32} (hd : decode μ.2.1 pc = .ok (.aaload, 1)) (ht : t < 3) (hc : Cel g a (15 + t)) (hx : i = nI j) (hj : j < g.2.2 a) (hj2 : j < 2 ^ 31) (hp : P a j = none)
    (kk : E Γ μ d mc ms QQ rc rs (pc + 1) lv (.null :: st) g P I) : E Γ μ d mc ms QQ rc rs pc lv (.int i :: .ref a :: st) g P I := by
  subst hx
  exact E_aaldN hd ht hc.1 hc.2.1 hc.2.2 (nI_vp hj hj2) (by rw [nI_clamp hj2]; exact hp) kk
theorem E_asj {a t b : Nat} (j : Nat) {i : Int32} (hd : decode μ.2.1 pc = .ok (.aastore, 1)) (ht : t < 3) (hc : Cel g a (15 + t)) (hx : i = nI j) (hj : j < g.2.2 a) (hj2 : j < 2 ^ 31) (hb : anyOf Γ g P I (["GorgeWire$Row", "GorgeWire$Ride", "java/lang/String"].getD t "") b)
    (kk : E Γ μ d mc ms QQ rc rs (pc + 1) lv st g (u2 P a j (some b)) I) : E Γ μ d mc ms QQ rc rs pc lv (.ref b :: .int i :: .ref a :: st) g P I := by
  subst hx
  refine E_aast hd ht hc.1 hc.2.1 hc.2.2 (nI_vp hj hj2) hb ?_
  rw [nI_clamp hj2]
  exact kk
theorem E_asjN {a t : Nat} (j : Nat) {i : Int32} (hd : decode μ.2.1 pc = .ok (.aastore, 1)) (ht : t < 3) (hc : Cel g a (15 + t)) (hx : i = nI j) (hj : j < g.2.2 a) (hj2 : j < 2 ^ 31)
    (kk : E Γ μ d mc ms QQ rc rs (pc + 1) lv st g (u2 P a j none) I) : E Γ μ d mc ms QQ rc rs pc lv (.null :: .int i :: .ref a :: st) g P I := by
  subst hx
  refine E_aastN hd ht hc.1 hc.2.1 hc.2.2 (nI_vp hj hj2) ?_
  rw [nI_clamp hj2]
  exact kk
end Rules
/-- nearer to 0 -/
def rub (p r : Int32) : Int32 := if 0 < p then (if 0 < p - r then p - r else 0) else (if p + r < 0 then p + r else 0)
section
variable {Γ : GE} {d : Nat} {g : Sh} {P : HP} {I : HI} {Φ : Option Value → Sh → HP → HI → Prop}
theorem c_rideAt_in {B k j r : Nat} {x : Int32} (hd : 1 ≤ d) (hS : St g P B) (hk : I B 7 = nI k) (hk8 : k ≤ 8) (hj : j < k) (hx : x = nI j) (hp : P (B + 3) j = some r) (hΦ : Φ (some (.ref r)) g P I) : MM Γ mX8_rideAt d 0 0 [.ref B, .int x] g P I Φ := by
  refine MM_entry [some _, some _] (by decide) (Nat.le_of_ble_eq_true rfl) rfl ?_
  have s1 := hS.c
  obtain ⟨s2, s3, s4⟩ := hS.ri
  have hc : 0 ≤ x ∧ x ≤ I B 7 - 1 := by rw [hk]; exact (in_rat (by omega)).mpr (by rw [hx, nI_toInt (by omega)]; omega)
  refine E_iload_n (i := 1) dX8_rideAt_0 rfl rfl ?_
  refine E_iconst (v := 0) dX8_rideAt_1 (by decide) ?_
  refine E_aload_n (i := 0) dX8_rideAt_2 rfl rfl ?_
  refine E_gi dX8_rideAt_3 gf_X8_38_8 rfl (by assumption) ?_
  refine E_iconst (v := 1) dX8_rideAt_6 (by decide) ?_
  refine E_isub dX8_rideAt_7 ?_
  refine k_X8_rideAt_8 (mc' := 0) (ms' := 0) (rc := 0) (rs := 0) (by omega) (Nat.le_of_ble_eq_true rfl) (c_X11_within ?_)
  rw [bz_t hc]
  refine E_if_eq (tgt := 23) dX8_rideAt_11 (by decide) (fun c_11 => absurd c_11 (by decide)) (fun c_11 => ?_)
  refine E_aload_n (i := 0) dX8_rideAt_14 rfl rfl ?_
  refine E_gr dX8_rideAt_15 gf_X8_20_8 rfl (by assumption) (by assumption) ?_
  refine E_iload_n (i := 1) dX8_rideAt_18 rfl rfl ?_
  refine E_aaj (t := 1) j dX8_rideAt_19 (by decide) s3 hx (by rw [s4]; omega) (by omega) hp ?_
  refine E_goto (tgt := 24) dX8_rideAt_20 (by decide) ?_
  refine E_aret dX8_rideAt_24 rfl (Or.inl ⟨_, rfl⟩) (Or.inr ⟨_, rfl⟩) ?_
  exact hΦ
theorem c_rideAt_out {B : Nat} {x : Int32} (hd : 1 ≤ d) (hS : St g P B) (hx : ¬ (0 ≤ x ∧ x ≤ I B 7 - 1)) (hΦ : Φ (some .null) g P I) : MM Γ mX8_rideAt d 0 0 [.ref B, .int x] g P I Φ := by
  refine MM_entry [some _, some _] (by decide) (Nat.le_of_ble_eq_true rfl) rfl ?_
  have s1 := hS.c
  refine E_iload_n (i := 1) dX8_rideAt_0 rfl rfl ?_
  refine E_iconst (v := 0) dX8_rideAt_1 (by decide) ?_
  refine E_aload_n (i := 0) dX8_rideAt_2 rfl rfl ?_
  refine E_gi dX8_rideAt_3 gf_X8_38_8 rfl (by assumption) ?_
  refine E_iconst (v := 1) dX8_rideAt_6 (by decide) ?_
  refine E_isub dX8_rideAt_7 ?_
  refine k_X8_rideAt_8 (mc' := 0) (ms' := 0) (rc := 0) (rs := 0) (by omega) (Nat.le_of_ble_eq_true rfl) (c_X11_within ?_)
  rw [bz_f hx]
  refine E_if_eq (tgt := 23) dX8_rideAt_11 (by decide) (fun c_11 => ?_) (fun c_11 => absurd (rfl) c_11)
  refine E_null dX8_rideAt_23 ?_
  refine E_aret dX8_rideAt_24 rfl (Or.inl ⟨_, rfl⟩) (Or.inl rfl) ?_
  exact hΦ
theorem c_X8_rubbed {p r : Int32} (hd : 1 ≤ d) (hΦ : Φ (some (.int (rub p r))) g P I) : MM Γ mX8_rubbed d 0 0 [.int p, .int r] g P I Φ := by
  refine MM_entry [some _, some _] (by decide) (Nat.le_of_ble_eq_true rfl) rfl ?_
  unfold rub at hΦ
  by_cases hc : 0 < p
  · rw [if_pos hc] at hΦ
    refine E_iload_n (i := 0) dX8_rubbed_0 rfl rfl ?_
    refine E_if_le (tgt := 14) dX8_rubbed_1 (by decide) (fun c_1 => absurd c_1 (Int32.not_le.mpr hc)) (fun c_1 => ?_)
    refine E_iconst (v := 0) dX8_rubbed_4 (by decide) ?_
    refine E_iload_n (i := 0) dX8_rubbed_5 rfl rfl ?_
    refine E_iload_n (i := 1) dX8_rubbed_6 rfl rfl ?_
    refine E_isub dX8_rubbed_7 ?_
    refine E_max dX8_rubbed_8 w_815 w_112 w_74 w_113 (Nat.le_of_ble_eq_true rfl) (by omega) ?_
    refine E_goto (tgt := 21) dX8_rubbed_11 (by decide) ?_
    refine E_iret dX8_rubbed_21 rfl ?_
    exact hΦ
  · rw [if_neg hc] at hΦ
    refine E_iload_n (i := 0) dX8_rubbed_0 rfl rfl ?_
    refine E_if_le (tgt := 14) dX8_rubbed_1 (by decide) (fun c_1 => ?_) (fun c_1 => absurd (Int32.not_lt.mp hc) c_1)
    refine E_iconst (v := 0) dX8_rubbed_14 (by decide) ?_
    refine E_iload_n (i := 0) dX8_rubbed_15 rfl rfl ?_
    refine E_iload_n (i := 1) dX8_rubbed_16 rfl rfl ?_
    refine E_iadd dX8_rubbed_17 ?_
    refine E_min dX8_rubbed_18 w_380 w_381 w_74 w_382 (Nat.le_of_ble_eq_true rfl) (by omega) ?_
    refine E_iret dX8_rubbed_21 rfl ?_
    exact hΦ
theorem c_X8_textOf {B : Nat} {x : Int32} (hS : St g P B) (hΦ : Φ (some (.ref (if x = 0 then B + 10 else B + 12))) g P I) : MM Γ mX8_textOf d 0 0 [.ref B, .int x] g P I Φ := by
  refine MM_entry [some _, some _] (by decide) (Nat.le_of_ble_eq_true rfl) rfl ?_
  have s1 := hS.c
  have s2 := hS.wear.1
  have s3 := hS.goes.1
  by_cases hc : x = 0
  · rw [if_pos hc] at hΦ
    refine E_iload_n (i := 1) dX8_textOf_0 rfl rfl ?_
    refine E_if_ne (tgt := 11) dX8_textOf_1 (by decide) (fun c_1 => absurd (hc) c_1) (fun c_1 => ?_)
    refine E_aload_n (i := 0) dX8_textOf_4 rfl rfl ?_
    refine E_gr dX8_textOf_5 gf_X8_57_8 rfl (by assumption) (by assumption) ?_
    refine E_goto (tgt := 15) dX8_textOf_8 (by decide) ?_
    refine E_aret dX8_textOf_15 rfl (Or.inl ⟨_, rfl⟩) (Or.inr ⟨_, rfl⟩) ?_
    exact hΦ
  · rw [if_neg hc] at hΦ
    refine E_iload_n (i := 1) dX8_textOf_0 rfl rfl ?_
    refine E_if_ne (tgt := 11) dX8_textOf_1 (by decide) (fun c_1 => ?_) (fun c_1 => absurd c_1 (hc))
    refine E_aload_n (i := 0) dX8_textOf_11 rfl rfl ?_
    refine E_gr dX8_textOf_12 gf_X8_60_8 rfl (by assumption) (by assumption) ?_
    refine E_aret dX8_textOf_15 rfl (Or.inl ⟨_, rfl⟩) (Or.inr ⟨_, rfl⟩) ?_
    exact hΦ
/-- a draw -/
def dz (z : Int32) : Int32 := z * 1103515245 + 12345
def dv (z : Int32) : Int32 := (z.toUInt32 >>> ((8 : Int32).toUInt32 &&& Int32.toUInt32 31)).toInt32
theorem c_X8_draw {B : Nat} (hS : St g P B) (hΦ : Φ (some (.int (dv (dz (I B 9))))) g P (u2 I B 9 (dz (I B 9)))) : MM Γ mX8_draw d 0 0 [.ref B] g P I Φ := by
  refine MM_entry [some _] (by decide) (Nat.le_of_ble_eq_true rfl) rfl ?_
  have s1 := hS.c
  unfold dv dz at hΦ
  refine E_aload_n (i := 0) dX8_draw_0 rfl rfl ?_
  refine E_aload_n (i := 0) dX8_draw_1 rfl rfl ?_
  refine E_gi dX8_draw_2 gf_X8_45_8 rfl (by assumption) ?_
  refine E_ldc (v := 1103515245) dX8_draw_5 w_836 ?_
  refine E_imul dX8_draw_7 ?_
  refine E_sipush (v := 12345) dX8_draw_8 (by decide) ?_
  refine E_iadd dX8_draw_11 ?_
  refine E_pi dX8_draw_12 gf_X8_45_8 rfl (by assumption) ?_
  refine E_aload_n (i := 0) dX8_draw_15 rfl rfl ?_
  refine E_gi dX8_draw_16 gf_X8_45_8 rfl (by assumption) ?_
  rw [u2_s]
  refine E_bipush (v := 8) dX8_draw_19 (by decide) ?_
  refine E_iushr dX8_draw_21 ?_
  refine E_iret dX8_draw_22 rfl ?_
  exact hΦ
theorem c_X8_comeIn {B i : Nat} {x : Int32} (hd : 1 ≤ d) (hS : St g P B) (hx : x = nI i) (hi : i < 8) (hΦ : Φ none g P (u2 (u2 (u2 (u2 I (B + 4) i (10 * I (B + 2) 0)) (B + 6) i (I (B + 5) i)) (B + 5) i 0) (B + 7) i 1)) : MM Γ mX8_comeIn d 0 0 [.ref B, .int x] g P I Φ := by
  refine MM_entry [some _, some _] (by decide) (Nat.le_of_ble_eq_true rfl) rfl ?_
  have s1 := hS.c
  have s2 := hS.wp
  have s3 := hS.wi
  have s4 := s3.1
  obtain ⟨p1, p2, p3⟩ := hS.pl
  obtain ⟨q1, q2, q3⟩ := hS.pa
  obtain ⟨t1, t2, t3⟩ := hS.ca
  obtain ⟨u1, u2', u3⟩ := hS.in
  refine E_aload_n (i := 0) dX8_comeIn_0 rfl rfl ?_
  refine E_gr dX8_comeIn_1 gf_X8_24_8 rfl (by assumption) (by assumption) ?_
  refine E_iload_n (i := 1) dX8_comeIn_4 rfl rfl ?_
  refine E_aload_n (i := 0) dX8_comeIn_5 rfl rfl ?_
  refine E_gr dX8_comeIn_6 gf_X8_12_8 rfl (by assumption) (by assumption) ?_
  refine k_X8_comeIn_9 (mc' := 0) (ms' := 0) (rc := 0) (rs := 0) (by omega) (Nat.le_of_ble_eq_true rfl) (by assumption) (c_X10_end s3 ?_)
  refine E_isj i dX8_comeIn_12 (by assumption) hx (by first | decide | omega) (by rw [p3]; omega) ?_
  refine E_aload_n (i := 0) dX8_comeIn_13 rfl rfl ?_
  refine E_gr dX8_comeIn_14 gf_X8_31_8 rfl (by assumption) (by assumption) ?_
  refine E_iload_n (i := 1) dX8_comeIn_17 rfl rfl ?_
  refine E_aload_n (i := 0) dX8_comeIn_18 rfl rfl ?_
  refine E_gr dX8_comeIn_19 gf_X8_28_8 rfl (by assumption) (by assumption) ?_
  refine E_iload_n (i := 1) dX8_comeIn_22 rfl rfl ?_
  refine E_iaj i dX8_comeIn_23 (by assumption) hx (by omega) (by rw [q3]; omega) ?_
  rw [u2_oth _ (show B + 5 ≠ B + 4 by omega)]
  refine E_isj i dX8_comeIn_24 (by assumption) hx (by first | decide | omega) (by rw [t3]; omega) ?_
  refine E_aload_n (i := 0) dX8_comeIn_25 rfl rfl ?_
  refine E_gr dX8_comeIn_26 gf_X8_28_8 rfl (by assumption) (by assumption) ?_
  refine E_iload_n (i := 1) dX8_comeIn_29 rfl rfl ?_
  refine E_iconst (v := 0) dX8_comeIn_30 (by decide) ?_
  refine E_isj i dX8_comeIn_31 (by assumption) hx (by first | decide | omega) (by rw [q3]; omega) ?_
  refine E_aload_n (i := 0) dX8_comeIn_32 rfl rfl ?_
  refine E_gr dX8_comeIn_33 gf_X8_34_8 rfl (by assumption) (by assumption) ?_
  refine E_iload_n (i := 1) dX8_comeIn_36 rfl rfl ?_
  refine E_iconst (v := 1) dX8_comeIn_37 (by decide) ?_
  refine E_zsj i dX8_comeIn_38 (by assumption) hx (by first | decide | omega) (by rw [u3]; omega) (by first | exact Or.inl rfl | exact Or.inr rfl | assumption) ?_
  refine E_vret dX8_comeIn_39 rfl ?_
  exact hΦ
end
