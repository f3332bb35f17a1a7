/-! the class's reader -/
/-- the reader, its text (row r, numbers q, n there), its use -/
def RX (g : Sh) (P : HP) (I : HI) (r q n u : Nat) : Prop := Cel g 17 4 ∧ P 17 0 = some 18 ∧ AS g 18 13 4 ∧ P 17 1 = some r ∧ Rw g P I r q 50 n ∧ P 17 2 = some (1 + u) ∧ u ≤ 1 ∧ ∀ i, i < n → ∃ b, b < 256 ∧ I q i = nI b
/-- where the reader is -/
def RC (I J : HI) (n : Nat) (σ : PS) : Prop := (∀ a, a ≠ 17 → J a = I a) ∧ J 17 3 = nI σ.1 ∧ J 17 4 = (if σ.2.1 = true then nI σ.1 else -1) ∧ σ.1 ≤ n
/-- the value is what the code between leaves -/
def RV (nm : Nat → Int32) (σ σ' : PS) (v : Int32) : Prop := σ'.2.1 = false → ∃ δ, σ'.2.2 = σ.2.2 ++ δ ∧ ∀ s, xec nm δ s = v :: s
theorem dig_go {t : Nat → Int32} {n k : Nat} {v : Int32} {σ : PS} (h : 48 ≤ hr t n σ ∧ hr t n σ ≤ 57) : dig t n (k + 1) v σ = dig t n k (10 * v + hr t n σ - 48) (adv σ) := if_pos h
theorem dig_no {t : Nat → Int32} {n k : Nat} {v : Int32} {σ : PS} (h : ¬ (48 ≤ hr t n σ ∧ hr t n σ ≤ 57)) : dig t n (k + 1) v σ = (v, σ) := if_neg h
theorem RX.rq {g : Sh} {P : HP} {I : HI} {r q n u : Nat} (h : RX g P I r q n u) : r ≠ 17 ∧ q ≠ 17 ∧ n ≤ 50 := by
  obtain ⟨x1, -, -, -, ⟨y1, -, y3, -, -, y6, -⟩, -⟩ := h
  refine ⟨fun e => ?_, fun e => ?_, y6⟩
  · have a := y1.1
    rw [e, x1.1] at a
    exact absurd a (by decide)
  · have a := y3.1
    rw [e, x1.1] at a
    exact absurd a (by decide)
theorem RC_adv {I J : HI} {n : Nat} {σ : PS} (h : RC I J n σ) (hp : σ.1 < n) (hw : σ.2.1 = false) : RC I (u2 J 17 3 (J 17 3 + 1)) n (adv σ) := by
  obtain ⟨j1, j2, j3, j4⟩ := h
  refine ⟨fun a ha => by rw [u2_oth _ ha]; exact j1 a ha, by rw [u2_s, j2, nI_1]; rfl, ?_, hp⟩
  rw [u2_o (by decide), j3, hw]
  show _ = if σ.2.1 = true then _ else _
  rw [hw]
  rfl
theorem RC_wrg {I J : HI} {n : Nat} {σ : PS} (h : RC I J n σ) : RC I (u2 J 17 4 (J 17 3)) n (wrg σ) := by
  obtain ⟨j1, j2, j3, j4⟩ := h
  refine ⟨fun a ha => by rw [u2_oth _ ha]; exact j1 a ha, by rw [u2_o (by decide), j2]; rfl, ?_, j4⟩
  rw [u2_s, j2]
  rfl
theorem RC_w {I J : HI} {n : Nat} {σ : PS} (h : RC I J n σ) (hw : σ.2.1 = true) : RC I J n (wrg σ) := by
  obtain ⟨j1, j2, j3, j4⟩ := h
  rw [hw] at j3
  exact ⟨j1, j2, j3, j4⟩
theorem RC_emt {I J : HI} {n : Nat} {σ : PS} {v : Int32} (h : RC I J n σ) : RC I J n (emt v σ) := by
  obtain ⟨j1, j2, j3, j4⟩ := h
  refine ⟨j1, by rw [(emt_1 v σ).1]; exact j2, by rw [(emt_1 v σ).1, (emt_1 v σ).2]; exact j3, by rw [(emt_1 v σ).1]; exact j4⟩
theorem RV_eq {nm : Nat → Int32} {σ σ' : PS} {v v' : Int32} (h : RV nm σ σ' v) (e : v = v') : RV nm σ σ' v' := e ▸ h
theorem xc_op {nm : Nat → Int32} {o a b : Int32} {s : List Int32} (h1 : 20000 ≤ o) (h2 : o ≤ 20009) : xc1 nm (b :: a :: s) o = dnO o a b :: s := by
  have q1 := i32_le.mp h1
  have q2 := i32_le.mp h2
  rw [show (20000 : Int32).toInt = 20000 from rfl] at q1
  rw [show (20009 : Int32).toInt = 20009 from rfl] at q2
  have e1 : ¬ o < 20000 := fun q => by have := i32_lt.mp q; rw [show (20000 : Int32).toInt = 20000 from rfl] at this; omega
  have e2 : ¬ o = 20010 := fun q => by rw [q] at q2; exact absurd q2 (by decide)
  unfold xc1
  rw [if_neg e1, if_neg e2]
theorem RV_op {nm : Nat → Int32} {t : Nat → Int32} {n : Nat} {σ0 σ σ2 : PS} {o v v2 : Int32} (h : RV nm σ0 σ v) (hc : ¬ hr t n σ = -1) (h2 : RV nm (adv σ) σ2 v2) (o1 : 20000 ≤ o) (o2 : o ≤ 20009) : RV nm σ0 (emt o σ2) (dnO o v v2) := by
  intro hw
  rw [(emt_1 o σ2).2] at hw
  obtain ⟨δ, a1, a2⟩ := h (hr_lt hc).1
  obtain ⟨δ2, b1, b2⟩ := h2 hw
  refine ⟨δ ++ δ2 ++ [o], ?_, fun s => ?_⟩
  · rw [emt_f hw]
    show σ2.2.2 ++ [o] = _
    rw [b1]
    show σ.2.2 ++ δ2 ++ [o] = _
    rw [a1]
    simp only [List.append_assoc]
  · rw [xec_app, xec_app, a2, b2]
    exact xc_op o1 o2
theorem RV_w {nm : Nat → Int32} {σ σ' : PS} {v : Int32} : RV nm σ (wrg σ') v := fun h => by cases h
theorem RV_not {nm : Nat → Int32} {σ σ2 : PS} {v : Int32} (h : RV nm (adv σ) σ2 v) : RV nm σ (emt 20010 σ2) (if v = 0 then 1 else 0) := by
  intro hw
  rw [(emt_1 20010 σ2).2] at hw
  obtain ⟨δ, a1, a2⟩ := h hw
  refine ⟨δ ++ [20010], ?_, fun s => ?_⟩
  · rw [emt_f hw]
    show σ2.2.2 ++ [20010] = _
    rw [a1]
    show σ.2.2 ++ δ ++ [20010] = _
    rw [List.append_assoc]
  · rw [xec_app, a2]
    rfl
theorem RV_par {nm : Nat → Int32} {σ σ2 : PS} {v : Int32} (h : RV nm (adv σ) σ2 v) : RV nm σ (adv σ2) v := h
theorem RV_num {nm : Nat → Int32} {σ σ2 : PS} {v : Int32} (e : σ2.2 = σ.2) (h0 : 0 ≤ v.toInt) (h : v.toInt < 10000) : RV nm σ (emt v σ2) v := by
  intro hw
  rw [(emt_1 v σ2).2] at hw
  refine ⟨[v], ?_, fun s => ?_⟩
  · rw [emt_f hw, e]
  · have e1 : v < 20000 := i32_lt.mpr (by show v.toInt < 20000; omega)
    have e2 : v < 10000 := i32_lt.mpr h
    show xc1 nm s v = _
    unfold xc1
    rw [if_pos e1, if_pos e2]
theorem RV_nam {nm : Nat → Int32} {σ : PS} {i : Nat} (hi : i < 4) (hw : σ.2.1 = false) : RV nm σ (adv (emt (10000 + nI i) σ)) (nm i) := by
  intro _
  refine ⟨[10000 + nI i], ?_, fun s => ?_⟩
  · show (emt (10000 + nI i) σ).2.2 = _
    rw [emt_f hw]
  · match i, hi with
    | 0, _ => rfl
    | 1, _ => rfl
    | 2, _ => rfl
    | 3, _ => rfl
theorem RV_id {nm : Nat → Int32} {σ σ' σ'' : PS} {v : Int32} (h : RV nm σ σ' v) (e : σ' = σ'') : RV nm σ σ'' v := e ▸ h
theorem RC_id {I J : HI} {n : Nat} {σ σ' : PS} (h : RC I J n σ) (e : σ = σ') : RC I J n σ' := e ▸ h
theorem dn_0 {a b : Int32} (h : ¬ a = 0 ∨ ¬ b = 0) : 1 = dnO 20000 a b := by unfold dnO; rw [if_pos rfl, bz_t h]
theorem dn_0f {a b : Int32} (h : a = 0) (h2 : b = 0) : 0 = dnO 20000 a b := by unfold dnO; rw [if_pos rfl, bz_f (fun q => q.elim (fun q => q h) (fun q => q h2))]
theorem dn_1 {a b : Int32} (h : ¬ a = 0) (h2 : ¬ b = 0) : 1 = dnO 20001 a b := by unfold dnO; rw [if_neg (by decide), if_pos rfl, bz_t ⟨h, h2⟩]
theorem dn_1f {a b : Int32} (h : a = 0 ∨ b = 0) : 0 = dnO 20001 a b := by unfold dnO; rw [if_neg (by decide), if_pos rfl, bz_f (fun q => h.elim q.1 q.2)]
theorem dn_2 {a b : Int32} : dnO 20002 a b = bz (a < b) := by unfold dnO; rw [if_neg (by decide), if_neg (by decide), if_pos rfl]
theorem dn_3 {a b : Int32} : dnO 20003 a b = bz (a = b) := by unfold dnO; rw [if_neg (by decide), if_neg (by decide), if_neg (by decide), if_pos rfl]
theorem dn_4 {a b : Int32} : dnO 20004 a b = bz (b < a) := by unfold dnO; rw [if_neg (by decide), if_neg (by decide), if_neg (by decide), if_neg (by decide), if_pos rfl]
theorem dn_5 {a b : Int32} : a + b = dnO 20005 a b := by unfold dnO; rw [if_neg (by decide), if_neg (by decide), if_neg (by decide), if_neg (by decide), if_neg (by decide), if_pos rfl]
theorem dn_6 {a b : Int32} : a - b = dnO 20006 a b := by unfold dnO; rw [if_neg (by decide), if_neg (by decide), if_neg (by decide), if_neg (by decide), if_neg (by decide), if_neg (by decide), if_pos rfl]
theorem dn_7 {a b : Int32} : a * b = dnO 20007 a b := by unfold dnO; rw [if_neg (by decide), if_neg (by decide), if_neg (by decide), if_neg (by decide), if_neg (by decide), if_neg (by decide), if_neg (by decide), if_pos rfl]
theorem dn_8 {a b : Int32} : dnO 20008 a b = if b = 0 then 0 else a / b := by unfold dnO; rw [if_neg (by decide), if_neg (by decide), if_neg (by decide), if_neg (by decide), if_neg (by decide), if_neg (by decide), if_neg (by decide), if_neg (by decide), if_pos rfl]
theorem dn_9 {a b : Int32} : dnO 20009 a b = if b = 0 then 0 else a - a / b * b := by unfold dnO; rw [if_neg (by decide), if_neg (by decide), if_neg (by decide), if_neg (by decide), if_neg (by decide), if_neg (by decide), if_neg (by decide), if_neg (by decide), if_neg (by decide)]
theorem dn_8z {a b : Int32} (h : b = 0) : 0 = dnO 20008 a b := by rw [dn_8, if_pos h]
theorem dn_8n {a b : Int32} (h : ¬ b = 0) : a / b = dnO 20008 a b := by rw [dn_8, if_neg h]
theorem dn_9z {a b : Int32} (h : b = 0) : 0 = dnO 20009 a b := by rw [dn_9, if_pos h]
theorem dn_9n {a b : Int32} (h : ¬ b = 0) : a - a / b * b = dnO 20009 a b := by rw [dn_9, if_neg h]
section
variable {Γ : GE} {d : Nat} {g : Sh} {P : HP} {I J : HI} {Φ : Option Value → Sh → HP → HI → Prop} {r q n u : Nat} {σ : PS}
theorem c_next (hX : RX g P I r q n u) (hJ : RC I J n σ) (hΦ : Φ (some (.int (hr (I q) n σ))) g P J) : MM Γ mX4_next d 0 0 [.ref 17] g P J Φ := by
  refine MM_entry [some _] (by decide) (Nat.le_of_ble_eq_true rfl) rfl ?_
  obtain ⟨nr, nq, n50⟩ := hX.rq
  obtain ⟨x1, x2, x3, x4, ⟨y1, y2, y3, y4, y5, y6, y7⟩, x9⟩ := hX
  obtain ⟨j1, j2, j3, j4⟩ := hJ
  have er : J r 1 = nI n := by rw [j1 r nr]; exact y5
  have eq : J q = I q := j1 q nq
  unfold hr at hΦ
  cases hw : σ.2.1 with
  | true =>
    rw [hw, if_neg (fun h => by cases h.1)] at hΦ
    rw [hw, if_pos rfl] at j3
    refine E_aload_n (i := 0) dX4_next_0 rfl rfl ?_
    refine E_gi dX4_next_1 gf_X4_34_4 rfl (by assumption) ?_
    refine E_if_ge (tgt := 36) dX4_next_4 (by decide) (fun c_4 => ?_) (fun c_4 => absurd (by rw [j3]; exact nI_pos' (by omega)) c_4)
    refine E_iconst (v := -1) dX4_next_36 (by decide) ?_
    refine E_iret dX4_next_37 rfl ?_
    exact hΦ
  | false =>
    rw [hw, if_neg (by decide)] at j3
    by_cases hp : σ.1 < n
    · rw [if_pos ⟨hw, hp⟩, ← eq] at hΦ
      refine E_aload_n (i := 0) dX4_next_0 rfl rfl ?_
      refine E_gi dX4_next_1 gf_X4_34_4 rfl (by assumption) ?_
      refine E_if_ge (tgt := 36) dX4_next_4 (by decide) (fun c_4 => absurd c_4 (by rw [j3]; decide)) (fun c_4 => ?_)
      refine E_aload_n (i := 0) dX4_next_7 rfl rfl ?_
      refine E_gi dX4_next_8 gf_X4_30_4 rfl (by assumption) ?_
      refine E_aload_n (i := 0) dX4_next_11 rfl rfl ?_
      refine E_gr dX4_next_12 gf_X4_20_4 rfl (by assumption) (by assumption) ?_
      refine E_gi dX4_next_15 gf_X4_60_7 rfl (by assumption) ?_
      refine E_icmp_ge (tgt := 36) dX4_next_18 (by decide) (fun c_18 => absurd c_18 (by rw [j2, er]; exact nI_ge hp (by omega))) (fun c_18 => ?_)
      refine E_aload_n (i := 0) dX4_next_21 rfl rfl ?_
      refine E_gr dX4_next_22 gf_X4_20_4 rfl (by assumption) (by assumption) ?_
      refine E_gr dX4_next_25 gf_X4_63_7 rfl (by assumption) (by assumption) ?_
      refine E_aload_n (i := 0) dX4_next_28 rfl rfl ?_
      refine E_gi dX4_next_29 gf_X4_30_4 rfl (by assumption) ?_
      refine E_iaj σ.1 dX4_next_32 (by assumption) j2 (by omega) (by rw [y4]; omega) ?_
      refine E_goto (tgt := 37) dX4_next_33 (by decide) ?_
      refine E_iret dX4_next_37 rfl ?_
      exact hΦ
    · rw [if_neg (fun h => hp h.2)] at hΦ
      refine E_aload_n (i := 0) dX4_next_0 rfl rfl ?_
      refine E_gi dX4_next_1 gf_X4_34_4 rfl (by assumption) ?_
      refine E_if_ge (tgt := 36) dX4_next_4 (by decide) (fun c_4 => absurd c_4 (by rw [j3]; decide)) (fun c_4 => ?_)
      refine E_aload_n (i := 0) dX4_next_7 rfl rfl ?_
      refine E_gi dX4_next_8 gf_X4_30_4 rfl (by assumption) ?_
      refine E_aload_n (i := 0) dX4_next_11 rfl rfl ?_
      refine E_gr dX4_next_12 gf_X4_20_4 rfl (by assumption) (by assumption) ?_
      refine E_gi dX4_next_15 gf_X4_60_7 rfl (by assumption) ?_
      refine E_icmp_ge (tgt := 36) dX4_next_18 (by decide) (fun c_18 => ?_) (fun c_18 => absurd (by rw [j2, er]; exact nI_le (by omega) (by omega)) c_18)
      refine E_iconst (v := -1) dX4_next_36 (by decide) ?_
      refine E_iret dX4_next_37 rfl ?_
      exact hΦ
theorem c_takes {ch : Int32} (hd : 1 ≤ d) (hX : RX g P I r q n u) (hJ : RC I J n σ) (hn : ¬ ch = -1) (h1 : hr (I q) n σ = ch → ∀ J', RC I J' n (adv σ) → Φ (some (.int 1)) g P J') (h2 : ¬ hr (I q) n σ = ch → Φ (some (.int 0)) g P J) : MM Γ mX4_takes d 0 0 [.ref 17, .int ch] g P J Φ := by
  refine MM_entry [some _, some _, none] (by decide) (Nat.le_of_ble_eq_true rfl) rfl ?_
  have x1 := hX.1
  by_cases hc : hr (I q) n σ = ch
  · have hl := hr_lt (show ¬ hr (I q) n σ = -1 by rw [hc]; exact hn)
    have hΦ := h1 hc _ (RC_adv hJ hl.2 hl.1)
    refine E_aload_n (i := 0) dX4_takes_0 rfl rfl ?_
    refine k_X4_takes_1 (mc' := 0) (ms' := 0) (rc := 0) (rs := 0) (by omega) (Nat.le_of_ble_eq_true rfl) (by assumption) (c_next hX hJ ?_)
    refine E_iload_n (i := 1) dX4_takes_4 rfl rfl ?_
    refine E_icmp_ne (tgt := 12) dX4_takes_5 (by decide) (fun c_5 => absurd (hc) c_5) (fun c_5 => ?_)
    refine E_iconst (v := 1) dX4_takes_8 (by decide) ?_
    refine E_goto (tgt := 13) dX4_takes_9 (by decide) ?_
    refine E_istore_nC (i := 2) dX4_takes_13 rfl (by decide) rfl ?_
    refine E_lv (lv' := [_, _, _]) rfl ?_
    refine E_iload_n (i := 2) dX4_takes_14 rfl rfl ?_
    refine E_if_eq (tgt := 28) dX4_takes_15 (by decide) (fun c_15 => absurd c_15 (by decide)) (fun c_15 => ?_)
    refine E_aload_n (i := 0) dX4_takes_18 rfl rfl ?_
    refine E_dup dX4_takes_19 rfl ?_
    refine E_gi dX4_takes_20 gf_X4_30_4 rfl (by assumption) ?_
    refine E_iconst (v := 1) dX4_takes_23 (by decide) ?_
    refine E_iadd dX4_takes_24 ?_
    refine E_pi dX4_takes_25 gf_X4_30_4 rfl (by assumption) ?_
    refine E_iload_n (i := 2) dX4_takes_28 rfl rfl ?_
    refine E_zret dX4_takes_29 rfl rfl ?_
    exact hΦ
  · have hΦ := h2 hc
    refine E_aload_n (i := 0) dX4_takes_0 rfl rfl ?_
    refine k_X4_takes_1 (mc' := 0) (ms' := 0) (rc := 0) (rs := 0) (by omega) (Nat.le_of_ble_eq_true rfl) (by assumption) (c_next hX hJ ?_)
    refine E_iload_n (i := 1) dX4_takes_4 rfl rfl ?_
    refine E_icmp_ne (tgt := 12) dX4_takes_5 (by decide) (fun c_5 => ?_) (fun c_5 => absurd c_5 (hc))
    refine E_iconst (v := 0) dX4_takes_12 (by decide) ?_
    refine E_istore_nC (i := 2) dX4_takes_13 rfl (by decide) rfl ?_
    refine E_lv (lv' := [_, _, _]) rfl ?_
    refine E_iload_n (i := 2) dX4_takes_14 rfl rfl ?_
    refine E_if_eq (tgt := 28) dX4_takes_15 (by decide) (fun c_15 => ?_) (fun c_15 => absurd (rfl) c_15)
    refine E_iload_n (i := 2) dX4_takes_28 rfl rfl ?_
    refine E_zret dX4_takes_29 rfl rfl ?_
    exact hΦ
theorem c_stopHere (hX : RX g P I r q n u) (hJ : RC I J n σ) (h1 : ∀ J', RC I J' n (wrg σ) → Φ (some (.int 0)) g P J') : MM Γ mX4_stopHere d 0 0 [.ref 17] g P J Φ := by
  refine MM_entry [some _] (by decide) (Nat.le_of_ble_eq_true rfl) rfl ?_
  have x1 := hX.1
  have n50 := hX.rq.2.2
  have j3 := hJ.2.2.1
  have j4 := hJ.2.2.2
  cases hw : σ.2.1 with
  | true =>
    have hΦ := h1 _ (RC_w hJ hw)
    rw [hw, if_pos rfl] at j3
    refine E_aload_n (i := 0) dX4_stopHere_0 rfl rfl ?_
    refine E_gi dX4_stopHere_1 gf_X4_34_4 rfl (by assumption) ?_
    refine E_if_ge (tgt := 15) dX4_stopHere_4 (by decide) (fun c_4 => ?_) (fun c_4 => absurd (by rw [j3]; exact nI_pos' (by omega)) c_4)
    refine E_iconst (v := 0) dX4_stopHere_15 (by decide) ?_
    refine E_iret dX4_stopHere_16 rfl ?_
    exact hΦ
  | false =>
    have hΦ := h1 _ (RC_wrg hJ)
    rw [hw, if_neg (by decide)] at j3
    refine E_aload_n (i := 0) dX4_stopHere_0 rfl rfl ?_
    refine E_gi dX4_stopHere_1 gf_X4_34_4 rfl (by assumption) ?_
    refine E_if_ge (tgt := 15) dX4_stopHere_4 (by decide) (fun c_4 => absurd c_4 (by rw [j3]; decide)) (fun c_4 => ?_)
    refine E_aload_n (i := 0) dX4_stopHere_7 rfl rfl ?_
    refine E_aload_n (i := 0) dX4_stopHere_8 rfl rfl ?_
    refine E_gi dX4_stopHere_9 gf_X4_30_4 rfl (by assumption) ?_
    refine E_pi dX4_stopHere_12 gf_X4_34_4 rfl (by assumption) ?_
    refine E_iconst (v := 0) dX4_stopHere_15 (by decide) ?_
    refine E_iret dX4_stopHere_16 rfl ?_
    exact hΦ
theorem c_truth {x : Int32} (h : x = 0 ∨ x = 1) (hΦ : Φ (some (.int x)) g P J) : MM Γ mX4_truth d 0 0 [.int x] g P J Φ := by
  rcases h with rfl | rfl
  · refine MM_entry [some _] (by decide) (Nat.le_of_ble_eq_true rfl) rfl ?_
    refine E_iload_n (i := 0) dX4_truth_0 rfl rfl ?_
    refine E_if_eq (tgt := 8) dX4_truth_1 (by decide) (fun c_1 => ?_) (fun c_1 => absurd (rfl) c_1)
    refine E_iconst (v := 0) dX4_truth_8 (by decide) ?_
    refine E_iret dX4_truth_9 rfl ?_
    exact hΦ
  · refine MM_entry [some _] (by decide) (Nat.le_of_ble_eq_true rfl) rfl ?_
    refine E_iload_n (i := 0) dX4_truth_0 rfl rfl ?_
    refine E_if_eq (tgt := 8) dX4_truth_1 (by decide) (fun c_1 => absurd c_1 (by decide)) (fun c_1 => ?_)
    refine E_iconst (v := 1) dX4_truth_4 (by decide) ?_
    refine E_goto (tgt := 9) dX4_truth_5 (by decide) ?_
    refine E_iret dX4_truth_9 rfl ?_
    exact hΦ
theorem c_number (hd : 1 ≤ d) (hX : RX g P I r q n u) (hJ : RC I J n σ) (h1 : ∀ J', RC I J' n (dig (I q) n 4 0 σ).2 → Φ (some (.int (dig (I q) n 4 0 σ).1)) g P J') : MM Γ mX4_number d 0 0 [.ref 17] g P J Φ := by
  refine MM_entry [some _, none, none] (by decide) (Nat.le_of_ble_eq_true rfl) rfl ?_
  have x1 := hX.1
  have loop : ∀ (k i : Nat) (x v : Int32) (K : HI) (σ1 : PS), k + i = 4 → x = nI i → RC I K n σ1 → dig (I q) n 4 0 σ = dig (I q) n k v σ1 → E Γ mX4_number d 0 0 (QM Γ 0 0 Φ) 0 0 4 [some (.ref 17), some (.int v), some (.int x)] [] g P K := by
    intro k
    induction k with
    | zero =>
      intro i x v K σ1 hk hx hK he
      have hΦ := h1 K (by rw [he]; exact hK)
      rw [he] at hΦ
      refine E_iload_n (i := 2) dX4_number_4 rfl rfl ?_
      refine E_iconst (v := 4) dX4_number_5 (by decide) ?_
      refine E_icmp_ge (tgt := 52) dX4_number_6 (by decide) (fun c_6 => ?_) (fun c_6 => absurd (by rw [hx, show i = 4 by omega]; decide) c_6)
      refine E_iload_n (i := 1) dX4_number_52 rfl rfl ?_
      refine E_iret dX4_number_53 rfl ?_
      exact hΦ
    | succ k ih =>
      intro i x v K σ1 hk hx hK he
      by_cases hc : 48 ≤ hr (I q) n σ1 ∧ hr (I q) n σ1 ≤ 57
      · rw [dig_go hc] at he
        have hl := hr_lt (dgt_ne hc)
        refine E_iload_n (i := 2) dX4_number_4 rfl rfl ?_
        refine E_iconst (v := 4) dX4_number_5 (by decide) ?_
        refine E_icmp_ge (tgt := 52) dX4_number_6 (by decide) (fun c_6 => absurd c_6 (by rw [hx]; exact nI_ge (b := 4) (by omega) (by omega))) (fun c_6 => ?_)
        refine E_aload_n (i := 0) dX4_number_9 rfl rfl ?_
        refine k_X4_number_10 (mc' := 0) (ms' := 0) (rc := 0) (rs := 0) (by omega) (Nat.le_of_ble_eq_true rfl) (by assumption) (c_next hX hK ?_)
        refine E_bipush (v := 48) dX4_number_13 (by decide) ?_
        refine E_bipush (v := 57) dX4_number_15 (by decide) ?_
        refine k_X4_number_17 (mc' := 0) (ms' := 0) (rc := 0) (rs := 0) (by omega) (Nat.le_of_ble_eq_true rfl) (c_X11_within ?_)
        rw [bz_t hc]
        refine E_if_eq (tgt := 52) dX4_number_20 (by decide) (fun c_20 => absurd c_20 (by decide)) (fun c_20 => ?_)
        refine E_bipush (v := 10) dX4_number_23 (by decide) ?_
        refine E_iload_n (i := 1) dX4_number_25 rfl rfl ?_
        refine E_imul dX4_number_26 ?_
        refine E_aload_n (i := 0) dX4_number_27 rfl rfl ?_
        refine k_X4_number_28 (mc' := 0) (ms' := 0) (rc := 0) (rs := 0) (by omega) (Nat.le_of_ble_eq_true rfl) (by assumption) (c_next hX hK ?_)
        refine E_iadd dX4_number_31 ?_
        refine E_bipush (v := 48) dX4_number_32 (by decide) ?_
        refine E_isub dX4_number_34 ?_
        refine E_istore_nC (i := 1) dX4_number_35 rfl (by decide) rfl ?_
        refine E_lv (lv' := [_, _, _]) rfl ?_
        refine E_aload_n (i := 0) dX4_number_36 rfl rfl ?_
        refine E_dup dX4_number_37 rfl ?_
        refine E_gi dX4_number_38 gf_X4_30_4 rfl (by assumption) ?_
        refine E_iconst (v := 1) dX4_number_41 (by decide) ?_
        refine E_iadd dX4_number_42 ?_
        refine E_pi dX4_number_43 gf_X4_30_4 rfl (by assumption) ?_
        refine E_incC (c := 1) dX4_number_46 rfl (by decide) (by decide) rfl ?_
        refine E_lv (lv' := [_, _, _]) rfl ?_
        refine E_goto (tgt := 4) dX4_number_49 (by decide) ?_
        exact ih (i + 1) _ _ _ _ (by omega) (by rw [hx, nI_1]) (RC_adv hK hl.2 hl.1) he
      · rw [dig_no hc] at he
        have hΦ := h1 K (by rw [he]; exact hK)
        rw [he] at hΦ
        refine E_iload_n (i := 2) dX4_number_4 rfl rfl ?_
        refine E_iconst (v := 4) dX4_number_5 (by decide) ?_
        refine E_icmp_ge (tgt := 52) dX4_number_6 (by decide) (fun c_6 => absurd c_6 (by rw [hx]; exact nI_ge (b := 4) (by omega) (by omega))) (fun c_6 => ?_)
        refine E_aload_n (i := 0) dX4_number_9 rfl rfl ?_
        refine k_X4_number_10 (mc' := 0) (ms' := 0) (rc := 0) (rs := 0) (by omega) (Nat.le_of_ble_eq_true rfl) (by assumption) (c_next hX hK ?_)
        refine E_bipush (v := 48) dX4_number_13 (by decide) ?_
        refine E_bipush (v := 57) dX4_number_15 (by decide) ?_
        refine k_X4_number_17 (mc' := 0) (ms' := 0) (rc := 0) (rs := 0) (by omega) (Nat.le_of_ble_eq_true rfl) (c_X11_within ?_)
        rw [bz_f hc]
        refine E_if_eq (tgt := 52) dX4_number_20 (by decide) (fun c_20 => ?_) (fun c_20 => absurd (rfl) c_20)
        refine E_iload_n (i := 1) dX4_number_52 rfl rfl ?_
        refine E_iret dX4_number_53 rfl ?_
        exact hΦ
  refine E_iconst (v := 0) dX4_number_0 (by decide) ?_
  refine E_istore_nC (i := 1) dX4_number_1 rfl (by decide) rfl ?_
  refine E_lv (lv' := [_, _, _]) rfl ?_
  refine E_iconst (v := 0) dX4_number_2 (by decide) ?_
  refine E_istore_nC (i := 2) dX4_number_3 rfl (by decide) rfl ?_
  refine E_lv (lv' := [_, _, _]) rfl ?_
  exact loop 4 0 _ _ _ _ rfl rfl hJ rfl
end
/-- a part's contract -/
def CK (Γ : GE) (g : Sh) (P : HP) (I : HI) (n : Nat) (nm : Nat → Int32) (μ : MD) (o need : Nat) (f : PS → PS) : Prop := ∀ (d : Nat) (J : HI) (σ : PS) (Φ : Option Value → Sh → HP → HI → Prop), need ≤ d → RC I J n σ → (∀ v J', RC I J' n (f σ) → RV nm σ (f σ) v → Φ (some (.int v)) g P J') → MM Γ μ d 0 0 [.ref 17, .int (nI o)] g P J Φ
section
variable {Γ : GE} {g : Sh} {P : HP} {I : HI} {r q n u o need : Nat} {nm : Nat → Int32} {s : PS → PS}
theorem r_product (hX : RX g P I r q n u) (hp : CK Γ g P I n nm mX4_single o (need + 1) (s)) : CK Γ g P I n nm mX4_product o (need + 2) (prd (I q) n s) := by
  intro d J σ Φ hd hJ hΦ
  refine MM_entry [some _, some _, none, none, none] (by decide) (Nat.le_of_ble_eq_true rfl) rfl ?_
  have x1 := hX.1
  have loop : ∀ (k i : Nat) (x v : Int32) (y : Option Value) (K : HI) (σ1 : PS), k + i = 50 → x = nI i → RC I K n σ1 → RV nm σ σ1 v → lop (I q) n opP (s) k σ1 = prd (I q) n s σ → E Γ mX4_product d 0 0 (QM Γ 0 0 Φ) 0 0 8 [some (.ref 17), some (.int (nI o)), some (.int v), some (.int x), y] [] g P K := by
    intro k
    induction k with
    | zero =>
      intro i x v y K σ1 hk hx hK hv he
      have he : σ1 = prd (I q) n s σ := he
      have hΦ := hΦ v K (RC_id hK he) (RV_id hv he)
      refine E_iload_n (i := 3) dX4_product_8 rfl rfl ?_
      refine E_bipush (v := 50) dX4_product_9 (by decide) ?_
      refine E_icmp_ge (tgt := 103) dX4_product_11 (by decide) (fun c_11 => ?_) (fun c_11 => absurd (by rw [hx, show i = 50 by omega]; decide) c_11)
      refine E_iload_n (i := 2) dX4_product_103 rfl rfl ?_
      refine E_iret dX4_product_104 rfl ?_
      exact hΦ
    | succ k ih =>
      intro i x v y K σ1 hk hx hK hv he
      have h50 : ¬ (50 : Int32) ≤ x := by rw [hx]; exact nI_ge (b := 50) (by omega) (by omega)
      by_cases h42 : hr (I q) n σ1 = 42
      · have hT : opT (hr (I q) n σ1) opP = some 20007 := by rw [h42]; rfl
        have hne : ¬ hr (I q) n σ1 = -1 := by rw [h42]; decide
        rw [lop, hT] at he
        refine E_iload_n (i := 3) dX4_product_8 rfl rfl ?_
        refine E_bipush (v := 50) dX4_product_9 (by decide) ?_
        refine E_icmp_ge (tgt := 103) dX4_product_11 (by decide) (fun c_11 => absurd c_11 (h50)) (fun c_11 => ?_)
        refine E_aload_n (i := 0) dX4_product_14 rfl rfl ?_
        refine E_bipush (v := 42) dX4_product_15 (by decide) ?_
        refine k_X4_product_17 (mc' := 0) (ms' := 0) (rc := 0) (rs := 0) (by omega) (Nat.le_of_ble_eq_true rfl) (by assumption) (c_takes (by omega) hX hK (by decide) (fun _ J2 r2 => ?_) (fun h => absurd h42 h))
        refine E_if_eq (tgt := 34) dX4_product_20 (by decide) (fun c_20 => absurd c_20 (by decide)) (fun c_20 => ?_)
        refine E_iload_n (i := 2) dX4_product_23 rfl rfl ?_
        refine E_aload_n (i := 0) dX4_product_24 rfl rfl ?_
        refine E_iload_n (i := 1) dX4_product_25 rfl rfl ?_
        refine k_X4_product_26 (mc' := 0) (ms' := 0) (rc := 0) (rs := 0) (by omega) (Nat.le_of_ble_eq_true rfl) (by assumption) (hp _ _ _ _ (by omega) r2 (fun v2 J3 r3 q3 => ?_))
        refine E_imul dX4_product_29 ?_
        refine E_istore_nC (i := 2) dX4_product_30 rfl (by decide) rfl ?_
        refine E_lv (lv' := [_, _, _, _, _]) rfl ?_
        refine E_goto (tgt := 97) dX4_product_31 (by decide) ?_
        refine E_incC (c := 1) dX4_product_97 rfl (by decide) (by decide) rfl ?_
        refine E_lv (lv' := [_, _, _, _, _]) rfl ?_
        refine E_goto (tgt := 8) dX4_product_100 (by decide) ?_
        exact ih (i + 1) _ _ _ _ _ (by omega) (by rw [hx, nI_1]) (RC_emt r3) (RV_eq (RV_op hv hne q3 (by decide) (by decide)) (Eq.symm (by first | exact dn_7))) he
      · have _ := x1
        by_cases h47 : hr (I q) n σ1 = 47
        · have hT : opT (hr (I q) n σ1) opP = some 20008 := by rw [h47]; rfl
          have hne : ¬ hr (I q) n σ1 = -1 := by rw [h47]; decide
          rw [lop, hT] at he
          refine E_iload_n (i := 3) dX4_product_8 rfl rfl ?_
          refine E_bipush (v := 50) dX4_product_9 (by decide) ?_
          refine E_icmp_ge (tgt := 103) dX4_product_11 (by decide) (fun c_11 => absurd c_11 (h50)) (fun c_11 => ?_)
          refine E_aload_n (i := 0) dX4_product_14 rfl rfl ?_
          refine E_bipush (v := 42) dX4_product_15 (by decide) ?_
          refine k_X4_product_17 (mc' := 0) (ms' := 0) (rc := 0) (rs := 0) (by omega) (Nat.le_of_ble_eq_true rfl) (by assumption) (c_takes (by omega) hX hK (by decide) (fun h => absurd h h42) (fun _ => ?_))
          refine E_if_eq (tgt := 34) dX4_product_20 (by decide) (fun c_20 => ?_) (fun c_20 => absurd (rfl) c_20)
          refine E_aload_n (i := 0) dX4_product_34 rfl rfl ?_
          refine E_bipush (v := 47) dX4_product_35 (by decide) ?_
          refine k_X4_product_37 (mc' := 0) (ms' := 0) (rc := 0) (rs := 0) (by omega) (Nat.le_of_ble_eq_true rfl) (by assumption) (c_takes (by omega) hX hK (by decide) (fun _ J2 r2 => ?_) (fun h => absurd h47 h))
          refine E_if_eq (tgt := 67) dX4_product_40 (by decide) (fun c_40 => absurd c_40 (by decide)) (fun c_40 => ?_)
          refine E_aload_n (i := 0) dX4_product_43 rfl rfl ?_
          refine E_iload_n (i := 1) dX4_product_44 rfl rfl ?_
          refine k_X4_product_45 (mc' := 0) (ms' := 0) (rc := 0) (rs := 0) (by omega) (Nat.le_of_ble_eq_true rfl) (by assumption) (hp _ _ _ _ (by omega) r2 (fun v2 J3 r3 q3 => ?_))
          refine E_istoreC dX4_product_48 (by decide) rfl ?_
          refine E_lv (lv' := [_, _, _, _, _]) rfl ?_
          refine E_iload dX4_product_50 rfl ?_
          refine E_if_ne (tgt := 59) dX4_product_52 (by decide) (fun c_52 => ?_) (fun c_52 => ?_)
          · refine E_iload_n (i := 2) dX4_product_59 rfl rfl ?_
            refine E_iload dX4_product_60 rfl ?_
            refine E_idiv dX4_product_62 c_52 ?_
            refine E_istore_nC (i := 2) dX4_product_63 rfl (by decide) rfl ?_
            refine E_lv (lv' := [_, _, _, _, _]) rfl ?_
            refine E_goto (tgt := 97) dX4_product_64 (by decide) ?_
            refine E_incC (c := 1) dX4_product_97 rfl (by decide) (by decide) rfl ?_
            refine E_lv (lv' := [_, _, _, _, _]) rfl ?_
            refine E_goto (tgt := 8) dX4_product_100 (by decide) ?_
            exact ih (i + 1) _ _ _ _ _ (by omega) (by rw [hx, nI_1]) (RC_emt r3) (RV_eq (RV_op hv hne q3 (by decide) (by decide)) (Eq.symm (by first | exact dn_8z c_52 | exact dn_8n c_52))) he
          · refine E_iconst (v := 0) dX4_product_55 (by decide) ?_
            refine E_goto (tgt := 63) dX4_product_56 (by decide) ?_
            refine E_istore_nC (i := 2) dX4_product_63 rfl (by decide) rfl ?_
            refine E_lv (lv' := [_, _, _, _, _]) rfl ?_
            refine E_goto (tgt := 97) dX4_product_64 (by decide) ?_
            refine E_incC (c := 1) dX4_product_97 rfl (by decide) (by decide) rfl ?_
            refine E_lv (lv' := [_, _, _, _, _]) rfl ?_
            refine E_goto (tgt := 8) dX4_product_100 (by decide) ?_
            exact ih (i + 1) _ _ _ _ _ (by omega) (by rw [hx, nI_1]) (RC_emt r3) (RV_eq (RV_op hv hne q3 (by decide) (by decide)) (Eq.symm (by first | exact dn_8z c_52 | exact dn_8n c_52))) he
        · have _ := x1
          by_cases h37 : hr (I q) n σ1 = 37
          · have hT : opT (hr (I q) n σ1) opP = some 20009 := by rw [h37]; rfl
            have hne : ¬ hr (I q) n σ1 = -1 := by rw [h37]; decide
            rw [lop, hT] at he
            refine E_iload_n (i := 3) dX4_product_8 rfl rfl ?_
            refine E_bipush (v := 50) dX4_product_9 (by decide) ?_
            refine E_icmp_ge (tgt := 103) dX4_product_11 (by decide) (fun c_11 => absurd c_11 (h50)) (fun c_11 => ?_)
            refine E_aload_n (i := 0) dX4_product_14 rfl rfl ?_
            refine E_bipush (v := 42) dX4_product_15 (by decide) ?_
            refine k_X4_product_17 (mc' := 0) (ms' := 0) (rc := 0) (rs := 0) (by omega) (Nat.le_of_ble_eq_true rfl) (by assumption) (c_takes (by omega) hX hK (by decide) (fun h => absurd h h42) (fun _ => ?_))
            refine E_if_eq (tgt := 34) dX4_product_20 (by decide) (fun c_20 => ?_) (fun c_20 => absurd (rfl) c_20)
            refine E_aload_n (i := 0) dX4_product_34 rfl rfl ?_
            refine E_bipush (v := 47) dX4_product_35 (by decide) ?_
            refine k_X4_product_37 (mc' := 0) (ms' := 0) (rc := 0) (rs := 0) (by omega) (Nat.le_of_ble_eq_true rfl) (by assumption) (c_takes (by omega) hX hK (by decide) (fun h => absurd h h47) (fun _ => ?_))
            refine E_if_eq (tgt := 67) dX4_product_40 (by decide) (fun c_40 => ?_) (fun c_40 => absurd (rfl) c_40)
            refine E_aload_n (i := 0) dX4_product_67 rfl rfl ?_
            refine E_bipush (v := 37) dX4_product_68 (by decide) ?_
            refine k_X4_product_70 (mc' := 0) (ms' := 0) (rc := 0) (rs := 0) (by omega) (Nat.le_of_ble_eq_true rfl) (by assumption) (c_takes (by omega) hX hK (by decide) (fun _ J2 r2 => ?_) (fun h => absurd h37 h))
            refine E_if_eq (tgt := 103) dX4_product_73 (by decide) (fun c_73 => absurd c_73 (by decide)) (fun c_73 => ?_)
            refine E_aload_n (i := 0) dX4_product_76 rfl rfl ?_
            refine E_iload_n (i := 1) dX4_product_77 rfl rfl ?_
            refine k_X4_product_78 (mc' := 0) (ms' := 0) (rc := 0) (rs := 0) (by omega) (Nat.le_of_ble_eq_true rfl) (by assumption) (hp _ _ _ _ (by omega) r2 (fun v2 J3 r3 q3 => ?_))
            refine E_istoreC dX4_product_81 (by decide) rfl ?_
            refine E_lv (lv' := [_, _, _, _, _]) rfl ?_
            refine E_iload dX4_product_83 rfl ?_
            refine E_if_ne (tgt := 92) dX4_product_85 (by decide) (fun c_85 => ?_) (fun c_85 => ?_)
            · refine E_iload_n (i := 2) dX4_product_92 rfl rfl ?_
              refine E_iload dX4_product_93 rfl ?_
              refine E_irem dX4_product_95 c_85 ?_
              refine E_istore_nC (i := 2) dX4_product_96 rfl (by decide) rfl ?_
              refine E_lv (lv' := [_, _, _, _, _]) rfl ?_
              refine E_incC (c := 1) dX4_product_97 rfl (by decide) (by decide) rfl ?_
              refine E_lv (lv' := [_, _, _, _, _]) rfl ?_
              refine E_goto (tgt := 8) dX4_product_100 (by decide) ?_
              exact ih (i + 1) _ _ _ _ _ (by omega) (by rw [hx, nI_1]) (RC_emt r3) (RV_eq (RV_op hv hne q3 (by decide) (by decide)) (Eq.symm (by first | exact dn_9z c_85 | exact dn_9n c_85))) he
            · refine E_iconst (v := 0) dX4_product_88 (by decide) ?_
              refine E_goto (tgt := 96) dX4_product_89 (by decide) ?_
              refine E_istore_nC (i := 2) dX4_product_96 rfl (by decide) rfl ?_
              refine E_lv (lv' := [_, _, _, _, _]) rfl ?_
              refine E_incC (c := 1) dX4_product_97 rfl (by decide) (by decide) rfl ?_
              refine E_lv (lv' := [_, _, _, _, _]) rfl ?_
              refine E_goto (tgt := 8) dX4_product_100 (by decide) ?_
              exact ih (i + 1) _ _ _ _ _ (by omega) (by rw [hx, nI_1]) (RC_emt r3) (RV_eq (RV_op hv hne q3 (by decide) (by decide)) (Eq.symm (by first | exact dn_9z c_85 | exact dn_9n c_85))) he
          · have _ := x1
            have hT : opT (hr (I q) n σ1) opP = none := by unfold opP opT; rw [if_neg h42]; unfold opT; rw [if_neg h47]; unfold opT; rw [if_neg h37]; rfl
            rw [lop, hT] at he
            have he : σ1 = prd (I q) n s σ := he
            have hΦ := hΦ v K (RC_id hK he) (RV_id hv he)
            refine E_iload_n (i := 3) dX4_product_8 rfl rfl ?_
            refine E_bipush (v := 50) dX4_product_9 (by decide) ?_
            refine E_icmp_ge (tgt := 103) dX4_product_11 (by decide) (fun c_11 => absurd c_11 (h50)) (fun c_11 => ?_)
            refine E_aload_n (i := 0) dX4_product_14 rfl rfl ?_
            refine E_bipush (v := 42) dX4_product_15 (by decide) ?_
            refine k_X4_product_17 (mc' := 0) (ms' := 0) (rc := 0) (rs := 0) (by omega) (Nat.le_of_ble_eq_true rfl) (by assumption) (c_takes (by omega) hX hK (by decide) (fun h => absurd h h42) (fun _ => ?_))
            refine E_if_eq (tgt := 34) dX4_product_20 (by decide) (fun c_20 => ?_) (fun c_20 => absurd (rfl) c_20)
            refine E_aload_n (i := 0) dX4_product_34 rfl rfl ?_
            refine E_bipush (v := 47) dX4_product_35 (by decide) ?_
            refine k_X4_product_37 (mc' := 0) (ms' := 0) (rc := 0) (rs := 0) (by omega) (Nat.le_of_ble_eq_true rfl) (by assumption) (c_takes (by omega) hX hK (by decide) (fun h => absurd h h47) (fun _ => ?_))
            refine E_if_eq (tgt := 67) dX4_product_40 (by decide) (fun c_40 => ?_) (fun c_40 => absurd (rfl) c_40)
            refine E_aload_n (i := 0) dX4_product_67 rfl rfl ?_
            refine E_bipush (v := 37) dX4_product_68 (by decide) ?_
            refine k_X4_product_70 (mc' := 0) (ms' := 0) (rc := 0) (rs := 0) (by omega) (Nat.le_of_ble_eq_true rfl) (by assumption) (c_takes (by omega) hX hK (by decide) (fun h => absurd h h37) (fun _ => ?_))
            refine E_if_eq (tgt := 103) dX4_product_73 (by decide) (fun c_73 => ?_) (fun c_73 => absurd (rfl) c_73)
            refine E_iload_n (i := 2) dX4_product_103 rfl rfl ?_
            refine E_iret dX4_product_104 rfl ?_
            exact hΦ
  refine E_aload_n (i := 0) dX4_product_0 rfl rfl ?_
  refine E_iload_n (i := 1) dX4_product_1 rfl rfl ?_
  refine k_X4_product_2 (mc' := 0) (ms' := 0) (rc := 0) (rs := 0) (by omega) (Nat.le_of_ble_eq_true rfl) (by assumption) (hp _ _ _ _ (by omega) hJ (fun v1 J1 r1 q1 => ?_))
  refine E_istore_nC (i := 2) dX4_product_5 rfl (by decide) rfl ?_
  refine E_lv (lv' := [_, _, _, _, _]) rfl ?_
  refine E_iconst (v := 0) dX4_product_6 (by decide) ?_
  refine E_istore_nC (i := 3) dX4_product_7 rfl (by decide) rfl ?_
  refine E_lv (lv' := [_, _, _, _, _]) rfl ?_
  exact loop 50 0 _ _ _ _ _ rfl rfl r1 q1 rfl
theorem r_sum (hX : RX g P I r q n u) (hp : CK Γ g P I n nm mX4_product o (need + 1) (prd (I q) n s)) : CK Γ g P I n nm mX4_sum o (need + 2) (smm (I q) n s) := by
  intro d J σ Φ hd hJ hΦ
  refine MM_entry [some _, some _, none, none] (by decide) (Nat.le_of_ble_eq_true rfl) rfl ?_
  have x1 := hX.1
  have loop : ∀ (k i : Nat) (x v : Int32) (K : HI) (σ1 : PS), k + i = 50 → x = nI i → RC I K n σ1 → RV nm σ σ1 v → lop (I q) n opS (prd (I q) n s) k σ1 = smm (I q) n s σ → E Γ mX4_sum d 0 0 (QM Γ 0 0 Φ) 0 0 8 [some (.ref 17), some (.int (nI o)), some (.int v), some (.int x)] [] g P K := by
    intro k
    induction k with
    | zero =>
      intro i x v K σ1 hk hx hK hv he
      have he : σ1 = smm (I q) n s σ := he
      have hΦ := hΦ v K (RC_id hK he) (RV_id hv he)
      refine E_iload_n (i := 3) dX4_sum_8 rfl rfl ?_
      refine E_bipush (v := 50) dX4_sum_9 (by decide) ?_
      refine E_icmp_ge (tgt := 57) dX4_sum_11 (by decide) (fun c_11 => ?_) (fun c_11 => absurd (by rw [hx, show i = 50 by omega]; decide) c_11)
      refine E_iload_n (i := 2) dX4_sum_57 rfl rfl ?_
      refine E_iret dX4_sum_58 rfl ?_
      exact hΦ
    | succ k ih =>
      intro i x v K σ1 hk hx hK hv he
      have h50 : ¬ (50 : Int32) ≤ x := by rw [hx]; exact nI_ge (b := 50) (by omega) (by omega)
      by_cases h43 : hr (I q) n σ1 = 43
      · have hT : opT (hr (I q) n σ1) opS = some 20005 := by rw [h43]; rfl
        have hne : ¬ hr (I q) n σ1 = -1 := by rw [h43]; decide
        rw [lop, hT] at he
        refine E_iload_n (i := 3) dX4_sum_8 rfl rfl ?_
        refine E_bipush (v := 50) dX4_sum_9 (by decide) ?_
        refine E_icmp_ge (tgt := 57) dX4_sum_11 (by decide) (fun c_11 => absurd c_11 (h50)) (fun c_11 => ?_)
        refine E_aload_n (i := 0) dX4_sum_14 rfl rfl ?_
        refine E_bipush (v := 43) dX4_sum_15 (by decide) ?_
        refine k_X4_sum_17 (mc' := 0) (ms' := 0) (rc := 0) (rs := 0) (by omega) (Nat.le_of_ble_eq_true rfl) (by assumption) (c_takes (by omega) hX hK (by decide) (fun _ J2 r2 => ?_) (fun h => absurd h43 h))
        refine E_if_eq (tgt := 34) dX4_sum_20 (by decide) (fun c_20 => absurd c_20 (by decide)) (fun c_20 => ?_)
        refine E_iload_n (i := 2) dX4_sum_23 rfl rfl ?_
        refine E_aload_n (i := 0) dX4_sum_24 rfl rfl ?_
        refine E_iload_n (i := 1) dX4_sum_25 rfl rfl ?_
        refine k_X4_sum_26 (mc' := 0) (ms' := 0) (rc := 0) (rs := 0) (by omega) (Nat.le_of_ble_eq_true rfl) (by assumption) (hp _ _ _ _ (by omega) r2 (fun v2 J3 r3 q3 => ?_))
        refine E_iadd dX4_sum_29 ?_
        refine E_istore_nC (i := 2) dX4_sum_30 rfl (by decide) rfl ?_
        refine E_lv (lv' := [_, _, _, _]) rfl ?_
        refine E_goto (tgt := 51) dX4_sum_31 (by decide) ?_
        refine E_incC (c := 1) dX4_sum_51 rfl (by decide) (by decide) rfl ?_
        refine E_lv (lv' := [_, _, _, _]) rfl ?_
        refine E_goto (tgt := 8) dX4_sum_54 (by decide) ?_
        exact ih (i + 1) _ _ _ _ (by omega) (by rw [hx, nI_1]) (RC_emt r3) (RV_eq (RV_op hv hne q3 (by decide) (by decide)) (Eq.symm (by first | exact dn_5))) he
      · have _ := x1
        by_cases h45 : hr (I q) n σ1 = 45
        · have hT : opT (hr (I q) n σ1) opS = some 20006 := by rw [h45]; rfl
          have hne : ¬ hr (I q) n σ1 = -1 := by rw [h45]; decide
          rw [lop, hT] at he
          refine E_iload_n (i := 3) dX4_sum_8 rfl rfl ?_
          refine E_bipush (v := 50) dX4_sum_9 (by decide) ?_
          refine E_icmp_ge (tgt := 57) dX4_sum_11 (by decide) (fun c_11 => absurd c_11 (h50)) (fun c_11 => ?_)
          refine E_aload_n (i := 0) dX4_sum_14 rfl rfl ?_
          refine E_bipush (v := 43) dX4_sum_15 (by decide) ?_
          refine k_X4_sum_17 (mc' := 0) (ms' := 0) (rc := 0) (rs := 0) (by omega) (Nat.le_of_ble_eq_true rfl) (by assumption) (c_takes (by omega) hX hK (by decide) (fun h => absurd h h43) (fun _ => ?_))
          refine E_if_eq (tgt := 34) dX4_sum_20 (by decide) (fun c_20 => ?_) (fun c_20 => absurd (rfl) c_20)
          refine E_aload_n (i := 0) dX4_sum_34 rfl rfl ?_
          refine E_bipush (v := 45) dX4_sum_35 (by decide) ?_
          refine k_X4_sum_37 (mc' := 0) (ms' := 0) (rc := 0) (rs := 0) (by omega) (Nat.le_of_ble_eq_true rfl) (by assumption) (c_takes (by omega) hX hK (by decide) (fun _ J2 r2 => ?_) (fun h => absurd h45 h))
          refine E_if_eq (tgt := 57) dX4_sum_40 (by decide) (fun c_40 => absurd c_40 (by decide)) (fun c_40 => ?_)
          refine E_iload_n (i := 2) dX4_sum_43 rfl rfl ?_
          refine E_aload_n (i := 0) dX4_sum_44 rfl rfl ?_
          refine E_iload_n (i := 1) dX4_sum_45 rfl rfl ?_
          refine k_X4_sum_46 (mc' := 0) (ms' := 0) (rc := 0) (rs := 0) (by omega) (Nat.le_of_ble_eq_true rfl) (by assumption) (hp _ _ _ _ (by omega) r2 (fun v2 J3 r3 q3 => ?_))
          refine E_isub dX4_sum_49 ?_
          refine E_istore_nC (i := 2) dX4_sum_50 rfl (by decide) rfl ?_
          refine E_lv (lv' := [_, _, _, _]) rfl ?_
          refine E_incC (c := 1) dX4_sum_51 rfl (by decide) (by decide) rfl ?_
          refine E_lv (lv' := [_, _, _, _]) rfl ?_
          refine E_goto (tgt := 8) dX4_sum_54 (by decide) ?_
          exact ih (i + 1) _ _ _ _ (by omega) (by rw [hx, nI_1]) (RC_emt r3) (RV_eq (RV_op hv hne q3 (by decide) (by decide)) (Eq.symm (by first | exact dn_6))) he
        · have _ := x1
          have hT : opT (hr (I q) n σ1) opS = none := by unfold opS opT; rw [if_neg h43]; unfold opT; rw [if_neg h45]; rfl
          rw [lop, hT] at he
          have he : σ1 = smm (I q) n s σ := he
          have hΦ := hΦ v K (RC_id hK he) (RV_id hv he)
          refine E_iload_n (i := 3) dX4_sum_8 rfl rfl ?_
          refine E_bipush (v := 50) dX4_sum_9 (by decide) ?_
          refine E_icmp_ge (tgt := 57) dX4_sum_11 (by decide) (fun c_11 => absurd c_11 (h50)) (fun c_11 => ?_)
          refine E_aload_n (i := 0) dX4_sum_14 rfl rfl ?_
          refine E_bipush (v := 43) dX4_sum_15 (by decide) ?_
          refine k_X4_sum_17 (mc' := 0) (ms' := 0) (rc := 0) (rs := 0) (by omega) (Nat.le_of_ble_eq_true rfl) (by assumption) (c_takes (by omega) hX hK (by decide) (fun h => absurd h h43) (fun _ => ?_))
          refine E_if_eq (tgt := 34) dX4_sum_20 (by decide) (fun c_20 => ?_) (fun c_20 => absurd (rfl) c_20)
          refine E_aload_n (i := 0) dX4_sum_34 rfl rfl ?_
          refine E_bipush (v := 45) dX4_sum_35 (by decide) ?_
          refine k_X4_sum_37 (mc' := 0) (ms' := 0) (rc := 0) (rs := 0) (by omega) (Nat.le_of_ble_eq_true rfl) (by assumption) (c_takes (by omega) hX hK (by decide) (fun h => absurd h h45) (fun _ => ?_))
          refine E_if_eq (tgt := 57) dX4_sum_40 (by decide) (fun c_40 => ?_) (fun c_40 => absurd (rfl) c_40)
          refine E_iload_n (i := 2) dX4_sum_57 rfl rfl ?_
          refine E_iret dX4_sum_58 rfl ?_
          exact hΦ
  refine E_aload_n (i := 0) dX4_sum_0 rfl rfl ?_
  refine E_iload_n (i := 1) dX4_sum_1 rfl rfl ?_
  refine k_X4_sum_2 (mc' := 0) (ms' := 0) (rc := 0) (rs := 0) (by omega) (Nat.le_of_ble_eq_true rfl) (by assumption) (hp _ _ _ _ (by omega) hJ (fun v1 J1 r1 q1 => ?_))
  refine E_istore_nC (i := 2) dX4_sum_5 rfl (by decide) rfl ?_
  refine E_lv (lv' := [_, _, _, _]) rfl ?_
  refine E_iconst (v := 0) dX4_sum_6 (by decide) ?_
  refine E_istore_nC (i := 3) dX4_sum_7 rfl (by decide) rfl ?_
  refine E_lv (lv' := [_, _, _, _]) rfl ?_
  exact loop 50 0 _ _ _ _ rfl rfl r1 q1 rfl
theorem r_both (hX : RX g P I r q n u) (hp : CK Γ g P I n nm mX4_compared o (need + 1) (cmd (I q) n s)) : CK Γ g P I n nm mX4_both o (need + 2) (bth (I q) n s) := by
  intro d J σ Φ hd hJ hΦ
  refine MM_entry [some _, some _, none, none, none] (by decide) (Nat.le_of_ble_eq_true rfl) rfl ?_
  have x1 := hX.1
  have loop : ∀ (k i : Nat) (x v : Int32) (y : Option Value) (K : HI) (σ1 : PS), k + i = 50 → x = nI i → RC I K n σ1 → RV nm σ σ1 v → lop (I q) n opB (cmd (I q) n s) k σ1 = bth (I q) n s σ → E Γ mX4_both d 0 0 (QM Γ 0 0 Φ) 0 0 8 [some (.ref 17), some (.int (nI o)), some (.int v), some (.int x), y] [] g P K := by
    intro k
    induction k with
    | zero =>
      intro i x v y K σ1 hk hx hK hv he
      have he : σ1 = bth (I q) n s σ := he
      have hΦ := hΦ v K (RC_id hK he) (RV_id hv he)
      refine E_iload_n (i := 3) dX4_both_8 rfl rfl ?_
      refine E_bipush (v := 50) dX4_both_9 (by decide) ?_
      refine E_icmp_ge (tgt := 54) dX4_both_11 (by decide) (fun c_11 => ?_) (fun c_11 => absurd (by rw [hx, show i = 50 by omega]; decide) c_11)
      refine E_iload_n (i := 2) dX4_both_54 rfl rfl ?_
      refine E_iret dX4_both_55 rfl ?_
      exact hΦ
    | succ k ih =>
      intro i x v y K σ1 hk hx hK hv he
      have h50 : ¬ (50 : Int32) ≤ x := by rw [hx]; exact nI_ge (b := 50) (by omega) (by omega)
      by_cases h38 : hr (I q) n σ1 = 38
      · have hT : opT (hr (I q) n σ1) opB = some 20001 := by rw [h38]; rfl
        have hne : ¬ hr (I q) n σ1 = -1 := by rw [h38]; decide
        rw [lop, hT] at he
        refine E_iload_n (i := 3) dX4_both_8 rfl rfl ?_
        refine E_bipush (v := 50) dX4_both_9 (by decide) ?_
        refine E_icmp_ge (tgt := 54) dX4_both_11 (by decide) (fun c_11 => absurd c_11 (h50)) (fun c_11 => ?_)
        refine E_aload_n (i := 0) dX4_both_14 rfl rfl ?_
        refine E_bipush (v := 38) dX4_both_15 (by decide) ?_
        refine k_X4_both_17 (mc' := 0) (ms' := 0) (rc := 0) (rs := 0) (by omega) (Nat.le_of_ble_eq_true rfl) (by assumption) (c_takes (by omega) hX hK (by decide) (fun _ J2 r2 => ?_) (fun h => absurd h38 h))
        refine E_if_eq (tgt := 54) dX4_both_20 (by decide) (fun c_20 => absurd c_20 (by decide)) (fun c_20 => ?_)
        refine E_aload_n (i := 0) dX4_both_23 rfl rfl ?_
        refine E_iload_n (i := 1) dX4_both_24 rfl rfl ?_
        refine k_X4_both_25 (mc' := 0) (ms' := 0) (rc := 0) (rs := 0) (by omega) (Nat.le_of_ble_eq_true rfl) (by assumption) (hp _ _ _ _ (by omega) r2 (fun v2 J3 r3 q3 => ?_))
        refine E_istoreC dX4_both_28 (by decide) rfl ?_
        refine E_lv (lv' := [_, _, _, _, _]) rfl ?_
        refine E_iload_n (i := 2) dX4_both_30 rfl rfl ?_
        refine E_if_eq (tgt := 43) dX4_both_31 (by decide) (fun c_31 => ?_) (fun c_31 => ?_)
        · refine E_iconst (v := 0) dX4_both_43 (by decide) ?_
          refine k_X4_both_44 (mc' := 0) (ms' := 0) (rc := 0) (rs := 0) (by omega) (Nat.le_of_ble_eq_true rfl) (c_truth (by first | exact Or.inl rfl | exact Or.inr rfl) ?_)
          refine E_istore_nC (i := 2) dX4_both_47 rfl (by decide) rfl ?_
          refine E_lv (lv' := [_, _, _, _, _]) rfl ?_
          refine E_incC (c := 1) dX4_both_48 rfl (by decide) (by decide) rfl ?_
          refine E_lv (lv' := [_, _, _, _, _]) rfl ?_
          refine E_goto (tgt := 8) dX4_both_51 (by decide) ?_
          exact ih (i + 1) _ _ _ _ _ (by omega) (by rw [hx, nI_1]) (RC_emt r3) (RV_eq (RV_op hv hne q3 (by decide) (by decide)) (Eq.symm (by first | exact dn_1f (Or.inl c_31) | exact dn_1f (Or.inr c_36) | exact dn_1 c_31 c_36))) he
        · refine E_iload dX4_both_34 rfl ?_
          refine E_if_eq (tgt := 43) dX4_both_36 (by decide) (fun c_36 => ?_) (fun c_36 => ?_)
          · refine E_iconst (v := 0) dX4_both_43 (by decide) ?_
            refine k_X4_both_44 (mc' := 0) (ms' := 0) (rc := 0) (rs := 0) (by omega) (Nat.le_of_ble_eq_true rfl) (c_truth (by first | exact Or.inl rfl | exact Or.inr rfl) ?_)
            refine E_istore_nC (i := 2) dX4_both_47 rfl (by decide) rfl ?_
            refine E_lv (lv' := [_, _, _, _, _]) rfl ?_
            refine E_incC (c := 1) dX4_both_48 rfl (by decide) (by decide) rfl ?_
            refine E_lv (lv' := [_, _, _, _, _]) rfl ?_
            refine E_goto (tgt := 8) dX4_both_51 (by decide) ?_
            exact ih (i + 1) _ _ _ _ _ (by omega) (by rw [hx, nI_1]) (RC_emt r3) (RV_eq (RV_op hv hne q3 (by decide) (by decide)) (Eq.symm (by first | exact dn_1f (Or.inl c_31) | exact dn_1f (Or.inr c_36) | exact dn_1 c_31 c_36))) he
          · refine E_iconst (v := 1) dX4_both_39 (by decide) ?_
            refine E_goto (tgt := 44) dX4_both_40 (by decide) ?_
            refine k_X4_both_44 (mc' := 0) (ms' := 0) (rc := 0) (rs := 0) (by omega) (Nat.le_of_ble_eq_true rfl) (c_truth (by first | exact Or.inl rfl | exact Or.inr rfl) ?_)
            refine E_istore_nC (i := 2) dX4_both_47 rfl (by decide) rfl ?_
            refine E_lv (lv' := [_, _, _, _, _]) rfl ?_
            refine E_incC (c := 1) dX4_both_48 rfl (by decide) (by decide) rfl ?_
            refine E_lv (lv' := [_, _, _, _, _]) rfl ?_
            refine E_goto (tgt := 8) dX4_both_51 (by decide) ?_
            exact ih (i + 1) _ _ _ _ _ (by omega) (by rw [hx, nI_1]) (RC_emt r3) (RV_eq (RV_op hv hne q3 (by decide) (by decide)) (Eq.symm (by first | exact dn_1f (Or.inl c_31) | exact dn_1f (Or.inr c_36) | exact dn_1 c_31 c_36))) he
      · have _ := x1
        have hT : opT (hr (I q) n σ1) opB = none := by unfold opB opT; rw [if_neg h38]; rfl
        rw [lop, hT] at he
        have he : σ1 = bth (I q) n s σ := he
        have hΦ := hΦ v K (RC_id hK he) (RV_id hv he)
        refine E_iload_n (i := 3) dX4_both_8 rfl rfl ?_
        refine E_bipush (v := 50) dX4_both_9 (by decide) ?_
        refine E_icmp_ge (tgt := 54) dX4_both_11 (by decide) (fun c_11 => absurd c_11 (h50)) (fun c_11 => ?_)
        refine E_aload_n (i := 0) dX4_both_14 rfl rfl ?_
        refine E_bipush (v := 38) dX4_both_15 (by decide) ?_
        refine k_X4_both_17 (mc' := 0) (ms' := 0) (rc := 0) (rs := 0) (by omega) (Nat.le_of_ble_eq_true rfl) (by assumption) (c_takes (by omega) hX hK (by decide) (fun h => absurd h h38) (fun _ => ?_))
        refine E_if_eq (tgt := 54) dX4_both_20 (by decide) (fun c_20 => ?_) (fun c_20 => absurd (rfl) c_20)
        refine E_iload_n (i := 2) dX4_both_54 rfl rfl ?_
        refine E_iret dX4_both_55 rfl ?_
        exact hΦ
  refine E_aload_n (i := 0) dX4_both_0 rfl rfl ?_
  refine E_iload_n (i := 1) dX4_both_1 rfl rfl ?_
  refine k_X4_both_2 (mc' := 0) (ms' := 0) (rc := 0) (rs := 0) (by omega) (Nat.le_of_ble_eq_true rfl) (by assumption) (hp _ _ _ _ (by omega) hJ (fun v1 J1 r1 q1 => ?_))
  refine E_istore_nC (i := 2) dX4_both_5 rfl (by decide) rfl ?_
  refine E_lv (lv' := [_, _, _, _, _]) rfl ?_
  refine E_iconst (v := 0) dX4_both_6 (by decide) ?_
  refine E_istore_nC (i := 3) dX4_both_7 rfl (by decide) rfl ?_
  refine E_lv (lv' := [_, _, _, _, _]) rfl ?_
  exact loop 50 0 _ _ _ _ _ rfl rfl r1 q1 rfl
theorem r_either (hX : RX g P I r q n u) (hp : CK Γ g P I n nm mX4_both o (need + 1) (bth (I q) n s)) : CK Γ g P I n nm mX4_either o (need + 2) (eth (I q) n s) := by
  intro d J σ Φ hd hJ hΦ
  refine MM_entry [some _, some _, none, none, none] (by decide) (Nat.le_of_ble_eq_true rfl) rfl ?_
  have x1 := hX.1
  have loop : ∀ (k i : Nat) (x v : Int32) (y : Option Value) (K : HI) (σ1 : PS), k + i = 50 → x = nI i → RC I K n σ1 → RV nm σ σ1 v → lop (I q) n opE (bth (I q) n s) k σ1 = eth (I q) n s σ → E Γ mX4_either d 0 0 (QM Γ 0 0 Φ) 0 0 8 [some (.ref 17), some (.int (nI o)), some (.int v), some (.int x), y] [] g P K := by
    intro k
    induction k with
    | zero =>
      intro i x v y K σ1 hk hx hK hv he
      have he : σ1 = eth (I q) n s σ := he
      have hΦ := hΦ v K (RC_id hK he) (RV_id hv he)
      refine E_iload_n (i := 3) dX4_either_8 rfl rfl ?_
      refine E_bipush (v := 50) dX4_either_9 (by decide) ?_
      refine E_icmp_ge (tgt := 54) dX4_either_11 (by decide) (fun c_11 => ?_) (fun c_11 => absurd (by rw [hx, show i = 50 by omega]; decide) c_11)
      refine E_iload_n (i := 2) dX4_either_54 rfl rfl ?_
      refine E_iret dX4_either_55 rfl ?_
      exact hΦ
    | succ k ih =>
      intro i x v y K σ1 hk hx hK hv he
      have h50 : ¬ (50 : Int32) ≤ x := by rw [hx]; exact nI_ge (b := 50) (by omega) (by omega)
      by_cases h124 : hr (I q) n σ1 = 124
      · have hT : opT (hr (I q) n σ1) opE = some 20000 := by rw [h124]; rfl
        have hne : ¬ hr (I q) n σ1 = -1 := by rw [h124]; decide
        rw [lop, hT] at he
        refine E_iload_n (i := 3) dX4_either_8 rfl rfl ?_
        refine E_bipush (v := 50) dX4_either_9 (by decide) ?_
        refine E_icmp_ge (tgt := 54) dX4_either_11 (by decide) (fun c_11 => absurd c_11 (h50)) (fun c_11 => ?_)
        refine E_aload_n (i := 0) dX4_either_14 rfl rfl ?_
        refine E_bipush (v := 124) dX4_either_15 (by decide) ?_
        refine k_X4_either_17 (mc' := 0) (ms' := 0) (rc := 0) (rs := 0) (by omega) (Nat.le_of_ble_eq_true rfl) (by assumption) (c_takes (by omega) hX hK (by decide) (fun _ J2 r2 => ?_) (fun h => absurd h124 h))
        refine E_if_eq (tgt := 54) dX4_either_20 (by decide) (fun c_20 => absurd c_20 (by decide)) (fun c_20 => ?_)
        refine E_aload_n (i := 0) dX4_either_23 rfl rfl ?_
        refine E_iload_n (i := 1) dX4_either_24 rfl rfl ?_
        refine k_X4_either_25 (mc' := 0) (ms' := 0) (rc := 0) (rs := 0) (by omega) (Nat.le_of_ble_eq_true rfl) (by assumption) (hp _ _ _ _ (by omega) r2 (fun v2 J3 r3 q3 => ?_))
        refine E_istoreC dX4_either_28 (by decide) rfl ?_
        refine E_lv (lv' := [_, _, _, _, _]) rfl ?_
        refine E_iload_n (i := 2) dX4_either_30 rfl rfl ?_
        refine E_if_ne (tgt := 39) dX4_either_31 (by decide) (fun c_31 => ?_) (fun c_31 => ?_)
        · refine E_iconst (v := 1) dX4_either_39 (by decide) ?_
          refine E_goto (tgt := 44) dX4_either_40 (by decide) ?_
          refine k_X4_either_44 (mc' := 0) (ms' := 0) (rc := 0) (rs := 0) (by omega) (Nat.le_of_ble_eq_true rfl) (c_truth (by first | exact Or.inl rfl | exact Or.inr rfl) ?_)
          refine E_istore_nC (i := 2) dX4_either_47 rfl (by decide) rfl ?_
          refine E_lv (lv' := [_, _, _, _, _]) rfl ?_
          refine E_incC (c := 1) dX4_either_48 rfl (by decide) (by decide) rfl ?_
          refine E_lv (lv' := [_, _, _, _, _]) rfl ?_
          refine E_goto (tgt := 8) dX4_either_51 (by decide) ?_
          exact ih (i + 1) _ _ _ _ _ (by omega) (by rw [hx, nI_1]) (RC_emt r3) (RV_eq (RV_op hv hne q3 (by decide) (by decide)) (Eq.symm (by first | exact dn_0 (Or.inl c_31) | exact dn_0 (Or.inr c_36) | exact dn_0f c_31 c_36))) he
        · refine E_iload dX4_either_34 rfl ?_
          refine E_if_eq (tgt := 43) dX4_either_36 (by decide) (fun c_36 => ?_) (fun c_36 => ?_)
          · refine E_iconst (v := 0) dX4_either_43 (by decide) ?_
            refine k_X4_either_44 (mc' := 0) (ms' := 0) (rc := 0) (rs := 0) (by omega) (Nat.le_of_ble_eq_true rfl) (c_truth (by first | exact Or.inl rfl | exact Or.inr rfl) ?_)
            refine E_istore_nC (i := 2) dX4_either_47 rfl (by decide) rfl ?_
            refine E_lv (lv' := [_, _, _, _, _]) rfl ?_
            refine E_incC (c := 1) dX4_either_48 rfl (by decide) (by decide) rfl ?_
            refine E_lv (lv' := [_, _, _, _, _]) rfl ?_
            refine E_goto (tgt := 8) dX4_either_51 (by decide) ?_
            exact ih (i + 1) _ _ _ _ _ (by omega) (by rw [hx, nI_1]) (RC_emt r3) (RV_eq (RV_op hv hne q3 (by decide) (by decide)) (Eq.symm (by first | exact dn_0 (Or.inl c_31) | exact dn_0 (Or.inr c_36) | exact dn_0f c_31 c_36))) he
          · refine E_iconst (v := 1) dX4_either_39 (by decide) ?_
            refine E_goto (tgt := 44) dX4_either_40 (by decide) ?_
            refine k_X4_either_44 (mc' := 0) (ms' := 0) (rc := 0) (rs := 0) (by omega) (Nat.le_of_ble_eq_true rfl) (c_truth (by first | exact Or.inl rfl | exact Or.inr rfl) ?_)
            refine E_istore_nC (i := 2) dX4_either_47 rfl (by decide) rfl ?_
            refine E_lv (lv' := [_, _, _, _, _]) rfl ?_
            refine E_incC (c := 1) dX4_either_48 rfl (by decide) (by decide) rfl ?_
            refine E_lv (lv' := [_, _, _, _, _]) rfl ?_
            refine E_goto (tgt := 8) dX4_either_51 (by decide) ?_
            exact ih (i + 1) _ _ _ _ _ (by omega) (by rw [hx, nI_1]) (RC_emt r3) (RV_eq (RV_op hv hne q3 (by decide) (by decide)) (Eq.symm (by first | exact dn_0 (Or.inl c_31) | exact dn_0 (Or.inr c_36) | exact dn_0f c_31 c_36))) he
      · have _ := x1
        have hT : opT (hr (I q) n σ1) opE = none := by unfold opE opT; rw [if_neg h124]; rfl
        rw [lop, hT] at he
        have he : σ1 = eth (I q) n s σ := he
        have hΦ := hΦ v K (RC_id hK he) (RV_id hv he)
        refine E_iload_n (i := 3) dX4_either_8 rfl rfl ?_
        refine E_bipush (v := 50) dX4_either_9 (by decide) ?_
        refine E_icmp_ge (tgt := 54) dX4_either_11 (by decide) (fun c_11 => absurd c_11 (h50)) (fun c_11 => ?_)
        refine E_aload_n (i := 0) dX4_either_14 rfl rfl ?_
        refine E_bipush (v := 124) dX4_either_15 (by decide) ?_
        refine k_X4_either_17 (mc' := 0) (ms' := 0) (rc := 0) (rs := 0) (by omega) (Nat.le_of_ble_eq_true rfl) (by assumption) (c_takes (by omega) hX hK (by decide) (fun h => absurd h h124) (fun _ => ?_))
        refine E_if_eq (tgt := 54) dX4_either_20 (by decide) (fun c_20 => ?_) (fun c_20 => absurd (rfl) c_20)
        refine E_iload_n (i := 2) dX4_either_54 rfl rfl ?_
        refine E_iret dX4_either_55 rfl ?_
        exact hΦ
  refine E_aload_n (i := 0) dX4_either_0 rfl rfl ?_
  refine E_iload_n (i := 1) dX4_either_1 rfl rfl ?_
  refine k_X4_either_2 (mc' := 0) (ms' := 0) (rc := 0) (rs := 0) (by omega) (Nat.le_of_ble_eq_true rfl) (by assumption) (hp _ _ _ _ (by omega) hJ (fun v1 J1 r1 q1 => ?_))
  refine E_istore_nC (i := 2) dX4_either_5 rfl (by decide) rfl ?_
  refine E_lv (lv' := [_, _, _, _, _]) rfl ?_
  refine E_iconst (v := 0) dX4_either_6 (by decide) ?_
  refine E_istore_nC (i := 3) dX4_either_7 rfl (by decide) rfl ?_
  refine E_lv (lv' := [_, _, _, _, _]) rfl ?_
  exact loop 50 0 _ _ _ _ _ rfl rfl r1 q1 rfl
theorem r_compared (hX : RX g P I r q n u) (hp : CK Γ g P I n nm mX4_sum o (need + 1) (smm (I q) n s)) : CK Γ g P I n nm mX4_compared o (need + 2) (cmd (I q) n s) := by
  intro d J σ Φ hd hJ hΦ
  refine MM_entry [some _, some _, none] (by decide) (Nat.le_of_ble_eq_true rfl) rfl ?_
  have x1 := hX.1
  unfold cmd at hΦ
  by_cases h60 : hr (I q) n (smm (I q) n s σ) = 60
  · have hT : opT (hr (I q) n (smm (I q) n s σ)) opC = some 20002 := by rw [h60]; rfl
    have hne : ¬ hr (I q) n (smm (I q) n s σ) = -1 := by rw [h60]; decide
    rw [hT] at hΦ
    refine E_aload_n (i := 0) dX4_compared_0 rfl rfl ?_
    refine E_iload_n (i := 1) dX4_compared_1 rfl rfl ?_
    refine k_X4_compared_2 (mc' := 0) (ms' := 0) (rc := 0) (rs := 0) (by omega) (Nat.le_of_ble_eq_true rfl) (by assumption) (hp _ _ _ _ (by omega) hJ (fun v1 J1 r1 q1 => ?_))
    refine E_istore_nC (i := 2) dX4_compared_5 rfl (by decide) rfl ?_
    refine E_lv (lv' := [_, _, _]) rfl ?_
    refine E_aload_n (i := 0) dX4_compared_6 rfl rfl ?_
    refine E_bipush (v := 60) dX4_compared_7 (by decide) ?_
    refine k_X4_compared_9 (mc' := 0) (ms' := 0) (rc := 0) (rs := 0) (by omega) (Nat.le_of_ble_eq_true rfl) (by assumption) (c_takes (by omega) hX r1 (by decide) (fun _ J2 r2 => ?_) (fun h => absurd h60 h))
    refine E_if_eq (tgt := 33) dX4_compared_12 (by decide) (fun c_12 => absurd c_12 (by decide)) (fun c_12 => ?_)
    refine E_iload_n (i := 2) dX4_compared_15 rfl rfl ?_
    refine E_aload_n (i := 0) dX4_compared_16 rfl rfl ?_
    refine E_iload_n (i := 1) dX4_compared_17 rfl rfl ?_
    refine k_X4_compared_18 (mc' := 0) (ms' := 0) (rc := 0) (rs := 0) (by omega) (Nat.le_of_ble_eq_true rfl) (by assumption) (hp _ _ _ _ (by omega) r2 (fun v2 J3 r3 q3 => ?_))
    refine E_icmp_ge (tgt := 28) dX4_compared_21 (by decide) (fun c_21 => ?_) (fun c_21 => ?_)
    · refine E_iconst (v := 0) dX4_compared_28 (by decide) ?_
      refine k_X4_compared_29 (mc' := 0) (ms' := 0) (rc := 0) (rs := 0) (by omega) (Nat.le_of_ble_eq_true rfl) (c_truth (by first | exact Or.inl rfl | exact Or.inr rfl) ?_)
      refine E_iret dX4_compared_32 rfl ?_
      refine hΦ _ _ (RC_emt r3) (RV_eq (RV_op q1 hne q3 (by decide) (by decide)) ?_)
      rw [dn_2]
      first | exact bz_f (Int32.not_lt.mpr c_21) | exact bz_t (Int32.not_le.mp c_21)
    · refine E_iconst (v := 1) dX4_compared_24 (by decide) ?_
      refine E_goto (tgt := 29) dX4_compared_25 (by decide) ?_
      refine k_X4_compared_29 (mc' := 0) (ms' := 0) (rc := 0) (rs := 0) (by omega) (Nat.le_of_ble_eq_true rfl) (c_truth (by first | exact Or.inl rfl | exact Or.inr rfl) ?_)
      refine E_iret dX4_compared_32 rfl ?_
      refine hΦ _ _ (RC_emt r3) (RV_eq (RV_op q1 hne q3 (by decide) (by decide)) ?_)
      rw [dn_2]
      first | exact bz_f (Int32.not_lt.mpr c_21) | exact bz_t (Int32.not_le.mp c_21)
  · have _ := x1
    by_cases h61 : hr (I q) n (smm (I q) n s σ) = 61
    · have hT : opT (hr (I q) n (smm (I q) n s σ)) opC = some 20003 := by rw [h61]; rfl
      have hne : ¬ hr (I q) n (smm (I q) n s σ) = -1 := by rw [h61]; decide
      rw [hT] at hΦ
      refine E_aload_n (i := 0) dX4_compared_0 rfl rfl ?_
      refine E_iload_n (i := 1) dX4_compared_1 rfl rfl ?_
      refine k_X4_compared_2 (mc' := 0) (ms' := 0) (rc := 0) (rs := 0) (by omega) (Nat.le_of_ble_eq_true rfl) (by assumption) (hp _ _ _ _ (by omega) hJ (fun v1 J1 r1 q1 => ?_))
      refine E_istore_nC (i := 2) dX4_compared_5 rfl (by decide) rfl ?_
      refine E_lv (lv' := [_, _, _]) rfl ?_
      refine E_aload_n (i := 0) dX4_compared_6 rfl rfl ?_
      refine E_bipush (v := 60) dX4_compared_7 (by decide) ?_
      refine k_X4_compared_9 (mc' := 0) (ms' := 0) (rc := 0) (rs := 0) (by omega) (Nat.le_of_ble_eq_true rfl) (by assumption) (c_takes (by omega) hX r1 (by decide) (fun h => absurd h h60) (fun _ => ?_))
      refine E_if_eq (tgt := 33) dX4_compared_12 (by decide) (fun c_12 => ?_) (fun c_12 => absurd (rfl) c_12)
      refine E_aload_n (i := 0) dX4_compared_33 rfl rfl ?_
      refine E_bipush (v := 61) dX4_compared_34 (by decide) ?_
      refine k_X4_compared_36 (mc' := 0) (ms' := 0) (rc := 0) (rs := 0) (by omega) (Nat.le_of_ble_eq_true rfl) (by assumption) (c_takes (by omega) hX r1 (by decide) (fun _ J2 r2 => ?_) (fun h => absurd h61 h))
      refine E_if_eq (tgt := 60) dX4_compared_39 (by decide) (fun c_39 => absurd c_39 (by decide)) (fun c_39 => ?_)
      refine E_iload_n (i := 2) dX4_compared_42 rfl rfl ?_
      refine E_aload_n (i := 0) dX4_compared_43 rfl rfl ?_
      refine E_iload_n (i := 1) dX4_compared_44 rfl rfl ?_
      refine k_X4_compared_45 (mc' := 0) (ms' := 0) (rc := 0) (rs := 0) (by omega) (Nat.le_of_ble_eq_true rfl) (by assumption) (hp _ _ _ _ (by omega) r2 (fun v2 J3 r3 q3 => ?_))
      refine E_icmp_ne (tgt := 55) dX4_compared_48 (by decide) (fun c_48 => ?_) (fun c_48 => ?_)
      · refine E_iconst (v := 0) dX4_compared_55 (by decide) ?_
        refine k_X4_compared_56 (mc' := 0) (ms' := 0) (rc := 0) (rs := 0) (by omega) (Nat.le_of_ble_eq_true rfl) (c_truth (by first | exact Or.inl rfl | exact Or.inr rfl) ?_)
        refine E_iret dX4_compared_59 rfl ?_
        refine hΦ _ _ (RC_emt r3) (RV_eq (RV_op q1 hne q3 (by decide) (by decide)) ?_)
        rw [dn_3]
        first | exact bz_t c_48 | exact bz_f c_48
      · refine E_iconst (v := 1) dX4_compared_51 (by decide) ?_
        refine E_goto (tgt := 56) dX4_compared_52 (by decide) ?_
        refine k_X4_compared_56 (mc' := 0) (ms' := 0) (rc := 0) (rs := 0) (by omega) (Nat.le_of_ble_eq_true rfl) (c_truth (by first | exact Or.inl rfl | exact Or.inr rfl) ?_)
        refine E_iret dX4_compared_59 rfl ?_
        refine hΦ _ _ (RC_emt r3) (RV_eq (RV_op q1 hne q3 (by decide) (by decide)) ?_)
        rw [dn_3]
        first | exact bz_t c_48 | exact bz_f c_48
    · have _ := x1
      by_cases h62 : hr (I q) n (smm (I q) n s σ) = 62
      · have hT : opT (hr (I q) n (smm (I q) n s σ)) opC = some 20004 := by rw [h62]; rfl
        have hne : ¬ hr (I q) n (smm (I q) n s σ) = -1 := by rw [h62]; decide
        rw [hT] at hΦ
        refine E_aload_n (i := 0) dX4_compared_0 rfl rfl ?_
        refine E_iload_n (i := 1) dX4_compared_1 rfl rfl ?_
        refine k_X4_compared_2 (mc' := 0) (ms' := 0) (rc := 0) (rs := 0) (by omega) (Nat.le_of_ble_eq_true rfl) (by assumption) (hp _ _ _ _ (by omega) hJ (fun v1 J1 r1 q1 => ?_))
        refine E_istore_nC (i := 2) dX4_compared_5 rfl (by decide) rfl ?_
        refine E_lv (lv' := [_, _, _]) rfl ?_
        refine E_aload_n (i := 0) dX4_compared_6 rfl rfl ?_
        refine E_bipush (v := 60) dX4_compared_7 (by decide) ?_
        refine k_X4_compared_9 (mc' := 0) (ms' := 0) (rc := 0) (rs := 0) (by omega) (Nat.le_of_ble_eq_true rfl) (by assumption) (c_takes (by omega) hX r1 (by decide) (fun h => absurd h h60) (fun _ => ?_))
        refine E_if_eq (tgt := 33) dX4_compared_12 (by decide) (fun c_12 => ?_) (fun c_12 => absurd (rfl) c_12)
        refine E_aload_n (i := 0) dX4_compared_33 rfl rfl ?_
        refine E_bipush (v := 61) dX4_compared_34 (by decide) ?_
        refine k_X4_compared_36 (mc' := 0) (ms' := 0) (rc := 0) (rs := 0) (by omega) (Nat.le_of_ble_eq_true rfl) (by assumption) (c_takes (by omega) hX r1 (by decide) (fun h => absurd h h61) (fun _ => ?_))
        refine E_if_eq (tgt := 60) dX4_compared_39 (by decide) (fun c_39 => ?_) (fun c_39 => absurd (rfl) c_39)
        refine E_aload_n (i := 0) dX4_compared_60 rfl rfl ?_
        refine E_bipush (v := 62) dX4_compared_61 (by decide) ?_
        refine k_X4_compared_63 (mc' := 0) (ms' := 0) (rc := 0) (rs := 0) (by omega) (Nat.le_of_ble_eq_true rfl) (by assumption) (c_takes (by omega) hX r1 (by decide) (fun _ J2 r2 => ?_) (fun h => absurd h62 h))
        refine E_if_eq (tgt := 87) dX4_compared_66 (by decide) (fun c_66 => absurd c_66 (by decide)) (fun c_66 => ?_)
        refine E_iload_n (i := 2) dX4_compared_69 rfl rfl ?_
        refine E_aload_n (i := 0) dX4_compared_70 rfl rfl ?_
        refine E_iload_n (i := 1) dX4_compared_71 rfl rfl ?_
        refine k_X4_compared_72 (mc' := 0) (ms' := 0) (rc := 0) (rs := 0) (by omega) (Nat.le_of_ble_eq_true rfl) (by assumption) (hp _ _ _ _ (by omega) r2 (fun v2 J3 r3 q3 => ?_))
        refine E_icmp_le (tgt := 82) dX4_compared_75 (by decide) (fun c_75 => ?_) (fun c_75 => ?_)
        · refine E_iconst (v := 0) dX4_compared_82 (by decide) ?_
          refine k_X4_compared_83 (mc' := 0) (ms' := 0) (rc := 0) (rs := 0) (by omega) (Nat.le_of_ble_eq_true rfl) (c_truth (by first | exact Or.inl rfl | exact Or.inr rfl) ?_)
          refine E_iret dX4_compared_86 rfl ?_
          refine hΦ _ _ (RC_emt r3) (RV_eq (RV_op q1 hne q3 (by decide) (by decide)) ?_)
          rw [dn_4]
          first | exact bz_f (Int32.not_lt.mpr c_75) | exact bz_t (Int32.not_le.mp c_75)
        · refine E_iconst (v := 1) dX4_compared_78 (by decide) ?_
          refine E_goto (tgt := 83) dX4_compared_79 (by decide) ?_
          refine k_X4_compared_83 (mc' := 0) (ms' := 0) (rc := 0) (rs := 0) (by omega) (Nat.le_of_ble_eq_true rfl) (c_truth (by first | exact Or.inl rfl | exact Or.inr rfl) ?_)
          refine E_iret dX4_compared_86 rfl ?_
          refine hΦ _ _ (RC_emt r3) (RV_eq (RV_op q1 hne q3 (by decide) (by decide)) ?_)
          rw [dn_4]
          first | exact bz_f (Int32.not_lt.mpr c_75) | exact bz_t (Int32.not_le.mp c_75)
      · have _ := x1
        have hT : opT (hr (I q) n (smm (I q) n s σ)) opC = none := by unfold opC opT; rw [if_neg h60]; unfold opT; rw [if_neg h61]; unfold opT; rw [if_neg h62]; rfl
        rw [hT] at hΦ
        refine E_aload_n (i := 0) dX4_compared_0 rfl rfl ?_
        refine E_iload_n (i := 1) dX4_compared_1 rfl rfl ?_
        refine k_X4_compared_2 (mc' := 0) (ms' := 0) (rc := 0) (rs := 0) (by omega) (Nat.le_of_ble_eq_true rfl) (by assumption) (hp _ _ _ _ (by omega) hJ (fun v1 J1 r1 q1 => ?_))
        refine E_istore_nC (i := 2) dX4_compared_5 rfl (by decide) rfl ?_
        refine E_lv (lv' := [_, _, _]) rfl ?_
        refine E_aload_n (i := 0) dX4_compared_6 rfl rfl ?_
        refine E_bipush (v := 60) dX4_compared_7 (by decide) ?_
        refine k_X4_compared_9 (mc' := 0) (ms' := 0) (rc := 0) (rs := 0) (by omega) (Nat.le_of_ble_eq_true rfl) (by assumption) (c_takes (by omega) hX r1 (by decide) (fun h => absurd h h60) (fun _ => ?_))
        refine E_if_eq (tgt := 33) dX4_compared_12 (by decide) (fun c_12 => ?_) (fun c_12 => absurd (rfl) c_12)
        refine E_aload_n (i := 0) dX4_compared_33 rfl rfl ?_
        refine E_bipush (v := 61) dX4_compared_34 (by decide) ?_
        refine k_X4_compared_36 (mc' := 0) (ms' := 0) (rc := 0) (rs := 0) (by omega) (Nat.le_of_ble_eq_true rfl) (by assumption) (c_takes (by omega) hX r1 (by decide) (fun h => absurd h h61) (fun _ => ?_))
        refine E_if_eq (tgt := 60) dX4_compared_39 (by decide) (fun c_39 => ?_) (fun c_39 => absurd (rfl) c_39)
        refine E_aload_n (i := 0) dX4_compared_60 rfl rfl ?_
        refine E_bipush (v := 62) dX4_compared_61 (by decide) ?_
        refine k_X4_compared_63 (mc' := 0) (ms' := 0) (rc := 0) (rs := 0) (by omega) (Nat.le_of_ble_eq_true rfl) (by assumption) (c_takes (by omega) hX r1 (by decide) (fun h => absurd h h62) (fun _ => ?_))
        refine E_if_eq (tgt := 87) dX4_compared_66 (by decide) (fun c_66 => ?_) (fun c_66 => absurd (rfl) c_66)
        refine E_iload_n (i := 2) dX4_compared_87 rfl rfl ?_
        refine E_iret dX4_compared_88 rfl ?_
        exact hΦ _ _ r1 q1
/-- what is opened -/
def opd (t : Nat → Int32) (n : Nat) (s e : PS → PS) (σ : PS) : PS := if hr t n σ = 33 then emt 20010 (s (adv σ)) else if hr t n (e (adv σ)) = 41 then adv (e (adv σ)) else wrg (e (adv σ))
theorem r_opened {e : PS → PS} (hX : RX g P I r q n u) (h1 : CK Γ g P I n nm mX4_single o need s) (h2 : CK Γ g P I n nm mX4_either o need e) (d : Nat) (J : HI) (σ : PS) (Φ : Option Value → Sh → HP → HI → Prop) (hd : need + 2 ≤ d) (hJ : RC I J n σ) (hc : hr (I q) n σ = 33 ∨ hr (I q) n σ = 40) (hΦ : ∀ v J', RC I J' n (opd (I q) n s e σ) → RV nm σ (opd (I q) n s e σ) v → Φ (some (.int v)) g P J') : MM Γ mX4_opened d 0 0 [.ref 17, .int (nI o)] g P J Φ := by
  refine MM_entry [some _, some _, none] (by decide) (Nat.le_of_ble_eq_true rfl) rfl ?_
  have x1 := hX.1
  unfold opd at hΦ
  by_cases h33 : hr (I q) n σ = 33
  · rw [if_pos h33] at hΦ
    refine E_aload_n (i := 0) dX4_opened_0 rfl rfl ?_
    refine E_bipush (v := 33) dX4_opened_1 (by decide) ?_
    refine k_X4_opened_3 (mc' := 0) (ms' := 0) (rc := 0) (rs := 0) (by omega) (Nat.le_of_ble_eq_true rfl) (by assumption) (c_takes (by omega) hX hJ (by decide) (fun _ J2 r2 => ?_) (fun h => absurd h33 h))
    refine E_if_eq (tgt := 26) dX4_opened_6 (by decide) (fun c_6 => absurd c_6 (by decide)) (fun c_6 => ?_)
    refine E_aload_n (i := 0) dX4_opened_9 rfl rfl ?_
    refine E_iload_n (i := 1) dX4_opened_10 rfl rfl ?_
    refine k_X4_opened_11 (mc' := 0) (ms' := 0) (rc := 0) (rs := 0) (by omega) (Nat.le_of_ble_eq_true rfl) (by assumption) (h1 _ _ _ _ (by omega) r2 (fun v2 J3 r3 q3 => ?_))
    refine E_if_ne (tgt := 21) dX4_opened_14 (by decide) (fun c_14 => ?_) (fun c_14 => ?_)
    · refine E_iconst (v := 0) dX4_opened_21 (by decide) ?_
      refine k_X4_opened_22 (mc' := 0) (ms' := 0) (rc := 0) (rs := 0) (by omega) (Nat.le_of_ble_eq_true rfl) (c_truth (by first | exact Or.inl rfl | exact Or.inr rfl) ?_)
      refine E_iret dX4_opened_25 rfl ?_
      exact hΦ _ _ (RC_emt r3) (RV_eq (RV_not q3) (by first | exact if_neg c_14 | exact if_pos c_14))
    · refine E_iconst (v := 1) dX4_opened_17 (by decide) ?_
      refine E_goto (tgt := 22) dX4_opened_18 (by decide) ?_
      refine k_X4_opened_22 (mc' := 0) (ms' := 0) (rc := 0) (rs := 0) (by omega) (Nat.le_of_ble_eq_true rfl) (c_truth (by first | exact Or.inl rfl | exact Or.inr rfl) ?_)
      refine E_iret dX4_opened_25 rfl ?_
      exact hΦ _ _ (RC_emt r3) (RV_eq (RV_not q3) (by first | exact if_neg c_14 | exact if_pos c_14))
  · have h40 : hr (I q) n σ = 40 := hc.resolve_left h33
    have hl := hr_lt (show ¬ hr (I q) n σ = -1 by rw [h40]; decide)
    rw [if_neg h33] at hΦ
    by_cases h41 : hr (I q) n (e (adv σ)) = 41
    · rw [if_pos h41] at hΦ
      refine E_aload_n (i := 0) dX4_opened_0 rfl rfl ?_
      refine E_bipush (v := 33) dX4_opened_1 (by decide) ?_
      refine k_X4_opened_3 (mc' := 0) (ms' := 0) (rc := 0) (rs := 0) (by omega) (Nat.le_of_ble_eq_true rfl) (by assumption) (c_takes (by omega) hX hJ (by decide) (fun h => absurd h h33) (fun _ => ?_))
      refine E_if_eq (tgt := 26) dX4_opened_6 (by decide) (fun c_6 => ?_) (fun c_6 => absurd (rfl) c_6)
      refine E_aload_n (i := 0) dX4_opened_26 rfl rfl ?_
      refine E_dup dX4_opened_27 rfl ?_
      refine E_gi dX4_opened_28 gf_X4_30_4 rfl (by assumption) ?_
      refine E_iconst (v := 1) dX4_opened_31 (by decide) ?_
      refine E_iadd dX4_opened_32 ?_
      refine E_pi dX4_opened_33 gf_X4_30_4 rfl (by assumption) ?_
      refine E_aload_n (i := 0) dX4_opened_36 rfl rfl ?_
      refine E_iload_n (i := 1) dX4_opened_37 rfl rfl ?_
      refine k_X4_opened_38 (mc' := 0) (ms' := 0) (rc := 0) (rs := 0) (by omega) (Nat.le_of_ble_eq_true rfl) (by assumption) (h2 _ _ _ _ (by omega) (RC_adv hJ hl.2 hl.1) (fun v2 J3 r3 q3 => ?_))
      refine E_istore_nC (i := 2) dX4_opened_41 rfl (by decide) rfl ?_
      refine E_lv (lv' := [_, _, _]) rfl ?_
      refine E_aload_n (i := 0) dX4_opened_42 rfl rfl ?_
      refine E_bipush (v := 41) dX4_opened_43 (by decide) ?_
      refine k_X4_opened_45 (mc' := 0) (ms' := 0) (rc := 0) (rs := 0) (by omega) (Nat.le_of_ble_eq_true rfl) (by assumption) (c_takes (by omega) hX r3 (by decide) (fun _ J4 r4 => ?_) (fun h => absurd h41 h))
      refine E_if_eq (tgt := 55) dX4_opened_48 (by decide) (fun c_48 => absurd c_48 (by decide)) (fun c_48 => ?_)
      refine E_iload_n (i := 2) dX4_opened_51 rfl rfl ?_
      refine E_goto (tgt := 59) dX4_opened_52 (by decide) ?_
      refine E_iret dX4_opened_59 rfl ?_
      exact hΦ _ _ r4 (RV_par q3)
    · rw [if_neg h41] at hΦ
      refine E_aload_n (i := 0) dX4_opened_0 rfl rfl ?_
      refine E_bipush (v := 33) dX4_opened_1 (by decide) ?_
      refine k_X4_opened_3 (mc' := 0) (ms' := 0) (rc := 0) (rs := 0) (by omega) (Nat.le_of_ble_eq_true rfl) (by assumption) (c_takes (by omega) hX hJ (by decide) (fun h => absurd h h33) (fun _ => ?_))
      refine E_if_eq (tgt := 26) dX4_opened_6 (by decide) (fun c_6 => ?_) (fun c_6 => absurd (rfl) c_6)
      refine E_aload_n (i := 0) dX4_opened_26 rfl rfl ?_
      refine E_dup dX4_opened_27 rfl ?_
      refine E_gi dX4_opened_28 gf_X4_30_4 rfl (by assumption) ?_
      refine E_iconst (v := 1) dX4_opened_31 (by decide) ?_
      refine E_iadd dX4_opened_32 ?_
      refine E_pi dX4_opened_33 gf_X4_30_4 rfl (by assumption) ?_
      refine E_aload_n (i := 0) dX4_opened_36 rfl rfl ?_
      refine E_iload_n (i := 1) dX4_opened_37 rfl rfl ?_
      refine k_X4_opened_38 (mc' := 0) (ms' := 0) (rc := 0) (rs := 0) (by omega) (Nat.le_of_ble_eq_true rfl) (by assumption) (h2 _ _ _ _ (by omega) (RC_adv hJ hl.2 hl.1) (fun v2 J3 r3 q3 => ?_))
      refine E_istore_nC (i := 2) dX4_opened_41 rfl (by decide) rfl ?_
      refine E_lv (lv' := [_, _, _]) rfl ?_
      refine E_aload_n (i := 0) dX4_opened_42 rfl rfl ?_
      refine E_bipush (v := 41) dX4_opened_43 (by decide) ?_
      refine k_X4_opened_45 (mc' := 0) (ms' := 0) (rc := 0) (rs := 0) (by omega) (Nat.le_of_ble_eq_true rfl) (by assumption) (c_takes (by omega) hX r3 (by decide) (fun h => absurd h h41) (fun _ => ?_))
      refine E_if_eq (tgt := 55) dX4_opened_48 (by decide) (fun c_48 => ?_) (fun c_48 => absurd (rfl) c_48)
      refine E_aload_n (i := 0) dX4_opened_55 rfl rfl ?_
      refine k_X4_opened_56 (mc' := 0) (ms' := 0) (rc := 0) (rs := 0) (by omega) (Nat.le_of_ble_eq_true rfl) (by assumption) (c_stopHere hX r3 (fun J4 r4 => ?_))
      refine E_iret dX4_opened_59 rfl ?_
      exact hΦ _ _ r4 RV_w
theorem i2c_b {b : Nat} (h : b < 256) : ((nI b).toUInt32 % 65536).toInt32 = nI b := by
  rw [pk_char, pk_tn (by omega), Nat.mod_eq_of_lt (by omega)]
/-- what isn't opened -/
theorem r_plain {rc : Option ((PS → PS) × (PS → PS))} (hX : RX g P I r q n u) (hnm : ∀ i, i < 4 → I 18 i = nm i) (d : Nat) (J : HI) (σ : PS) (Φ : Option Value → Sh → HP → HI → Prop) (hd : 8 ≤ d) (hJ : RC I J n σ) (hc : ¬ (hr (I q) n σ = 33 ∨ hr (I q) n σ = 40)) (hΦ : ∀ v J', RC I J' n (sng (I q) n u rc σ) → RV nm σ (sng (I q) n u rc σ) v → Φ (some (.int v)) g P J') : MM Γ mX4_single d 0 0 [.ref 17, .int (nI o)] g P J Φ := by
  refine MM_entry [some _, some _, none, none] (by decide) (Nat.le_of_ble_eq_true rfl) rfl ?_
  have hX0 := hX
  obtain ⟨x1, x2, ⟨x3, x4⟩, x5, x6, x7, hu, hB⟩ := hX
  unfold sng at hΦ
  rw [if_neg hc] at hΦ
  by_cases hg : 48 ≤ hr (I q) n σ ∧ hr (I q) n σ ≤ 57
  · rw [if_pos hg] at hΦ
    obtain ⟨a1, a2, a3⟩ := dig_Gd (I q) n 4 0 σ
    obtain ⟨v1, v2⟩ := dig_v (I q) n 4 0 σ 1 (by omega) (by decide) (by decide) (by decide)
    refine E_aload_n (i := 0) dX4_single_0 rfl rfl ?_
    refine k_X4_single_1 (mc' := 0) (ms' := 0) (rc := 0) (rs := 0) (by omega) (Nat.le_of_ble_eq_true rfl) (by assumption) (c_next hX0 hJ ?_)
    refine E_istore_nC (i := 2) dX4_single_4 rfl (by decide) rfl ?_
    refine E_lv (lv' := [_, _, _, _]) rfl ?_
    refine E_iload_n (i := 2) dX4_single_5 rfl rfl ?_
    refine E_bipush (v := 48) dX4_single_6 (by decide) ?_
    refine E_bipush (v := 57) dX4_single_8 (by decide) ?_
    refine k_X4_single_10 (mc' := 0) (ms' := 0) (rc := 0) (rs := 0) (by omega) (Nat.le_of_ble_eq_true rfl) (c_X11_within ?_)
    rw [bz_t hg]
    refine E_if_eq (tgt := 21) dX4_single_13 (by decide) (fun c_13 => absurd c_13 (by decide)) (fun c_13 => ?_)
    refine E_aload_n (i := 0) dX4_single_16 rfl rfl ?_
    refine k_X4_single_17 (mc' := 0) (ms' := 0) (rc := 0) (rs := 0) (by omega) (Nat.le_of_ble_eq_true rfl) (by assumption) (c_number (by omega) hX0 hJ (fun J2 r2 => ?_))
    refine E_iret dX4_single_20 rfl ?_
    exact hΦ _ _ (RC_emt r2) (RV_num a3 v1 v2)
  · rw [if_neg hg] at hΦ
    have g33 : ¬ hr (I q) n σ = 33 := fun h => hc (Or.inl h)
    have g40 : ¬ hr (I q) n σ = 40 := fun h => hc (Or.inr h)
    have e18 : ∀ i, i < 4 → J 18 i = nm i := fun i hi => by rw [hJ.1 18 (by decide)]; exact hnm i hi
    by_cases hend : hr (I q) n σ = -1
    · have hm : nmo u (hr (I q) n σ) = none := by rw [hend]; exact nmo_end hu
      rw [hm] at hΦ
      have c1 : ¬ ((0 : Int32) ≤ -1 ∧ (-1 : Int32) ≤ nI (g.2.2 18) - 1) := fun h => absurd h.1 (by decide)
      refine E_aload_n (i := 0) dX4_single_0 rfl rfl ?_
      refine k_X4_single_1 (mc' := 0) (ms' := 0) (rc := 0) (rs := 0) (by omega) (Nat.le_of_ble_eq_true rfl) (by assumption) (c_next hX0 hJ ?_)
      refine E_istore_nC (i := 2) dX4_single_4 rfl (by decide) rfl ?_
      refine E_lv (lv' := [_, _, _, _]) rfl ?_
      refine E_iload_n (i := 2) dX4_single_5 rfl rfl ?_
      refine E_bipush (v := 48) dX4_single_6 (by decide) ?_
      refine E_bipush (v := 57) dX4_single_8 (by decide) ?_
      refine k_X4_single_10 (mc' := 0) (ms' := 0) (rc := 0) (rs := 0) (by omega) (Nat.le_of_ble_eq_true rfl) (c_X11_within ?_)
      rw [bz_f hg]
      refine E_if_eq (tgt := 21) dX4_single_13 (by decide) (fun c_13 => ?_) (fun c_13 => absurd (rfl) c_13)
      refine E_iload_n (i := 2) dX4_single_21 rfl rfl ?_
      refine E_bipush (v := 33) dX4_single_22 (by decide) ?_
      refine E_icmp_eq (tgt := 33) dX4_single_24 (by decide) (fun c_24 => absurd c_24 (g33)) (fun c_24 => ?_)
      refine E_iload_n (i := 2) dX4_single_27 rfl rfl ?_
      refine E_bipush (v := 40) dX4_single_28 (by decide) ?_
      refine E_icmp_ne (tgt := 53) dX4_single_30 (by decide) (fun c_30 => ?_) (fun c_30 => absurd c_30 (g40))
      refine E_iload_n (i := 2) dX4_single_53 rfl rfl ?_
      refine E_iconst (v := -1) dX4_single_54 (by decide) ?_
      refine E_icmp_ne (tgt := 62) dX4_single_55 (by decide) (fun c_55 => absurd (hend) c_55) (fun c_55 => ?_)
      refine E_iconst (v := -1) dX4_single_58 (by decide) ?_
      refine E_goto (tgt := 71) dX4_single_59 (by decide) ?_
      refine E_istore_nC (i := 3) dX4_single_71 rfl (by decide) rfl ?_
      refine E_lv (lv' := [_, _, _, _]) rfl ?_
      refine E_iload_n (i := 3) dX4_single_72 rfl rfl ?_
      refine E_iconst (v := 0) dX4_single_73 (by decide) ?_
      refine E_aload_n (i := 0) dX4_single_74 rfl rfl ?_
      refine E_gr dX4_single_75 gf_X4_9_4 rfl (by assumption) (by assumption) ?_
      refine E_il dX4_single_78 (by assumption) ?_
      refine E_iconst (v := 1) dX4_single_79 (by decide) ?_
      refine E_isub dX4_single_80 ?_
      refine k_X4_single_81 (mc' := 0) (ms' := 0) (rc := 0) (rs := 0) (by omega) (Nat.le_of_ble_eq_true rfl) (c_X11_within ?_)
      rw [bz_f c1]
      refine E_if_ne (tgt := 92) dX4_single_84 (by decide) (fun c_84 => absurd (rfl) c_84) (fun c_84 => ?_)
      refine E_aload_n (i := 0) dX4_single_87 rfl rfl ?_
      refine k_X4_single_88 (mc' := 0) (ms' := 0) (rc := 0) (rs := 0) (by omega) (Nat.le_of_ble_eq_true rfl) (by assumption) (c_stopHere hX0 hJ (fun J2 r2 => ?_))
      refine E_iret dX4_single_91 rfl ?_
      exact hΦ _ _ r2 RV_w
    · have hl := hr_lt hend
      obtain ⟨b, hb, hb2⟩ := hB σ.1 hl.2
      have hs : hr (I q) n σ = nI b := by
        unfold hr
        rw [if_pos hl]
        exact hb2
      have hs0 : 0 < sln (1 + u) := by
        match u, hu with
        | 0, _ => decide
        | 1, _ => decide
      have hix : ixo (1 + u) b = (match nmo u (hr (I q) n σ) with | some i => nI i | none => -1) := by
        rw [hs]
        unfold ixo nmo
        cases fnd (fun i => sbt (1 + u) i = nI b) (sln (1 + u)) 0 <;> rfl
      cases hm : nmo u (hr (I q) n σ) with
      | none =>
        rw [hm] at hΦ hix
        have hix : ixo (1 + u) b = -1 := hix
        have c1 : ¬ ((0 : Int32) ≤ -1 ∧ (-1 : Int32) ≤ nI (g.2.2 18) - 1) := fun h => absurd h.1 (by decide)
        refine E_aload_n (i := 0) dX4_single_0 rfl rfl ?_
        refine k_X4_single_1 (mc' := 0) (ms' := 0) (rc := 0) (rs := 0) (by omega) (Nat.le_of_ble_eq_true rfl) (by assumption) (c_next hX0 hJ ?_)
        refine E_istore_nC (i := 2) dX4_single_4 rfl (by decide) rfl ?_
        refine E_lv (lv' := [_, _, _, _]) rfl ?_
        refine E_iload_n (i := 2) dX4_single_5 rfl rfl ?_
        refine E_bipush (v := 48) dX4_single_6 (by decide) ?_
        refine E_bipush (v := 57) dX4_single_8 (by decide) ?_
        refine k_X4_single_10 (mc' := 0) (ms' := 0) (rc := 0) (rs := 0) (by omega) (Nat.le_of_ble_eq_true rfl) (c_X11_within ?_)
        rw [bz_f hg]
        refine E_if_eq (tgt := 21) dX4_single_13 (by decide) (fun c_13 => ?_) (fun c_13 => absurd (rfl) c_13)
        refine E_iload_n (i := 2) dX4_single_21 rfl rfl ?_
        refine E_bipush (v := 33) dX4_single_22 (by decide) ?_
        refine E_icmp_eq (tgt := 33) dX4_single_24 (by decide) (fun c_24 => absurd c_24 (g33)) (fun c_24 => ?_)
        refine E_iload_n (i := 2) dX4_single_27 rfl rfl ?_
        refine E_bipush (v := 40) dX4_single_28 (by decide) ?_
        refine E_icmp_ne (tgt := 53) dX4_single_30 (by decide) (fun c_30 => ?_) (fun c_30 => absurd c_30 (g40))
        refine E_iload_n (i := 2) dX4_single_53 rfl rfl ?_
        refine E_iconst (v := -1) dX4_single_54 (by decide) ?_
        refine E_icmp_ne (tgt := 62) dX4_single_55 (by decide) (fun c_55 => ?_) (fun c_55 => absurd c_55 (hend))
        refine E_aload_n (i := 0) dX4_single_62 rfl rfl ?_
        refine E_gr dX4_single_63 gf_X4_26_4 rfl (by assumption) (by assumption) ?_
        refine E_iload_n (i := 2) dX4_single_66 rfl rfl ?_
        refine E_i2c dX4_single_67 ?_
        rw [hs, i2c_b hb]
        refine k_X4_single_68 (mc' := 0) (ms' := 0) (rc := 0) (rs := 0) (by omega) (Nat.le_of_ble_eq_true rfl) (by omega) (c_indexOf (by omega) (by omega) hs0 rfl hb ?_)
        rw [hix]
        refine E_istore_nC (i := 3) dX4_single_71 rfl (by decide) rfl ?_
        refine E_lv (lv' := [_, _, _, _]) rfl ?_
        refine E_iload_n (i := 3) dX4_single_72 rfl rfl ?_
        refine E_iconst (v := 0) dX4_single_73 (by decide) ?_
        refine E_aload_n (i := 0) dX4_single_74 rfl rfl ?_
        refine E_gr dX4_single_75 gf_X4_9_4 rfl (by assumption) (by assumption) ?_
        refine E_il dX4_single_78 (by assumption) ?_
        refine E_iconst (v := 1) dX4_single_79 (by decide) ?_
        refine E_isub dX4_single_80 ?_
        refine k_X4_single_81 (mc' := 0) (ms' := 0) (rc := 0) (rs := 0) (by omega) (Nat.le_of_ble_eq_true rfl) (c_X11_within ?_)
        rw [bz_f c1]
        refine E_if_ne (tgt := 92) dX4_single_84 (by decide) (fun c_84 => absurd (rfl) c_84) (fun c_84 => ?_)
        refine E_aload_n (i := 0) dX4_single_87 rfl rfl ?_
        refine k_X4_single_88 (mc' := 0) (ms' := 0) (rc := 0) (rs := 0) (by omega) (Nat.le_of_ble_eq_true rfl) (by assumption) (c_stopHere hX0 hJ (fun J2 r2 => ?_))
        refine E_iret dX4_single_91 rfl ?_
        exact hΦ _ _ r2 RV_w
      | some i =>
        rw [hm] at hΦ hix
        have hix : ixo (1 + u) b = nI i := hix
        obtain ⟨m1, m2, m3⟩ := nmo_lt hu hm
        have c1 : (0 : Int32) ≤ nI i ∧ nI i ≤ nI (g.2.2 18) - 1 := by rw [x4]; exact nat_in (by omega) m1
        refine E_aload_n (i := 0) dX4_single_0 rfl rfl ?_
        refine k_X4_single_1 (mc' := 0) (ms' := 0) (rc := 0) (rs := 0) (by omega) (Nat.le_of_ble_eq_true rfl) (by assumption) (c_next hX0 hJ ?_)
        refine E_istore_nC (i := 2) dX4_single_4 rfl (by decide) rfl ?_
        refine E_lv (lv' := [_, _, _, _]) rfl ?_
        refine E_iload_n (i := 2) dX4_single_5 rfl rfl ?_
        refine E_bipush (v := 48) dX4_single_6 (by decide) ?_
        refine E_bipush (v := 57) dX4_single_8 (by decide) ?_
        refine k_X4_single_10 (mc' := 0) (ms' := 0) (rc := 0) (rs := 0) (by omega) (Nat.le_of_ble_eq_true rfl) (c_X11_within ?_)
        rw [bz_f hg]
        refine E_if_eq (tgt := 21) dX4_single_13 (by decide) (fun c_13 => ?_) (fun c_13 => absurd (rfl) c_13)
        refine E_iload_n (i := 2) dX4_single_21 rfl rfl ?_
        refine E_bipush (v := 33) dX4_single_22 (by decide) ?_
        refine E_icmp_eq (tgt := 33) dX4_single_24 (by decide) (fun c_24 => absurd c_24 (g33)) (fun c_24 => ?_)
        refine E_iload_n (i := 2) dX4_single_27 rfl rfl ?_
        refine E_bipush (v := 40) dX4_single_28 (by decide) ?_
        refine E_icmp_ne (tgt := 53) dX4_single_30 (by decide) (fun c_30 => ?_) (fun c_30 => absurd c_30 (g40))
        refine E_iload_n (i := 2) dX4_single_53 rfl rfl ?_
        refine E_iconst (v := -1) dX4_single_54 (by decide) ?_
        refine E_icmp_ne (tgt := 62) dX4_single_55 (by decide) (fun c_55 => ?_) (fun c_55 => absurd c_55 (hend))
        refine E_aload_n (i := 0) dX4_single_62 rfl rfl ?_
        refine E_gr dX4_single_63 gf_X4_26_4 rfl (by assumption) (by assumption) ?_
        refine E_iload_n (i := 2) dX4_single_66 rfl rfl ?_
        refine E_i2c dX4_single_67 ?_
        rw [hs, i2c_b hb]
        refine k_X4_single_68 (mc' := 0) (ms' := 0) (rc := 0) (rs := 0) (by omega) (Nat.le_of_ble_eq_true rfl) (by omega) (c_indexOf (by omega) (by omega) hs0 rfl hb ?_)
        rw [hix]
        refine E_istore_nC (i := 3) dX4_single_71 rfl (by decide) rfl ?_
        refine E_lv (lv' := [_, _, _, _]) rfl ?_
        refine E_iload_n (i := 3) dX4_single_72 rfl rfl ?_
        refine E_iconst (v := 0) dX4_single_73 (by decide) ?_
        refine E_aload_n (i := 0) dX4_single_74 rfl rfl ?_
        refine E_gr dX4_single_75 gf_X4_9_4 rfl (by assumption) (by assumption) ?_
        refine E_il dX4_single_78 (by assumption) ?_
        refine E_iconst (v := 1) dX4_single_79 (by decide) ?_
        refine E_isub dX4_single_80 ?_
        refine k_X4_single_81 (mc' := 0) (ms' := 0) (rc := 0) (rs := 0) (by omega) (Nat.le_of_ble_eq_true rfl) (c_X11_within ?_)
        rw [bz_t c1]
        refine E_if_ne (tgt := 92) dX4_single_84 (by decide) (fun c_84 => ?_) (fun c_84 => absurd c_84 (by decide))
        refine E_aload_n (i := 0) dX4_single_92 rfl rfl ?_
        refine E_dup dX4_single_93 rfl ?_
        refine E_gi dX4_single_94 gf_X4_30_4 rfl (by assumption) ?_
        refine E_iconst (v := 1) dX4_single_97 (by decide) ?_
        refine E_iadd dX4_single_98 ?_
        refine E_pi dX4_single_99 gf_X4_30_4 rfl (by assumption) ?_
        refine E_aload_n (i := 0) dX4_single_102 rfl rfl ?_
        refine E_gr dX4_single_103 gf_X4_9_4 rfl (by assumption) (by assumption) ?_
        refine E_iload_n (i := 3) dX4_single_106 rfl rfl ?_
        refine E_iaj i dX4_single_107 (by assumption) rfl (by omega) (by rw [x4]; omega) ?_
        rw [u2_oth _ (by decide), e18 i m1]
        refine E_iret dX4_single_108 rfl ?_
        exact hΦ _ _ (RC_adv (σ := emt (10000 + nI i) σ) (RC_emt hJ) (by rw [(emt_1 _ σ).1]; exact hl.2) (by rw [(emt_1 _ σ).2]; exact hl.1)) (RV_nam m1 hl.1)
theorem r_single0 (hX : RX g P I r q n u) (hnm : ∀ i, i < 4 → I 18 i = nm i) : CK Γ g P I n nm mX4_single 5 8 (pS (I q) n u 0) := by
  intro d J σ Φ hd hJ hΦ
  by_cases hc : hr (I q) n σ = 33 ∨ hr (I q) n σ = 40
  · have hΦ' : ∀ v J', RC I J' n (wrg σ) → RV nm σ (wrg σ) v → Φ (some (.int v)) g P J' := by
      have e : pS (I q) n u 0 σ = wrg σ := by
        show sng (I q) n u none σ = _
        unfold sng
        exact if_pos hc
      rw [e] at hΦ
      exact hΦ
    have hg : ¬ (48 ≤ hr (I q) n σ ∧ hr (I q) n σ ≤ 57) := by rcases hc with h | h <;> rw [h] <;> decide
    refine MM_entry [some _, some _, none, none] (by decide) (Nat.le_of_ble_eq_true rfl) rfl ?_
    have x1 := hX.1
    by_cases h33 : hr (I q) n σ = 33
    · refine E_aload_n (i := 0) dX4_single_0 rfl rfl ?_
      refine k_X4_single_1 (mc' := 0) (ms' := 0) (rc := 0) (rs := 0) (by omega) (Nat.le_of_ble_eq_true rfl) (by assumption) (c_next hX hJ ?_)
      refine E_istore_nC (i := 2) dX4_single_4 rfl (by decide) rfl ?_
      refine E_lv (lv' := [_, _, _, _]) rfl ?_
      refine E_iload_n (i := 2) dX4_single_5 rfl rfl ?_
      refine E_bipush (v := 48) dX4_single_6 (by decide) ?_
      refine E_bipush (v := 57) dX4_single_8 (by decide) ?_
      refine k_X4_single_10 (mc' := 0) (ms' := 0) (rc := 0) (rs := 0) (by omega) (Nat.le_of_ble_eq_true rfl) (c_X11_within ?_)
      rw [bz_f hg]
      refine E_if_eq (tgt := 21) dX4_single_13 (by decide) (fun c_13 => ?_) (fun c_13 => absurd (rfl) c_13)
      refine E_iload_n (i := 2) dX4_single_21 rfl rfl ?_
      refine E_bipush (v := 33) dX4_single_22 (by decide) ?_
      refine E_icmp_eq (tgt := 33) dX4_single_24 (by decide) (fun c_24 => ?_) (fun c_24 => absurd (h33) c_24)
      refine E_iload_n (i := 1) dX4_single_33 rfl rfl ?_
      refine E_iconst (v := 5) dX4_single_34 (by decide) ?_
      refine E_icmp_ge (tgt := 48) dX4_single_35 (by decide) (fun c_35 => ?_) (fun c_35 => absurd (by decide) c_35)
      refine E_aload_n (i := 0) dX4_single_48 rfl rfl ?_
      refine k_X4_single_49 (mc' := 0) (ms' := 0) (rc := 0) (rs := 0) (by omega) (Nat.le_of_ble_eq_true rfl) (by assumption) (c_stopHere hX hJ (fun J2 r2 => ?_))
      refine E_iret dX4_single_52 rfl ?_
      exact hΦ' _ _ r2 RV_w
    · refine E_aload_n (i := 0) dX4_single_0 rfl rfl ?_
      refine k_X4_single_1 (mc' := 0) (ms' := 0) (rc := 0) (rs := 0) (by omega) (Nat.le_of_ble_eq_true rfl) (by assumption) (c_next hX hJ ?_)
      refine E_istore_nC (i := 2) dX4_single_4 rfl (by decide) rfl ?_
      refine E_lv (lv' := [_, _, _, _]) rfl ?_
      refine E_iload_n (i := 2) dX4_single_5 rfl rfl ?_
      refine E_bipush (v := 48) dX4_single_6 (by decide) ?_
      refine E_bipush (v := 57) dX4_single_8 (by decide) ?_
      refine k_X4_single_10 (mc' := 0) (ms' := 0) (rc := 0) (rs := 0) (by omega) (Nat.le_of_ble_eq_true rfl) (c_X11_within ?_)
      rw [bz_f hg]
      refine E_if_eq (tgt := 21) dX4_single_13 (by decide) (fun c_13 => ?_) (fun c_13 => absurd (rfl) c_13)
      refine E_iload_n (i := 2) dX4_single_21 rfl rfl ?_
      refine E_bipush (v := 33) dX4_single_22 (by decide) ?_
      refine E_icmp_eq (tgt := 33) dX4_single_24 (by decide) (fun c_24 => absurd c_24 (h33)) (fun c_24 => ?_)
      refine E_iload_n (i := 2) dX4_single_27 rfl rfl ?_
      refine E_bipush (v := 40) dX4_single_28 (by decide) ?_
      refine E_icmp_ne (tgt := 53) dX4_single_30 (by decide) (fun c_30 => absurd (hc.resolve_left h33) c_30) (fun c_30 => ?_)
      refine E_iload_n (i := 1) dX4_single_33 rfl rfl ?_
      refine E_iconst (v := 5) dX4_single_34 (by decide) ?_
      refine E_icmp_ge (tgt := 48) dX4_single_35 (by decide) (fun c_35 => ?_) (fun c_35 => absurd (by decide) c_35)
      refine E_aload_n (i := 0) dX4_single_48 rfl rfl ?_
      refine k_X4_single_49 (mc' := 0) (ms' := 0) (rc := 0) (rs := 0) (by omega) (Nat.le_of_ble_eq_true rfl) (by assumption) (c_stopHere hX hJ (fun J2 r2 => ?_))
      refine E_iret dX4_single_52 rfl ?_
      exact hΦ' _ _ r2 RV_w
  · exact r_plain (rc := none) hX hnm d J σ Φ hd hJ hc hΦ
theorem r_singleS {k : Nat} (hX : RX g P I r q n u) (hnm : ∀ i, i < 4 → I 18 i = nm i) (ho : o < 5) (hn8 : 8 ≤ need) (h1 : CK Γ g P I n nm mX4_single (o + 1) need (pS (I q) n u k)) (h2 : CK Γ g P I n nm mX4_either (o + 1) need (eth (I q) n (pS (I q) n u k))) : CK Γ g P I n nm mX4_single o (need + 3) (pS (I q) n u (k + 1)) := by
  intro d J σ Φ hd hJ hΦ
  by_cases hc : hr (I q) n σ = 33 ∨ hr (I q) n σ = 40
  · have e : pS (I q) n u (k + 1) σ = opd (I q) n (pS (I q) n u k) (eth (I q) n (pS (I q) n u k)) σ := by
      show sng (I q) n u (some _) σ = _
      unfold sng opd
      exact if_pos hc
    rw [e] at hΦ
    have hg : ¬ (48 ≤ hr (I q) n σ ∧ hr (I q) n σ ≤ 57) := by rcases hc with h | h <;> rw [h] <;> decide
    have ho5 : ¬ (5 : Int32) ≤ nI o := nI_ge (b := 5) ho (by omega)
    refine MM_entry [some _, some _, none, none] (by decide) (Nat.le_of_ble_eq_true rfl) rfl ?_
    have x1 := hX.1
    by_cases h33 : hr (I q) n σ = 33
    · refine E_aload_n (i := 0) dX4_single_0 rfl rfl ?_
      refine k_X4_single_1 (mc' := 0) (ms' := 0) (rc := 0) (rs := 0) (by omega) (Nat.le_of_ble_eq_true rfl) (by assumption) (c_next hX hJ ?_)
      refine E_istore_nC (i := 2) dX4_single_4 rfl (by decide) rfl ?_
      refine E_lv (lv' := [_, _, _, _]) rfl ?_
      refine E_iload_n (i := 2) dX4_single_5 rfl rfl ?_
      refine E_bipush (v := 48) dX4_single_6 (by decide) ?_
      refine E_bipush (v := 57) dX4_single_8 (by decide) ?_
      refine k_X4_single_10 (mc' := 0) (ms' := 0) (rc := 0) (rs := 0) (by omega) (Nat.le_of_ble_eq_true rfl) (c_X11_within ?_)
      rw [bz_f hg]
      refine E_if_eq (tgt := 21) dX4_single_13 (by decide) (fun c_13 => ?_) (fun c_13 => absurd (rfl) c_13)
      refine E_iload_n (i := 2) dX4_single_21 rfl rfl ?_
      refine E_bipush (v := 33) dX4_single_22 (by decide) ?_
      refine E_icmp_eq (tgt := 33) dX4_single_24 (by decide) (fun c_24 => ?_) (fun c_24 => absurd (h33) c_24)
      refine E_iload_n (i := 1) dX4_single_33 rfl rfl ?_
      refine E_iconst (v := 5) dX4_single_34 (by decide) ?_
      refine E_icmp_ge (tgt := 48) dX4_single_35 (by decide) (fun c_35 => absurd c_35 (ho5)) (fun c_35 => ?_)
      refine E_aload_n (i := 0) dX4_single_38 rfl rfl ?_
      refine E_iload_n (i := 1) dX4_single_39 rfl rfl ?_
      refine E_iconst (v := 1) dX4_single_40 (by decide) ?_
      refine E_iadd dX4_single_41 ?_
      rw [nI_1]
      refine k_X4_single_42 (mc' := 0) (ms' := 0) (rc := 0) (rs := 0) (by omega) (Nat.le_of_ble_eq_true rfl) (by assumption) (r_opened hX h1 h2 _ _ _ _ (by omega) hJ hc (fun v2 J2 r2 q2 => ?_))
      refine E_goto (tgt := 52) dX4_single_45 (by decide) ?_
      refine E_iret dX4_single_52 rfl ?_
      exact hΦ _ _ r2 q2
    · refine E_aload_n (i := 0) dX4_single_0 rfl rfl ?_
      refine k_X4_single_1 (mc' := 0) (ms' := 0) (rc := 0) (rs := 0) (by omega) (Nat.le_of_ble_eq_true rfl) (by assumption) (c_next hX hJ ?_)
      refine E_istore_nC (i := 2) dX4_single_4 rfl (by decide) rfl ?_
      refine E_lv (lv' := [_, _, _, _]) rfl ?_
      refine E_iload_n (i := 2) dX4_single_5 rfl rfl ?_
      refine E_bipush (v := 48) dX4_single_6 (by decide) ?_
      refine E_bipush (v := 57) dX4_single_8 (by decide) ?_
      refine k_X4_single_10 (mc' := 0) (ms' := 0) (rc := 0) (rs := 0) (by omega) (Nat.le_of_ble_eq_true rfl) (c_X11_within ?_)
      rw [bz_f hg]
      refine E_if_eq (tgt := 21) dX4_single_13 (by decide) (fun c_13 => ?_) (fun c_13 => absurd (rfl) c_13)
      refine E_iload_n (i := 2) dX4_single_21 rfl rfl ?_
      refine E_bipush (v := 33) dX4_single_22 (by decide) ?_
      refine E_icmp_eq (tgt := 33) dX4_single_24 (by decide) (fun c_24 => absurd c_24 (h33)) (fun c_24 => ?_)
      refine E_iload_n (i := 2) dX4_single_27 rfl rfl ?_
      refine E_bipush (v := 40) dX4_single_28 (by decide) ?_
      refine E_icmp_ne (tgt := 53) dX4_single_30 (by decide) (fun c_30 => absurd (hc.resolve_left h33) c_30) (fun c_30 => ?_)
      refine E_iload_n (i := 1) dX4_single_33 rfl rfl ?_
      refine E_iconst (v := 5) dX4_single_34 (by decide) ?_
      refine E_icmp_ge (tgt := 48) dX4_single_35 (by decide) (fun c_35 => absurd c_35 (ho5)) (fun c_35 => ?_)
      refine E_aload_n (i := 0) dX4_single_38 rfl rfl ?_
      refine E_iload_n (i := 1) dX4_single_39 rfl rfl ?_
      refine E_iconst (v := 1) dX4_single_40 (by decide) ?_
      refine E_iadd dX4_single_41 ?_
      rw [nI_1]
      refine k_X4_single_42 (mc' := 0) (ms' := 0) (rc := 0) (rs := 0) (by omega) (Nat.le_of_ble_eq_true rfl) (by assumption) (r_opened hX h1 h2 _ _ _ _ (by omega) hJ hc (fun v2 J2 r2 q2 => ?_))
      refine E_goto (tgt := 52) dX4_single_45 (by decide) ?_
      refine E_iret dX4_single_52 rfl ?_
      exact hΦ _ _ r2 q2
  · exact r_plain (rc := some (pS (I q) n u k, eth (I q) n (pS (I q) n u k))) hX hnm d J σ Φ (by omega) hJ hc hΦ
theorem CK.more {μ : MD} {f : PS → PS} {need' : Nat} (h : CK Γ g P I n nm μ o need f) (hle : need ≤ need') : CK Γ g P I n nm μ o need' f := fun d J σ Φ hd => h d J σ Φ (by omega)
theorem r_up {k : Nat} (hX : RX g P I r q n u) (h : CK Γ g P I n nm mX4_single o (need + 1) (pS (I q) n u k)) : CK Γ g P I n nm mX4_either o (need + 6) (eth (I q) n (pS (I q) n u k)) := r_either hX (r_both hX (r_compared hX (r_sum hX (r_product hX h))))
theorem r_all (hX : RX g P I r q n u) (hnm : ∀ i, i < 4 → I 18 i = nm i) : ∀ k o, k + o = 5 → CK Γ g P I n nm mX4_single o (8 + 8 * k) (pS (I q) n u k)
  | 0, o, h => by
    have : o = 5 := by omega
    subst this
    exact r_single0 hX hnm
  | k + 1, o, h => by
    have h1 := r_all hX hnm k (o + 1) (by omega)
    have h2 := r_up (need := 7 + 8 * k) hX (h1.more (by omega))
    exact (r_singleS (need := 13 + 8 * k) hX hnm (by omega) (by omega) (h1.more (by omega)) (h2.more (by omega))).more (by omega)
end
