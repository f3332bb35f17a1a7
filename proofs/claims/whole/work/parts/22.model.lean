/-! the model's small methods -/
/-- the model's rows: slot, address, length -/
def mArr : List (Nat × Nat × Nat) := [(0, 110, 272), (1, 111, 272), (2, 112, 272), (4, 113, 6), (5, 114, 9), (6, 115, 9), (12, 117, 60), (14, 118, 4), (15, 119, 60), (16, 120, 8), (17, 121, 5), (18, 122, 5), (20, 123, 40), (23, 124, 4), (24, 125, 4), (25, 126, 160), (26, 127, 40)]
def Mo (g : Sh) (P : HP) : Prop := Cel g 109 12 ∧ (∀ q ∈ mArr, P 109 q.1 = some q.2.1 ∧ Cel g q.2.1 13 ∧ g.2.2 q.2.1 = q.2.2) ∧ (P 109 7 = some 116 ∧ Cel g 116 17 ∧ g.2.2 116 = 2 ∧ P 116 0 = some 1 ∧ P 116 1 = some 2)
/-- the wire as the model's row has it -/
def wm (M : Nat → Int32) : Nat → Int32 := fun k => M (7 + k)
section
variable {g : Sh} {P : HP}
theorem Mo.now (h : Mo g P) : P 109 0 = some 110 ∧ Cel g 110 13 ∧ g.2.2 110 = 272 := h.2.1 (0, 110, 272) (by decide)
theorem Mo.kept (h : Mo g P) : P 109 1 = some 111 ∧ Cel g 111 13 ∧ g.2.2 111 = 272 := h.2.1 (1, 111, 272) (by decide)
theorem Mo.aside (h : Mo g P) : P 109 2 = some 112 ∧ Cel g 112 13 ∧ g.2.2 112 = 272 := h.2.1 (2, 112, 272) (by decide)
theorem Mo.err (h : Mo g P) : P 109 4 = some 113 ∧ Cel g 113 13 ∧ g.2.2 113 = 6 := h.2.1 (4, 113, 6) (by decide)
theorem Mo.wl (h : Mo g P) : P 109 5 = some 114 ∧ Cel g 114 13 ∧ g.2.2 114 = 9 := h.2.1 (5, 114, 9) (by decide)
theorem Mo.wg (h : Mo g P) : P 109 6 = some 115 ∧ Cel g 115 13 ∧ g.2.2 115 = 9 := h.2.1 (6, 115, 9) (by decide)
end
/-- an answer that is an error -/
def isErr (e : Int32) (k : Nat) : Prop := e = -1000000000 - nI k ∧ 1 ≤ k ∧ k ≤ 5
theorem i32_sub_sub (a b : Int32) : a - (a - b) = b := by
  have := Int32.toBitVec_inj.mp (show (a - (a - b)).toBitVec = b.toBitVec by
    rw [Int32.toBitVec_sub, Int32.toBitVec_sub]
    generalize a.toBitVec = x
    generalize b.toBitVec = y
    bv_omega)
  exact this
section
variable {Γ : GE} {d : Nat} {g : Sh} {P : HP} {I : HI} {Φ : Option Value → Sh → HP → HI → Prop}
theorem c_X12_finding {e : Int32} {k : Nat} (hM : Mo g P) (he : isErr e k) (hΦ : Φ (some (.int e)) g P (u2 I 113 k (I 113 k + 1))) : MM Γ mX12_finding d 0 0 [.ref 109, .int e] g P I Φ := by
  refine MM_entry [some _, some _] (by decide) (Nat.le_of_ble_eq_true rfl) rfl ?_
  obtain ⟨h1, h2, h3⟩ := hM.err
  have h0 := hM.1
  obtain ⟨e1, e2, e3⟩ := he
  have e4 : -1000000000 - e = nI k := by rw [e1, i32_sub_sub]
  refine E_aload_n (i := 0) dX12_finding_0 rfl rfl ?_
  refine E_gr dX12_finding_1 gf_X12_19_12 rfl (by assumption) (by assumption) ?_
  refine E_ldc (v := -1000000000) dX12_finding_4 w_1213 ?_
  refine E_iload_n (i := 1) dX12_finding_6 rfl rfl ?_
  refine E_isub dX12_finding_7 ?_
  refine E_dup2 dX12_finding_8 rfl rfl ?_
  refine E_iaj k dX12_finding_9 (by assumption) e4 (by omega) (by rw [h3]; omega) ?_
  refine E_iconst (v := 1) dX12_finding_10 (by decide) ?_
  refine E_iadd dX12_finding_11 ?_
  refine E_isj k dX12_finding_12 (by assumption) e4 (by first | decide | omega) (by rw [h3]; omega) ?_
  refine E_iload_n (i := 1) dX12_finding_13 rfl rfl ?_
  refine E_iret dX12_finding_14 rfl ?_
  exact hΦ
theorem c_X12_within {v a b : Int32} (hΦ : Φ (some (.int (bz (a ≤ v ∧ v ≤ b)))) g P I) : MM Γ mX12_within d 0 0 [.int v, .int a, .int b] g P I Φ := by
  refine MM_entry [some _, some _, some _] (by decide) (Nat.le_of_ble_eq_true rfl) rfl ?_
  by_cases hc : a ≤ v ∧ v ≤ b
  · rw [bz_t hc] at hΦ
    refine E_iload_n (i := 0) dX12_within_0 rfl rfl ?_
    refine E_iload_n (i := 1) dX12_within_1 rfl rfl ?_
    refine E_icmp_lt (tgt := 14) dX12_within_2 (by decide) (fun c_2 => absurd c_2 (Int32.not_lt.mpr hc.1)) (fun c_2 => ?_)
    refine E_iload_n (i := 0) dX12_within_5 rfl rfl ?_
    refine E_iload_n (i := 2) dX12_within_6 rfl rfl ?_
    refine E_icmp_gt (tgt := 14) dX12_within_7 (by decide) (fun c_7 => absurd c_7 (Int32.not_lt.mpr hc.2)) (fun c_7 => ?_)
    refine E_iconst (v := 1) dX12_within_10 (by decide) ?_
    refine E_goto (tgt := 15) dX12_within_11 (by decide) ?_
    refine E_zret dX12_within_15 rfl rfl ?_
    exact hΦ
  · rw [bz_f hc] at hΦ
    refine E_iload_n (i := 0) dX12_within_0 rfl rfl ?_
    refine E_iload_n (i := 1) dX12_within_1 rfl rfl ?_
    refine E_icmp_lt (tgt := 14) dX12_within_2 (by decide) (fun c_2 => ?_) (fun c_2 => ?_)
    · refine E_iconst (v := 0) dX12_within_14 (by decide) ?_
      refine E_zret dX12_within_15 rfl rfl ?_
      exact hΦ
    · refine E_iload_n (i := 0) dX12_within_5 rfl rfl ?_
      refine E_iload_n (i := 2) dX12_within_6 rfl rfl ?_
      refine E_icmp_gt (tgt := 14) dX12_within_7 (by decide) (fun c_7 => ?_) (fun c_7 => ?_)
      · refine E_iconst (v := 0) dX12_within_14 (by decide) ?_
        refine E_zret dX12_within_15 rfl rfl ?_
        exact hΦ
      · exact absurd ⟨Int32.not_lt.mp c_2, Int32.not_lt.mp c_7⟩ hc
/-- the model's held -/
def helM (v a b : Int32) : Int32 := if a < (if v < b then v else b) then (if v < b then v else b) else a
theorem hel_M (v a b : Int32) : helM v a b = hel v a b := by
  have e : (if v < b then v else b) = (if b < v then b else v) := by
    by_cases h : v < b
    · rw [if_pos h, if_neg (fun q => Int32.lt_irrefl (Int32.lt_trans h q))]
    · rw [if_neg h]
      by_cases h2 : b < v
      · rw [if_pos h2]
      · rw [if_neg h2]
        exact Int32.le_antisymm (Int32.not_lt.mp h) (Int32.not_lt.mp h2)
  unfold helM hel
  rw [e]
theorem c_X12_held {v a b : Int32} (hd : 1 ≤ d) (hΦ : Φ (some (.int (hel v a b))) g P I) : MM Γ mX12_held d 0 0 [.int v, .int a, .int b] g P I Φ := by
  refine MM_entry [some _, some _, some _] (by decide) (Nat.le_of_ble_eq_true rfl) rfl ?_
  rw [← hel_M] at hΦ
  unfold helM at hΦ
  refine E_iload_n (i := 1) dX12_held_0 rfl rfl ?_
  refine E_iload_n (i := 2) dX12_held_1 rfl rfl ?_
  refine E_iload_n (i := 0) dX12_held_2 rfl rfl ?_
  refine E_min dX12_held_3 w_1222 w_381 w_74 w_382 (Nat.le_of_ble_eq_true rfl) (by omega) ?_
  refine E_max dX12_held_6 w_1235 w_112 w_74 w_113 (Nat.le_of_ble_eq_true rfl) (by omega) ?_
  refine E_iret dX12_held_9 rfl ?_
  exact hΦ
/-- the first k cells of one row in another -/
def cpk (f h : Nat → Int32) (k : Nat) : Nat → Int32 := fun j => if j < k then f j else h j
theorem cpk_0 (f h : Nat → Int32) : cpk f h 0 = h := by funext j; simp [cpk]
theorem cpk_s (f h : Nat → Int32) (k : Nat) : ur (cpk f h k) k (f k) = cpk f h (k + 1) := by
  funext j
  unfold ur cpk
  by_cases e : j = k
  · subst e
    rw [if_pos rfl, if_pos (by omega)]
  · rw [if_neg e]
    by_cases h2 : j < k
    · rw [if_pos h2, if_pos (by omega)]
    · rw [if_neg h2, if_neg (by omega)]
theorem c_X12_copy {a b : Nat} (ha : Cel g a 13) (hla : g.2.2 a = 272) (hb : Cel g b 13) (hlb : g.2.2 b = 272) (hab : a ≠ b) (hΦ : Φ none g P (ur I b (cpk (I a) (I b) 272))) : MM Γ mX12_copy d 0 0 [.ref a, .ref b] g P I Φ := by
  refine MM_entry [some _, some _, none] (by decide) (Nat.le_of_ble_eq_true rfl) rfl ?_
  have loop : ∀ (N j : Nat) (x : Int32) (J : HI), 272 - j ≤ N → j ≤ 272 → x = nI j → J = ur I b (cpk (I a) (I b) j) → E Γ mX12_copy d 0 0 (QM Γ 0 0 Φ) 0 0 2 [some (.ref a), some (.ref b), some (.int x)] [] g P J := by
    intro N
    induction N with
    | zero =>
      intro j x J hN hj hx hJ
      have : j = 272 := by omega
      subst this
      refine E_iload_n (i := 2) dX12_copy_2 rfl rfl ?_
      refine E_sipush (v := 272) dX12_copy_3 (by decide) ?_
      refine E_icmp_ge (tgt := 21) dX12_copy_6 (by decide) (fun c_6 => ?_) (fun c_6 => absurd (by rw [hx]; decide) c_6)
      refine E_vret dX12_copy_21 rfl ?_
      rw [hJ]
      exact hΦ
    | succ N ih =>
      intro j x J hN hj hx hJ
      by_cases hjk : j = 272
      · subst hjk
        refine E_iload_n (i := 2) dX12_copy_2 rfl rfl ?_
        refine E_sipush (v := 272) dX12_copy_3 (by decide) ?_
        refine E_icmp_ge (tgt := 21) dX12_copy_6 (by decide) (fun c_6 => ?_) (fun c_6 => absurd (by rw [hx]; decide) c_6)
        refine E_vret dX12_copy_21 rfl ?_
        rw [hJ]
        exact hΦ
      · refine E_iload_n (i := 2) dX12_copy_2 rfl rfl ?_
        refine E_sipush (v := 272) dX12_copy_3 (by decide) ?_
        refine E_icmp_ge (tgt := 21) dX12_copy_6 (by decide) (fun c_6 => absurd c_6 (by rw [hx]; exact nI_ge (b := 272) (by omega) (by omega))) (fun c_6 => ?_)
        refine E_aload_n (i := 1) dX12_copy_9 rfl rfl ?_
        refine E_iload_n (i := 2) dX12_copy_10 rfl rfl ?_
        refine E_aload_n (i := 0) dX12_copy_11 rfl rfl ?_
        refine E_iload_n (i := 2) dX12_copy_12 rfl rfl ?_
        refine E_iaj j dX12_copy_13 (by assumption) hx (by omega) (by rw [hla]; omega) ?_
        refine E_isj j dX12_copy_14 (by assumption) hx (by first | decide | omega) (by rw [hlb]; omega) ?_
        refine E_incC (c := 1) dX12_copy_15 rfl (by decide) (by decide) rfl ?_
        refine E_lv (lv' := [_, _, _]) rfl ?_
        refine E_goto (tgt := 2) dX12_copy_18 (by decide) ?_
        refine ih (j + 1) _ _ (by omega) (by omega) (by rw [hx, nI_1]) ?_
        rw [hJ]
        unfold u2
        rw [ur_s, ur_n _ _ hab, cpk_s, ur_ur]
  refine E_iconst (v := 0) dX12_copy_0 (by decide) ?_
  refine E_istore_nC (i := 2) dX12_copy_1 rfl (by decide) rfl ?_
  refine E_lv (lv' := [_, _, _]) rfl ?_
  refine loop 272 0 _ _ (by omega) (by omega) rfl ?_
  rw [cpk_0, ur_id]
theorem c_X12_become {x v : Int32} {k : Nat} (hM : Mo g P) (hx : x = nI k) (hk : k < 272) (hΦ : Φ (some (.int (I 110 k))) g P (u2 I 110 k v)) : MM Γ mX12_become d 0 0 [.ref 109, .int x, .int v] g P I Φ := by
  refine MM_entry [some _, some _, some _, none] (by decide) (Nat.le_of_ble_eq_true rfl) rfl ?_
  obtain ⟨h1, h2, h3⟩ := hM.now
  have h0 := hM.1
  refine E_aload_n (i := 0) dX12_become_0 rfl rfl ?_
  refine E_gr dX12_become_1 gf_X12_9_12 rfl (by assumption) (by assumption) ?_
  refine E_iload_n (i := 1) dX12_become_4 rfl rfl ?_
  refine E_iaj k dX12_become_5 (by assumption) hx (by omega) (by rw [h3]; omega) ?_
  refine E_istore_nC (i := 3) dX12_become_6 rfl (by decide) rfl ?_
  refine E_lv (lv' := [_, _, _, _]) rfl ?_
  refine E_aload_n (i := 0) dX12_become_7 rfl rfl ?_
  refine E_gr dX12_become_8 gf_X12_9_12 rfl (by assumption) (by assumption) ?_
  refine E_iload_n (i := 1) dX12_become_11 rfl rfl ?_
  refine E_iload_n (i := 2) dX12_become_12 rfl rfl ?_
  refine E_isj k dX12_become_13 (by assumption) hx (by first | decide | omega) (by rw [h3]; omega) ?_
  refine E_iload_n (i := 3) dX12_become_14 rfl rfl ?_
  refine E_iret dX12_become_15 rfl ?_
  exact hΦ
theorem c_X12_back {v : Int32} (hd : 1 ≤ d) (hM : Mo g P) (hΦ : Φ (some (.int v)) g P (ur I 110 (cpk (I 112) (I 110) 272))) : MM Γ mX12_back d 0 0 [.ref 109, .int v] g P I Φ := by
  refine MM_entry [some _, some _] (by decide) (Nat.le_of_ble_eq_true rfl) rfl ?_
  obtain ⟨h1, h2, h3⟩ := hM.now
  obtain ⟨a1, a2, a3⟩ := hM.aside
  have h0 := hM.1
  refine E_aload_n (i := 0) dX12_back_0 rfl rfl ?_
  refine E_gr dX12_back_1 gf_X12_16_12 rfl (by assumption) (by assumption) ?_
  refine E_aload_n (i := 0) dX12_back_4 rfl rfl ?_
  refine E_gr dX12_back_5 gf_X12_9_12 rfl (by assumption) (by assumption) ?_
  refine k_X12_back_8 (mc' := 0) (ms' := 0) (rc := 0) (rs := 0) (by omega) (Nat.le_of_ble_eq_true rfl) (c_X12_copy a2 a3 h2 h3 (by decide) ?_)
  refine E_iload_n (i := 1) dX12_back_11 rfl rfl ?_
  refine E_iret dX12_back_12 rfl ?_
  exact hΦ
theorem c_X12_is {x y : Int32} {k : Nat} (hd : 1 ≤ d) (hM : Mo g P) (hy : y = nI k) (hk : k < 272) (hΦ : Φ (some (.int (bz (0 ≤ x ∧ x ≤ I 110 k - 1)))) g P I) : MM Γ mX12_is d 0 0 [.ref 109, .int x, .int y] g P I Φ := by
  refine MM_entry [some _, some _, some _] (by decide) (Nat.le_of_ble_eq_true rfl) rfl ?_
  obtain ⟨h1, h2, h3⟩ := hM.now
  have h0 := hM.1
  refine E_iload_n (i := 1) dX12_is_0 rfl rfl ?_
  refine E_iconst (v := 0) dX12_is_1 (by decide) ?_
  refine E_aload_n (i := 0) dX12_is_2 rfl rfl ?_
  refine E_gr dX12_is_3 gf_X12_9_12 rfl (by assumption) (by assumption) ?_
  refine E_iload_n (i := 2) dX12_is_6 rfl rfl ?_
  refine E_iaj k dX12_is_7 (by assumption) hy (by omega) (by rw [h3]; omega) ?_
  refine E_iconst (v := 1) dX12_is_8 (by decide) ?_
  refine E_isub dX12_is_9 ?_
  refine k_X12_is_10 (mc' := 0) (ms' := 0) (rc := 0) (rs := 0) (by omega) (Nat.le_of_ble_eq_true rfl) (c_X12_within ?_)
  refine E_zret dX12_is_13 rfl (bz_nz _) ?_
  exact hΦ
theorem taut_M (w : Nat → Int32) : (if 100 < w 2 - 10 * w 4 then w 2 - 10 * w 4 else 100) = taut w := by
  unfold taut
  by_cases h : 100 < w 2 - 10 * w 4
  · rw [if_pos h, if_pos (Int32.le_of_lt h)]
  · rw [if_neg h]
    split
    · next h2 => exact Int32.le_antisymm h2 (Int32.not_lt.mp h)
    · rfl
theorem c_X12_tightOf (hd : 1 ≤ d) (hM : Mo g P) (hΦ : Φ (some (.int (taut (wm (I 110))))) g P I) : MM Γ mX12_tightOf d 0 0 [.ref 109] g P I Φ := by
  refine MM_entry [some _] (by decide) (Nat.le_of_ble_eq_true rfl) rfl ?_
  obtain ⟨h1, h2, h3⟩ := hM.now
  have h0 := hM.1
  rw [← taut_M] at hΦ
  unfold wm at hΦ
  refine E_bipush (v := 100) dX12_tightOf_0 (by decide) ?_
  refine E_aload_n (i := 0) dX12_tightOf_2 rfl rfl ?_
  refine E_gr dX12_tightOf_3 gf_X12_9_12 rfl (by assumption) (by assumption) ?_
  refine E_bipush (v := 9) dX12_tightOf_6 (by decide) ?_
  refine E_iaj 9 dX12_tightOf_8 (by assumption) rfl (by decide) (by rw [h3]; decide) ?_
  refine E_bipush (v := 10) dX12_tightOf_9 (by decide) ?_
  refine E_aload_n (i := 0) dX12_tightOf_11 rfl rfl ?_
  refine E_gr dX12_tightOf_12 gf_X12_9_12 rfl (by assumption) (by assumption) ?_
  refine E_bipush (v := 11) dX12_tightOf_15 (by decide) ?_
  refine E_iaj 11 dX12_tightOf_17 (by assumption) rfl (by decide) (by rw [h3]; decide) ?_
  refine E_imul dX12_tightOf_18 ?_
  refine E_isub dX12_tightOf_19 ?_
  refine E_max dX12_tightOf_20 w_1235 w_112 w_74 w_113 (Nat.le_of_ble_eq_true rfl) (by omega) ?_
  refine E_iret dX12_tightOf_23 rfl ?_
  exact hΦ
theorem c_X12_tight (hd : 2 ≤ d) (hM : Mo g P) (hΦ : Φ (some (.int (taut (wm (I 110))))) g P I) : MM Γ mX12_tight d 0 0 [.ref 109] g P I Φ := by
  refine MM_entry [some _] (by decide) (Nat.le_of_ble_eq_true rfl) rfl ?_
  have h0 := hM.1
  refine E_aload_n (i := 0) dX12_tight_0 rfl rfl ?_
  refine k_X12_tight_1 (mc' := 0) (ms' := 0) (rc := 0) (rs := 0) (by omega) (Nat.le_of_ble_eq_true rfl) (by assumption) (c_X12_tightOf (by omega) hM ?_)
  refine E_iret dX12_tight_4 rfl ?_
  exact hΦ
/-- the model's depth -/
def depM (w : Nat → Int32) (x l : Int32) : Int32 := (1000 * (w 1).toInt64 * x.toInt64 / (w 0).toInt64 + 500 * (w 3).toInt64 * (x.toInt64 * (w 0 - x).toInt64) / (taut w).toInt64 + 1000 * l.toInt64 * (x.toInt64 * (w 0 - x).toInt64) / ((w 0).toInt64 * (taut w).toInt64)).toInt32
theorem sub_wide {a b : Int32} (h : -2147483648 ≤ a.toInt - b.toInt) (h2 : a.toInt - b.toInt < 2147483648) : (a - b).toInt64 = a.toInt64 - b.toInt64 := by
  apply Int64.toInt_inj.mp
  rw [l32, sub32 h h2, sub64 (by rw [l32, l32]; omega) (by rw [l32, l32]; omega), l32, l32]
theorem dep_M {w : Nat → Int32} {x : Int32} (l : Int32) (h : WOK w) (h1 : -1000 ≤ x.toInt) (h2 : x.toInt ≤ 1000) : depM w x l = dep w x l := by
  unfold depM dep
  have := h.b.1
  rw [sub_wide (by omega) (by omega)]
theorem c_X12_depthOf {x l : Int32} (hd : 2 ≤ d) (hM : Mo g P) (hO : WOK (wm (I 110))) (h5 : -1000 ≤ x.toInt) (h6 : x.toInt ≤ 1000) (hΦ : Φ (some (.int (dep (wm (I 110)) x l))) g P I) : MM Γ mX12_depthOf d 0 0 [.ref 109, .int x, .int l] g P I Φ := by
  refine MM_entry [some _, some _, some _, none, none, none, none, none, none, none, none] (by decide) (Nat.le_of_ble_eq_true rfl) rfl ?_
  obtain ⟨h1, h2, h3⟩ := hM.now
  have h0 := hM.1
  rw [← dep_M l hO h5 h6] at hΦ
  have z1 : ¬ (I 110 7).toInt64 = 0 := span_ne hO
  have z2 := taut_ne hO
  have z3 : ¬ (I 110 7).toInt64 * (taut (wm (I 110))).toInt64 = 0 := by
    have z := st_ne hO
    rw [show wm (I 110) 0 = I 110 7 from rfl] at z
    exact z
  unfold depM at hΦ
  simp only [show wm (I 110) 0 = I 110 7 from rfl, show wm (I 110) 1 = I 110 8 from rfl, show wm (I 110) 3 = I 110 10 from rfl] at hΦ
  refine E_iload_n (i := 1) dX12_depthOf_0 rfl rfl ?_
  refine E_i2l dX12_depthOf_1 ?_
  refine E_aload_n (i := 0) dX12_depthOf_2 rfl rfl ?_
  refine E_gr dX12_depthOf_3 gf_X12_9_12 rfl (by assumption) (by assumption) ?_
  refine E_bipush (v := 7) dX12_depthOf_6 (by decide) ?_
  refine E_iaj 7 dX12_depthOf_8 (by assumption) rfl (by decide) (by rw [h3]; decide) ?_
  refine E_iload_n (i := 1) dX12_depthOf_9 rfl rfl ?_
  refine E_isub dX12_depthOf_10 ?_
  refine E_i2l dX12_depthOf_11 ?_
  refine E_lmul dX12_depthOf_12 ?_
  refine E_lstore_nC (i := 3) dX12_depthOf_13 rfl (by decide) rfl ?_
  refine E_lv (lv' := [_, _, _, _, _, _, _, _, _, _, _]) rfl ?_
  refine E_ldc2 (v := 1000) dX12_depthOf_14 w_1248 ?_
  refine E_aload_n (i := 0) dX12_depthOf_17 rfl rfl ?_
  refine E_gr dX12_depthOf_18 gf_X12_9_12 rfl (by assumption) (by assumption) ?_
  refine E_bipush (v := 8) dX12_depthOf_21 (by decide) ?_
  refine E_iaj 8 dX12_depthOf_23 (by assumption) rfl (by decide) (by rw [h3]; decide) ?_
  refine E_i2l dX12_depthOf_24 ?_
  refine E_lmul dX12_depthOf_25 ?_
  refine E_iload_n (i := 1) dX12_depthOf_26 rfl rfl ?_
  refine E_i2l dX12_depthOf_27 ?_
  refine E_lmul dX12_depthOf_28 ?_
  refine E_aload_n (i := 0) dX12_depthOf_29 rfl rfl ?_
  refine E_gr dX12_depthOf_30 gf_X12_9_12 rfl (by assumption) (by assumption) ?_
  refine E_bipush (v := 7) dX12_depthOf_33 (by decide) ?_
  refine E_iaj 7 dX12_depthOf_35 (by assumption) rfl (by decide) (by rw [h3]; decide) ?_
  refine E_i2l dX12_depthOf_36 ?_
  refine E_ldiv dX12_depthOf_37 z1 ?_
  refine E_lstoreC dX12_depthOf_38 (by decide) rfl ?_
  refine E_lv (lv' := [_, _, _, _, _, _, _, _, _, _, _]) rfl ?_
  refine E_ldc2 (v := 500) dX12_depthOf_40 w_1249 ?_
  refine E_aload_n (i := 0) dX12_depthOf_43 rfl rfl ?_
  refine E_gr dX12_depthOf_44 gf_X12_9_12 rfl (by assumption) (by assumption) ?_
  refine E_bipush (v := 10) dX12_depthOf_47 (by decide) ?_
  refine E_iaj 10 dX12_depthOf_49 (by assumption) rfl (by decide) (by rw [h3]; decide) ?_
  refine E_i2l dX12_depthOf_50 ?_
  refine E_lmul dX12_depthOf_51 ?_
  refine E_lload_n (i := 3) dX12_depthOf_52 rfl rfl ?_
  refine E_lmul dX12_depthOf_53 ?_
  refine E_aload_n (i := 0) dX12_depthOf_54 rfl rfl ?_
  refine k_X12_depthOf_55 (mc' := 0) (ms' := 0) (rc := 0) (rs := 0) (by omega) (Nat.le_of_ble_eq_true rfl) (by assumption) (c_X12_tightOf (by omega) hM ?_)
  refine E_i2l dX12_depthOf_58 ?_
  refine E_ldiv dX12_depthOf_59 z2 ?_
  refine E_lstoreC dX12_depthOf_60 (by decide) rfl ?_
  refine E_lv (lv' := [_, _, _, _, _, _, _, _, _, _, _]) rfl ?_
  refine E_ldc2 (v := 1000) dX12_depthOf_62 w_1248 ?_
  refine E_iload_n (i := 2) dX12_depthOf_65 rfl rfl ?_
  refine E_i2l dX12_depthOf_66 ?_
  refine E_lmul dX12_depthOf_67 ?_
  refine E_lload_n (i := 3) dX12_depthOf_68 rfl rfl ?_
  refine E_lmul dX12_depthOf_69 ?_
  refine E_aload_n (i := 0) dX12_depthOf_70 rfl rfl ?_
  refine E_gr dX12_depthOf_71 gf_X12_9_12 rfl (by assumption) (by assumption) ?_
  refine E_bipush (v := 7) dX12_depthOf_74 (by decide) ?_
  refine E_iaj 7 dX12_depthOf_76 (by assumption) rfl (by decide) (by rw [h3]; decide) ?_
  refine E_i2l dX12_depthOf_77 ?_
  refine E_aload_n (i := 0) dX12_depthOf_78 rfl rfl ?_
  refine k_X12_depthOf_79 (mc' := 0) (ms' := 0) (rc := 0) (rs := 0) (by omega) (Nat.le_of_ble_eq_true rfl) (by assumption) (c_X12_tightOf (by omega) hM ?_)
  refine E_i2l dX12_depthOf_82 ?_
  refine E_lmul dX12_depthOf_83 ?_
  refine E_ldiv dX12_depthOf_84 z3 ?_
  refine E_lstoreC dX12_depthOf_85 (by decide) rfl ?_
  refine E_lv (lv' := [_, _, _, _, _, _, _, _, _, _, _]) rfl ?_
  refine E_lload dX12_depthOf_87 rfl ?_
  refine E_lload dX12_depthOf_89 rfl ?_
  refine E_ladd dX12_depthOf_91 ?_
  refine E_lload dX12_depthOf_92 rfl ?_
  refine E_ladd dX12_depthOf_94 ?_
  refine E_l2i dX12_depthOf_95 ?_
  refine E_iret dX12_depthOf_96 rfl ?_
  exact hΦ
end
