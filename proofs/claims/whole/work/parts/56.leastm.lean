/-! the model: least, snug, lower, check, feed, ride -/
/-- it comes in n ticks, no quicker than q -/
def okq (s : Nat → R4) (n : Nat) (q : Int32) : Prop := match fnd (inB s) (n + 1) 0 with
  | some t => (s t).2.2.2 ≤ q
  | none => False
theorem okq_y {s : Nat → R4} {n t : Nat} {q : Int32} (h : fnd (inB s) (n + 1) 0 = some t) : okq s n q ↔ (s t).2.2.2 ≤ q := by
  unfold okq
  rw [h]
theorem okq_n {s : Nat → R4} {n : Nat} {q : Int32} (h : fnd (inB s) (n + 1) 0 = none) : ¬ okq s n q := by
  unfold okq
  rw [h]
  exact fun h => h
theorem VM_w {M : Nat → Int32} {k j : Nat} {v : Int32} (h : VM M k) (h1 : 1 ≤ j) (h2 : j ≤ 8) (hl : lst j ≤ v) (hg : v ≤ grt j) : VM (ur M (7 + j) v) k := by
  have e : ∀ y, y ≠ 7 + j → ur M (7 + j) v y = M y := fun y hy => ur_n _ _ hy
  refine ⟨by rw [e 1 (by omega)]; exact h.1, h.2.1, fun i hi => ?_, fun r hr => ?_⟩
  · show lst i ≤ ur M (7 + j) v (7 + i) ∧ ur M (7 + j) v (7 + i) ≤ grt i
    by_cases hij : i = j
    · subst hij
      rw [ur_s]
      exact ⟨hl, hg⟩
    · rw [e _ (by omega)]
      exact h.2.2.1 i hi
  · have := h.2.2.2 r hr
    unfold VR at this ⊢
    rw [e (16 + 7 * r + 0) (by omega), e (16 + 7 * r + 1) (by omega), e (16 + 7 * r + 2) (by omega), e (16 + 7 * r + 3) (by omega), e (16 + 7 * r + 4) (by omega), e (16 + 7 * r + 5) (by omega), e 7 (by omega)]
    exact this
/-- by which of some numbers of the wire it comes so -/
noncomputable def lsf (M : Nat → Int32) (j r n : Nat) (q : Int32) (v : Nat → Int32) : Nat → Nat → Option Nat := @fnd (fun i => okq (sq (ur M (7 + j) (v i)) r) n q) (fun _ => Classical.propDecidable _)
theorem lsf_y {M : Nat → Int32} {j r n : Nat} {q : Int32} {v : Nat → Int32} {u i : Nat} (h : okq (sq (ur M (7 + j) (v i)) r) n q) : lsf M j r n q v (u + 1) i = some i := if_pos h
theorem lsf_n {M : Nat → Int32} {j r n : Nat} {q : Int32} {v : Nat → Int32} {u i : Nat} (h : ¬ okq (sq (ur M (7 + j) (v i)) r) n q) : lsf M j r n q v (u + 1) i = lsf M j r n q v u (i + 1) := if_neg h
section
variable {Γ : GE} {d : Nat} {g : Sh} {P : HP} {I : HI} {Φ : Option Value → Sh → HP → HI → Prop} {δ : List Int32} {k : Nat}
theorem c_X12_least {r n j cnt : Nat} {x y q z a b s : Int32} (v : Nat → Int32) (hd : 8 ≤ d) (hM : Mo g P) (hV : VM (I 110) k) (hT : TC 0 δ (I 110)) (hx : x = nI r) (hr : r < k) (hy : y = nI n) (hn : n ≤ 200) (hz : z = nI (7 + j)) (hj1 : 1 ≤ j) (hj8 : j ≤ 8) (hv0 : a = v 0) (hvs : ∀ i, v (i + 1) = v i + s) (hvt : ∀ i, i < cnt → v i ≤ b) (hve : ¬ v cnt ≤ b) (hvw : ∀ i, i < cnt → lst j ≤ v i ∧ v i ≤ grt j)
    (h1 : ∀ i, (Unit → lsf (I 110) j r n q v cnt 0 = some i) → ∀ J, FA I J → Φ (some (.int (v i))) g P J) (h2 : (Unit → lsf (I 110) j r n q v cnt 0 = none) → ∀ J, FA I J → Φ (some (.int (er 2))) g P (flM J 2)) : MM Γ mX12_least d 0 0 [.ref 109, .int x, .int y, .int q, .int z, .int a, .int b, .int s] g P I Φ := by
  refine MM_entry [some _, some _, some _, some _, some _, some _, some _, some _, none, none] (by decide) (Nat.le_of_ble_eq_true rfl) rfl ?_
  have h0 := hM.1
  obtain ⟨n1, n2, n3⟩ := hM.now
  obtain ⟨a1, a2, a3⟩ := hM.aside
  have hk8 := hV.2.1
  have hr8 : r < 8 := by omega
  have i110 : asd I 110 = I 110 := asd_o (by decide)
  have i112 : asd I 112 = cpk (I 110) (I 112) 272 := ur_s _ _ _
  have loop : ∀ (N i : Nat) (w : Int32) (p : Option Value) (J : HI), cnt - i ≤ N → i ≤ cnt → w = v i → (Unit → lsf (I 110) j r n q v cnt 0 = lsf (I 110) j r n q v (cnt - i) i) → (∀ e, e ≠ 118 → e ≠ 119 → J e = asd I e) → E Γ mX12_least d 0 0 (QM Γ 0 0 Φ) 0 0 15 [some (.ref 109), some (.int x), some (.int y), some (.int q), some (.int z), some (.int a), some (.int b), some (.int s), some (.int w), p] [] g P J := by
    intro N
    induction N with
    | zero =>
      intro i w p J hN hi hw hf hJ
      have hic : i = cnt := by omega
      have hΦ := h2 (fun _ => by rw [hf (), hic, Nat.sub_self]; rfl) J (fun e e1 e2 e3 => by rw [hJ e e2 e3, asd_o e1])
      refine E_iload dX12_least_15 rfl ?_
      refine E_iload dX12_least_17 rfl ?_
      refine E_icmp_gt (tgt := 87) dX12_least_19 (by decide) (fun c_19 => ?_) (fun c_19 => absurd (by rw [hw, hic]; exact Int32.not_le.mp hve) c_19)
      refine E_aload_n (i := 0) dX12_least_87 rfl rfl ?_
      refine E_ldc (v := -1000000002) dX12_least_88 w_1275 ?_
      refine k_X12_least_90 (mc' := 0) (ms' := 0) (rc := 0) (rs := 0) (by omega) (Nat.le_of_ble_eq_true rfl) (by assumption) (c_find2 hM ?_)
      refine E_iret dX12_least_93 rfl ?_
      exact hΦ
    | succ N ih =>
      intro i w p J hN hi hw hf hJ
      by_cases hic : i = cnt
      · have hΦ := h2 (fun _ => by rw [hf (), hic, Nat.sub_self]; rfl) J (fun e e1 e2 e3 => by rw [hJ e e2 e3, asd_o e1])
        refine E_iload dX12_least_15 rfl ?_
        refine E_iload dX12_least_17 rfl ?_
        refine E_icmp_gt (tgt := 87) dX12_least_19 (by decide) (fun c_19 => ?_) (fun c_19 => absurd (by rw [hw, hic]; exact Int32.not_le.mp hve) c_19)
        refine E_aload_n (i := 0) dX12_least_87 rfl rfl ?_
        refine E_ldc (v := -1000000002) dX12_least_88 w_1275 ?_
        refine k_X12_least_90 (mc' := 0) (ms' := 0) (rc := 0) (rs := 0) (by omega) (Nat.le_of_ble_eq_true rfl) (by assumption) (c_find2 hM ?_)
        refine E_iret dX12_least_93 rfl ?_
        exact hΦ
      · subst hw
        have j110 : J 110 = I 110 := by rw [hJ 110 (by decide) (by decide), i110]
        have hrow : (u2 J 110 (7 + j) (v i)) 110 = ur (I 110) (7 + j) (v i) := by rw [u2_row, j110]
        have hVv : VM ((u2 J 110 (7 + j) (v i)) 110) k := by rw [hrow]; exact VM_w hV hj1 hj8 (hvw i (by omega)).1 (hvw i (by omega)).2
        have hTv : TC 0 δ ((u2 J 110 (7 + j) (v i)) 110) := by rw [hrow]; exact TC_ge (fun y hy => ur_n _ _ (by omega)) hT
        have ec : cnt - i = (cnt - (i + 1)) + 1 := by omega
        have back : ∀ (K : HI) (t : Nat), FM (u2 J 110 (7 + j) (v i)) K → K 110 = tks δ k (ur (I 110) (7 + j) (v i)) t → ∀ e, e ≠ 118 → e ≠ 119 → (ur K 110 (cpk (K 112) (K 110) 272)) e = asd I e := by
          intro K t hF hK e e2 e3
          by_cases e0 : e = 110
          · subst e0
            rw [ur_s, hK, hF 112 (by decide) (by decide) (by decide), u2_oth _ (by decide), hJ 112 (by decide) (by decide), i112, i110]
            exact bk_eq (fun y hy => by rw [tks_272 hk8 t y hy]; exact ur_n _ _ (by omega))
          · rw [ur_n _ _ e0, hF e e0 e2 e3, u2_oth _ e0, hJ e e2 e3]
        have found : ∀ (K : HI) (t : Nat), FM (u2 J 110 (7 + j) (v i)) K → K 110 = tks δ k (ur (I 110) (7 + j) (v i)) t → (Unit → lsf (I 110) j r n q v cnt 0 = some i) → E Γ mX12_least d 0 0 (QM Γ 0 0 Φ) 0 0 51 [some (.ref 109), some (.int x), some (.int y), some (.int q), some (.int z), some (.int a), some (.int b), some (.int s), some (.int (v i)), p] [] g P K := by
          intro K t hF hK hff
          have hΦ := h1 i hff (ur K 110 (cpk (K 112) (K 110) 272)) (fun e e1 e2 e3 => by rw [back K t hF hK e e2 e3, asd_o e1])
          refine E_iconst (v := 1) dX12_least_51 (by decide) ?_
          refine E_goto (tgt := 56) dX12_least_52 (by decide) ?_
          refine E_istoreC dX12_least_56 (by decide) rfl ?_
          refine E_lv (lv' := [_, _, _, _, _, _, _, _, _, _]) rfl ?_
          refine E_aload_n (i := 0) dX12_least_58 rfl rfl ?_
          refine E_gr dX12_least_59 gf_X12_16_12 rfl (by assumption) (by assumption) ?_
          refine E_aload_n (i := 0) dX12_least_62 rfl rfl ?_
          refine E_gr dX12_least_63 gf_X12_9_12 rfl (by assumption) (by assumption) ?_
          refine k_X12_least_66 (mc' := 0) (ms' := 0) (rc := 0) (rs := 0) (by omega) (Nat.le_of_ble_eq_true rfl) (c_X12_copy a2 a3 n2 n3 (by decide) ?_)
          refine E_iload dX12_least_69 rfl ?_
          refine E_if_eq (tgt := 77) dX12_least_71 (by decide) (fun c_71 => absurd c_71 (by decide)) (fun c_71 => ?_)
          refine E_iload dX12_least_74 rfl ?_
          refine E_iret dX12_least_76 rfl ?_
          exact hΦ
        have nope : ∀ (K : HI) (t : Nat), FM (u2 J 110 (7 + j) (v i)) K → K 110 = tks δ k (ur (I 110) (7 + j) (v i)) t → (Unit → lsf (I 110) j r n q v cnt 0 = lsf (I 110) j r n q v (cnt - (i + 1)) (i + 1)) → E Γ mX12_least d 0 0 (QM Γ 0 0 Φ) 0 0 55 [some (.ref 109), some (.int x), some (.int y), some (.int q), some (.int z), some (.int a), some (.int b), some (.int s), some (.int (v i)), p] [] g P K := by
          intro K t hF hK hff
          refine E_iconst (v := 0) dX12_least_55 (by decide) ?_
          refine E_istoreC dX12_least_56 (by decide) rfl ?_
          refine E_lv (lv' := [_, _, _, _, _, _, _, _, _, _]) rfl ?_
          refine E_aload_n (i := 0) dX12_least_58 rfl rfl ?_
          refine E_gr dX12_least_59 gf_X12_16_12 rfl (by assumption) (by assumption) ?_
          refine E_aload_n (i := 0) dX12_least_62 rfl rfl ?_
          refine E_gr dX12_least_63 gf_X12_9_12 rfl (by assumption) (by assumption) ?_
          refine k_X12_least_66 (mc' := 0) (ms' := 0) (rc := 0) (rs := 0) (by omega) (Nat.le_of_ble_eq_true rfl) (c_X12_copy a2 a3 n2 n3 (by decide) ?_)
          refine E_iload dX12_least_69 rfl ?_
          refine E_if_eq (tgt := 77) dX12_least_71 (by decide) (fun c_71 => ?_) (fun c_71 => absurd (rfl) c_71)
          refine E_iload dX12_least_77 rfl ?_
          refine E_iload dX12_least_79 rfl ?_
          refine E_iadd dX12_least_81 ?_
          refine E_istoreC dX12_least_82 (by decide) rfl ?_
          refine E_lv (lv' := [_, _, _, _, _, _, _, _, _, _]) rfl ?_
          refine E_goto (tgt := 15) dX12_least_84 (by decide) ?_
          exact ih (i + 1) _ _ _ (by omega) (by omega) (by rw [hvs]) hff (back K t hF hK)
        have key : E Γ mX12_least d 0 0 (QM Γ 0 0 Φ) 0 0 31 [some (.ref 109), some (.int x), some (.int y), some (.int q), some (.int z), some (.int a), some (.int b), some (.int s), some (.int (v i)), p] [] g P (u2 J 110 (7 + j) (v i)) := by
          refine E_aload_n (i := 0) dX12_least_31 rfl rfl ?_
          refine E_iload_n (i := 1) dX12_least_32 rfl rfl ?_
          refine E_iload_n (i := 2) dX12_least_33 rfl rfl ?_
          refine k_X12_least_34 (mc' := 0) (ms' := 0) (rc := 0) (rs := 0) (by omega) (Nat.le_of_ble_eq_true rfl) (by assumption) (c_X12_comesBy (n := n) (δ := δ) (k := k) (by omega) hM hVv hTv hx hr hy hn (fun t ht q1 K f1 f2 => ?_) (fun q1 K f1 f2 => ?_))
          · rw [hrow] at q1 f2
            have c6 : Unit → K 110 (16 + 7 * r + 6) = (sq (ur (I 110) (7 + j) (v i)) r t).2.2.2 := fun _ => by rw [f2, sq_6 hr]
            have hiff := okq_y (q := q) (q1 ())
            by_cases hq : (sq (ur (I 110) (7 + j) (v i)) r t).2.2.2 ≤ q
            · have hff : Unit → lsf (I 110) j r n q v cnt 0 = some i := fun _ => by rw [hf (), ec, lsf_y (hiff.mpr hq)]
              have hq' : Unit → ¬ q < K 110 (16 + 7 * r + 6) := fun _ => by rw [c6 ()]; exact Int32.not_lt.mpr hq
              clear hq hiff
              refine E_if_lt (tgt := 55) dX12_least_37 (by decide) (fun c_37 => absurd c_37 (nI_pos (by omega))) (fun c_37 => ?_)
              refine E_aload_n (i := 0) dX12_least_40 rfl rfl ?_
              refine E_iload_n (i := 1) dX12_least_41 rfl rfl ?_
              refine E_bipush (v := 6) dX12_least_42 (by decide) ?_
              refine k_X12_least_44 (mc' := 0) (ms' := 0) (rc := 0) (rs := 0) (by omega) (Nat.le_of_ble_eq_true rfl) (by assumption) (c_X12_of (f := 6) hM hx rfl hr8 (by decide) ?_)
              refine E_iload_n (i := 3) dX12_least_47 rfl rfl ?_
              refine E_icmp_gt (tgt := 55) dX12_least_48 (by decide) (fun c_48 => absurd c_48 (hq' ())) (fun c_48 => ?_)
              exact found K t f1 f2 hff
            · have hff : Unit → lsf (I 110) j r n q v cnt 0 = lsf (I 110) j r n q v (cnt - (i + 1)) (i + 1) := fun _ => by rw [hf (), ec, lsf_n (fun h => hq (hiff.mp h))]
              have hq' : Unit → q < K 110 (16 + 7 * r + 6) := fun _ => by rw [c6 ()]; exact Int32.not_le.mp hq
              clear hq hiff
              refine E_if_lt (tgt := 55) dX12_least_37 (by decide) (fun c_37 => absurd c_37 (nI_pos (by omega))) (fun c_37 => ?_)
              refine E_aload_n (i := 0) dX12_least_40 rfl rfl ?_
              refine E_iload_n (i := 1) dX12_least_41 rfl rfl ?_
              refine E_bipush (v := 6) dX12_least_42 (by decide) ?_
              refine k_X12_least_44 (mc' := 0) (ms' := 0) (rc := 0) (rs := 0) (by omega) (Nat.le_of_ble_eq_true rfl) (by assumption) (c_X12_of (f := 6) hM hx rfl hr8 (by decide) ?_)
              refine E_iload_n (i := 3) dX12_least_47 rfl rfl ?_
              refine E_icmp_gt (tgt := 55) dX12_least_48 (by decide) (fun c_48 => ?_) (fun c_48 => absurd (hq' ()) c_48)
              exact nope K t f1 f2 hff
          · rw [hrow] at q1 f2
            have hff : Unit → lsf (I 110) j r n q v cnt 0 = lsf (I 110) j r n q v (cnt - (i + 1)) (i + 1) := fun _ => by rw [hf (), ec, lsf_n (okq_n (q1 ()))]
            refine E_if_lt (tgt := 55) dX12_least_37 (by decide) (fun c_37 => ?_) (fun c_37 => absurd (by decide) c_37)
            exact nope K n f1 f2 hff
        refine E_iload dX12_least_15 rfl ?_
        refine E_iload dX12_least_17 rfl ?_
        refine E_icmp_gt (tgt := 87) dX12_least_19 (by decide) (fun c_19 => absurd c_19 (Int32.not_lt.mpr (hvt i (by omega)))) (fun c_19 => ?_)
        refine E_aload_n (i := 0) dX12_least_22 rfl rfl ?_
        refine E_gr dX12_least_23 gf_X12_9_12 rfl (by assumption) (by assumption) ?_
        refine E_iload dX12_least_26 rfl ?_
        refine E_iload dX12_least_28 rfl ?_
        refine E_isj (7 + j) dX12_least_30 (by assumption) hz (by first | decide | omega) (by rw [n3]; omega) ?_
        exact key
  refine E_aload_n (i := 0) dX12_least_0 rfl rfl ?_
  refine E_gr dX12_least_1 gf_X12_9_12 rfl (by assumption) (by assumption) ?_
  refine E_aload_n (i := 0) dX12_least_4 rfl rfl ?_
  refine E_gr dX12_least_5 gf_X12_16_12 rfl (by assumption) (by assumption) ?_
  refine k_X12_least_8 (mc' := 0) (ms' := 0) (rc := 0) (rs := 0) (by omega) (Nat.le_of_ble_eq_true rfl) (c_X12_copy n2 n3 a2 a3 (by decide) ?_)
  refine E_iload dX12_least_11 rfl ?_
  refine E_istoreC dX12_least_13 (by decide) rfl ?_
  refine E_lv (lv' := [_, _, _, _, _, _, _, _, _, _]) rfl ?_
  exact loop cnt 0 _ _ (asd I) (by omega) (by omega) hv0 (fun _ => rfl) (fun _ _ _ => rfl)
abbrev ok60 (x : Int32) : Prop := 1 ≤ x ∧ x ≤ 60
theorem ok60_n {x : Int32} (h : ok60 x) : ∃ n, x = nI n ∧ n ≤ 60 := in_04 (n := 60) (by omega) ⟨Int32.le_trans (by decide) h.1, h.2⟩
/-- the pulls, the drops that are tried -/
def vPu (i : Nat) : Int32 := nI (100 + 100 * i)
def vDr (i : Nat) : Int32 := nI i - 99
theorem vPu_s (i : Nat) : vPu (i + 1) = vPu i + 100 := by
  show nI (100 + 100 * (i + 1)) = nI (100 + 100 * i) + nI 100
  rw [nI_add]
  congr 1
theorem vDr_i {i : Nat} (h : i ≤ 1000) : (vDr i).toInt = (i : Int) - 99 := pk_sub_toInt (a := i) (b := 99) (by omega) (by decide)
theorem vDr_s (i : Nat) : vDr (i + 1) = vDr i + 1 := by
  show nI (i + 1) - 99 = nI i - 99 + 1
  rw [← nI_1]
  apply Int32.toBitVec_inj.mp
  rw [Int32.toBitVec_sub, Int32.toBitVec_add, Int32.toBitVec_add, Int32.toBitVec_sub]
  generalize (nI i).toBitVec = x
  generalize (1 : Int32).toBitVec = y
  generalize (99 : Int32).toBitVec = z
  bv_omega
theorem vPu_t {i : Nat} (h : i < 99) : vPu i ≤ 9900 := nI_le (b := 9900) (by omega) (by omega)
theorem vPu_e : ¬ vPu 99 ≤ 9900 := by decide
theorem vPu_w {i : Nat} (h : i < 99) : lst 2 ≤ vPu i ∧ vPu i ≤ grt 2 := ⟨nI_le (a := 100) (by omega) (by omega), nI_le (b := 9999) (by omega) (by omega)⟩
theorem vDr_t {i : Nat} (h : i < 199) : vDr i ≤ 99 := i32_le.mpr (by rw [vDr_i (by omega)]; show _ ≤ (99 : Int); omega)
theorem vDr_e : ¬ vDr 199 ≤ 99 := by decide
theorem vDr_w {i : Nat} (h : i < 199) : lst 1 ≤ vDr i ∧ vDr i ≤ grt 1 := ⟨i32_le.mpr (by rw [vDr_i (by omega)]; show (-99 : Int) ≤ _; omega), i32_le.mpr (by rw [vDr_i (by omega)]; show _ ≤ (99 : Int); omega)⟩
theorem c_X12_snug {x y q : Int32} (hd : 9 ≤ d) (hM : Mo g P) (hV : VM (I 110) k) (hT : TC 0 δ (I 110)) (h1 : ∀ r n i, x = nI r → r < k → y = nI n → (ok60 y ∧ n ≤ 60) → (1 ≤ q ∧ q ≤ 300) → ¬ I 110 (16 + 7 * r + 5) = 1 → (Unit → lsf (I 110) 2 r n q vPu 99 0 = some i) → ∀ J, FA I J → Φ (some (.int (vPu i))) g P J) (h2 : ∀ r n, x = nI r → r < k → y = nI n → (ok60 y ∧ n ≤ 60) → (1 ≤ q ∧ q ≤ 300) → ¬ I 110 (16 + 7 * r + 5) = 1 → (Unit → lsf (I 110) 2 r n q vPu 99 0 = none) → ∀ J, FA I J → Φ (some (.int (er 2))) g P (flM J 2)) (h3 : ¬ ((0 ≤ x ∧ x ≤ nI k - 1) ∧ ok60 y ∧ (1 ≤ q ∧ q ≤ 300)) → Φ (some (.int (er 1))) g P (flM I 1)) (h4 : ∀ r, x = nI r → r < k → ok60 y → (1 ≤ q ∧ q ≤ 300) → I 110 (16 + 7 * r + 5) = 1 → Φ (some (.int (er 3))) g P (flM I 3)) : MM Γ mX12_snug d 0 0 [.ref 109, .int x, .int y, .int q] g P I Φ := by
  refine MM_entry [some _, some _, some _, some _] (by decide) (Nat.le_of_ble_eq_true rfl) rfl ?_
  have h0 := hM.1
  have hk8 := hV.2.1
  have e1 : I 110 1 = nI k := hV.1
  by_cases hc : 0 ≤ x ∧ x ≤ nI k - 1
  · by_cases hc2 : ok60 y
    · by_cases hc3 : 1 ≤ q ∧ q ≤ 300
      · obtain ⟨r, hr, hr2⟩ := in_nat (by omega) hc
        obtain ⟨n, hn, hn2⟩ := ok60_n hc2
        by_cases hi : I 110 (16 + 7 * r + 5) = 1
        · have hΦ := h4 r hr hr2 hc2 hc3 hi
          refine E_aload_n (i := 0) dX12_snug_0 rfl rfl ?_
          refine E_iload_n (i := 1) dX12_snug_1 rfl rfl ?_
          refine E_iconst (v := 1) dX12_snug_2 (by decide) ?_
          refine k_X12_snug_3 (mc' := 0) (ms' := 0) (rc := 0) (rs := 0) (by omega) (Nat.le_of_ble_eq_true rfl) (by assumption) (c_X12_is (k := 1) (by omega) hM rfl (by decide) ?_)
          rw [e1, bz_t hc]
          refine E_if_eq (tgt := 30) dX12_snug_6 (by decide) (fun c_6 => absurd c_6 (by decide)) (fun c_6 => ?_)
          refine E_iload_n (i := 2) dX12_snug_9 rfl rfl ?_
          refine E_iconst (v := 1) dX12_snug_10 (by decide) ?_
          refine E_bipush (v := 60) dX12_snug_11 (by decide) ?_
          refine k_X12_snug_13 (mc' := 0) (ms' := 0) (rc := 0) (rs := 0) (by omega) (Nat.le_of_ble_eq_true rfl) (c_X12_within ?_)
          rw [bz_t hc2]
          refine E_if_eq (tgt := 30) dX12_snug_16 (by decide) (fun c_16 => absurd c_16 (by decide)) (fun c_16 => ?_)
          refine E_iload_n (i := 3) dX12_snug_19 rfl rfl ?_
          refine E_iconst (v := 1) dX12_snug_20 (by decide) ?_
          refine E_sipush (v := 300) dX12_snug_21 (by decide) ?_
          refine k_X12_snug_24 (mc' := 0) (ms' := 0) (rc := 0) (rs := 0) (by omega) (Nat.le_of_ble_eq_true rfl) (c_X12_within ?_)
          rw [bz_t hc3]
          refine E_if_ne (tgt := 37) dX12_snug_27 (by decide) (fun c_27 => ?_) (fun c_27 => absurd c_27 (by decide))
          refine E_aload_n (i := 0) dX12_snug_37 rfl rfl ?_
          refine E_iload_n (i := 1) dX12_snug_38 rfl rfl ?_
          refine k_X12_snug_39 (mc' := 0) (ms' := 0) (rc := 0) (rs := 0) (by omega) (Nat.le_of_ble_eq_true rfl) (by assumption) (c_X12_isIn (by omega) hM hr (by omega) ?_)
          rw [bz_t hi]
          refine E_if_eq (tgt := 54) dX12_snug_42 (by decide) (fun c_42 => absurd c_42 (by decide)) (fun c_42 => ?_)
          refine E_aload_n (i := 0) dX12_snug_45 rfl rfl ?_
          refine E_ldc (v := -1000000003) dX12_snug_46 w_1294 ?_
          refine k_X12_snug_48 (mc' := 0) (ms' := 0) (rc := 0) (rs := 0) (by omega) (Nat.le_of_ble_eq_true rfl) (by assumption) (c_find3 hM ?_)
          refine E_goto (tgt := 70) dX12_snug_51 (by decide) ?_
          refine E_iret dX12_snug_70 rfl ?_
          exact hΦ
        · have hh1 := fun i => h1 r n i hr hr2 hn ⟨hc2, hn2⟩ hc3 hi
          have hh2 := h2 r n hr hr2 hn ⟨hc2, hn2⟩ hc3 hi
          clear h1 h2 h3 h4
          refine E_aload_n (i := 0) dX12_snug_0 rfl rfl ?_
          refine E_iload_n (i := 1) dX12_snug_1 rfl rfl ?_
          refine E_iconst (v := 1) dX12_snug_2 (by decide) ?_
          refine k_X12_snug_3 (mc' := 0) (ms' := 0) (rc := 0) (rs := 0) (by omega) (Nat.le_of_ble_eq_true rfl) (by assumption) (c_X12_is (k := 1) (by omega) hM rfl (by decide) ?_)
          rw [e1, bz_t hc]
          refine E_if_eq (tgt := 30) dX12_snug_6 (by decide) (fun c_6 => absurd c_6 (by decide)) (fun c_6 => ?_)
          refine E_iload_n (i := 2) dX12_snug_9 rfl rfl ?_
          refine E_iconst (v := 1) dX12_snug_10 (by decide) ?_
          refine E_bipush (v := 60) dX12_snug_11 (by decide) ?_
          refine k_X12_snug_13 (mc' := 0) (ms' := 0) (rc := 0) (rs := 0) (by omega) (Nat.le_of_ble_eq_true rfl) (c_X12_within ?_)
          rw [bz_t hc2]
          refine E_if_eq (tgt := 30) dX12_snug_16 (by decide) (fun c_16 => absurd c_16 (by decide)) (fun c_16 => ?_)
          refine E_iload_n (i := 3) dX12_snug_19 rfl rfl ?_
          refine E_iconst (v := 1) dX12_snug_20 (by decide) ?_
          refine E_sipush (v := 300) dX12_snug_21 (by decide) ?_
          refine k_X12_snug_24 (mc' := 0) (ms' := 0) (rc := 0) (rs := 0) (by omega) (Nat.le_of_ble_eq_true rfl) (c_X12_within ?_)
          rw [bz_t hc3]
          refine E_if_ne (tgt := 37) dX12_snug_27 (by decide) (fun c_27 => ?_) (fun c_27 => absurd c_27 (by decide))
          refine E_aload_n (i := 0) dX12_snug_37 rfl rfl ?_
          refine E_iload_n (i := 1) dX12_snug_38 rfl rfl ?_
          refine k_X12_snug_39 (mc' := 0) (ms' := 0) (rc := 0) (rs := 0) (by omega) (Nat.le_of_ble_eq_true rfl) (by assumption) (c_X12_isIn (by omega) hM hr (by omega) ?_)
          rw [bz_f hi]
          refine E_if_eq (tgt := 54) dX12_snug_42 (by decide) (fun c_42 => ?_) (fun c_42 => absurd (rfl) c_42)
          refine E_aload_n (i := 0) dX12_snug_54 rfl rfl ?_
          refine E_iload_n (i := 1) dX12_snug_55 rfl rfl ?_
          refine E_iload_n (i := 2) dX12_snug_56 rfl rfl ?_
          refine E_iload_n (i := 3) dX12_snug_57 rfl rfl ?_
          refine E_bipush (v := 9) dX12_snug_58 (by decide) ?_
          refine E_bipush (v := 100) dX12_snug_60 (by decide) ?_
          refine E_sipush (v := 9900) dX12_snug_62 (by decide) ?_
          refine E_bipush (v := 100) dX12_snug_65 (by decide) ?_
          refine k_X12_snug_67 (mc' := 0) (ms' := 0) (rc := 0) (rs := 0) (by omega) (Nat.le_of_ble_eq_true rfl) (by assumption) (c_X12_least (j := 2) (cnt := 99) vPu (by omega) hM hV hT hr hr2 hn (by omega) rfl (by decide) (by decide) rfl vPu_s (fun i h => vPu_t h) vPu_e (fun i h => vPu_w h) (fun i q1 J f1 => E_iret dX12_snug_70 rfl (hh1 i q1 J f1)) (fun q1 J f1 => E_iret dX12_snug_70 rfl (hh2 q1 J f1)))
          done
      · have hΦ := h3 (fun h => hc3 h.2.2)
        refine E_aload_n (i := 0) dX12_snug_0 rfl rfl ?_
        refine E_iload_n (i := 1) dX12_snug_1 rfl rfl ?_
        refine E_iconst (v := 1) dX12_snug_2 (by decide) ?_
        refine k_X12_snug_3 (mc' := 0) (ms' := 0) (rc := 0) (rs := 0) (by omega) (Nat.le_of_ble_eq_true rfl) (by assumption) (c_X12_is (k := 1) (by omega) hM rfl (by decide) ?_)
        rw [e1, bz_t hc]
        refine E_if_eq (tgt := 30) dX12_snug_6 (by decide) (fun c_6 => absurd c_6 (by decide)) (fun c_6 => ?_)
        refine E_iload_n (i := 2) dX12_snug_9 rfl rfl ?_
        refine E_iconst (v := 1) dX12_snug_10 (by decide) ?_
        refine E_bipush (v := 60) dX12_snug_11 (by decide) ?_
        refine k_X12_snug_13 (mc' := 0) (ms' := 0) (rc := 0) (rs := 0) (by omega) (Nat.le_of_ble_eq_true rfl) (c_X12_within ?_)
        rw [bz_t hc2]
        refine E_if_eq (tgt := 30) dX12_snug_16 (by decide) (fun c_16 => absurd c_16 (by decide)) (fun c_16 => ?_)
        refine E_iload_n (i := 3) dX12_snug_19 rfl rfl ?_
        refine E_iconst (v := 1) dX12_snug_20 (by decide) ?_
        refine E_sipush (v := 300) dX12_snug_21 (by decide) ?_
        refine k_X12_snug_24 (mc' := 0) (ms' := 0) (rc := 0) (rs := 0) (by omega) (Nat.le_of_ble_eq_true rfl) (c_X12_within ?_)
        rw [bz_f hc3]
        refine E_if_ne (tgt := 37) dX12_snug_27 (by decide) (fun c_27 => absurd (rfl) c_27) (fun c_27 => ?_)
        refine E_aload_n (i := 0) dX12_snug_30 rfl rfl ?_
        refine E_ldc (v := -1000000001) dX12_snug_31 w_1208 ?_
        refine k_X12_snug_33 (mc' := 0) (ms' := 0) (rc := 0) (rs := 0) (by omega) (Nat.le_of_ble_eq_true rfl) (by assumption) (c_find1 hM ?_)
        refine E_iret dX12_snug_36 rfl ?_
        exact hΦ
    · have hΦ := h3 (fun h => hc2 h.2.1)
      refine E_aload_n (i := 0) dX12_snug_0 rfl rfl ?_
      refine E_iload_n (i := 1) dX12_snug_1 rfl rfl ?_
      refine E_iconst (v := 1) dX12_snug_2 (by decide) ?_
      refine k_X12_snug_3 (mc' := 0) (ms' := 0) (rc := 0) (rs := 0) (by omega) (Nat.le_of_ble_eq_true rfl) (by assumption) (c_X12_is (k := 1) (by omega) hM rfl (by decide) ?_)
      rw [e1, bz_t hc]
      refine E_if_eq (tgt := 30) dX12_snug_6 (by decide) (fun c_6 => absurd c_6 (by decide)) (fun c_6 => ?_)
      refine E_iload_n (i := 2) dX12_snug_9 rfl rfl ?_
      refine E_iconst (v := 1) dX12_snug_10 (by decide) ?_
      refine E_bipush (v := 60) dX12_snug_11 (by decide) ?_
      refine k_X12_snug_13 (mc' := 0) (ms' := 0) (rc := 0) (rs := 0) (by omega) (Nat.le_of_ble_eq_true rfl) (c_X12_within ?_)
      rw [bz_f hc2]
      refine E_if_eq (tgt := 30) dX12_snug_16 (by decide) (fun c_16 => ?_) (fun c_16 => absurd (rfl) c_16)
      refine E_aload_n (i := 0) dX12_snug_30 rfl rfl ?_
      refine E_ldc (v := -1000000001) dX12_snug_31 w_1208 ?_
      refine k_X12_snug_33 (mc' := 0) (ms' := 0) (rc := 0) (rs := 0) (by omega) (Nat.le_of_ble_eq_true rfl) (by assumption) (c_find1 hM ?_)
      refine E_iret dX12_snug_36 rfl ?_
      exact hΦ
  · have hΦ := h3 (fun h => hc h.1)
    refine E_aload_n (i := 0) dX12_snug_0 rfl rfl ?_
    refine E_iload_n (i := 1) dX12_snug_1 rfl rfl ?_
    refine E_iconst (v := 1) dX12_snug_2 (by decide) ?_
    refine k_X12_snug_3 (mc' := 0) (ms' := 0) (rc := 0) (rs := 0) (by omega) (Nat.le_of_ble_eq_true rfl) (by assumption) (c_X12_is (k := 1) (by omega) hM rfl (by decide) ?_)
    rw [e1, bz_f hc]
    refine E_if_eq (tgt := 30) dX12_snug_6 (by decide) (fun c_6 => ?_) (fun c_6 => absurd (rfl) c_6)
    refine E_aload_n (i := 0) dX12_snug_30 rfl rfl ?_
    refine E_ldc (v := -1000000001) dX12_snug_31 w_1208 ?_
    refine k_X12_snug_33 (mc' := 0) (ms' := 0) (rc := 0) (rs := 0) (by omega) (Nat.le_of_ble_eq_true rfl) (by assumption) (c_find1 hM ?_)
    refine E_iret dX12_snug_36 rfl ?_
    exact hΦ
theorem c_X12_lower {x y : Int32} (hd : 9 ≤ d) (hM : Mo g P) (hV : VM (I 110) k) (hT : TC 0 δ (I 110)) (h1 : ∀ r n i, x = nI r → r < k → y = nI n → (ok60 y ∧ n ≤ 60) → ¬ I 110 (16 + 7 * r + 5) = 1 → (Unit → lsf (I 110) 1 r n 300 vDr 199 0 = some i) → ∀ J, FA I J → Φ (some (.int (vDr i))) g P J) (h2 : ∀ r n, x = nI r → r < k → y = nI n → (ok60 y ∧ n ≤ 60) → ¬ I 110 (16 + 7 * r + 5) = 1 → (Unit → lsf (I 110) 1 r n 300 vDr 199 0 = none) → ∀ J, FA I J → Φ (some (.int (er 2))) g P (flM J 2)) (h3 : ¬ ((0 ≤ x ∧ x ≤ nI k - 1) ∧ ok60 y) → Φ (some (.int (er 1))) g P (flM I 1)) (h4 : ∀ r, x = nI r → r < k → ok60 y → I 110 (16 + 7 * r + 5) = 1 → Φ (some (.int (er 3))) g P (flM I 3)) : MM Γ mX12_lower d 0 0 [.ref 109, .int x, .int y] g P I Φ := by
  refine MM_entry [some _, some _, some _] (by decide) (Nat.le_of_ble_eq_true rfl) rfl ?_
  have h0 := hM.1
  have hk8 := hV.2.1
  have e1 : I 110 1 = nI k := hV.1
  by_cases hc : 0 ≤ x ∧ x ≤ nI k - 1
  · by_cases hc2 : ok60 y
    · obtain ⟨r, hr, hr2⟩ := in_nat (by omega) hc
      obtain ⟨n, hn, hn2⟩ := ok60_n hc2
      by_cases hi : I 110 (16 + 7 * r + 5) = 1
      · have hΦ := h4 r hr hr2 hc2 hi
        refine E_aload_n (i := 0) dX12_lower_0 rfl rfl ?_
        refine E_iload_n (i := 1) dX12_lower_1 rfl rfl ?_
        refine E_iconst (v := 1) dX12_lower_2 (by decide) ?_
        refine k_X12_lower_3 (mc' := 0) (ms' := 0) (rc := 0) (rs := 0) (by omega) (Nat.le_of_ble_eq_true rfl) (by assumption) (c_X12_is (k := 1) (by omega) hM rfl (by decide) ?_)
        rw [e1, bz_t hc]
        refine E_if_eq (tgt := 19) dX12_lower_6 (by decide) (fun c_6 => absurd c_6 (by decide)) (fun c_6 => ?_)
        refine E_iload_n (i := 2) dX12_lower_9 rfl rfl ?_
        refine E_iconst (v := 1) dX12_lower_10 (by decide) ?_
        refine E_bipush (v := 60) dX12_lower_11 (by decide) ?_
        refine k_X12_lower_13 (mc' := 0) (ms' := 0) (rc := 0) (rs := 0) (by omega) (Nat.le_of_ble_eq_true rfl) (c_X12_within ?_)
        rw [bz_t hc2]
        refine E_if_ne (tgt := 26) dX12_lower_16 (by decide) (fun c_16 => ?_) (fun c_16 => absurd c_16 (by decide))
        refine E_aload_n (i := 0) dX12_lower_26 rfl rfl ?_
        refine E_iload_n (i := 1) dX12_lower_27 rfl rfl ?_
        refine k_X12_lower_28 (mc' := 0) (ms' := 0) (rc := 0) (rs := 0) (by omega) (Nat.le_of_ble_eq_true rfl) (by assumption) (c_X12_isIn (by omega) hM hr (by omega) ?_)
        rw [bz_t hi]
        refine E_if_eq (tgt := 43) dX12_lower_31 (by decide) (fun c_31 => absurd c_31 (by decide)) (fun c_31 => ?_)
        refine E_aload_n (i := 0) dX12_lower_34 rfl rfl ?_
        refine E_ldc (v := -1000000003) dX12_lower_35 w_1294 ?_
        refine k_X12_lower_37 (mc' := 0) (ms' := 0) (rc := 0) (rs := 0) (by omega) (Nat.le_of_ble_eq_true rfl) (by assumption) (c_find3 hM ?_)
        refine E_goto (tgt := 59) dX12_lower_40 (by decide) ?_
        refine E_iret dX12_lower_59 rfl ?_
        exact hΦ
      · have hh1 := fun i => h1 r n i hr hr2 hn ⟨hc2, hn2⟩ hi
        have hh2 := h2 r n hr hr2 hn ⟨hc2, hn2⟩ hi
        clear h1 h2 h3 h4
        refine E_aload_n (i := 0) dX12_lower_0 rfl rfl ?_
        refine E_iload_n (i := 1) dX12_lower_1 rfl rfl ?_
        refine E_iconst (v := 1) dX12_lower_2 (by decide) ?_
        refine k_X12_lower_3 (mc' := 0) (ms' := 0) (rc := 0) (rs := 0) (by omega) (Nat.le_of_ble_eq_true rfl) (by assumption) (c_X12_is (k := 1) (by omega) hM rfl (by decide) ?_)
        rw [e1, bz_t hc]
        refine E_if_eq (tgt := 19) dX12_lower_6 (by decide) (fun c_6 => absurd c_6 (by decide)) (fun c_6 => ?_)
        refine E_iload_n (i := 2) dX12_lower_9 rfl rfl ?_
        refine E_iconst (v := 1) dX12_lower_10 (by decide) ?_
        refine E_bipush (v := 60) dX12_lower_11 (by decide) ?_
        refine k_X12_lower_13 (mc' := 0) (ms' := 0) (rc := 0) (rs := 0) (by omega) (Nat.le_of_ble_eq_true rfl) (c_X12_within ?_)
        rw [bz_t hc2]
        refine E_if_ne (tgt := 26) dX12_lower_16 (by decide) (fun c_16 => ?_) (fun c_16 => absurd c_16 (by decide))
        refine E_aload_n (i := 0) dX12_lower_26 rfl rfl ?_
        refine E_iload_n (i := 1) dX12_lower_27 rfl rfl ?_
        refine k_X12_lower_28 (mc' := 0) (ms' := 0) (rc := 0) (rs := 0) (by omega) (Nat.le_of_ble_eq_true rfl) (by assumption) (c_X12_isIn (by omega) hM hr (by omega) ?_)
        rw [bz_f hi]
        refine E_if_eq (tgt := 43) dX12_lower_31 (by decide) (fun c_31 => ?_) (fun c_31 => absurd (rfl) c_31)
        refine E_aload_n (i := 0) dX12_lower_43 rfl rfl ?_
        refine E_iload_n (i := 1) dX12_lower_44 rfl rfl ?_
        refine E_iload_n (i := 2) dX12_lower_45 rfl rfl ?_
        refine E_sipush (v := 300) dX12_lower_46 (by decide) ?_
        refine E_bipush (v := 8) dX12_lower_49 (by decide) ?_
        refine E_bipush (v := -99) dX12_lower_51 (by decide) ?_
        refine E_bipush (v := 99) dX12_lower_53 (by decide) ?_
        refine E_iconst (v := 1) dX12_lower_55 (by decide) ?_
        refine k_X12_lower_56 (mc' := 0) (ms' := 0) (rc := 0) (rs := 0) (by omega) (Nat.le_of_ble_eq_true rfl) (by assumption) (c_X12_least (j := 1) (cnt := 199) vDr (by omega) hM hV hT hr hr2 hn (by omega) rfl (by decide) (by decide) (by decide) vDr_s (fun i h => vDr_t h) vDr_e (fun i h => vDr_w h) (fun i q1 J f1 => E_iret dX12_lower_59 rfl (hh1 i q1 J f1)) (fun q1 J f1 => E_iret dX12_lower_59 rfl (hh2 q1 J f1)))
        done
    · have hΦ := h3 (fun h => hc2 h.2)
      refine E_aload_n (i := 0) dX12_lower_0 rfl rfl ?_
      refine E_iload_n (i := 1) dX12_lower_1 rfl rfl ?_
      refine E_iconst (v := 1) dX12_lower_2 (by decide) ?_
      refine k_X12_lower_3 (mc' := 0) (ms' := 0) (rc := 0) (rs := 0) (by omega) (Nat.le_of_ble_eq_true rfl) (by assumption) (c_X12_is (k := 1) (by omega) hM rfl (by decide) ?_)
      rw [e1, bz_t hc]
      refine E_if_eq (tgt := 19) dX12_lower_6 (by decide) (fun c_6 => absurd c_6 (by decide)) (fun c_6 => ?_)
      refine E_iload_n (i := 2) dX12_lower_9 rfl rfl ?_
      refine E_iconst (v := 1) dX12_lower_10 (by decide) ?_
      refine E_bipush (v := 60) dX12_lower_11 (by decide) ?_
      refine k_X12_lower_13 (mc' := 0) (ms' := 0) (rc := 0) (rs := 0) (by omega) (Nat.le_of_ble_eq_true rfl) (c_X12_within ?_)
      rw [bz_f hc2]
      refine E_if_ne (tgt := 26) dX12_lower_16 (by decide) (fun c_16 => absurd (rfl) c_16) (fun c_16 => ?_)
      refine E_aload_n (i := 0) dX12_lower_19 rfl rfl ?_
      refine E_ldc (v := -1000000001) dX12_lower_20 w_1208 ?_
      refine k_X12_lower_22 (mc' := 0) (ms' := 0) (rc := 0) (rs := 0) (by omega) (Nat.le_of_ble_eq_true rfl) (by assumption) (c_find1 hM ?_)
      refine E_iret dX12_lower_25 rfl ?_
      exact hΦ
  · have hΦ := h3 (fun h => hc h.1)
    refine E_aload_n (i := 0) dX12_lower_0 rfl rfl ?_
    refine E_iload_n (i := 1) dX12_lower_1 rfl rfl ?_
    refine E_iconst (v := 1) dX12_lower_2 (by decide) ?_
    refine k_X12_lower_3 (mc' := 0) (ms' := 0) (rc := 0) (rs := 0) (by omega) (Nat.le_of_ble_eq_true rfl) (by assumption) (c_X12_is (k := 1) (by omega) hM rfl (by decide) ?_)
    rw [e1, bz_f hc]
    refine E_if_eq (tgt := 19) dX12_lower_6 (by decide) (fun c_6 => ?_) (fun c_6 => absurd (rfl) c_6)
    refine E_aload_n (i := 0) dX12_lower_19 rfl rfl ?_
    refine E_ldc (v := -1000000001) dX12_lower_20 w_1208 ?_
    refine k_X12_lower_22 (mc' := 0) (ms' := 0) (rc := 0) (rs := 0) (by omega) (Nat.le_of_ble_eq_true rfl) (by assumption) (c_find1 hM ?_)
    refine E_iret dX12_lower_25 rfl ?_
    exact hΦ
end
