/-! the law's loop -/
section
variable {Γ : GE} {d mc ms rc rs i : Nat} {QQ : List Frame → Array Value → State → State → Prop} {g : Sh} {P : HP} {I : HI}
theorem E_more {μ : MD} {pc rc' rs' : Nat} {lv : List (Option Value)} {st : List Value} (h1 : rc ≤ rc') (h2 : rs ≤ rs') (k : E Γ μ d mc ms QQ rc rs pc lv st g P I) : E Γ μ d mc ms QQ rc' rs' pc lv st g P I := by
  intro p e R s m args below meth c C H locs cells slots ls q1 q2 h3 hl hw hs
  exact k p e R s m args below meth c C H locs cells slots ls (by omega) (by omega) h3 hl hw hs
theorem lp_vp {n N j : Nat} (hN : N ≤ 3072) (h : n + j < N) : vp_in (nI n + nI j) N := by
  rw [nI_add]
  exact vp_in_nI h (by omega)
abbrev LV' (x : Int32) : List (Option Value) := [some (.ref 13), some (.ref 16), some (.ref 109), some (.int x)]
theorem law_switch {c : Nat} (h40 : c < 40) (hd : 200 ≤ d) (v1 : vp_in (nI i + 1) (gn Γ)) (v2 : vp_in (nI i + 2) (gn Γ)) (v3 : vp_in (nI i + 3) (gn Γ)) (v4 : vp_in (nI i + 4) (gn Γ)) (v5 : vp_in (nI i + 5) (gn Γ)) (hI : IV g P I) (ih : ∀ g P I, IV g P I → E Γ mL_law d mc ms QQ rc rs 1448 (LV i) [] g P I) : E Γ mL_law d mc ms QQ (rc + 1) (rs + 5) 33 (LV i) [.int (nI c)] g P I := by
  match c, h40 with
  | 0, _ => exact E_tswIn (off := 175) (tgt := 208) dL_law_33 (by decide) (by decide) (by decide) (by decide) (E_more (by omega) (by omega) (law_0 hd v1 v2 v3 v4 v5 hI ih))
  | 1, _ => exact E_tswIn (off := 208) (tgt := 241) dL_law_33 (by decide) (by decide) (by decide) (by decide) (E_more (by omega) (by omega) (law_1 hd v1 v2 v3 v4 v5 hI ih))
  | 2, _ => exact E_tswIn (off := 241) (tgt := 274) dL_law_33 (by decide) (by decide) (by decide) (by decide) (E_more (by omega) (by omega) (law_2 hd v1 v2 v3 v4 v5 hI ih))
  | 3, _ => exact E_tswIn (off := 274) (tgt := 307) dL_law_33 (by decide) (by decide) (by decide) (by decide) (E_more (by omega) (by omega) (law_3 hd v1 v2 v3 v4 v5 hI ih))
  | 4, _ => exact E_tswIn (off := 307) (tgt := 340) dL_law_33 (by decide) (by decide) (by decide) (by decide) (E_more (by omega) (by omega) (law_4 hd v1 v2 v3 v4 v5 hI ih))
  | 5, _ => exact E_tswIn (off := 320) (tgt := 353) dL_law_33 (by decide) (by decide) (by decide) (by decide) (E_more (by omega) (by omega) (law_5 hd v1 v2 v3 v4 v5 hI ih))
  | 6, _ => exact E_tswIn (off := 333) (tgt := 366) dL_law_33 (by decide) (by decide) (by decide) (by decide) (E_more (by omega) (by omega) (law_6 hd v1 v2 v3 v4 v5 hI ih))
  | 7, _ => exact E_tswIn (off := 376) (tgt := 409) dL_law_33 (by decide) (by decide) (by decide) (by decide) (E_more (by omega) (by omega) (law_7 hd v1 v2 v3 v4 v5 hI ih))
  | 8, _ => exact E_tswIn (off := 409) (tgt := 442) dL_law_33 (by decide) (by decide) (by decide) (by decide) (E_more (by omega) (by omega) (law_8 hd v1 v2 v3 v4 v5 hI ih))
  | 9, _ => exact E_tswIn (off := 442) (tgt := 475) dL_law_33 (by decide) (by decide) (by decide) (by decide) (E_more (by omega) (by omega) (law_9 hd v1 v2 v3 v4 v5 hI ih))
  | 10, _ => exact E_tswIn (off := 485) (tgt := 518) dL_law_33 (by decide) (by decide) (by decide) (by decide) (E_more (by omega) (by omega) (law_10 hd v1 v2 v3 v4 v5 hI ih))
  | 11, _ => exact E_tswIn (off := 548) (tgt := 581) dL_law_33 (by decide) (by decide) (by decide) (by decide) (E_more (by omega) (by omega) (law_11 hd v1 v2 v3 v4 v5 hI ih))
  | 12, _ => exact E_tswIn (off := 571) (tgt := 604) dL_law_33 (by decide) (by decide) (by decide) (by decide) (E_more (by omega) (by omega) (law_12 hd v1 v2 v3 v4 v5 hI ih))
  | 13, _ => exact E_tswIn (off := 634) (tgt := 667) dL_law_33 (by decide) (by decide) (by decide) (by decide) (E_more (by omega) (by omega) (law_13 hd v1 v2 v3 v4 v5 hI ih))
  | 14, _ => exact E_tswIn (off := 657) (tgt := 690) dL_law_33 (by decide) (by decide) (by decide) (by decide) (E_more (by omega) (by omega) (law_14 hd v1 v2 v3 v4 v5 hI ih))
  | 15, _ => exact E_tswIn (off := 680) (tgt := 713) dL_law_33 (by decide) (by decide) (by decide) (by decide) (E_more (by omega) (by omega) (law_15 hd v1 v2 v3 v4 v5 hI ih))
  | 16, _ => exact E_tswIn (off := 723) (tgt := 756) dL_law_33 (by decide) (by decide) (by decide) (by decide) (E_more (by omega) (by omega) (law_16 hd v1 v2 v3 v4 v5 hI ih))
  | 17, _ => exact E_tswIn (off := 746) (tgt := 779) dL_law_33 (by decide) (by decide) (by decide) (by decide) (E_more (by omega) (by omega) (law_17 hd v1 v2 v3 v4 v5 hI ih))
  | 18, _ => exact E_tswIn (off := 769) (tgt := 802) dL_law_33 (by decide) (by decide) (by decide) (by decide) (E_more (by omega) (by omega) (law_18 hd v1 v2 v3 v4 v5 hI ih))
  | 19, _ => exact E_tswIn (off := 792) (tgt := 825) dL_law_33 (by decide) (by decide) (by decide) (by decide) (E_more (by omega) (by omega) (law_19 hd v1 v2 v3 v4 v5 hI ih))
  | 20, _ => exact E_tswIn (off := 835) (tgt := 868) dL_law_33 (by decide) (by decide) (by decide) (by decide) (E_more (by omega) (by omega) (law_20 hd v1 v2 v3 v4 v5 hI ih))
  | 21, _ => exact E_tswIn (off := 868) (tgt := 901) dL_law_33 (by decide) (by decide) (by decide) (by decide) (E_more (by omega) (by omega) (law_21 hd v1 v2 v3 v4 v5 hI ih))
  | 22, _ => exact E_tswIn (off := 901) (tgt := 934) dL_law_33 (by decide) (by decide) (by decide) (by decide) (E_more (by omega) (by omega) (law_22 hd v1 v2 v3 v4 v5 hI ih))
  | 23, _ => exact E_tswIn (off := 924) (tgt := 957) dL_law_33 (by decide) (by decide) (by decide) (by decide) (E_more (by omega) (by omega) (law_23 hd v1 v2 v3 v4 v5 hI ih))
  | 24, _ => exact E_tswIn (off := 957) (tgt := 990) dL_law_33 (by decide) (by decide) (by decide) (by decide) (E_more (by omega) (by omega) (law_24 hd v1 v2 v3 v4 v5 hI ih))
  | 25, _ => exact E_tswIn (off := 990) (tgt := 1023) dL_law_33 (by decide) (by decide) (by decide) (by decide) (E_more (by omega) (by omega) (law_25 hd v1 v2 v3 v4 v5 hI ih))
  | 26, _ => exact E_tswIn (off := 1003) (tgt := 1036) dL_law_33 (by decide) (by decide) (by decide) (by decide) (E_more (by omega) (by omega) (law_26 hd v1 v2 v3 v4 v5 hI ih))
  | 27, _ => exact E_tswIn (off := 1026) (tgt := 1059) dL_law_33 (by decide) (by decide) (by decide) (by decide) (E_more (by omega) (by omega) (law_27 hd v1 v2 v3 v4 v5 hI ih))
  | 28, _ => exact E_tswIn (off := 1059) (tgt := 1092) dL_law_33 (by decide) (by decide) (by decide) (by decide) (E_more (by omega) (by omega) (law_28 hd v1 v2 v3 v4 v5 hI ih))
  | 29, _ => exact E_tswIn (off := 1082) (tgt := 1115) dL_law_33 (by decide) (by decide) (by decide) (by decide) (E_more (by omega) (by omega) (law_29 hd v1 v2 v3 v4 v5 hI ih))
  | 30, _ => exact E_tswIn (off := 1125) (tgt := 1158) dL_law_33 (by decide) (by decide) (by decide) (by decide) (E_more (by omega) (by omega) (law_30 hd v1 v2 v3 v4 v5 hI ih))
  | 31, _ => exact E_tswIn (off := 1148) (tgt := 1181) dL_law_33 (by decide) (by decide) (by decide) (by decide) (E_more (by omega) (by omega) (law_31 hd v1 v2 v3 v4 v5 hI ih))
  | 32, _ => exact E_tswIn (off := 1191) (tgt := 1224) dL_law_33 (by decide) (by decide) (by decide) (by decide) (E_more (by omega) (by omega) (law_32 hd v1 v2 v3 v4 v5 hI ih))
  | 33, _ => exact E_tswIn (off := 1234) (tgt := 1267) dL_law_33 (by decide) (by decide) (by decide) (by decide) (E_more (by omega) (by omega) (law_33 hd v1 v2 v3 v4 v5 hI ih))
  | 34, _ => exact E_tswIn (off := 1297) (tgt := 1330) dL_law_33 (by decide) (by decide) (by decide) (by decide) (E_more (by omega) (by omega) (law_34 hd v1 v2 v3 v4 v5 hI ih))
  | 35, _ => exact E_tswIn (off := 1310) (tgt := 1343) dL_law_33 (by decide) (by decide) (by decide) (by decide) (E_more (by omega) (by omega) (law_35 hd v1 v2 v3 v4 v5 hI ih))
  | 36, _ => exact E_tswIn (off := 1323) (tgt := 1356) dL_law_33 (by decide) (by decide) (by decide) (by decide) (E_more (by omega) (by omega) (law_36 hd v1 v2 v3 v4 v5 hI ih))
  | 37, _ => exact E_tswIn (off := 1346) (tgt := 1379) dL_law_33 (by decide) (by decide) (by decide) (by decide) (E_more (by omega) (by omega) (law_37 hd v1 v2 v3 v4 v5 hI ih))
  | 38, _ => exact E_tswIn (off := 1369) (tgt := 1402) dL_law_33 (by decide) (by decide) (by decide) (by decide) (E_more (by omega) (by omega) (law_38 hd v1 v2 v3 v4 v5 hI ih))
  | 39, _ => exact E_tswIn (off := 1392) (tgt := 1425) dL_law_33 (by decide) (by decide) (by decide) (by decide) (E_more (by omega) (by omega) (law_39 hd v1 v2 v3 v4 v5 hI ih))
  | n + 40, h => exact absurd h (by omega)
theorem law_step (hd : 200 ≤ d) (hN : gn Γ ≤ 3072) (hi : i + 6 ≤ gn Γ) (hI : IV g P I) (ih : ∀ g P I, IV g P I → E Γ mL_law d mc ms QQ rc rs 1448 (LV i) [] g P I) : E Γ mL_law d mc ms QQ (rc + 1) (rs + 5) 27 (LV i) [] g P I := by
  refine E_aload_n (i := 0) dL_law_27 rfl rfl ?_
  refine E_iload_n (i := 3) dL_law_28 rfl rfl ?_
  refine E_sld dL_law_29 (vp_in_nI (by omega) (by omega)) ?_
  refine E_bipush (v := 63) dL_law_30 (by decide) ?_
  refine E_iand dL_law_32 ?_
  obtain ⟨c, hc, e⟩ := vp_in_of (pk_andIn (gs Γ (nI i).toNatClampNeg) (m := 63) 6 (by decide) (by decide)) (by decide)
  rw [e]
  by_cases h40 : c < 40
  · exact law_switch h40 hd (lp_vp hN (j := 1) (by omega)) (lp_vp hN (j := 2) (by omega)) (lp_vp hN (j := 3) (by omega)) (lp_vp hN (j := 4) (by omega)) (lp_vp hN (j := 5) (by omega)) hI ih
  · have hc' : c < 64 := hc
    exact E_tswOut (tgt := 1448) dL_law_33 (Or.inr (by rw [nI_toInt (by omega)]; omega)) (by decide) (E_more (by omega) (by omega) (ih _ _ _ hI))
theorem law_head (hN : gn Γ ≤ 3072) (hi : i ≤ 3072) (kt : gn Γ < i + 6 → E Γ mL_law d mc ms QQ rc rs 1454 (LV i) [] g P I) (kf : i + 6 ≤ gn Γ → E Γ mL_law d mc ms QQ rc rs 27 (LV i) [] g P I) : E Γ mL_law d mc ms QQ rc rs 18 (LV i) [] g P I := by
  have e1 : (nI (gn Γ)).toInt = (gn Γ : Int) := nI_toInt (by omega)
  have e2 : (nI i).toInt = (i : Int) := nI_toInt (by omega)
  have e6 : (6 : Int32).toInt = 6 := rfl
  have e : (nI (gn Γ) - 6).toInt = (gn Γ : Int) - 6 := by rw [sub32 (by omega) (by omega), e1, e6]
  refine E_iload_n (i := 3) dL_law_18 rfl rfl ?_
  refine E_aload_n (i := 0) dL_law_19 rfl rfl ?_
  refine E_slen dL_law_20 ?_
  refine E_bipush (v := 6) dL_law_21 (by decide) ?_
  refine E_isub dL_law_23 ?_
  refine E_icmp_gt (tgt := 1454) dL_law_24 (by decide) (fun q => kt ?_) (fun q => kf ?_)
  · have := i32_lt.mp q
    omega
  · have h : ¬ (nI (gn Γ) - 6).toInt < (nI i).toInt := fun z => q (i32_lt.mpr z)
    omega
theorem law_loop (hd : 200 ≤ d) (hN : gn Γ ≤ 3072) (hend : ∀ (lv : List (Option Value)) (g : Sh) (P : HP) (I : HI), E Γ mL_law d mc ms QQ 0 0 1455 lv [.int 1] g P I) : ∀ (N i : Nat) (g : Sh) (P : HP) (I : HI), gn Γ ≤ i + 6 * N + 5 → i ≤ 3072 → IV g P I → E Γ mL_law d mc ms QQ N (5 * N) 18 (LV i) [] g P I := by
  intro N
  induction N with
  | zero =>
    intro i g P I h1 h2 hI
    refine law_head hN h2 (fun _ => ?_) (fun q => absurd q (by omega))
    exact E_iconst (v := 1) dL_law_1454 (by decide) (hend _ _ _ _)
  | succ N ih =>
    intro i g P I h1 h2 hI
    refine law_head hN h2 (fun _ => ?_) (fun q => ?_)
    · exact E_iconst (v := 1) dL_law_1454 (by decide) (E_more (by omega) (by omega) (hend _ _ _ _))
    · refine E_more (Nat.le_refl _) (by omega) (law_step (rc := N) (rs := 5 * N) hd hN q hI (fun g1 P1 I1 hI1 => ?_))
      refine E_incC (i := 3) (c := 6) dL_law_1448 rfl (by decide) (by decide) rfl ?_
      refine E_goto (tgt := 18) dL_law_1451 (by decide) ?_
      refine E_lv (lv' := LV (i + 6)) ?_ (ih (i + 6) g1 P1 I1 (by omega) (by omega) hI1)
      show LV' (nI i + nI 6) = LV' (nI (i + 6))
      rw [nI_add]
end
