/-! ahead of the loop: both are made -/
section
variable {Γ : GE} {d mc ms : Nat} {QQ : List Frame → Array Value → State → State → Prop} {P P' : HP} {I J J' : HI}
theorem X0.mv (hP : ∀ a, a < 109 → P' a = P a) (hJ : ∀ a, a < 109 → J' a = J a) (h : X0 P J) : X0 P' J' := by
  obtain ⟨⟨x1, x2, x3⟩, y, z⟩ := h
  refine ⟨⟨x1.mv (fun a _ h => ⟨hP a (by omega), hJ a (by omega)⟩), x2.mv (fun a _ h => ⟨hP a (by omega), hJ a (by omega)⟩), x3.mv (fun a _ h => ⟨hP a (by omega), hJ a (by omega)⟩)⟩, ?_, fun j hj => ?_⟩
  · rw [hJ 16 (by decide), hJ 93 (by decide), hJ 94 (by decide), hJ 97 (by decide), hJ 98 (by decide), hJ 99 (by decide), hJ 100 (by decide)]
    exact y
  · rw [hJ (101 + 2 * j) (by omega)]
    exact z j hj
theorem law_start {k l : Nat → Nat} (hd : 200 ≤ d) (hN : gn Γ ≤ 3072) (hend : ∀ (lv : List (Option Value)) (g : Sh) (P : HP) (I : HI), E Γ mL_law d mc ms QQ 0 0 1455 lv [.int 1] g P I) : E Γ mL_law d mc ms QQ 624 4925 0 [some (.ref 13), none, none, none] [] (16, k, l) P I := by
  refine E_newL (μ := mL_law) (N := 13) (rc := 623) (rs := 4912) 16 dL_law_0 cf_11 w_91 rfl (by decide) rfl rfl ?_
  refine E_dup dL_law_3 rfl ?_
  refine k_L_law_4 (mc' := 92) (ms' := 1093) (rc := 531) (rs := 3819) (by omega) (Nat.le_of_ble_eq_true rfl) (init11 (by omega) rfl (fun k1 l1 P1 J1 hL hX => ?_))
  refine E_astore_nC (i := 1) dL_law_7 rfl (by decide) rfl ?_
  refine E_newL (μ := mL_law) (N := 27) (rc := 530) (rs := 3792) 109 dL_law_8 cf_12 w_1108 rfl (by decide) rfl rfl ?_
  refine E_dup dL_law_11 rfl ?_
  refine k_L_law_12 (mc' := 18) (ms' := 1232) (rc := 512) (rs := 2560) (by omega) (Nat.le_of_ble_eq_true rfl) (init12 (by omega) rfl (fun j => rfl) (fun k2 l2 P2 J2 hM hZ f => ?_))
  refine E_astore_nC (i := 2) dL_law_15 rfl (by decide) rfl ?_
  refine E_iconst (v := 0) dL_law_16 (by decide) ?_
  refine E_istore_nC (i := 3) dL_law_17 rfl (by decide) rfl ?_
  have hP : ∀ a, a < 109 → P2 a = P1 a := fun a ha => (f a ha).2.2.1.trans (ur_n _ _ (by omega))
  have hJ : ∀ a, a < 109 → J2 a = J1 a := fun a ha => (f a ha).2.2.2.trans (ur_n _ _ (by omega))
  have hS : SX (109, k1, l1) (128, k2, l2) P1 P2 := ⟨Nat.le_of_ble_eq_true rfl, fun a ha => ⟨(f a ha).1.trans (ur_n _ _ (Nat.ne_of_lt ha)), (f a ha).2.1.trans (ur_n _ _ (Nat.ne_of_lt ha)), hP a ha⟩⟩
  exact law_loop hd hN hend 512 0 _ _ _ (by omega) (by omega) (IV_0 (hL.up hS (Nat.le_refl _)) hM (hX.mv hP hJ) hZ)
end
