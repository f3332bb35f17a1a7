/-! voice of both -/
section Rules
variable {Γ : GE} {μ : MD} {d mc ms rc rs pc : Nat} {QQ : List Frame → Array Value → State → State → Prop} {lv : List (Option Value)} {st : List Value} {g : Sh} {P : HP} {I : HI}
theorem E_aloadN {i : Nat} (hd : decode μ.2.1 pc = .ok (.aload i, 2)) (hx : lv[i]? = some (some .null))
    (k : E Γ μ d mc ms QQ rc rs (pc + 2) lv (.null :: st) g P I) : E Γ μ d mc ms QQ rc rs pc lv st g P I := by
  intro p e R s m args below meth c C H locs cells slots ls h1 h2 h3 hl hw hs
  exact lv_aloadN C.1 C.2.1 hd (hl.2.2 _ _ hx) (k p e R s m args below meth c C H locs cells slots ls h1 h2 h3 hl hw hs)
theorem E_astoreN {i : Nat} (hd : decode μ.2.1 pc = .ok (.astore i, 2)) (hn : i < μ.2.2.1)
    (k : E Γ μ d mc ms QQ rc rs (pc + 2) (sto1 lv i .null) st g P I) : E Γ μ d mc ms QQ rc rs pc lv (.null :: st) g P I := by
  intro p e R s m args below meth c C H locs cells slots ls h1 h2 h3 hl hw hs
  exact lv_astoreN C.1 C.2.1 hd hl.has hn rfl (fun ls' hl' => k p e R s m args below meth c C H locs cells slots ls' h1 h2 h3 (lvOK_st1 rfl hl') hw hs)
theorem E_astoreNC {i : Nat} (hd : decode μ.2.1 pc = .ok (.astore i, 2)) (hn : i < μ.2.2.1) (hc : cut lv i = lv)
    (k : E Γ μ d mc ms QQ rc rs (pc + 2) (lv.set i (some .null)) st g P I) : E Γ μ d mc ms QQ rc rs pc lv (.null :: st) g P I := E_astoreN hd hn (by unfold sto1; rw [hc]; exact k)
end Rules
/-- what a voice answers, and the bodies that began -/
def vV (kd act : Nat) (x n m : Int32) : Int32 := match kd, act with
  | 0, 0 => (x + n)
  | 0, 1 => ((x + n) * 2)
  | 0, 2 => (x - m)
  | 0, 3 => (((x + n) * 2) ^^^ (x - m))
  | 1, 0 => (x + n)
  | 1, 1 => (((x + n) * 2) - (1 - m))
  | 1, 2 => (x - m)
  | 1, 3 => ((((x + n) * 2) - (1 - m)) ^^^ (x - m))
  | 2, 0 => ((x + n) * 3)
  | 2, 1 => (((x + n) * 3) * 2)
  | 2, 2 => (x - m)
  | 2, 3 => ((((x + n) * 3) * 2) ^^^ (x - m))
  | 3, 0 => (x + n)
  | 3, 1 => (((x + n) * 2) - (-(1 - m)))
  | 3, 2 => (-(x - m))
  | 3, 3 => ((((x + n) * 2) - (-(1 - m))) ^^^ (-(x - m)))
  | 4, 0 => (x + n)
  | 4, 1 => ((x + n) * 2)
  | 4, 2 => (x - m)
  | 4, 3 => ((((x + n) * 2) ^^^ (x - m)) - (2 + n))
  | 5, 0 => (x + n)
  | 5, 1 => ((((x + n) * 2) - (-(1 - m))) ^^^ n)
  | 5, 2 => (-(x - m))
  | 5, 3 => (((((x + n) * 2) - (-(1 - m))) ^^^ n) ^^^ (-(x - m)))
  | 6, 0 => (((x + 1) + n) * 3)
  | 6, 1 => ((((x + 1) + n) * 3) * 2)
  | 6, 2 => (x - m)
  | 6, 3 => (((((x + 1) + n) * 3) * 2) - (((((x + 1) + n) * 3) * 2) ^^^ (x - m)))
  | _, _ => 0
def vT (kd act : Nat) : List Int32 := match kd, act with
  | 0, 0 => [10]
  | 0, 1 => [11, 10]
  | 0, 2 => [12]
  | 0, 3 => [13, 11, 10, 12]
  | 1, 0 => [10]
  | 1, 1 => [20, 11, 10, 12]
  | 1, 2 => [12]
  | 1, 3 => [13, 20, 11, 10, 12, 12]
  | 2, 0 => [30, 10]
  | 2, 1 => [11, 30, 10]
  | 2, 2 => [12]
  | 2, 3 => [13, 11, 30, 10, 12]
  | 3, 0 => [10]
  | 3, 1 => [20, 11, 10, 40, 12]
  | 3, 2 => [40, 12]
  | 3, 3 => [13, 20, 11, 10, 40, 12, 40, 12]
  | 4, 0 => [10]
  | 4, 1 => [11, 10]
  | 4, 2 => [12]
  | 4, 3 => [50, 13, 11, 10, 12, 10]
  | 5, 0 => [10]
  | 5, 1 => [60, 20, 11, 10, 40, 12]
  | 5, 2 => [40, 12]
  | 5, 3 => [13, 60, 20, 11, 10, 40, 12, 40, 12]
  | 6, 0 => [70, 30, 10]
  | 6, 1 => [11, 70, 30, 10]
  | 6, 2 => [12]
  | 6, 3 => [71, 11, 70, 30, 10, 13, 11, 70, 30, 10, 12]
  | _, _ => []
theorem vV_0_0 (x n m : Int32) : vV 0 0 x n m = (x + n) := rfl
theorem vT_0_0 : vT 0 0 = [10] := rfl
theorem vV_0_1 (x n m : Int32) : vV 0 1 x n m = ((x + n) * 2) := rfl
theorem vT_0_1 : vT 0 1 = [11, 10] := rfl
theorem vV_0_2 (x n m : Int32) : vV 0 2 x n m = (x - m) := rfl
theorem vT_0_2 : vT 0 2 = [12] := rfl
theorem vV_0_3 (x n m : Int32) : vV 0 3 x n m = (((x + n) * 2) ^^^ (x - m)) := rfl
theorem vT_0_3 : vT 0 3 = [13, 11, 10, 12] := rfl
theorem vV_1_0 (x n m : Int32) : vV 1 0 x n m = (x + n) := rfl
theorem vT_1_0 : vT 1 0 = [10] := rfl
theorem vV_1_1 (x n m : Int32) : vV 1 1 x n m = (((x + n) * 2) - (1 - m)) := rfl
theorem vT_1_1 : vT 1 1 = [20, 11, 10, 12] := rfl
theorem vV_1_2 (x n m : Int32) : vV 1 2 x n m = (x - m) := rfl
theorem vT_1_2 : vT 1 2 = [12] := rfl
theorem vV_1_3 (x n m : Int32) : vV 1 3 x n m = ((((x + n) * 2) - (1 - m)) ^^^ (x - m)) := rfl
theorem vT_1_3 : vT 1 3 = [13, 20, 11, 10, 12, 12] := rfl
theorem vV_2_0 (x n m : Int32) : vV 2 0 x n m = ((x + n) * 3) := rfl
theorem vT_2_0 : vT 2 0 = [30, 10] := rfl
theorem vV_2_1 (x n m : Int32) : vV 2 1 x n m = (((x + n) * 3) * 2) := rfl
theorem vT_2_1 : vT 2 1 = [11, 30, 10] := rfl
theorem vV_2_2 (x n m : Int32) : vV 2 2 x n m = (x - m) := rfl
theorem vT_2_2 : vT 2 2 = [12] := rfl
theorem vV_2_3 (x n m : Int32) : vV 2 3 x n m = ((((x + n) * 3) * 2) ^^^ (x - m)) := rfl
theorem vT_2_3 : vT 2 3 = [13, 11, 30, 10, 12] := rfl
theorem vV_3_0 (x n m : Int32) : vV 3 0 x n m = (x + n) := rfl
theorem vT_3_0 : vT 3 0 = [10] := rfl
theorem vV_3_1 (x n m : Int32) : vV 3 1 x n m = (((x + n) * 2) - (-(1 - m))) := rfl
theorem vT_3_1 : vT 3 1 = [20, 11, 10, 40, 12] := rfl
theorem vV_3_2 (x n m : Int32) : vV 3 2 x n m = (-(x - m)) := rfl
theorem vT_3_2 : vT 3 2 = [40, 12] := rfl
theorem vV_3_3 (x n m : Int32) : vV 3 3 x n m = ((((x + n) * 2) - (-(1 - m))) ^^^ (-(x - m))) := rfl
theorem vT_3_3 : vT 3 3 = [13, 20, 11, 10, 40, 12, 40, 12] := rfl
theorem vV_4_0 (x n m : Int32) : vV 4 0 x n m = (x + n) := rfl
theorem vT_4_0 : vT 4 0 = [10] := rfl
theorem vV_4_1 (x n m : Int32) : vV 4 1 x n m = ((x + n) * 2) := rfl
theorem vT_4_1 : vT 4 1 = [11, 10] := rfl
theorem vV_4_2 (x n m : Int32) : vV 4 2 x n m = (x - m) := rfl
theorem vT_4_2 : vT 4 2 = [12] := rfl
theorem vV_4_3 (x n m : Int32) : vV 4 3 x n m = ((((x + n) * 2) ^^^ (x - m)) - (2 + n)) := rfl
theorem vT_4_3 : vT 4 3 = [50, 13, 11, 10, 12, 10] := rfl
theorem vV_5_0 (x n m : Int32) : vV 5 0 x n m = (x + n) := rfl
theorem vT_5_0 : vT 5 0 = [10] := rfl
theorem vV_5_1 (x n m : Int32) : vV 5 1 x n m = ((((x + n) * 2) - (-(1 - m))) ^^^ n) := rfl
theorem vT_5_1 : vT 5 1 = [60, 20, 11, 10, 40, 12] := rfl
theorem vV_5_2 (x n m : Int32) : vV 5 2 x n m = (-(x - m)) := rfl
theorem vT_5_2 : vT 5 2 = [40, 12] := rfl
theorem vV_5_3 (x n m : Int32) : vV 5 3 x n m = (((((x + n) * 2) - (-(1 - m))) ^^^ n) ^^^ (-(x - m))) := rfl
theorem vT_5_3 : vT 5 3 = [13, 60, 20, 11, 10, 40, 12, 40, 12] := rfl
theorem vV_6_0 (x n m : Int32) : vV 6 0 x n m = (((x + 1) + n) * 3) := rfl
theorem vT_6_0 : vT 6 0 = [70, 30, 10] := rfl
theorem vV_6_1 (x n m : Int32) : vV 6 1 x n m = ((((x + 1) + n) * 3) * 2) := rfl
theorem vT_6_1 : vT 6 1 = [11, 70, 30, 10] := rfl
theorem vV_6_2 (x n m : Int32) : vV 6 2 x n m = (x - m) := rfl
theorem vT_6_2 : vT 6 2 = [12] := rfl
theorem vV_6_3 (x n m : Int32) : vV 6 3 x n m = (((((x + 1) + n) * 3) * 2) - (((((x + 1) + n) * 3) * 2) ^^^ (x - m))) := rfl
theorem vT_6_3 : vT 6 3 = [71, 11, 70, 30, 10, 13, 11, 70, 30, 10, 12] := rfl
section
variable {Γ : GE} {d : Nat} {g : Sh} {P : HP} {I : HI} {Φ : Option Value → Sh → HP → HI → Prop}
theorem voi_0_0 {x v : Int32} {k i r : Nat} (hd : 9 ≤ d) (hL : Ly g P) (hk : I 21 7 = nI k) (hk8 : k ≤ 8) (hi : i < k) (hx : x = nI i) (hp : P 24 i = some r) (hr : Rd g P r 5) {kt : Nat} (ht : I 94 1 = nI kt) (ht4 : kt ≤ 40) (hΦ : Φ (some (.int (vV 0 0 v (I r 1) (I r 3)))) g P (tads (u2 I 94 1 0) (vT 0 0))) : MM Γ mX11_voice d 0 0 [.ref 16, .int x, .int 0, .int v] g P I Φ := by
  refine MM_entry [some _, some _, some _, some _, none] (by decide) (Nat.le_of_ble_eq_true rfl) rfl ?_
  rw [vV_0_0, vT_0_0] at hΦ
  have h0 := hL.gw
  have l1 := hL.live
  have l2 := hL.s21.c
  obtain ⟨t1, t2⟩ := hL.tra
  have t3 := t2.1
  have c1 : Unit → (0 : Int32) ≤ 0 ∧ (0 : Int32) ≤ 3 := fun _ => by decide
  have e1 : Unit → (u2 I 94 1 0) r 1 = I r 1 := fun _ => u2_o (fun h => hr.2.2.1 h.1)
  have e3 : Unit → (u2 I 94 1 0) r 3 = I r 3 := fun _ => u2_o (fun h => hr.2.2.1 h.1)
  have hT : TrOK (u2 I 94 1 0) := ⟨0, u2_s _ _ _ _, by omega⟩
  rw [← e1 ()] at hΦ
  refine E_aload_n (i := 0) dX11_voice_0 rfl rfl ?_
  refine E_gr dX11_voice_1 gf_X11_21_11 rfl (by assumption) (by assumption) ?_
  refine E_iload_n (i := 1) dX11_voice_4 rfl rfl ?_
  refine k_X11_voice_5 (mc' := 0) (ms' := 0) (rc := 0) (rs := 0) (by omega) (Nat.le_of_ble_eq_true rfl) (by assumption) (c_rideAt_in (by omega) hL.s21 hk hk8 hi hx hp ?_)
  refine E_astoreC dX11_voice_8 (by decide) rfl ?_
  refine E_lv (lv' := [_, _, _, _, _]) rfl ?_
  refine E_aload dX11_voice_10 rfl ?_
  refine E_ifnull dX11_voice_12 ?_
  refine E_iload_n (i := 2) dX11_voice_15 rfl rfl ?_
  refine E_iconst (v := 0) dX11_voice_16 (by decide) ?_
  refine E_iconst (v := 3) dX11_voice_17 (by decide) ?_
  refine k_X11_voice_18 (mc' := 0) (ms' := 0) (rc := 0) (rs := 0) (by omega) (Nat.le_of_ble_eq_true rfl) (c_X11_within ?_)
  rw [bz_t (c1 ())]
  refine E_if_ne (tgt := 30) dX11_voice_21 (by decide) (fun c_21 => ?_) (fun c_21 => absurd c_21 (by decide))
  refine E_aload_n (i := 0) dX11_voice_30 rfl rfl ?_
  refine E_gr dX11_voice_31 gf_X11_44_11 rfl (by assumption) (by assumption) ?_
  refine k_X11_voice_34 (mc' := 0) (ms' := 0) (rc := 0) (rs := 0) (by omega) (Nat.le_of_ble_eq_true rfl) (by assumption) (c_X7_clear (t2.w ht ht4 (by omega)) ?_)
  refine E_iload_n (i := 2) dX11_voice_37 rfl rfl ?_
  refine E_tswIn (tgt := 64) dX11_voice_38 (by decide) (by decide) rfl (by decide) ?_
  refine E_aload dX11_voice_64 rfl ?_
  refine E_iload_n (i := 3) dX11_voice_66 rfl rfl ?_
  refine k_X11_voice_67_5 (mc' := 0) (ms' := 0) (rc := 0) (rs := 0) (by omega) (Nat.le_of_ble_eq_true rfl) hr.1 (v_X5_hangs_5 (by omega) hr hT ?_)
  refine E_iret dX11_voice_70 rfl ?_
  exact hΦ
theorem voi_0_1 {x v : Int32} {k i r : Nat} (hd : 9 ≤ d) (hL : Ly g P) (hk : I 21 7 = nI k) (hk8 : k ≤ 8) (hi : i < k) (hx : x = nI i) (hp : P 24 i = some r) (hr : Rd g P r 5) {kt : Nat} (ht : I 94 1 = nI kt) (ht4 : kt ≤ 40) (hΦ : Φ (some (.int (vV 0 1 v (I r 1) (I r 3)))) g P (tads (u2 I 94 1 0) (vT 0 1))) : MM Γ mX11_voice d 0 0 [.ref 16, .int x, .int 1, .int v] g P I Φ := by
  refine MM_entry [some _, some _, some _, some _, none] (by decide) (Nat.le_of_ble_eq_true rfl) rfl ?_
  rw [vV_0_1, vT_0_1] at hΦ
  have h0 := hL.gw
  have l1 := hL.live
  have l2 := hL.s21.c
  obtain ⟨t1, t2⟩ := hL.tra
  have t3 := t2.1
  have c1 : Unit → (0 : Int32) ≤ 1 ∧ (1 : Int32) ≤ 3 := fun _ => by decide
  have e1 : Unit → (u2 I 94 1 0) r 1 = I r 1 := fun _ => u2_o (fun h => hr.2.2.1 h.1)
  have e3 : Unit → (u2 I 94 1 0) r 3 = I r 3 := fun _ => u2_o (fun h => hr.2.2.1 h.1)
  have hT : TrOK (u2 I 94 1 0) := ⟨0, u2_s _ _ _ _, by omega⟩
  rw [← e1 ()] at hΦ
  refine E_aload_n (i := 0) dX11_voice_0 rfl rfl ?_
  refine E_gr dX11_voice_1 gf_X11_21_11 rfl (by assumption) (by assumption) ?_
  refine E_iload_n (i := 1) dX11_voice_4 rfl rfl ?_
  refine k_X11_voice_5 (mc' := 0) (ms' := 0) (rc := 0) (rs := 0) (by omega) (Nat.le_of_ble_eq_true rfl) (by assumption) (c_rideAt_in (by omega) hL.s21 hk hk8 hi hx hp ?_)
  refine E_astoreC dX11_voice_8 (by decide) rfl ?_
  refine E_lv (lv' := [_, _, _, _, _]) rfl ?_
  refine E_aload dX11_voice_10 rfl ?_
  refine E_ifnull dX11_voice_12 ?_
  refine E_iload_n (i := 2) dX11_voice_15 rfl rfl ?_
  refine E_iconst (v := 0) dX11_voice_16 (by decide) ?_
  refine E_iconst (v := 3) dX11_voice_17 (by decide) ?_
  refine k_X11_voice_18 (mc' := 0) (ms' := 0) (rc := 0) (rs := 0) (by omega) (Nat.le_of_ble_eq_true rfl) (c_X11_within ?_)
  rw [bz_t (c1 ())]
  refine E_if_ne (tgt := 30) dX11_voice_21 (by decide) (fun c_21 => ?_) (fun c_21 => absurd c_21 (by decide))
  refine E_aload_n (i := 0) dX11_voice_30 rfl rfl ?_
  refine E_gr dX11_voice_31 gf_X11_44_11 rfl (by assumption) (by assumption) ?_
  refine k_X11_voice_34 (mc' := 0) (ms' := 0) (rc := 0) (rs := 0) (by omega) (Nat.le_of_ble_eq_true rfl) (by assumption) (c_X7_clear (t2.w ht ht4 (by omega)) ?_)
  refine E_iload_n (i := 2) dX11_voice_37 rfl rfl ?_
  refine E_tswIn (tgt := 71) dX11_voice_38 (by decide) (by decide) rfl (by decide) ?_
  refine E_aload dX11_voice_71 rfl ?_
  refine E_iload_n (i := 3) dX11_voice_73 rfl rfl ?_
  refine k_X11_voice_74_5 (mc' := 0) (ms' := 0) (rc := 0) (rs := 0) (by omega) (Nat.le_of_ble_eq_true rfl) hr.1 (v_X5_rolls_5 (by omega) hr hT ?_)
  refine E_iret dX11_voice_77 rfl ?_
  exact hΦ
theorem voi_0_2 {x v : Int32} {k i r : Nat} (hd : 9 ≤ d) (hL : Ly g P) (hk : I 21 7 = nI k) (hk8 : k ≤ 8) (hi : i < k) (hx : x = nI i) (hp : P 24 i = some r) (hr : Rd g P r 5) {kt : Nat} (ht : I 94 1 = nI kt) (ht4 : kt ≤ 40) (hΦ : Φ (some (.int (vV 0 2 v (I r 1) (I r 3)))) g P (tads (u2 I 94 1 0) (vT 0 2))) : MM Γ mX11_voice d 0 0 [.ref 16, .int x, .int 2, .int v] g P I Φ := by
  refine MM_entry [some _, some _, some _, some _, none] (by decide) (Nat.le_of_ble_eq_true rfl) rfl ?_
  rw [vV_0_2, vT_0_2] at hΦ
  have h0 := hL.gw
  have l1 := hL.live
  have l2 := hL.s21.c
  obtain ⟨t1, t2⟩ := hL.tra
  have t3 := t2.1
  have c1 : Unit → (0 : Int32) ≤ 2 ∧ (2 : Int32) ≤ 3 := fun _ => by decide
  have e1 : Unit → (u2 I 94 1 0) r 1 = I r 1 := fun _ => u2_o (fun h => hr.2.2.1 h.1)
  have e3 : Unit → (u2 I 94 1 0) r 3 = I r 3 := fun _ => u2_o (fun h => hr.2.2.1 h.1)
  have hT : TrOK (u2 I 94 1 0) := ⟨0, u2_s _ _ _ _, by omega⟩
  rw [← e3 ()] at hΦ
  refine E_aload_n (i := 0) dX11_voice_0 rfl rfl ?_
  refine E_gr dX11_voice_1 gf_X11_21_11 rfl (by assumption) (by assumption) ?_
  refine E_iload_n (i := 1) dX11_voice_4 rfl rfl ?_
  refine k_X11_voice_5 (mc' := 0) (ms' := 0) (rc := 0) (rs := 0) (by omega) (Nat.le_of_ble_eq_true rfl) (by assumption) (c_rideAt_in (by omega) hL.s21 hk hk8 hi hx hp ?_)
  refine E_astoreC dX11_voice_8 (by decide) rfl ?_
  refine E_lv (lv' := [_, _, _, _, _]) rfl ?_
  refine E_aload dX11_voice_10 rfl ?_
  refine E_ifnull dX11_voice_12 ?_
  refine E_iload_n (i := 2) dX11_voice_15 rfl rfl ?_
  refine E_iconst (v := 0) dX11_voice_16 (by decide) ?_
  refine E_iconst (v := 3) dX11_voice_17 (by decide) ?_
  refine k_X11_voice_18 (mc' := 0) (ms' := 0) (rc := 0) (rs := 0) (by omega) (Nat.le_of_ble_eq_true rfl) (c_X11_within ?_)
  rw [bz_t (c1 ())]
  refine E_if_ne (tgt := 30) dX11_voice_21 (by decide) (fun c_21 => ?_) (fun c_21 => absurd c_21 (by decide))
  refine E_aload_n (i := 0) dX11_voice_30 rfl rfl ?_
  refine E_gr dX11_voice_31 gf_X11_44_11 rfl (by assumption) (by assumption) ?_
  refine k_X11_voice_34 (mc' := 0) (ms' := 0) (rc := 0) (rs := 0) (by omega) (Nat.le_of_ble_eq_true rfl) (by assumption) (c_X7_clear (t2.w ht ht4 (by omega)) ?_)
  refine E_iload_n (i := 2) dX11_voice_37 rfl rfl ?_
  refine E_tswIn (tgt := 78) dX11_voice_38 (by decide) (by decide) rfl (by decide) ?_
  refine E_aload dX11_voice_78 rfl ?_
  refine E_iload_n (i := 3) dX11_voice_80 rfl rfl ?_
  refine k_X11_voice_81_5 (mc' := 0) (ms' := 0) (rc := 0) (rs := 0) (by omega) (Nat.le_of_ble_eq_true rfl) hr.1 (v_X5_bears_5 (by omega) hr hT ?_)
  refine E_iret dX11_voice_84 rfl ?_
  exact hΦ
theorem voi_0_3 {x v : Int32} {k i r : Nat} (hd : 9 ≤ d) (hL : Ly g P) (hk : I 21 7 = nI k) (hk8 : k ≤ 8) (hi : i < k) (hx : x = nI i) (hp : P 24 i = some r) (hr : Rd g P r 5) {kt : Nat} (ht : I 94 1 = nI kt) (ht4 : kt ≤ 40) (hΦ : Φ (some (.int (vV 0 3 v (I r 1) (I r 3)))) g P (tads (u2 I 94 1 0) (vT 0 3))) : MM Γ mX11_voice d 0 0 [.ref 16, .int x, .int 3, .int v] g P I Φ := by
  refine MM_entry [some _, some _, some _, some _, none] (by decide) (Nat.le_of_ble_eq_true rfl) rfl ?_
  rw [vV_0_3, vT_0_3] at hΦ
  have h0 := hL.gw
  have l1 := hL.live
  have l2 := hL.s21.c
  obtain ⟨t1, t2⟩ := hL.tra
  have t3 := t2.1
  have c1 : Unit → (0 : Int32) ≤ 3 ∧ (3 : Int32) ≤ 3 := fun _ => by decide
  have e1 : Unit → (u2 I 94 1 0) r 1 = I r 1 := fun _ => u2_o (fun h => hr.2.2.1 h.1)
  have e3 : Unit → (u2 I 94 1 0) r 3 = I r 3 := fun _ => u2_o (fun h => hr.2.2.1 h.1)
  have hT : TrOK (u2 I 94 1 0) := ⟨0, u2_s _ _ _ _, by omega⟩
  rw [← e1 (), ← e3 ()] at hΦ
  refine E_aload_n (i := 0) dX11_voice_0 rfl rfl ?_
  refine E_gr dX11_voice_1 gf_X11_21_11 rfl (by assumption) (by assumption) ?_
  refine E_iload_n (i := 1) dX11_voice_4 rfl rfl ?_
  refine k_X11_voice_5 (mc' := 0) (ms' := 0) (rc := 0) (rs := 0) (by omega) (Nat.le_of_ble_eq_true rfl) (by assumption) (c_rideAt_in (by omega) hL.s21 hk hk8 hi hx hp ?_)
  refine E_astoreC dX11_voice_8 (by decide) rfl ?_
  refine E_lv (lv' := [_, _, _, _, _]) rfl ?_
  refine E_aload dX11_voice_10 rfl ?_
  refine E_ifnull dX11_voice_12 ?_
  refine E_iload_n (i := 2) dX11_voice_15 rfl rfl ?_
  refine E_iconst (v := 0) dX11_voice_16 (by decide) ?_
  refine E_iconst (v := 3) dX11_voice_17 (by decide) ?_
  refine k_X11_voice_18 (mc' := 0) (ms' := 0) (rc := 0) (rs := 0) (by omega) (Nat.le_of_ble_eq_true rfl) (c_X11_within ?_)
  rw [bz_t (c1 ())]
  refine E_if_ne (tgt := 30) dX11_voice_21 (by decide) (fun c_21 => ?_) (fun c_21 => absurd c_21 (by decide))
  refine E_aload_n (i := 0) dX11_voice_30 rfl rfl ?_
  refine E_gr dX11_voice_31 gf_X11_44_11 rfl (by assumption) (by assumption) ?_
  refine k_X11_voice_34 (mc' := 0) (ms' := 0) (rc := 0) (rs := 0) (by omega) (Nat.le_of_ble_eq_true rfl) (by assumption) (c_X7_clear (t2.w ht ht4 (by omega)) ?_)
  refine E_iload_n (i := 2) dX11_voice_37 rfl rfl ?_
  refine E_tswOut (tgt := 85) dX11_voice_38 (by decide) (by decide) ?_
  refine E_aload dX11_voice_85 rfl ?_
  refine E_iload_n (i := 3) dX11_voice_87 rfl rfl ?_
  refine k_X11_voice_88_5 (mc' := 0) (ms' := 0) (rc := 0) (rs := 0) (by omega) (Nat.le_of_ble_eq_true rfl) hr.1 (v_X5_wears_5 (by omega) hr hT ?_)
  refine E_iret dX11_voice_91 rfl ?_
  exact hΦ
theorem voi_1_0 {x v : Int32} {k i r : Nat} (hd : 9 ≤ d) (hL : Ly g P) (hk : I 21 7 = nI k) (hk8 : k ≤ 8) (hi : i < k) (hx : x = nI i) (hp : P 24 i = some r) (hr : Rd g P r 6) {kt : Nat} (ht : I 94 1 = nI kt) (ht4 : kt ≤ 40) (hΦ : Φ (some (.int (vV 1 0 v (I r 1) (I r 3)))) g P (tads (u2 I 94 1 0) (vT 1 0))) : MM Γ mX11_voice d 0 0 [.ref 16, .int x, .int 0, .int v] g P I Φ := by
  refine MM_entry [some _, some _, some _, some _, none] (by decide) (Nat.le_of_ble_eq_true rfl) rfl ?_
  rw [vV_1_0, vT_1_0] at hΦ
  have h0 := hL.gw
  have l1 := hL.live
  have l2 := hL.s21.c
  obtain ⟨t1, t2⟩ := hL.tra
  have t3 := t2.1
  have c1 : Unit → (0 : Int32) ≤ 0 ∧ (0 : Int32) ≤ 3 := fun _ => by decide
  have e1 : Unit → (u2 I 94 1 0) r 1 = I r 1 := fun _ => u2_o (fun h => hr.2.2.1 h.1)
  have e3 : Unit → (u2 I 94 1 0) r 3 = I r 3 := fun _ => u2_o (fun h => hr.2.2.1 h.1)
  have hT : TrOK (u2 I 94 1 0) := ⟨0, u2_s _ _ _ _, by omega⟩
  rw [← e1 ()] at hΦ
  refine E_aload_n (i := 0) dX11_voice_0 rfl rfl ?_
  refine E_gr dX11_voice_1 gf_X11_21_11 rfl (by assumption) (by assumption) ?_
  refine E_iload_n (i := 1) dX11_voice_4 rfl rfl ?_
  refine k_X11_voice_5 (mc' := 0) (ms' := 0) (rc := 0) (rs := 0) (by omega) (Nat.le_of_ble_eq_true rfl) (by assumption) (c_rideAt_in (by omega) hL.s21 hk hk8 hi hx hp ?_)
  refine E_astoreC dX11_voice_8 (by decide) rfl ?_
  refine E_lv (lv' := [_, _, _, _, _]) rfl ?_
  refine E_aload dX11_voice_10 rfl ?_
  refine E_ifnull dX11_voice_12 ?_
  refine E_iload_n (i := 2) dX11_voice_15 rfl rfl ?_
  refine E_iconst (v := 0) dX11_voice_16 (by decide) ?_
  refine E_iconst (v := 3) dX11_voice_17 (by decide) ?_
  refine k_X11_voice_18 (mc' := 0) (ms' := 0) (rc := 0) (rs := 0) (by omega) (Nat.le_of_ble_eq_true rfl) (c_X11_within ?_)
  rw [bz_t (c1 ())]
  refine E_if_ne (tgt := 30) dX11_voice_21 (by decide) (fun c_21 => ?_) (fun c_21 => absurd c_21 (by decide))
  refine E_aload_n (i := 0) dX11_voice_30 rfl rfl ?_
  refine E_gr dX11_voice_31 gf_X11_44_11 rfl (by assumption) (by assumption) ?_
  refine k_X11_voice_34 (mc' := 0) (ms' := 0) (rc := 0) (rs := 0) (by omega) (Nat.le_of_ble_eq_true rfl) (by assumption) (c_X7_clear (t2.w ht ht4 (by omega)) ?_)
  refine E_iload_n (i := 2) dX11_voice_37 rfl rfl ?_
  refine E_tswIn (tgt := 64) dX11_voice_38 (by decide) (by decide) rfl (by decide) ?_
  refine E_aload dX11_voice_64 rfl ?_
  refine E_iload_n (i := 3) dX11_voice_66 rfl rfl ?_
  refine k_X11_voice_67_6 (mc' := 0) (ms' := 0) (rc := 0) (rs := 0) (by omega) (Nat.le_of_ble_eq_true rfl) hr.1 (v_X5_hangs_6 (by omega) hr hT ?_)
  refine E_iret dX11_voice_70 rfl ?_
  exact hΦ
theorem voi_1_1 {x v : Int32} {k i r : Nat} (hd : 9 ≤ d) (hL : Ly g P) (hk : I 21 7 = nI k) (hk8 : k ≤ 8) (hi : i < k) (hx : x = nI i) (hp : P 24 i = some r) (hr : Rd g P r 6) {kt : Nat} (ht : I 94 1 = nI kt) (ht4 : kt ≤ 40) (hΦ : Φ (some (.int (vV 1 1 v (I r 1) (I r 3)))) g P (tads (u2 I 94 1 0) (vT 1 1))) : MM Γ mX11_voice d 0 0 [.ref 16, .int x, .int 1, .int v] g P I Φ := by
  refine MM_entry [some _, some _, some _, some _, none] (by decide) (Nat.le_of_ble_eq_true rfl) rfl ?_
  rw [vV_1_1, vT_1_1] at hΦ
  have h0 := hL.gw
  have l1 := hL.live
  have l2 := hL.s21.c
  obtain ⟨t1, t2⟩ := hL.tra
  have t3 := t2.1
  have c1 : Unit → (0 : Int32) ≤ 1 ∧ (1 : Int32) ≤ 3 := fun _ => by decide
  have e1 : Unit → (u2 I 94 1 0) r 1 = I r 1 := fun _ => u2_o (fun h => hr.2.2.1 h.1)
  have e3 : Unit → (u2 I 94 1 0) r 3 = I r 3 := fun _ => u2_o (fun h => hr.2.2.1 h.1)
  have hT : TrOK (u2 I 94 1 0) := ⟨0, u2_s _ _ _ _, by omega⟩
  rw [← e1 (), ← e3 ()] at hΦ
  refine E_aload_n (i := 0) dX11_voice_0 rfl rfl ?_
  refine E_gr dX11_voice_1 gf_X11_21_11 rfl (by assumption) (by assumption) ?_
  refine E_iload_n (i := 1) dX11_voice_4 rfl rfl ?_
  refine k_X11_voice_5 (mc' := 0) (ms' := 0) (rc := 0) (rs := 0) (by omega) (Nat.le_of_ble_eq_true rfl) (by assumption) (c_rideAt_in (by omega) hL.s21 hk hk8 hi hx hp ?_)
  refine E_astoreC dX11_voice_8 (by decide) rfl ?_
  refine E_lv (lv' := [_, _, _, _, _]) rfl ?_
  refine E_aload dX11_voice_10 rfl ?_
  refine E_ifnull dX11_voice_12 ?_
  refine E_iload_n (i := 2) dX11_voice_15 rfl rfl ?_
  refine E_iconst (v := 0) dX11_voice_16 (by decide) ?_
  refine E_iconst (v := 3) dX11_voice_17 (by decide) ?_
  refine k_X11_voice_18 (mc' := 0) (ms' := 0) (rc := 0) (rs := 0) (by omega) (Nat.le_of_ble_eq_true rfl) (c_X11_within ?_)
  rw [bz_t (c1 ())]
  refine E_if_ne (tgt := 30) dX11_voice_21 (by decide) (fun c_21 => ?_) (fun c_21 => absurd c_21 (by decide))
  refine E_aload_n (i := 0) dX11_voice_30 rfl rfl ?_
  refine E_gr dX11_voice_31 gf_X11_44_11 rfl (by assumption) (by assumption) ?_
  refine k_X11_voice_34 (mc' := 0) (ms' := 0) (rc := 0) (rs := 0) (by omega) (Nat.le_of_ble_eq_true rfl) (by assumption) (c_X7_clear (t2.w ht ht4 (by omega)) ?_)
  refine E_iload_n (i := 2) dX11_voice_37 rfl rfl ?_
  refine E_tswIn (tgt := 71) dX11_voice_38 (by decide) (by decide) rfl (by decide) ?_
  refine E_aload dX11_voice_71 rfl ?_
  refine E_iload_n (i := 3) dX11_voice_73 rfl rfl ?_
  refine k_X11_voice_74_6 (mc' := 0) (ms' := 0) (rc := 0) (rs := 0) (by omega) (Nat.le_of_ble_eq_true rfl) hr.1 (v_X6_rolls_6 (by omega) hr hT ?_)
  refine E_iret dX11_voice_77 rfl ?_
  exact hΦ
theorem voi_1_2 {x v : Int32} {k i r : Nat} (hd : 9 ≤ d) (hL : Ly g P) (hk : I 21 7 = nI k) (hk8 : k ≤ 8) (hi : i < k) (hx : x = nI i) (hp : P 24 i = some r) (hr : Rd g P r 6) {kt : Nat} (ht : I 94 1 = nI kt) (ht4 : kt ≤ 40) (hΦ : Φ (some (.int (vV 1 2 v (I r 1) (I r 3)))) g P (tads (u2 I 94 1 0) (vT 1 2))) : MM Γ mX11_voice d 0 0 [.ref 16, .int x, .int 2, .int v] g P I Φ := by
  refine MM_entry [some _, some _, some _, some _, none] (by decide) (Nat.le_of_ble_eq_true rfl) rfl ?_
  rw [vV_1_2, vT_1_2] at hΦ
  have h0 := hL.gw
  have l1 := hL.live
  have l2 := hL.s21.c
  obtain ⟨t1, t2⟩ := hL.tra
  have t3 := t2.1
  have c1 : Unit → (0 : Int32) ≤ 2 ∧ (2 : Int32) ≤ 3 := fun _ => by decide
  have e1 : Unit → (u2 I 94 1 0) r 1 = I r 1 := fun _ => u2_o (fun h => hr.2.2.1 h.1)
  have e3 : Unit → (u2 I 94 1 0) r 3 = I r 3 := fun _ => u2_o (fun h => hr.2.2.1 h.1)
  have hT : TrOK (u2 I 94 1 0) := ⟨0, u2_s _ _ _ _, by omega⟩
  rw [← e3 ()] at hΦ
  refine E_aload_n (i := 0) dX11_voice_0 rfl rfl ?_
  refine E_gr dX11_voice_1 gf_X11_21_11 rfl (by assumption) (by assumption) ?_
  refine E_iload_n (i := 1) dX11_voice_4 rfl rfl ?_
  refine k_X11_voice_5 (mc' := 0) (ms' := 0) (rc := 0) (rs := 0) (by omega) (Nat.le_of_ble_eq_true rfl) (by assumption) (c_rideAt_in (by omega) hL.s21 hk hk8 hi hx hp ?_)
  refine E_astoreC dX11_voice_8 (by decide) rfl ?_
  refine E_lv (lv' := [_, _, _, _, _]) rfl ?_
  refine E_aload dX11_voice_10 rfl ?_
  refine E_ifnull dX11_voice_12 ?_
  refine E_iload_n (i := 2) dX11_voice_15 rfl rfl ?_
  refine E_iconst (v := 0) dX11_voice_16 (by decide) ?_
  refine E_iconst (v := 3) dX11_voice_17 (by decide) ?_
  refine k_X11_voice_18 (mc' := 0) (ms' := 0) (rc := 0) (rs := 0) (by omega) (Nat.le_of_ble_eq_true rfl) (c_X11_within ?_)
  rw [bz_t (c1 ())]
  refine E_if_ne (tgt := 30) dX11_voice_21 (by decide) (fun c_21 => ?_) (fun c_21 => absurd c_21 (by decide))
  refine E_aload_n (i := 0) dX11_voice_30 rfl rfl ?_
  refine E_gr dX11_voice_31 gf_X11_44_11 rfl (by assumption) (by assumption) ?_
  refine k_X11_voice_34 (mc' := 0) (ms' := 0) (rc := 0) (rs := 0) (by omega) (Nat.le_of_ble_eq_true rfl) (by assumption) (c_X7_clear (t2.w ht ht4 (by omega)) ?_)
  refine E_iload_n (i := 2) dX11_voice_37 rfl rfl ?_
  refine E_tswIn (tgt := 78) dX11_voice_38 (by decide) (by decide) rfl (by decide) ?_
  refine E_aload dX11_voice_78 rfl ?_
  refine E_iload_n (i := 3) dX11_voice_80 rfl rfl ?_
  refine k_X11_voice_81_6 (mc' := 0) (ms' := 0) (rc := 0) (rs := 0) (by omega) (Nat.le_of_ble_eq_true rfl) hr.1 (v_X5_bears_6 (by omega) hr hT ?_)
  refine E_iret dX11_voice_84 rfl ?_
  exact hΦ
theorem voi_1_3 {x v : Int32} {k i r : Nat} (hd : 9 ≤ d) (hL : Ly g P) (hk : I 21 7 = nI k) (hk8 : k ≤ 8) (hi : i < k) (hx : x = nI i) (hp : P 24 i = some r) (hr : Rd g P r 6) {kt : Nat} (ht : I 94 1 = nI kt) (ht4 : kt ≤ 40) (hΦ : Φ (some (.int (vV 1 3 v (I r 1) (I r 3)))) g P (tads (u2 I 94 1 0) (vT 1 3))) : MM Γ mX11_voice d 0 0 [.ref 16, .int x, .int 3, .int v] g P I Φ := by
  refine MM_entry [some _, some _, some _, some _, none] (by decide) (Nat.le_of_ble_eq_true rfl) rfl ?_
  rw [vV_1_3, vT_1_3] at hΦ
  have h0 := hL.gw
  have l1 := hL.live
  have l2 := hL.s21.c
  obtain ⟨t1, t2⟩ := hL.tra
  have t3 := t2.1
  have c1 : Unit → (0 : Int32) ≤ 3 ∧ (3 : Int32) ≤ 3 := fun _ => by decide
  have e1 : Unit → (u2 I 94 1 0) r 1 = I r 1 := fun _ => u2_o (fun h => hr.2.2.1 h.1)
  have e3 : Unit → (u2 I 94 1 0) r 3 = I r 3 := fun _ => u2_o (fun h => hr.2.2.1 h.1)
  have hT : TrOK (u2 I 94 1 0) := ⟨0, u2_s _ _ _ _, by omega⟩
  rw [← e1 (), ← e3 ()] at hΦ
  refine E_aload_n (i := 0) dX11_voice_0 rfl rfl ?_
  refine E_gr dX11_voice_1 gf_X11_21_11 rfl (by assumption) (by assumption) ?_
  refine E_iload_n (i := 1) dX11_voice_4 rfl rfl ?_
  refine k_X11_voice_5 (mc' := 0) (ms' := 0) (rc := 0) (rs := 0) (by omega) (Nat.le_of_ble_eq_true rfl) (by assumption) (c_rideAt_in (by omega) hL.s21 hk hk8 hi hx hp ?_)
  refine E_astoreC dX11_voice_8 (by decide) rfl ?_
  refine E_lv (lv' := [_, _, _, _, _]) rfl ?_
  refine E_aload dX11_voice_10 rfl ?_
  refine E_ifnull dX11_voice_12 ?_
  refine E_iload_n (i := 2) dX11_voice_15 rfl rfl ?_
  refine E_iconst (v := 0) dX11_voice_16 (by decide) ?_
  refine E_iconst (v := 3) dX11_voice_17 (by decide) ?_
  refine k_X11_voice_18 (mc' := 0) (ms' := 0) (rc := 0) (rs := 0) (by omega) (Nat.le_of_ble_eq_true rfl) (c_X11_within ?_)
  rw [bz_t (c1 ())]
  refine E_if_ne (tgt := 30) dX11_voice_21 (by decide) (fun c_21 => ?_) (fun c_21 => absurd c_21 (by decide))
  refine E_aload_n (i := 0) dX11_voice_30 rfl rfl ?_
  refine E_gr dX11_voice_31 gf_X11_44_11 rfl (by assumption) (by assumption) ?_
  refine k_X11_voice_34 (mc' := 0) (ms' := 0) (rc := 0) (rs := 0) (by omega) (Nat.le_of_ble_eq_true rfl) (by assumption) (c_X7_clear (t2.w ht ht4 (by omega)) ?_)
  refine E_iload_n (i := 2) dX11_voice_37 rfl rfl ?_
  refine E_tswOut (tgt := 85) dX11_voice_38 (by decide) (by decide) ?_
  refine E_aload dX11_voice_85 rfl ?_
  refine E_iload_n (i := 3) dX11_voice_87 rfl rfl ?_
  refine k_X11_voice_88_6 (mc' := 0) (ms' := 0) (rc := 0) (rs := 0) (by omega) (Nat.le_of_ble_eq_true rfl) hr.1 (v_X5_wears_6 (by omega) hr hT ?_)
  refine E_iret dX11_voice_91 rfl ?_
  exact hΦ
theorem voi_2_0 {x v : Int32} {k i r : Nat} (hd : 9 ≤ d) (hL : Ly g P) (hk : I 21 7 = nI k) (hk8 : k ≤ 8) (hi : i < k) (hx : x = nI i) (hp : P 24 i = some r) (hr : Rd g P r 2) {kt : Nat} (ht : I 94 1 = nI kt) (ht4 : kt ≤ 40) (hΦ : Φ (some (.int (vV 2 0 v (I r 1) (I r 3)))) g P (tads (u2 I 94 1 0) (vT 2 0))) : MM Γ mX11_voice d 0 0 [.ref 16, .int x, .int 0, .int v] g P I Φ := by
  refine MM_entry [some _, some _, some _, some _, none] (by decide) (Nat.le_of_ble_eq_true rfl) rfl ?_
  rw [vV_2_0, vT_2_0] at hΦ
  have h0 := hL.gw
  have l1 := hL.live
  have l2 := hL.s21.c
  obtain ⟨t1, t2⟩ := hL.tra
  have t3 := t2.1
  have c1 : Unit → (0 : Int32) ≤ 0 ∧ (0 : Int32) ≤ 3 := fun _ => by decide
  have e1 : Unit → (u2 I 94 1 0) r 1 = I r 1 := fun _ => u2_o (fun h => hr.2.2.1 h.1)
  have e3 : Unit → (u2 I 94 1 0) r 3 = I r 3 := fun _ => u2_o (fun h => hr.2.2.1 h.1)
  have hT : TrOK (u2 I 94 1 0) := ⟨0, u2_s _ _ _ _, by omega⟩
  rw [← e1 ()] at hΦ
  refine E_aload_n (i := 0) dX11_voice_0 rfl rfl ?_
  refine E_gr dX11_voice_1 gf_X11_21_11 rfl (by assumption) (by assumption) ?_
  refine E_iload_n (i := 1) dX11_voice_4 rfl rfl ?_
  refine k_X11_voice_5 (mc' := 0) (ms' := 0) (rc := 0) (rs := 0) (by omega) (Nat.le_of_ble_eq_true rfl) (by assumption) (c_rideAt_in (by omega) hL.s21 hk hk8 hi hx hp ?_)
  refine E_astoreC dX11_voice_8 (by decide) rfl ?_
  refine E_lv (lv' := [_, _, _, _, _]) rfl ?_
  refine E_aload dX11_voice_10 rfl ?_
  refine E_ifnull dX11_voice_12 ?_
  refine E_iload_n (i := 2) dX11_voice_15 rfl rfl ?_
  refine E_iconst (v := 0) dX11_voice_16 (by decide) ?_
  refine E_iconst (v := 3) dX11_voice_17 (by decide) ?_
  refine k_X11_voice_18 (mc' := 0) (ms' := 0) (rc := 0) (rs := 0) (by omega) (Nat.le_of_ble_eq_true rfl) (c_X11_within ?_)
  rw [bz_t (c1 ())]
  refine E_if_ne (tgt := 30) dX11_voice_21 (by decide) (fun c_21 => ?_) (fun c_21 => absurd c_21 (by decide))
  refine E_aload_n (i := 0) dX11_voice_30 rfl rfl ?_
  refine E_gr dX11_voice_31 gf_X11_44_11 rfl (by assumption) (by assumption) ?_
  refine k_X11_voice_34 (mc' := 0) (ms' := 0) (rc := 0) (rs := 0) (by omega) (Nat.le_of_ble_eq_true rfl) (by assumption) (c_X7_clear (t2.w ht ht4 (by omega)) ?_)
  refine E_iload_n (i := 2) dX11_voice_37 rfl rfl ?_
  refine E_tswIn (tgt := 64) dX11_voice_38 (by decide) (by decide) rfl (by decide) ?_
  refine E_aload dX11_voice_64 rfl ?_
  refine E_iload_n (i := 3) dX11_voice_66 rfl rfl ?_
  refine k_X11_voice_67_2 (mc' := 0) (ms' := 0) (rc := 0) (rs := 0) (by omega) (Nat.le_of_ble_eq_true rfl) hr.1 (v_X2_hangs_2 (by omega) hr hT ?_)
  refine E_iret dX11_voice_70 rfl ?_
  exact hΦ
theorem voi_2_1 {x v : Int32} {k i r : Nat} (hd : 9 ≤ d) (hL : Ly g P) (hk : I 21 7 = nI k) (hk8 : k ≤ 8) (hi : i < k) (hx : x = nI i) (hp : P 24 i = some r) (hr : Rd g P r 2) {kt : Nat} (ht : I 94 1 = nI kt) (ht4 : kt ≤ 40) (hΦ : Φ (some (.int (vV 2 1 v (I r 1) (I r 3)))) g P (tads (u2 I 94 1 0) (vT 2 1))) : MM Γ mX11_voice d 0 0 [.ref 16, .int x, .int 1, .int v] g P I Φ := by
  refine MM_entry [some _, some _, some _, some _, none] (by decide) (Nat.le_of_ble_eq_true rfl) rfl ?_
  rw [vV_2_1, vT_2_1] at hΦ
  have h0 := hL.gw
  have l1 := hL.live
  have l2 := hL.s21.c
  obtain ⟨t1, t2⟩ := hL.tra
  have t3 := t2.1
  have c1 : Unit → (0 : Int32) ≤ 1 ∧ (1 : Int32) ≤ 3 := fun _ => by decide
  have e1 : Unit → (u2 I 94 1 0) r 1 = I r 1 := fun _ => u2_o (fun h => hr.2.2.1 h.1)
  have e3 : Unit → (u2 I 94 1 0) r 3 = I r 3 := fun _ => u2_o (fun h => hr.2.2.1 h.1)
  have hT : TrOK (u2 I 94 1 0) := ⟨0, u2_s _ _ _ _, by omega⟩
  rw [← e1 ()] at hΦ
  refine E_aload_n (i := 0) dX11_voice_0 rfl rfl ?_
  refine E_gr dX11_voice_1 gf_X11_21_11 rfl (by assumption) (by assumption) ?_
  refine E_iload_n (i := 1) dX11_voice_4 rfl rfl ?_
  refine k_X11_voice_5 (mc' := 0) (ms' := 0) (rc := 0) (rs := 0) (by omega) (Nat.le_of_ble_eq_true rfl) (by assumption) (c_rideAt_in (by omega) hL.s21 hk hk8 hi hx hp ?_)
  refine E_astoreC dX11_voice_8 (by decide) rfl ?_
  refine E_lv (lv' := [_, _, _, _, _]) rfl ?_
  refine E_aload dX11_voice_10 rfl ?_
  refine E_ifnull dX11_voice_12 ?_
  refine E_iload_n (i := 2) dX11_voice_15 rfl rfl ?_
  refine E_iconst (v := 0) dX11_voice_16 (by decide) ?_
  refine E_iconst (v := 3) dX11_voice_17 (by decide) ?_
  refine k_X11_voice_18 (mc' := 0) (ms' := 0) (rc := 0) (rs := 0) (by omega) (Nat.le_of_ble_eq_true rfl) (c_X11_within ?_)
  rw [bz_t (c1 ())]
  refine E_if_ne (tgt := 30) dX11_voice_21 (by decide) (fun c_21 => ?_) (fun c_21 => absurd c_21 (by decide))
  refine E_aload_n (i := 0) dX11_voice_30 rfl rfl ?_
  refine E_gr dX11_voice_31 gf_X11_44_11 rfl (by assumption) (by assumption) ?_
  refine k_X11_voice_34 (mc' := 0) (ms' := 0) (rc := 0) (rs := 0) (by omega) (Nat.le_of_ble_eq_true rfl) (by assumption) (c_X7_clear (t2.w ht ht4 (by omega)) ?_)
  refine E_iload_n (i := 2) dX11_voice_37 rfl rfl ?_
  refine E_tswIn (tgt := 71) dX11_voice_38 (by decide) (by decide) rfl (by decide) ?_
  refine E_aload dX11_voice_71 rfl ?_
  refine E_iload_n (i := 3) dX11_voice_73 rfl rfl ?_
  refine k_X11_voice_74_2 (mc' := 0) (ms' := 0) (rc := 0) (rs := 0) (by omega) (Nat.le_of_ble_eq_true rfl) hr.1 (v_X5_rolls_2 (by omega) hr hT ?_)
  refine E_iret dX11_voice_77 rfl ?_
  exact hΦ
theorem voi_2_2 {x v : Int32} {k i r : Nat} (hd : 9 ≤ d) (hL : Ly g P) (hk : I 21 7 = nI k) (hk8 : k ≤ 8) (hi : i < k) (hx : x = nI i) (hp : P 24 i = some r) (hr : Rd g P r 2) {kt : Nat} (ht : I 94 1 = nI kt) (ht4 : kt ≤ 40) (hΦ : Φ (some (.int (vV 2 2 v (I r 1) (I r 3)))) g P (tads (u2 I 94 1 0) (vT 2 2))) : MM Γ mX11_voice d 0 0 [.ref 16, .int x, .int 2, .int v] g P I Φ := by
  refine MM_entry [some _, some _, some _, some _, none] (by decide) (Nat.le_of_ble_eq_true rfl) rfl ?_
  rw [vV_2_2, vT_2_2] at hΦ
  have h0 := hL.gw
  have l1 := hL.live
  have l2 := hL.s21.c
  obtain ⟨t1, t2⟩ := hL.tra
  have t3 := t2.1
  have c1 : Unit → (0 : Int32) ≤ 2 ∧ (2 : Int32) ≤ 3 := fun _ => by decide
  have e1 : Unit → (u2 I 94 1 0) r 1 = I r 1 := fun _ => u2_o (fun h => hr.2.2.1 h.1)
  have e3 : Unit → (u2 I 94 1 0) r 3 = I r 3 := fun _ => u2_o (fun h => hr.2.2.1 h.1)
  have hT : TrOK (u2 I 94 1 0) := ⟨0, u2_s _ _ _ _, by omega⟩
  rw [← e3 ()] at hΦ
  refine E_aload_n (i := 0) dX11_voice_0 rfl rfl ?_
  refine E_gr dX11_voice_1 gf_X11_21_11 rfl (by assumption) (by assumption) ?_
  refine E_iload_n (i := 1) dX11_voice_4 rfl rfl ?_
  refine k_X11_voice_5 (mc' := 0) (ms' := 0) (rc := 0) (rs := 0) (by omega) (Nat.le_of_ble_eq_true rfl) (by assumption) (c_rideAt_in (by omega) hL.s21 hk hk8 hi hx hp ?_)
  refine E_astoreC dX11_voice_8 (by decide) rfl ?_
  refine E_lv (lv' := [_, _, _, _, _]) rfl ?_
  refine E_aload dX11_voice_10 rfl ?_
  refine E_ifnull dX11_voice_12 ?_
  refine E_iload_n (i := 2) dX11_voice_15 rfl rfl ?_
  refine E_iconst (v := 0) dX11_voice_16 (by decide) ?_
  refine E_iconst (v := 3) dX11_voice_17 (by decide) ?_
  refine k_X11_voice_18 (mc' := 0) (ms' := 0) (rc := 0) (rs := 0) (by omega) (Nat.le_of_ble_eq_true rfl) (c_X11_within ?_)
  rw [bz_t (c1 ())]
  refine E_if_ne (tgt := 30) dX11_voice_21 (by decide) (fun c_21 => ?_) (fun c_21 => absurd c_21 (by decide))
  refine E_aload_n (i := 0) dX11_voice_30 rfl rfl ?_
  refine E_gr dX11_voice_31 gf_X11_44_11 rfl (by assumption) (by assumption) ?_
  refine k_X11_voice_34 (mc' := 0) (ms' := 0) (rc := 0) (rs := 0) (by omega) (Nat.le_of_ble_eq_true rfl) (by assumption) (c_X7_clear (t2.w ht ht4 (by omega)) ?_)
  refine E_iload_n (i := 2) dX11_voice_37 rfl rfl ?_
  refine E_tswIn (tgt := 78) dX11_voice_38 (by decide) (by decide) rfl (by decide) ?_
  refine E_aload dX11_voice_78 rfl ?_
  refine E_iload_n (i := 3) dX11_voice_80 rfl rfl ?_
  refine k_X11_voice_81_2 (mc' := 0) (ms' := 0) (rc := 0) (rs := 0) (by omega) (Nat.le_of_ble_eq_true rfl) hr.1 (v_X5_bears_2 (by omega) hr hT ?_)
  refine E_iret dX11_voice_84 rfl ?_
  exact hΦ
theorem voi_2_3 {x v : Int32} {k i r : Nat} (hd : 9 ≤ d) (hL : Ly g P) (hk : I 21 7 = nI k) (hk8 : k ≤ 8) (hi : i < k) (hx : x = nI i) (hp : P 24 i = some r) (hr : Rd g P r 2) {kt : Nat} (ht : I 94 1 = nI kt) (ht4 : kt ≤ 40) (hΦ : Φ (some (.int (vV 2 3 v (I r 1) (I r 3)))) g P (tads (u2 I 94 1 0) (vT 2 3))) : MM Γ mX11_voice d 0 0 [.ref 16, .int x, .int 3, .int v] g P I Φ := by
  refine MM_entry [some _, some _, some _, some _, none] (by decide) (Nat.le_of_ble_eq_true rfl) rfl ?_
  rw [vV_2_3, vT_2_3] at hΦ
  have h0 := hL.gw
  have l1 := hL.live
  have l2 := hL.s21.c
  obtain ⟨t1, t2⟩ := hL.tra
  have t3 := t2.1
  have c1 : Unit → (0 : Int32) ≤ 3 ∧ (3 : Int32) ≤ 3 := fun _ => by decide
  have e1 : Unit → (u2 I 94 1 0) r 1 = I r 1 := fun _ => u2_o (fun h => hr.2.2.1 h.1)
  have e3 : Unit → (u2 I 94 1 0) r 3 = I r 3 := fun _ => u2_o (fun h => hr.2.2.1 h.1)
  have hT : TrOK (u2 I 94 1 0) := ⟨0, u2_s _ _ _ _, by omega⟩
  rw [← e1 (), ← e3 ()] at hΦ
  refine E_aload_n (i := 0) dX11_voice_0 rfl rfl ?_
  refine E_gr dX11_voice_1 gf_X11_21_11 rfl (by assumption) (by assumption) ?_
  refine E_iload_n (i := 1) dX11_voice_4 rfl rfl ?_
  refine k_X11_voice_5 (mc' := 0) (ms' := 0) (rc := 0) (rs := 0) (by omega) (Nat.le_of_ble_eq_true rfl) (by assumption) (c_rideAt_in (by omega) hL.s21 hk hk8 hi hx hp ?_)
  refine E_astoreC dX11_voice_8 (by decide) rfl ?_
  refine E_lv (lv' := [_, _, _, _, _]) rfl ?_
  refine E_aload dX11_voice_10 rfl ?_
  refine E_ifnull dX11_voice_12 ?_
  refine E_iload_n (i := 2) dX11_voice_15 rfl rfl ?_
  refine E_iconst (v := 0) dX11_voice_16 (by decide) ?_
  refine E_iconst (v := 3) dX11_voice_17 (by decide) ?_
  refine k_X11_voice_18 (mc' := 0) (ms' := 0) (rc := 0) (rs := 0) (by omega) (Nat.le_of_ble_eq_true rfl) (c_X11_within ?_)
  rw [bz_t (c1 ())]
  refine E_if_ne (tgt := 30) dX11_voice_21 (by decide) (fun c_21 => ?_) (fun c_21 => absurd c_21 (by decide))
  refine E_aload_n (i := 0) dX11_voice_30 rfl rfl ?_
  refine E_gr dX11_voice_31 gf_X11_44_11 rfl (by assumption) (by assumption) ?_
  refine k_X11_voice_34 (mc' := 0) (ms' := 0) (rc := 0) (rs := 0) (by omega) (Nat.le_of_ble_eq_true rfl) (by assumption) (c_X7_clear (t2.w ht ht4 (by omega)) ?_)
  refine E_iload_n (i := 2) dX11_voice_37 rfl rfl ?_
  refine E_tswOut (tgt := 85) dX11_voice_38 (by decide) (by decide) ?_
  refine E_aload dX11_voice_85 rfl ?_
  refine E_iload_n (i := 3) dX11_voice_87 rfl rfl ?_
  refine k_X11_voice_88_2 (mc' := 0) (ms' := 0) (rc := 0) (rs := 0) (by omega) (Nat.le_of_ble_eq_true rfl) hr.1 (v_X5_wears_2 (by omega) hr hT ?_)
  refine E_iret dX11_voice_91 rfl ?_
  exact hΦ
theorem voi_3_0 {x v : Int32} {k i r : Nat} (hd : 9 ≤ d) (hL : Ly g P) (hk : I 21 7 = nI k) (hk8 : k ≤ 8) (hi : i < k) (hx : x = nI i) (hp : P 24 i = some r) (hr : Rd g P r 0) {kt : Nat} (ht : I 94 1 = nI kt) (ht4 : kt ≤ 40) (hΦ : Φ (some (.int (vV 3 0 v (I r 1) (I r 3)))) g P (tads (u2 I 94 1 0) (vT 3 0))) : MM Γ mX11_voice d 0 0 [.ref 16, .int x, .int 0, .int v] g P I Φ := by
  refine MM_entry [some _, some _, some _, some _, none] (by decide) (Nat.le_of_ble_eq_true rfl) rfl ?_
  rw [vV_3_0, vT_3_0] at hΦ
  have h0 := hL.gw
  have l1 := hL.live
  have l2 := hL.s21.c
  obtain ⟨t1, t2⟩ := hL.tra
  have t3 := t2.1
  have c1 : Unit → (0 : Int32) ≤ 0 ∧ (0 : Int32) ≤ 3 := fun _ => by decide
  have e1 : Unit → (u2 I 94 1 0) r 1 = I r 1 := fun _ => u2_o (fun h => hr.2.2.1 h.1)
  have e3 : Unit → (u2 I 94 1 0) r 3 = I r 3 := fun _ => u2_o (fun h => hr.2.2.1 h.1)
  have hT : TrOK (u2 I 94 1 0) := ⟨0, u2_s _ _ _ _, by omega⟩
  rw [← e1 ()] at hΦ
  refine E_aload_n (i := 0) dX11_voice_0 rfl rfl ?_
  refine E_gr dX11_voice_1 gf_X11_21_11 rfl (by assumption) (by assumption) ?_
  refine E_iload_n (i := 1) dX11_voice_4 rfl rfl ?_
  refine k_X11_voice_5 (mc' := 0) (ms' := 0) (rc := 0) (rs := 0) (by omega) (Nat.le_of_ble_eq_true rfl) (by assumption) (c_rideAt_in (by omega) hL.s21 hk hk8 hi hx hp ?_)
  refine E_astoreC dX11_voice_8 (by decide) rfl ?_
  refine E_lv (lv' := [_, _, _, _, _]) rfl ?_
  refine E_aload dX11_voice_10 rfl ?_
  refine E_ifnull dX11_voice_12 ?_
  refine E_iload_n (i := 2) dX11_voice_15 rfl rfl ?_
  refine E_iconst (v := 0) dX11_voice_16 (by decide) ?_
  refine E_iconst (v := 3) dX11_voice_17 (by decide) ?_
  refine k_X11_voice_18 (mc' := 0) (ms' := 0) (rc := 0) (rs := 0) (by omega) (Nat.le_of_ble_eq_true rfl) (c_X11_within ?_)
  rw [bz_t (c1 ())]
  refine E_if_ne (tgt := 30) dX11_voice_21 (by decide) (fun c_21 => ?_) (fun c_21 => absurd c_21 (by decide))
  refine E_aload_n (i := 0) dX11_voice_30 rfl rfl ?_
  refine E_gr dX11_voice_31 gf_X11_44_11 rfl (by assumption) (by assumption) ?_
  refine k_X11_voice_34 (mc' := 0) (ms' := 0) (rc := 0) (rs := 0) (by omega) (Nat.le_of_ble_eq_true rfl) (by assumption) (c_X7_clear (t2.w ht ht4 (by omega)) ?_)
  refine E_iload_n (i := 2) dX11_voice_37 rfl rfl ?_
  refine E_tswIn (tgt := 64) dX11_voice_38 (by decide) (by decide) rfl (by decide) ?_
  refine E_aload dX11_voice_64 rfl ?_
  refine E_iload_n (i := 3) dX11_voice_66 rfl rfl ?_
  refine k_X11_voice_67_0 (mc' := 0) (ms' := 0) (rc := 0) (rs := 0) (by omega) (Nat.le_of_ble_eq_true rfl) hr.1 (v_X5_hangs_0 (by omega) hr hT ?_)
  refine E_iret dX11_voice_70 rfl ?_
  exact hΦ
theorem voi_3_1 {x v : Int32} {k i r : Nat} (hd : 9 ≤ d) (hL : Ly g P) (hk : I 21 7 = nI k) (hk8 : k ≤ 8) (hi : i < k) (hx : x = nI i) (hp : P 24 i = some r) (hr : Rd g P r 0) {kt : Nat} (ht : I 94 1 = nI kt) (ht4 : kt ≤ 40) (hΦ : Φ (some (.int (vV 3 1 v (I r 1) (I r 3)))) g P (tads (u2 I 94 1 0) (vT 3 1))) : MM Γ mX11_voice d 0 0 [.ref 16, .int x, .int 1, .int v] g P I Φ := by
  refine MM_entry [some _, some _, some _, some _, none] (by decide) (Nat.le_of_ble_eq_true rfl) rfl ?_
  rw [vV_3_1, vT_3_1] at hΦ
  have h0 := hL.gw
  have l1 := hL.live
  have l2 := hL.s21.c
  obtain ⟨t1, t2⟩ := hL.tra
  have t3 := t2.1
  have c1 : Unit → (0 : Int32) ≤ 1 ∧ (1 : Int32) ≤ 3 := fun _ => by decide
  have e1 : Unit → (u2 I 94 1 0) r 1 = I r 1 := fun _ => u2_o (fun h => hr.2.2.1 h.1)
  have e3 : Unit → (u2 I 94 1 0) r 3 = I r 3 := fun _ => u2_o (fun h => hr.2.2.1 h.1)
  have hT : TrOK (u2 I 94 1 0) := ⟨0, u2_s _ _ _ _, by omega⟩
  rw [← e1 (), ← e3 ()] at hΦ
  refine E_aload_n (i := 0) dX11_voice_0 rfl rfl ?_
  refine E_gr dX11_voice_1 gf_X11_21_11 rfl (by assumption) (by assumption) ?_
  refine E_iload_n (i := 1) dX11_voice_4 rfl rfl ?_
  refine k_X11_voice_5 (mc' := 0) (ms' := 0) (rc := 0) (rs := 0) (by omega) (Nat.le_of_ble_eq_true rfl) (by assumption) (c_rideAt_in (by omega) hL.s21 hk hk8 hi hx hp ?_)
  refine E_astoreC dX11_voice_8 (by decide) rfl ?_
  refine E_lv (lv' := [_, _, _, _, _]) rfl ?_
  refine E_aload dX11_voice_10 rfl ?_
  refine E_ifnull dX11_voice_12 ?_
  refine E_iload_n (i := 2) dX11_voice_15 rfl rfl ?_
  refine E_iconst (v := 0) dX11_voice_16 (by decide) ?_
  refine E_iconst (v := 3) dX11_voice_17 (by decide) ?_
  refine k_X11_voice_18 (mc' := 0) (ms' := 0) (rc := 0) (rs := 0) (by omega) (Nat.le_of_ble_eq_true rfl) (c_X11_within ?_)
  rw [bz_t (c1 ())]
  refine E_if_ne (tgt := 30) dX11_voice_21 (by decide) (fun c_21 => ?_) (fun c_21 => absurd c_21 (by decide))
  refine E_aload_n (i := 0) dX11_voice_30 rfl rfl ?_
  refine E_gr dX11_voice_31 gf_X11_44_11 rfl (by assumption) (by assumption) ?_
  refine k_X11_voice_34 (mc' := 0) (ms' := 0) (rc := 0) (rs := 0) (by omega) (Nat.le_of_ble_eq_true rfl) (by assumption) (c_X7_clear (t2.w ht ht4 (by omega)) ?_)
  refine E_iload_n (i := 2) dX11_voice_37 rfl rfl ?_
  refine E_tswIn (tgt := 71) dX11_voice_38 (by decide) (by decide) rfl (by decide) ?_
  refine E_aload dX11_voice_71 rfl ?_
  refine E_iload_n (i := 3) dX11_voice_73 rfl rfl ?_
  refine k_X11_voice_74_0 (mc' := 0) (ms' := 0) (rc := 0) (rs := 0) (by omega) (Nat.le_of_ble_eq_true rfl) hr.1 (v_X6_rolls_0 (by omega) hr hT ?_)
  refine E_iret dX11_voice_77 rfl ?_
  exact hΦ
theorem voi_3_2 {x v : Int32} {k i r : Nat} (hd : 9 ≤ d) (hL : Ly g P) (hk : I 21 7 = nI k) (hk8 : k ≤ 8) (hi : i < k) (hx : x = nI i) (hp : P 24 i = some r) (hr : Rd g P r 0) {kt : Nat} (ht : I 94 1 = nI kt) (ht4 : kt ≤ 40) (hΦ : Φ (some (.int (vV 3 2 v (I r 1) (I r 3)))) g P (tads (u2 I 94 1 0) (vT 3 2))) : MM Γ mX11_voice d 0 0 [.ref 16, .int x, .int 2, .int v] g P I Φ := by
  refine MM_entry [some _, some _, some _, some _, none] (by decide) (Nat.le_of_ble_eq_true rfl) rfl ?_
  rw [vV_3_2, vT_3_2] at hΦ
  have h0 := hL.gw
  have l1 := hL.live
  have l2 := hL.s21.c
  obtain ⟨t1, t2⟩ := hL.tra
  have t3 := t2.1
  have c1 : Unit → (0 : Int32) ≤ 2 ∧ (2 : Int32) ≤ 3 := fun _ => by decide
  have e1 : Unit → (u2 I 94 1 0) r 1 = I r 1 := fun _ => u2_o (fun h => hr.2.2.1 h.1)
  have e3 : Unit → (u2 I 94 1 0) r 3 = I r 3 := fun _ => u2_o (fun h => hr.2.2.1 h.1)
  have hT : TrOK (u2 I 94 1 0) := ⟨0, u2_s _ _ _ _, by omega⟩
  rw [← e3 ()] at hΦ
  refine E_aload_n (i := 0) dX11_voice_0 rfl rfl ?_
  refine E_gr dX11_voice_1 gf_X11_21_11 rfl (by assumption) (by assumption) ?_
  refine E_iload_n (i := 1) dX11_voice_4 rfl rfl ?_
  refine k_X11_voice_5 (mc' := 0) (ms' := 0) (rc := 0) (rs := 0) (by omega) (Nat.le_of_ble_eq_true rfl) (by assumption) (c_rideAt_in (by omega) hL.s21 hk hk8 hi hx hp ?_)
  refine E_astoreC dX11_voice_8 (by decide) rfl ?_
  refine E_lv (lv' := [_, _, _, _, _]) rfl ?_
  refine E_aload dX11_voice_10 rfl ?_
  refine E_ifnull dX11_voice_12 ?_
  refine E_iload_n (i := 2) dX11_voice_15 rfl rfl ?_
  refine E_iconst (v := 0) dX11_voice_16 (by decide) ?_
  refine E_iconst (v := 3) dX11_voice_17 (by decide) ?_
  refine k_X11_voice_18 (mc' := 0) (ms' := 0) (rc := 0) (rs := 0) (by omega) (Nat.le_of_ble_eq_true rfl) (c_X11_within ?_)
  rw [bz_t (c1 ())]
  refine E_if_ne (tgt := 30) dX11_voice_21 (by decide) (fun c_21 => ?_) (fun c_21 => absurd c_21 (by decide))
  refine E_aload_n (i := 0) dX11_voice_30 rfl rfl ?_
  refine E_gr dX11_voice_31 gf_X11_44_11 rfl (by assumption) (by assumption) ?_
  refine k_X11_voice_34 (mc' := 0) (ms' := 0) (rc := 0) (rs := 0) (by omega) (Nat.le_of_ble_eq_true rfl) (by assumption) (c_X7_clear (t2.w ht ht4 (by omega)) ?_)
  refine E_iload_n (i := 2) dX11_voice_37 rfl rfl ?_
  refine E_tswIn (tgt := 78) dX11_voice_38 (by decide) (by decide) rfl (by decide) ?_
  refine E_aload dX11_voice_78 rfl ?_
  refine E_iload_n (i := 3) dX11_voice_80 rfl rfl ?_
  refine k_X11_voice_81_0 (mc' := 0) (ms' := 0) (rc := 0) (rs := 0) (by omega) (Nat.le_of_ble_eq_true rfl) hr.1 (v_X0_bears_0 (by omega) hr hT ?_)
  refine E_iret dX11_voice_84 rfl ?_
  exact hΦ
theorem voi_3_3 {x v : Int32} {k i r : Nat} (hd : 9 ≤ d) (hL : Ly g P) (hk : I 21 7 = nI k) (hk8 : k ≤ 8) (hi : i < k) (hx : x = nI i) (hp : P 24 i = some r) (hr : Rd g P r 0) {kt : Nat} (ht : I 94 1 = nI kt) (ht4 : kt ≤ 40) (hΦ : Φ (some (.int (vV 3 3 v (I r 1) (I r 3)))) g P (tads (u2 I 94 1 0) (vT 3 3))) : MM Γ mX11_voice d 0 0 [.ref 16, .int x, .int 3, .int v] g P I Φ := by
  refine MM_entry [some _, some _, some _, some _, none] (by decide) (Nat.le_of_ble_eq_true rfl) rfl ?_
  rw [vV_3_3, vT_3_3] at hΦ
  have h0 := hL.gw
  have l1 := hL.live
  have l2 := hL.s21.c
  obtain ⟨t1, t2⟩ := hL.tra
  have t3 := t2.1
  have c1 : Unit → (0 : Int32) ≤ 3 ∧ (3 : Int32) ≤ 3 := fun _ => by decide
  have e1 : Unit → (u2 I 94 1 0) r 1 = I r 1 := fun _ => u2_o (fun h => hr.2.2.1 h.1)
  have e3 : Unit → (u2 I 94 1 0) r 3 = I r 3 := fun _ => u2_o (fun h => hr.2.2.1 h.1)
  have hT : TrOK (u2 I 94 1 0) := ⟨0, u2_s _ _ _ _, by omega⟩
  rw [← e1 (), ← e3 ()] at hΦ
  refine E_aload_n (i := 0) dX11_voice_0 rfl rfl ?_
  refine E_gr dX11_voice_1 gf_X11_21_11 rfl (by assumption) (by assumption) ?_
  refine E_iload_n (i := 1) dX11_voice_4 rfl rfl ?_
  refine k_X11_voice_5 (mc' := 0) (ms' := 0) (rc := 0) (rs := 0) (by omega) (Nat.le_of_ble_eq_true rfl) (by assumption) (c_rideAt_in (by omega) hL.s21 hk hk8 hi hx hp ?_)
  refine E_astoreC dX11_voice_8 (by decide) rfl ?_
  refine E_lv (lv' := [_, _, _, _, _]) rfl ?_
  refine E_aload dX11_voice_10 rfl ?_
  refine E_ifnull dX11_voice_12 ?_
  refine E_iload_n (i := 2) dX11_voice_15 rfl rfl ?_
  refine E_iconst (v := 0) dX11_voice_16 (by decide) ?_
  refine E_iconst (v := 3) dX11_voice_17 (by decide) ?_
  refine k_X11_voice_18 (mc' := 0) (ms' := 0) (rc := 0) (rs := 0) (by omega) (Nat.le_of_ble_eq_true rfl) (c_X11_within ?_)
  rw [bz_t (c1 ())]
  refine E_if_ne (tgt := 30) dX11_voice_21 (by decide) (fun c_21 => ?_) (fun c_21 => absurd c_21 (by decide))
  refine E_aload_n (i := 0) dX11_voice_30 rfl rfl ?_
  refine E_gr dX11_voice_31 gf_X11_44_11 rfl (by assumption) (by assumption) ?_
  refine k_X11_voice_34 (mc' := 0) (ms' := 0) (rc := 0) (rs := 0) (by omega) (Nat.le_of_ble_eq_true rfl) (by assumption) (c_X7_clear (t2.w ht ht4 (by omega)) ?_)
  refine E_iload_n (i := 2) dX11_voice_37 rfl rfl ?_
  refine E_tswOut (tgt := 85) dX11_voice_38 (by decide) (by decide) ?_
  refine E_aload dX11_voice_85 rfl ?_
  refine E_iload_n (i := 3) dX11_voice_87 rfl rfl ?_
  refine k_X11_voice_88_0 (mc' := 0) (ms' := 0) (rc := 0) (rs := 0) (by omega) (Nat.le_of_ble_eq_true rfl) hr.1 (v_X5_wears_0 (by omega) hr hT ?_)
  refine E_iret dX11_voice_91 rfl ?_
  exact hΦ
theorem voi_4_0 {x v : Int32} {k i r : Nat} (hd : 9 ≤ d) (hL : Ly g P) (hk : I 21 7 = nI k) (hk8 : k ≤ 8) (hi : i < k) (hx : x = nI i) (hp : P 24 i = some r) (hr : Rd g P r 9) {kt : Nat} (ht : I 94 1 = nI kt) (ht4 : kt ≤ 40) (hΦ : Φ (some (.int (vV 4 0 v (I r 1) (I r 3)))) g P (tads (u2 I 94 1 0) (vT 4 0))) : MM Γ mX11_voice d 0 0 [.ref 16, .int x, .int 0, .int v] g P I Φ := by
  refine MM_entry [some _, some _, some _, some _, none] (by decide) (Nat.le_of_ble_eq_true rfl) rfl ?_
  rw [vV_4_0, vT_4_0] at hΦ
  have h0 := hL.gw
  have l1 := hL.live
  have l2 := hL.s21.c
  obtain ⟨t1, t2⟩ := hL.tra
  have t3 := t2.1
  have c1 : Unit → (0 : Int32) ≤ 0 ∧ (0 : Int32) ≤ 3 := fun _ => by decide
  have e1 : Unit → (u2 I 94 1 0) r 1 = I r 1 := fun _ => u2_o (fun h => hr.2.2.1 h.1)
  have e3 : Unit → (u2 I 94 1 0) r 3 = I r 3 := fun _ => u2_o (fun h => hr.2.2.1 h.1)
  have hT : TrOK (u2 I 94 1 0) := ⟨0, u2_s _ _ _ _, by omega⟩
  rw [← e1 ()] at hΦ
  refine E_aload_n (i := 0) dX11_voice_0 rfl rfl ?_
  refine E_gr dX11_voice_1 gf_X11_21_11 rfl (by assumption) (by assumption) ?_
  refine E_iload_n (i := 1) dX11_voice_4 rfl rfl ?_
  refine k_X11_voice_5 (mc' := 0) (ms' := 0) (rc := 0) (rs := 0) (by omega) (Nat.le_of_ble_eq_true rfl) (by assumption) (c_rideAt_in (by omega) hL.s21 hk hk8 hi hx hp ?_)
  refine E_astoreC dX11_voice_8 (by decide) rfl ?_
  refine E_lv (lv' := [_, _, _, _, _]) rfl ?_
  refine E_aload dX11_voice_10 rfl ?_
  refine E_ifnull dX11_voice_12 ?_
  refine E_iload_n (i := 2) dX11_voice_15 rfl rfl ?_
  refine E_iconst (v := 0) dX11_voice_16 (by decide) ?_
  refine E_iconst (v := 3) dX11_voice_17 (by decide) ?_
  refine k_X11_voice_18 (mc' := 0) (ms' := 0) (rc := 0) (rs := 0) (by omega) (Nat.le_of_ble_eq_true rfl) (c_X11_within ?_)
  rw [bz_t (c1 ())]
  refine E_if_ne (tgt := 30) dX11_voice_21 (by decide) (fun c_21 => ?_) (fun c_21 => absurd c_21 (by decide))
  refine E_aload_n (i := 0) dX11_voice_30 rfl rfl ?_
  refine E_gr dX11_voice_31 gf_X11_44_11 rfl (by assumption) (by assumption) ?_
  refine k_X11_voice_34 (mc' := 0) (ms' := 0) (rc := 0) (rs := 0) (by omega) (Nat.le_of_ble_eq_true rfl) (by assumption) (c_X7_clear (t2.w ht ht4 (by omega)) ?_)
  refine E_iload_n (i := 2) dX11_voice_37 rfl rfl ?_
  refine E_tswIn (tgt := 64) dX11_voice_38 (by decide) (by decide) rfl (by decide) ?_
  refine E_aload dX11_voice_64 rfl ?_
  refine E_iload_n (i := 3) dX11_voice_66 rfl rfl ?_
  refine k_X11_voice_67_9 (mc' := 0) (ms' := 0) (rc := 0) (rs := 0) (by omega) (Nat.le_of_ble_eq_true rfl) hr.1 (v_X5_hangs_9 (by omega) hr hT ?_)
  refine E_iret dX11_voice_70 rfl ?_
  exact hΦ
theorem voi_4_1 {x v : Int32} {k i r : Nat} (hd : 9 ≤ d) (hL : Ly g P) (hk : I 21 7 = nI k) (hk8 : k ≤ 8) (hi : i < k) (hx : x = nI i) (hp : P 24 i = some r) (hr : Rd g P r 9) {kt : Nat} (ht : I 94 1 = nI kt) (ht4 : kt ≤ 40) (hΦ : Φ (some (.int (vV 4 1 v (I r 1) (I r 3)))) g P (tads (u2 I 94 1 0) (vT 4 1))) : MM Γ mX11_voice d 0 0 [.ref 16, .int x, .int 1, .int v] g P I Φ := by
  refine MM_entry [some _, some _, some _, some _, none] (by decide) (Nat.le_of_ble_eq_true rfl) rfl ?_
  rw [vV_4_1, vT_4_1] at hΦ
  have h0 := hL.gw
  have l1 := hL.live
  have l2 := hL.s21.c
  obtain ⟨t1, t2⟩ := hL.tra
  have t3 := t2.1
  have c1 : Unit → (0 : Int32) ≤ 1 ∧ (1 : Int32) ≤ 3 := fun _ => by decide
  have e1 : Unit → (u2 I 94 1 0) r 1 = I r 1 := fun _ => u2_o (fun h => hr.2.2.1 h.1)
  have e3 : Unit → (u2 I 94 1 0) r 3 = I r 3 := fun _ => u2_o (fun h => hr.2.2.1 h.1)
  have hT : TrOK (u2 I 94 1 0) := ⟨0, u2_s _ _ _ _, by omega⟩
  rw [← e1 ()] at hΦ
  refine E_aload_n (i := 0) dX11_voice_0 rfl rfl ?_
  refine E_gr dX11_voice_1 gf_X11_21_11 rfl (by assumption) (by assumption) ?_
  refine E_iload_n (i := 1) dX11_voice_4 rfl rfl ?_
  refine k_X11_voice_5 (mc' := 0) (ms' := 0) (rc := 0) (rs := 0) (by omega) (Nat.le_of_ble_eq_true rfl) (by assumption) (c_rideAt_in (by omega) hL.s21 hk hk8 hi hx hp ?_)
  refine E_astoreC dX11_voice_8 (by decide) rfl ?_
  refine E_lv (lv' := [_, _, _, _, _]) rfl ?_
  refine E_aload dX11_voice_10 rfl ?_
  refine E_ifnull dX11_voice_12 ?_
  refine E_iload_n (i := 2) dX11_voice_15 rfl rfl ?_
  refine E_iconst (v := 0) dX11_voice_16 (by decide) ?_
  refine E_iconst (v := 3) dX11_voice_17 (by decide) ?_
  refine k_X11_voice_18 (mc' := 0) (ms' := 0) (rc := 0) (rs := 0) (by omega) (Nat.le_of_ble_eq_true rfl) (c_X11_within ?_)
  rw [bz_t (c1 ())]
  refine E_if_ne (tgt := 30) dX11_voice_21 (by decide) (fun c_21 => ?_) (fun c_21 => absurd c_21 (by decide))
  refine E_aload_n (i := 0) dX11_voice_30 rfl rfl ?_
  refine E_gr dX11_voice_31 gf_X11_44_11 rfl (by assumption) (by assumption) ?_
  refine k_X11_voice_34 (mc' := 0) (ms' := 0) (rc := 0) (rs := 0) (by omega) (Nat.le_of_ble_eq_true rfl) (by assumption) (c_X7_clear (t2.w ht ht4 (by omega)) ?_)
  refine E_iload_n (i := 2) dX11_voice_37 rfl rfl ?_
  refine E_tswIn (tgt := 71) dX11_voice_38 (by decide) (by decide) rfl (by decide) ?_
  refine E_aload dX11_voice_71 rfl ?_
  refine E_iload_n (i := 3) dX11_voice_73 rfl rfl ?_
  refine k_X11_voice_74_9 (mc' := 0) (ms' := 0) (rc := 0) (rs := 0) (by omega) (Nat.le_of_ble_eq_true rfl) hr.1 (v_X5_rolls_9 (by omega) hr hT ?_)
  refine E_iret dX11_voice_77 rfl ?_
  exact hΦ
theorem voi_4_2 {x v : Int32} {k i r : Nat} (hd : 9 ≤ d) (hL : Ly g P) (hk : I 21 7 = nI k) (hk8 : k ≤ 8) (hi : i < k) (hx : x = nI i) (hp : P 24 i = some r) (hr : Rd g P r 9) {kt : Nat} (ht : I 94 1 = nI kt) (ht4 : kt ≤ 40) (hΦ : Φ (some (.int (vV 4 2 v (I r 1) (I r 3)))) g P (tads (u2 I 94 1 0) (vT 4 2))) : MM Γ mX11_voice d 0 0 [.ref 16, .int x, .int 2, .int v] g P I Φ := by
  refine MM_entry [some _, some _, some _, some _, none] (by decide) (Nat.le_of_ble_eq_true rfl) rfl ?_
  rw [vV_4_2, vT_4_2] at hΦ
  have h0 := hL.gw
  have l1 := hL.live
  have l2 := hL.s21.c
  obtain ⟨t1, t2⟩ := hL.tra
  have t3 := t2.1
  have c1 : Unit → (0 : Int32) ≤ 2 ∧ (2 : Int32) ≤ 3 := fun _ => by decide
  have e1 : Unit → (u2 I 94 1 0) r 1 = I r 1 := fun _ => u2_o (fun h => hr.2.2.1 h.1)
  have e3 : Unit → (u2 I 94 1 0) r 3 = I r 3 := fun _ => u2_o (fun h => hr.2.2.1 h.1)
  have hT : TrOK (u2 I 94 1 0) := ⟨0, u2_s _ _ _ _, by omega⟩
  rw [← e3 ()] at hΦ
  refine E_aload_n (i := 0) dX11_voice_0 rfl rfl ?_
  refine E_gr dX11_voice_1 gf_X11_21_11 rfl (by assumption) (by assumption) ?_
  refine E_iload_n (i := 1) dX11_voice_4 rfl rfl ?_
  refine k_X11_voice_5 (mc' := 0) (ms' := 0) (rc := 0) (rs := 0) (by omega) (Nat.le_of_ble_eq_true rfl) (by assumption) (c_rideAt_in (by omega) hL.s21 hk hk8 hi hx hp ?_)
  refine E_astoreC dX11_voice_8 (by decide) rfl ?_
  refine E_lv (lv' := [_, _, _, _, _]) rfl ?_
  refine E_aload dX11_voice_10 rfl ?_
  refine E_ifnull dX11_voice_12 ?_
  refine E_iload_n (i := 2) dX11_voice_15 rfl rfl ?_
  refine E_iconst (v := 0) dX11_voice_16 (by decide) ?_
  refine E_iconst (v := 3) dX11_voice_17 (by decide) ?_
  refine k_X11_voice_18 (mc' := 0) (ms' := 0) (rc := 0) (rs := 0) (by omega) (Nat.le_of_ble_eq_true rfl) (c_X11_within ?_)
  rw [bz_t (c1 ())]
  refine E_if_ne (tgt := 30) dX11_voice_21 (by decide) (fun c_21 => ?_) (fun c_21 => absurd c_21 (by decide))
  refine E_aload_n (i := 0) dX11_voice_30 rfl rfl ?_
  refine E_gr dX11_voice_31 gf_X11_44_11 rfl (by assumption) (by assumption) ?_
  refine k_X11_voice_34 (mc' := 0) (ms' := 0) (rc := 0) (rs := 0) (by omega) (Nat.le_of_ble_eq_true rfl) (by assumption) (c_X7_clear (t2.w ht ht4 (by omega)) ?_)
  refine E_iload_n (i := 2) dX11_voice_37 rfl rfl ?_
  refine E_tswIn (tgt := 78) dX11_voice_38 (by decide) (by decide) rfl (by decide) ?_
  refine E_aload dX11_voice_78 rfl ?_
  refine E_iload_n (i := 3) dX11_voice_80 rfl rfl ?_
  refine k_X11_voice_81_9 (mc' := 0) (ms' := 0) (rc := 0) (rs := 0) (by omega) (Nat.le_of_ble_eq_true rfl) hr.1 (v_X5_bears_9 (by omega) hr hT ?_)
  refine E_iret dX11_voice_84 rfl ?_
  exact hΦ
theorem voi_4_3 {x v : Int32} {k i r : Nat} (hd : 9 ≤ d) (hL : Ly g P) (hk : I 21 7 = nI k) (hk8 : k ≤ 8) (hi : i < k) (hx : x = nI i) (hp : P 24 i = some r) (hr : Rd g P r 9) {kt : Nat} (ht : I 94 1 = nI kt) (ht4 : kt ≤ 40) (hΦ : Φ (some (.int (vV 4 3 v (I r 1) (I r 3)))) g P (tads (u2 I 94 1 0) (vT 4 3))) : MM Γ mX11_voice d 0 0 [.ref 16, .int x, .int 3, .int v] g P I Φ := by
  refine MM_entry [some _, some _, some _, some _, none] (by decide) (Nat.le_of_ble_eq_true rfl) rfl ?_
  rw [vV_4_3, vT_4_3] at hΦ
  have h0 := hL.gw
  have l1 := hL.live
  have l2 := hL.s21.c
  obtain ⟨t1, t2⟩ := hL.tra
  have t3 := t2.1
  have c1 : Unit → (0 : Int32) ≤ 3 ∧ (3 : Int32) ≤ 3 := fun _ => by decide
  have e1 : Unit → (u2 I 94 1 0) r 1 = I r 1 := fun _ => u2_o (fun h => hr.2.2.1 h.1)
  have e3 : Unit → (u2 I 94 1 0) r 3 = I r 3 := fun _ => u2_o (fun h => hr.2.2.1 h.1)
  have hT : TrOK (u2 I 94 1 0) := ⟨0, u2_s _ _ _ _, by omega⟩
  rw [← e1 (), ← e3 ()] at hΦ
  refine E_aload_n (i := 0) dX11_voice_0 rfl rfl ?_
  refine E_gr dX11_voice_1 gf_X11_21_11 rfl (by assumption) (by assumption) ?_
  refine E_iload_n (i := 1) dX11_voice_4 rfl rfl ?_
  refine k_X11_voice_5 (mc' := 0) (ms' := 0) (rc := 0) (rs := 0) (by omega) (Nat.le_of_ble_eq_true rfl) (by assumption) (c_rideAt_in (by omega) hL.s21 hk hk8 hi hx hp ?_)
  refine E_astoreC dX11_voice_8 (by decide) rfl ?_
  refine E_lv (lv' := [_, _, _, _, _]) rfl ?_
  refine E_aload dX11_voice_10 rfl ?_
  refine E_ifnull dX11_voice_12 ?_
  refine E_iload_n (i := 2) dX11_voice_15 rfl rfl ?_
  refine E_iconst (v := 0) dX11_voice_16 (by decide) ?_
  refine E_iconst (v := 3) dX11_voice_17 (by decide) ?_
  refine k_X11_voice_18 (mc' := 0) (ms' := 0) (rc := 0) (rs := 0) (by omega) (Nat.le_of_ble_eq_true rfl) (c_X11_within ?_)
  rw [bz_t (c1 ())]
  refine E_if_ne (tgt := 30) dX11_voice_21 (by decide) (fun c_21 => ?_) (fun c_21 => absurd c_21 (by decide))
  refine E_aload_n (i := 0) dX11_voice_30 rfl rfl ?_
  refine E_gr dX11_voice_31 gf_X11_44_11 rfl (by assumption) (by assumption) ?_
  refine k_X11_voice_34 (mc' := 0) (ms' := 0) (rc := 0) (rs := 0) (by omega) (Nat.le_of_ble_eq_true rfl) (by assumption) (c_X7_clear (t2.w ht ht4 (by omega)) ?_)
  refine E_iload_n (i := 2) dX11_voice_37 rfl rfl ?_
  refine E_tswOut (tgt := 85) dX11_voice_38 (by decide) (by decide) ?_
  refine E_aload dX11_voice_85 rfl ?_
  refine E_iload_n (i := 3) dX11_voice_87 rfl rfl ?_
  refine k_X11_voice_88_9 (mc' := 0) (ms' := 0) (rc := 0) (rs := 0) (by omega) (Nat.le_of_ble_eq_true rfl) hr.1 (v_X9_wears_9 (by omega) hr hT ?_)
  refine E_iret dX11_voice_91 rfl ?_
  exact hΦ
theorem voi_5_0 {x v : Int32} {k i r : Nat} (hd : 9 ≤ d) (hL : Ly g P) (hk : I 21 7 = nI k) (hk8 : k ≤ 8) (hi : i < k) (hx : x = nI i) (hp : P 24 i = some r) (hr : Rd g P r 3) {kt : Nat} (ht : I 94 1 = nI kt) (ht4 : kt ≤ 40) (hΦ : Φ (some (.int (vV 5 0 v (I r 1) (I r 3)))) g P (tads (u2 I 94 1 0) (vT 5 0))) : MM Γ mX11_voice d 0 0 [.ref 16, .int x, .int 0, .int v] g P I Φ := by
  refine MM_entry [some _, some _, some _, some _, none] (by decide) (Nat.le_of_ble_eq_true rfl) rfl ?_
  rw [vV_5_0, vT_5_0] at hΦ
  have h0 := hL.gw
  have l1 := hL.live
  have l2 := hL.s21.c
  obtain ⟨t1, t2⟩ := hL.tra
  have t3 := t2.1
  have c1 : Unit → (0 : Int32) ≤ 0 ∧ (0 : Int32) ≤ 3 := fun _ => by decide
  have e1 : Unit → (u2 I 94 1 0) r 1 = I r 1 := fun _ => u2_o (fun h => hr.2.2.1 h.1)
  have e3 : Unit → (u2 I 94 1 0) r 3 = I r 3 := fun _ => u2_o (fun h => hr.2.2.1 h.1)
  have hT : TrOK (u2 I 94 1 0) := ⟨0, u2_s _ _ _ _, by omega⟩
  rw [← e1 ()] at hΦ
  refine E_aload_n (i := 0) dX11_voice_0 rfl rfl ?_
  refine E_gr dX11_voice_1 gf_X11_21_11 rfl (by assumption) (by assumption) ?_
  refine E_iload_n (i := 1) dX11_voice_4 rfl rfl ?_
  refine k_X11_voice_5 (mc' := 0) (ms' := 0) (rc := 0) (rs := 0) (by omega) (Nat.le_of_ble_eq_true rfl) (by assumption) (c_rideAt_in (by omega) hL.s21 hk hk8 hi hx hp ?_)
  refine E_astoreC dX11_voice_8 (by decide) rfl ?_
  refine E_lv (lv' := [_, _, _, _, _]) rfl ?_
  refine E_aload dX11_voice_10 rfl ?_
  refine E_ifnull dX11_voice_12 ?_
  refine E_iload_n (i := 2) dX11_voice_15 rfl rfl ?_
  refine E_iconst (v := 0) dX11_voice_16 (by decide) ?_
  refine E_iconst (v := 3) dX11_voice_17 (by decide) ?_
  refine k_X11_voice_18 (mc' := 0) (ms' := 0) (rc := 0) (rs := 0) (by omega) (Nat.le_of_ble_eq_true rfl) (c_X11_within ?_)
  rw [bz_t (c1 ())]
  refine E_if_ne (tgt := 30) dX11_voice_21 (by decide) (fun c_21 => ?_) (fun c_21 => absurd c_21 (by decide))
  refine E_aload_n (i := 0) dX11_voice_30 rfl rfl ?_
  refine E_gr dX11_voice_31 gf_X11_44_11 rfl (by assumption) (by assumption) ?_
  refine k_X11_voice_34 (mc' := 0) (ms' := 0) (rc := 0) (rs := 0) (by omega) (Nat.le_of_ble_eq_true rfl) (by assumption) (c_X7_clear (t2.w ht ht4 (by omega)) ?_)
  refine E_iload_n (i := 2) dX11_voice_37 rfl rfl ?_
  refine E_tswIn (tgt := 64) dX11_voice_38 (by decide) (by decide) rfl (by decide) ?_
  refine E_aload dX11_voice_64 rfl ?_
  refine E_iload_n (i := 3) dX11_voice_66 rfl rfl ?_
  refine k_X11_voice_67_3 (mc' := 0) (ms' := 0) (rc := 0) (rs := 0) (by omega) (Nat.le_of_ble_eq_true rfl) hr.1 (v_X5_hangs_3 (by omega) hr hT ?_)
  refine E_iret dX11_voice_70 rfl ?_
  exact hΦ
theorem voi_5_1 {x v : Int32} {k i r : Nat} (hd : 9 ≤ d) (hL : Ly g P) (hk : I 21 7 = nI k) (hk8 : k ≤ 8) (hi : i < k) (hx : x = nI i) (hp : P 24 i = some r) (hr : Rd g P r 3) {kt : Nat} (ht : I 94 1 = nI kt) (ht4 : kt ≤ 40) (hΦ : Φ (some (.int (vV 5 1 v (I r 1) (I r 3)))) g P (tads (u2 I 94 1 0) (vT 5 1))) : MM Γ mX11_voice d 0 0 [.ref 16, .int x, .int 1, .int v] g P I Φ := by
  refine MM_entry [some _, some _, some _, some _, none] (by decide) (Nat.le_of_ble_eq_true rfl) rfl ?_
  rw [vV_5_1, vT_5_1] at hΦ
  have h0 := hL.gw
  have l1 := hL.live
  have l2 := hL.s21.c
  obtain ⟨t1, t2⟩ := hL.tra
  have t3 := t2.1
  have c1 : Unit → (0 : Int32) ≤ 1 ∧ (1 : Int32) ≤ 3 := fun _ => by decide
  have e1 : Unit → (u2 I 94 1 0) r 1 = I r 1 := fun _ => u2_o (fun h => hr.2.2.1 h.1)
  have e3 : Unit → (u2 I 94 1 0) r 3 = I r 3 := fun _ => u2_o (fun h => hr.2.2.1 h.1)
  have hT : TrOK (u2 I 94 1 0) := ⟨0, u2_s _ _ _ _, by omega⟩
  rw [← e1 (), ← e3 ()] at hΦ
  refine E_aload_n (i := 0) dX11_voice_0 rfl rfl ?_
  refine E_gr dX11_voice_1 gf_X11_21_11 rfl (by assumption) (by assumption) ?_
  refine E_iload_n (i := 1) dX11_voice_4 rfl rfl ?_
  refine k_X11_voice_5 (mc' := 0) (ms' := 0) (rc := 0) (rs := 0) (by omega) (Nat.le_of_ble_eq_true rfl) (by assumption) (c_rideAt_in (by omega) hL.s21 hk hk8 hi hx hp ?_)
  refine E_astoreC dX11_voice_8 (by decide) rfl ?_
  refine E_lv (lv' := [_, _, _, _, _]) rfl ?_
  refine E_aload dX11_voice_10 rfl ?_
  refine E_ifnull dX11_voice_12 ?_
  refine E_iload_n (i := 2) dX11_voice_15 rfl rfl ?_
  refine E_iconst (v := 0) dX11_voice_16 (by decide) ?_
  refine E_iconst (v := 3) dX11_voice_17 (by decide) ?_
  refine k_X11_voice_18 (mc' := 0) (ms' := 0) (rc := 0) (rs := 0) (by omega) (Nat.le_of_ble_eq_true rfl) (c_X11_within ?_)
  rw [bz_t (c1 ())]
  refine E_if_ne (tgt := 30) dX11_voice_21 (by decide) (fun c_21 => ?_) (fun c_21 => absurd c_21 (by decide))
  refine E_aload_n (i := 0) dX11_voice_30 rfl rfl ?_
  refine E_gr dX11_voice_31 gf_X11_44_11 rfl (by assumption) (by assumption) ?_
  refine k_X11_voice_34 (mc' := 0) (ms' := 0) (rc := 0) (rs := 0) (by omega) (Nat.le_of_ble_eq_true rfl) (by assumption) (c_X7_clear (t2.w ht ht4 (by omega)) ?_)
  refine E_iload_n (i := 2) dX11_voice_37 rfl rfl ?_
  refine E_tswIn (tgt := 71) dX11_voice_38 (by decide) (by decide) rfl (by decide) ?_
  refine E_aload dX11_voice_71 rfl ?_
  refine E_iload_n (i := 3) dX11_voice_73 rfl rfl ?_
  refine k_X11_voice_74_3 (mc' := 0) (ms' := 0) (rc := 0) (rs := 0) (by omega) (Nat.le_of_ble_eq_true rfl) hr.1 (v_X3_rolls_3 (by omega) hr hT ?_)
  refine E_iret dX11_voice_77 rfl ?_
  exact hΦ
theorem voi_5_2 {x v : Int32} {k i r : Nat} (hd : 9 ≤ d) (hL : Ly g P) (hk : I 21 7 = nI k) (hk8 : k ≤ 8) (hi : i < k) (hx : x = nI i) (hp : P 24 i = some r) (hr : Rd g P r 3) {kt : Nat} (ht : I 94 1 = nI kt) (ht4 : kt ≤ 40) (hΦ : Φ (some (.int (vV 5 2 v (I r 1) (I r 3)))) g P (tads (u2 I 94 1 0) (vT 5 2))) : MM Γ mX11_voice d 0 0 [.ref 16, .int x, .int 2, .int v] g P I Φ := by
  refine MM_entry [some _, some _, some _, some _, none] (by decide) (Nat.le_of_ble_eq_true rfl) rfl ?_
  rw [vV_5_2, vT_5_2] at hΦ
  have h0 := hL.gw
  have l1 := hL.live
  have l2 := hL.s21.c
  obtain ⟨t1, t2⟩ := hL.tra
  have t3 := t2.1
  have c1 : Unit → (0 : Int32) ≤ 2 ∧ (2 : Int32) ≤ 3 := fun _ => by decide
  have e1 : Unit → (u2 I 94 1 0) r 1 = I r 1 := fun _ => u2_o (fun h => hr.2.2.1 h.1)
  have e3 : Unit → (u2 I 94 1 0) r 3 = I r 3 := fun _ => u2_o (fun h => hr.2.2.1 h.1)
  have hT : TrOK (u2 I 94 1 0) := ⟨0, u2_s _ _ _ _, by omega⟩
  rw [← e3 ()] at hΦ
  refine E_aload_n (i := 0) dX11_voice_0 rfl rfl ?_
  refine E_gr dX11_voice_1 gf_X11_21_11 rfl (by assumption) (by assumption) ?_
  refine E_iload_n (i := 1) dX11_voice_4 rfl rfl ?_
  refine k_X11_voice_5 (mc' := 0) (ms' := 0) (rc := 0) (rs := 0) (by omega) (Nat.le_of_ble_eq_true rfl) (by assumption) (c_rideAt_in (by omega) hL.s21 hk hk8 hi hx hp ?_)
  refine E_astoreC dX11_voice_8 (by decide) rfl ?_
  refine E_lv (lv' := [_, _, _, _, _]) rfl ?_
  refine E_aload dX11_voice_10 rfl ?_
  refine E_ifnull dX11_voice_12 ?_
  refine E_iload_n (i := 2) dX11_voice_15 rfl rfl ?_
  refine E_iconst (v := 0) dX11_voice_16 (by decide) ?_
  refine E_iconst (v := 3) dX11_voice_17 (by decide) ?_
  refine k_X11_voice_18 (mc' := 0) (ms' := 0) (rc := 0) (rs := 0) (by omega) (Nat.le_of_ble_eq_true rfl) (c_X11_within ?_)
  rw [bz_t (c1 ())]
  refine E_if_ne (tgt := 30) dX11_voice_21 (by decide) (fun c_21 => ?_) (fun c_21 => absurd c_21 (by decide))
  refine E_aload_n (i := 0) dX11_voice_30 rfl rfl ?_
  refine E_gr dX11_voice_31 gf_X11_44_11 rfl (by assumption) (by assumption) ?_
  refine k_X11_voice_34 (mc' := 0) (ms' := 0) (rc := 0) (rs := 0) (by omega) (Nat.le_of_ble_eq_true rfl) (by assumption) (c_X7_clear (t2.w ht ht4 (by omega)) ?_)
  refine E_iload_n (i := 2) dX11_voice_37 rfl rfl ?_
  refine E_tswIn (tgt := 78) dX11_voice_38 (by decide) (by decide) rfl (by decide) ?_
  refine E_aload dX11_voice_78 rfl ?_
  refine E_iload_n (i := 3) dX11_voice_80 rfl rfl ?_
  refine k_X11_voice_81_3 (mc' := 0) (ms' := 0) (rc := 0) (rs := 0) (by omega) (Nat.le_of_ble_eq_true rfl) hr.1 (v_X0_bears_3 (by omega) hr hT ?_)
  refine E_iret dX11_voice_84 rfl ?_
  exact hΦ
theorem voi_5_3 {x v : Int32} {k i r : Nat} (hd : 9 ≤ d) (hL : Ly g P) (hk : I 21 7 = nI k) (hk8 : k ≤ 8) (hi : i < k) (hx : x = nI i) (hp : P 24 i = some r) (hr : Rd g P r 3) {kt : Nat} (ht : I 94 1 = nI kt) (ht4 : kt ≤ 40) (hΦ : Φ (some (.int (vV 5 3 v (I r 1) (I r 3)))) g P (tads (u2 I 94 1 0) (vT 5 3))) : MM Γ mX11_voice d 0 0 [.ref 16, .int x, .int 3, .int v] g P I Φ := by
  refine MM_entry [some _, some _, some _, some _, none] (by decide) (Nat.le_of_ble_eq_true rfl) rfl ?_
  rw [vV_5_3, vT_5_3] at hΦ
  have h0 := hL.gw
  have l1 := hL.live
  have l2 := hL.s21.c
  obtain ⟨t1, t2⟩ := hL.tra
  have t3 := t2.1
  have c1 : Unit → (0 : Int32) ≤ 3 ∧ (3 : Int32) ≤ 3 := fun _ => by decide
  have e1 : Unit → (u2 I 94 1 0) r 1 = I r 1 := fun _ => u2_o (fun h => hr.2.2.1 h.1)
  have e3 : Unit → (u2 I 94 1 0) r 3 = I r 3 := fun _ => u2_o (fun h => hr.2.2.1 h.1)
  have hT : TrOK (u2 I 94 1 0) := ⟨0, u2_s _ _ _ _, by omega⟩
  rw [← e1 (), ← e3 ()] at hΦ
  refine E_aload_n (i := 0) dX11_voice_0 rfl rfl ?_
  refine E_gr dX11_voice_1 gf_X11_21_11 rfl (by assumption) (by assumption) ?_
  refine E_iload_n (i := 1) dX11_voice_4 rfl rfl ?_
  refine k_X11_voice_5 (mc' := 0) (ms' := 0) (rc := 0) (rs := 0) (by omega) (Nat.le_of_ble_eq_true rfl) (by assumption) (c_rideAt_in (by omega) hL.s21 hk hk8 hi hx hp ?_)
  refine E_astoreC dX11_voice_8 (by decide) rfl ?_
  refine E_lv (lv' := [_, _, _, _, _]) rfl ?_
  refine E_aload dX11_voice_10 rfl ?_
  refine E_ifnull dX11_voice_12 ?_
  refine E_iload_n (i := 2) dX11_voice_15 rfl rfl ?_
  refine E_iconst (v := 0) dX11_voice_16 (by decide) ?_
  refine E_iconst (v := 3) dX11_voice_17 (by decide) ?_
  refine k_X11_voice_18 (mc' := 0) (ms' := 0) (rc := 0) (rs := 0) (by omega) (Nat.le_of_ble_eq_true rfl) (c_X11_within ?_)
  rw [bz_t (c1 ())]
  refine E_if_ne (tgt := 30) dX11_voice_21 (by decide) (fun c_21 => ?_) (fun c_21 => absurd c_21 (by decide))
  refine E_aload_n (i := 0) dX11_voice_30 rfl rfl ?_
  refine E_gr dX11_voice_31 gf_X11_44_11 rfl (by assumption) (by assumption) ?_
  refine k_X11_voice_34 (mc' := 0) (ms' := 0) (rc := 0) (rs := 0) (by omega) (Nat.le_of_ble_eq_true rfl) (by assumption) (c_X7_clear (t2.w ht ht4 (by omega)) ?_)
  refine E_iload_n (i := 2) dX11_voice_37 rfl rfl ?_
  refine E_tswOut (tgt := 85) dX11_voice_38 (by decide) (by decide) ?_
  refine E_aload dX11_voice_85 rfl ?_
  refine E_iload_n (i := 3) dX11_voice_87 rfl rfl ?_
  refine k_X11_voice_88_3 (mc' := 0) (ms' := 0) (rc := 0) (rs := 0) (by omega) (Nat.le_of_ble_eq_true rfl) hr.1 (v_X5_wears_3 (by omega) hr hT ?_)
  refine E_iret dX11_voice_91 rfl ?_
  exact hΦ
theorem voi_6_0 {x v : Int32} {k i r : Nat} (hd : 9 ≤ d) (hL : Ly g P) (hk : I 21 7 = nI k) (hk8 : k ≤ 8) (hi : i < k) (hx : x = nI i) (hp : P 24 i = some r) (hr : Rd g P r 1) {kt : Nat} (ht : I 94 1 = nI kt) (ht4 : kt ≤ 40) (hΦ : Φ (some (.int (vV 6 0 v (I r 1) (I r 3)))) g P (tads (u2 I 94 1 0) (vT 6 0))) : MM Γ mX11_voice d 0 0 [.ref 16, .int x, .int 0, .int v] g P I Φ := by
  refine MM_entry [some _, some _, some _, some _, none] (by decide) (Nat.le_of_ble_eq_true rfl) rfl ?_
  rw [vV_6_0, vT_6_0] at hΦ
  have h0 := hL.gw
  have l1 := hL.live
  have l2 := hL.s21.c
  obtain ⟨t1, t2⟩ := hL.tra
  have t3 := t2.1
  have c1 : Unit → (0 : Int32) ≤ 0 ∧ (0 : Int32) ≤ 3 := fun _ => by decide
  have e1 : Unit → (u2 I 94 1 0) r 1 = I r 1 := fun _ => u2_o (fun h => hr.2.2.1 h.1)
  have e3 : Unit → (u2 I 94 1 0) r 3 = I r 3 := fun _ => u2_o (fun h => hr.2.2.1 h.1)
  have hT : TrOK (u2 I 94 1 0) := ⟨0, u2_s _ _ _ _, by omega⟩
  rw [← e1 ()] at hΦ
  refine E_aload_n (i := 0) dX11_voice_0 rfl rfl ?_
  refine E_gr dX11_voice_1 gf_X11_21_11 rfl (by assumption) (by assumption) ?_
  refine E_iload_n (i := 1) dX11_voice_4 rfl rfl ?_
  refine k_X11_voice_5 (mc' := 0) (ms' := 0) (rc := 0) (rs := 0) (by omega) (Nat.le_of_ble_eq_true rfl) (by assumption) (c_rideAt_in (by omega) hL.s21 hk hk8 hi hx hp ?_)
  refine E_astoreC dX11_voice_8 (by decide) rfl ?_
  refine E_lv (lv' := [_, _, _, _, _]) rfl ?_
  refine E_aload dX11_voice_10 rfl ?_
  refine E_ifnull dX11_voice_12 ?_
  refine E_iload_n (i := 2) dX11_voice_15 rfl rfl ?_
  refine E_iconst (v := 0) dX11_voice_16 (by decide) ?_
  refine E_iconst (v := 3) dX11_voice_17 (by decide) ?_
  refine k_X11_voice_18 (mc' := 0) (ms' := 0) (rc := 0) (rs := 0) (by omega) (Nat.le_of_ble_eq_true rfl) (c_X11_within ?_)
  rw [bz_t (c1 ())]
  refine E_if_ne (tgt := 30) dX11_voice_21 (by decide) (fun c_21 => ?_) (fun c_21 => absurd c_21 (by decide))
  refine E_aload_n (i := 0) dX11_voice_30 rfl rfl ?_
  refine E_gr dX11_voice_31 gf_X11_44_11 rfl (by assumption) (by assumption) ?_
  refine k_X11_voice_34 (mc' := 0) (ms' := 0) (rc := 0) (rs := 0) (by omega) (Nat.le_of_ble_eq_true rfl) (by assumption) (c_X7_clear (t2.w ht ht4 (by omega)) ?_)
  refine E_iload_n (i := 2) dX11_voice_37 rfl rfl ?_
  refine E_tswIn (tgt := 64) dX11_voice_38 (by decide) (by decide) rfl (by decide) ?_
  refine E_aload dX11_voice_64 rfl ?_
  refine E_iload_n (i := 3) dX11_voice_66 rfl rfl ?_
  refine k_X11_voice_67_1 (mc' := 0) (ms' := 0) (rc := 0) (rs := 0) (by omega) (Nat.le_of_ble_eq_true rfl) hr.1 (v_X1_hangs_1 (by omega) hr hT ?_)
  refine E_iret dX11_voice_70 rfl ?_
  exact hΦ
theorem voi_6_1 {x v : Int32} {k i r : Nat} (hd : 9 ≤ d) (hL : Ly g P) (hk : I 21 7 = nI k) (hk8 : k ≤ 8) (hi : i < k) (hx : x = nI i) (hp : P 24 i = some r) (hr : Rd g P r 1) {kt : Nat} (ht : I 94 1 = nI kt) (ht4 : kt ≤ 40) (hΦ : Φ (some (.int (vV 6 1 v (I r 1) (I r 3)))) g P (tads (u2 I 94 1 0) (vT 6 1))) : MM Γ mX11_voice d 0 0 [.ref 16, .int x, .int 1, .int v] g P I Φ := by
  refine MM_entry [some _, some _, some _, some _, none] (by decide) (Nat.le_of_ble_eq_true rfl) rfl ?_
  rw [vV_6_1, vT_6_1] at hΦ
  have h0 := hL.gw
  have l1 := hL.live
  have l2 := hL.s21.c
  obtain ⟨t1, t2⟩ := hL.tra
  have t3 := t2.1
  have c1 : Unit → (0 : Int32) ≤ 1 ∧ (1 : Int32) ≤ 3 := fun _ => by decide
  have e1 : Unit → (u2 I 94 1 0) r 1 = I r 1 := fun _ => u2_o (fun h => hr.2.2.1 h.1)
  have e3 : Unit → (u2 I 94 1 0) r 3 = I r 3 := fun _ => u2_o (fun h => hr.2.2.1 h.1)
  have hT : TrOK (u2 I 94 1 0) := ⟨0, u2_s _ _ _ _, by omega⟩
  rw [← e1 ()] at hΦ
  refine E_aload_n (i := 0) dX11_voice_0 rfl rfl ?_
  refine E_gr dX11_voice_1 gf_X11_21_11 rfl (by assumption) (by assumption) ?_
  refine E_iload_n (i := 1) dX11_voice_4 rfl rfl ?_
  refine k_X11_voice_5 (mc' := 0) (ms' := 0) (rc := 0) (rs := 0) (by omega) (Nat.le_of_ble_eq_true rfl) (by assumption) (c_rideAt_in (by omega) hL.s21 hk hk8 hi hx hp ?_)
  refine E_astoreC dX11_voice_8 (by decide) rfl ?_
  refine E_lv (lv' := [_, _, _, _, _]) rfl ?_
  refine E_aload dX11_voice_10 rfl ?_
  refine E_ifnull dX11_voice_12 ?_
  refine E_iload_n (i := 2) dX11_voice_15 rfl rfl ?_
  refine E_iconst (v := 0) dX11_voice_16 (by decide) ?_
  refine E_iconst (v := 3) dX11_voice_17 (by decide) ?_
  refine k_X11_voice_18 (mc' := 0) (ms' := 0) (rc := 0) (rs := 0) (by omega) (Nat.le_of_ble_eq_true rfl) (c_X11_within ?_)
  rw [bz_t (c1 ())]
  refine E_if_ne (tgt := 30) dX11_voice_21 (by decide) (fun c_21 => ?_) (fun c_21 => absurd c_21 (by decide))
  refine E_aload_n (i := 0) dX11_voice_30 rfl rfl ?_
  refine E_gr dX11_voice_31 gf_X11_44_11 rfl (by assumption) (by assumption) ?_
  refine k_X11_voice_34 (mc' := 0) (ms' := 0) (rc := 0) (rs := 0) (by omega) (Nat.le_of_ble_eq_true rfl) (by assumption) (c_X7_clear (t2.w ht ht4 (by omega)) ?_)
  refine E_iload_n (i := 2) dX11_voice_37 rfl rfl ?_
  refine E_tswIn (tgt := 71) dX11_voice_38 (by decide) (by decide) rfl (by decide) ?_
  refine E_aload dX11_voice_71 rfl ?_
  refine E_iload_n (i := 3) dX11_voice_73 rfl rfl ?_
  refine k_X11_voice_74_1 (mc' := 0) (ms' := 0) (rc := 0) (rs := 0) (by omega) (Nat.le_of_ble_eq_true rfl) hr.1 (v_X5_rolls_1 (by omega) hr hT ?_)
  refine E_iret dX11_voice_77 rfl ?_
  exact hΦ
theorem voi_6_2 {x v : Int32} {k i r : Nat} (hd : 9 ≤ d) (hL : Ly g P) (hk : I 21 7 = nI k) (hk8 : k ≤ 8) (hi : i < k) (hx : x = nI i) (hp : P 24 i = some r) (hr : Rd g P r 1) {kt : Nat} (ht : I 94 1 = nI kt) (ht4 : kt ≤ 40) (hΦ : Φ (some (.int (vV 6 2 v (I r 1) (I r 3)))) g P (tads (u2 I 94 1 0) (vT 6 2))) : MM Γ mX11_voice d 0 0 [.ref 16, .int x, .int 2, .int v] g P I Φ := by
  refine MM_entry [some _, some _, some _, some _, none] (by decide) (Nat.le_of_ble_eq_true rfl) rfl ?_
  rw [vV_6_2, vT_6_2] at hΦ
  have h0 := hL.gw
  have l1 := hL.live
  have l2 := hL.s21.c
  obtain ⟨t1, t2⟩ := hL.tra
  have t3 := t2.1
  have c1 : Unit → (0 : Int32) ≤ 2 ∧ (2 : Int32) ≤ 3 := fun _ => by decide
  have e1 : Unit → (u2 I 94 1 0) r 1 = I r 1 := fun _ => u2_o (fun h => hr.2.2.1 h.1)
  have e3 : Unit → (u2 I 94 1 0) r 3 = I r 3 := fun _ => u2_o (fun h => hr.2.2.1 h.1)
  have hT : TrOK (u2 I 94 1 0) := ⟨0, u2_s _ _ _ _, by omega⟩
  rw [← e3 ()] at hΦ
  refine E_aload_n (i := 0) dX11_voice_0 rfl rfl ?_
  refine E_gr dX11_voice_1 gf_X11_21_11 rfl (by assumption) (by assumption) ?_
  refine E_iload_n (i := 1) dX11_voice_4 rfl rfl ?_
  refine k_X11_voice_5 (mc' := 0) (ms' := 0) (rc := 0) (rs := 0) (by omega) (Nat.le_of_ble_eq_true rfl) (by assumption) (c_rideAt_in (by omega) hL.s21 hk hk8 hi hx hp ?_)
  refine E_astoreC dX11_voice_8 (by decide) rfl ?_
  refine E_lv (lv' := [_, _, _, _, _]) rfl ?_
  refine E_aload dX11_voice_10 rfl ?_
  refine E_ifnull dX11_voice_12 ?_
  refine E_iload_n (i := 2) dX11_voice_15 rfl rfl ?_
  refine E_iconst (v := 0) dX11_voice_16 (by decide) ?_
  refine E_iconst (v := 3) dX11_voice_17 (by decide) ?_
  refine k_X11_voice_18 (mc' := 0) (ms' := 0) (rc := 0) (rs := 0) (by omega) (Nat.le_of_ble_eq_true rfl) (c_X11_within ?_)
  rw [bz_t (c1 ())]
  refine E_if_ne (tgt := 30) dX11_voice_21 (by decide) (fun c_21 => ?_) (fun c_21 => absurd c_21 (by decide))
  refine E_aload_n (i := 0) dX11_voice_30 rfl rfl ?_
  refine E_gr dX11_voice_31 gf_X11_44_11 rfl (by assumption) (by assumption) ?_
  refine k_X11_voice_34 (mc' := 0) (ms' := 0) (rc := 0) (rs := 0) (by omega) (Nat.le_of_ble_eq_true rfl) (by assumption) (c_X7_clear (t2.w ht ht4 (by omega)) ?_)
  refine E_iload_n (i := 2) dX11_voice_37 rfl rfl ?_
  refine E_tswIn (tgt := 78) dX11_voice_38 (by decide) (by decide) rfl (by decide) ?_
  refine E_aload dX11_voice_78 rfl ?_
  refine E_iload_n (i := 3) dX11_voice_80 rfl rfl ?_
  refine k_X11_voice_81_1 (mc' := 0) (ms' := 0) (rc := 0) (rs := 0) (by omega) (Nat.le_of_ble_eq_true rfl) hr.1 (v_X5_bears_1 (by omega) hr hT ?_)
  refine E_iret dX11_voice_84 rfl ?_
  exact hΦ
theorem voi_6_3 {x v : Int32} {k i r : Nat} (hd : 9 ≤ d) (hL : Ly g P) (hk : I 21 7 = nI k) (hk8 : k ≤ 8) (hi : i < k) (hx : x = nI i) (hp : P 24 i = some r) (hr : Rd g P r 1) {kt : Nat} (ht : I 94 1 = nI kt) (ht4 : kt ≤ 40) (hΦ : Φ (some (.int (vV 6 3 v (I r 1) (I r 3)))) g P (tads (u2 I 94 1 0) (vT 6 3))) : MM Γ mX11_voice d 0 0 [.ref 16, .int x, .int 3, .int v] g P I Φ := by
  refine MM_entry [some _, some _, some _, some _, none] (by decide) (Nat.le_of_ble_eq_true rfl) rfl ?_
  rw [vV_6_3, vT_6_3] at hΦ
  have h0 := hL.gw
  have l1 := hL.live
  have l2 := hL.s21.c
  obtain ⟨t1, t2⟩ := hL.tra
  have t3 := t2.1
  have c1 : Unit → (0 : Int32) ≤ 3 ∧ (3 : Int32) ≤ 3 := fun _ => by decide
  have e1 : Unit → (u2 I 94 1 0) r 1 = I r 1 := fun _ => u2_o (fun h => hr.2.2.1 h.1)
  have e3 : Unit → (u2 I 94 1 0) r 3 = I r 3 := fun _ => u2_o (fun h => hr.2.2.1 h.1)
  have hT : TrOK (u2 I 94 1 0) := ⟨0, u2_s _ _ _ _, by omega⟩
  rw [← e1 (), ← e3 ()] at hΦ
  refine E_aload_n (i := 0) dX11_voice_0 rfl rfl ?_
  refine E_gr dX11_voice_1 gf_X11_21_11 rfl (by assumption) (by assumption) ?_
  refine E_iload_n (i := 1) dX11_voice_4 rfl rfl ?_
  refine k_X11_voice_5 (mc' := 0) (ms' := 0) (rc := 0) (rs := 0) (by omega) (Nat.le_of_ble_eq_true rfl) (by assumption) (c_rideAt_in (by omega) hL.s21 hk hk8 hi hx hp ?_)
  refine E_astoreC dX11_voice_8 (by decide) rfl ?_
  refine E_lv (lv' := [_, _, _, _, _]) rfl ?_
  refine E_aload dX11_voice_10 rfl ?_
  refine E_ifnull dX11_voice_12 ?_
  refine E_iload_n (i := 2) dX11_voice_15 rfl rfl ?_
  refine E_iconst (v := 0) dX11_voice_16 (by decide) ?_
  refine E_iconst (v := 3) dX11_voice_17 (by decide) ?_
  refine k_X11_voice_18 (mc' := 0) (ms' := 0) (rc := 0) (rs := 0) (by omega) (Nat.le_of_ble_eq_true rfl) (c_X11_within ?_)
  rw [bz_t (c1 ())]
  refine E_if_ne (tgt := 30) dX11_voice_21 (by decide) (fun c_21 => ?_) (fun c_21 => absurd c_21 (by decide))
  refine E_aload_n (i := 0) dX11_voice_30 rfl rfl ?_
  refine E_gr dX11_voice_31 gf_X11_44_11 rfl (by assumption) (by assumption) ?_
  refine k_X11_voice_34 (mc' := 0) (ms' := 0) (rc := 0) (rs := 0) (by omega) (Nat.le_of_ble_eq_true rfl) (by assumption) (c_X7_clear (t2.w ht ht4 (by omega)) ?_)
  refine E_iload_n (i := 2) dX11_voice_37 rfl rfl ?_
  refine E_tswOut (tgt := 85) dX11_voice_38 (by decide) (by decide) ?_
  refine E_aload dX11_voice_85 rfl ?_
  refine E_iload_n (i := 3) dX11_voice_87 rfl rfl ?_
  refine k_X11_voice_88_1 (mc' := 0) (ms' := 0) (rc := 0) (rs := 0) (by omega) (Nat.le_of_ble_eq_true rfl) hr.1 (v_X1_wears_1 (by omega) hr hT ?_)
  refine E_iret dX11_voice_91 rfl ?_
  exact hΦ
theorem c_X11_voice {x y v : Int32} {k kt : Nat} {rd kd : Nat → Nat} (hd : 9 ≤ d) (hL : Ly g P) (hk : I 21 7 = nI k) (hk8 : k ≤ 8) (hR : ∀ i, i < k → P 24 i = some (rd i) ∧ Rd g P (rd i) (kc (kd i)) ∧ kd i ≤ 6) (ht : I 94 1 = nI kt) (ht4 : kt ≤ 40) (h1 : ∀ i f, x = nI i → i < k → y = nI f → f ≤ 3 → Φ (some (.int (vV (kd i) f v (I (rd i) 1) (I (rd i) 3)))) g P (tads (u2 I 94 1 0) (vT (kd i) f))) (h2 : ¬ ((0 ≤ x ∧ x ≤ nI k - 1) ∧ (0 ≤ y ∧ y ≤ 3)) → Φ (some (.int (er 1))) g P (fl I 1)) : MM Γ mX11_voice d 0 0 [.ref 16, .int x, .int y, .int v] g P I Φ := by
  by_cases hc : 0 ≤ x ∧ x ≤ nI k - 1
  · obtain ⟨i, hx, hi⟩ := in_nat (by omega) hc
    obtain ⟨p1, p2, p3⟩ := hR i hi
    by_cases hc2 : 0 ≤ y ∧ y ≤ 3
    · obtain ⟨f, hy, hf⟩ := in_04 (n := 3) (by omega) hc2
      have hΦ := h1 i f hx hi hy hf
      generalize kd i = kk at hΦ p2 p3
      subst hy
      match kk, p3, p2, f, hf, hΦ with
      | 0, _, p2, 0, _, hΦ => exact voi_0_0 hd hL hk hk8 hi hx p1 p2 ht ht4 hΦ
      | 0, _, p2, 1, _, hΦ => exact voi_0_1 hd hL hk hk8 hi hx p1 p2 ht ht4 hΦ
      | 0, _, p2, 2, _, hΦ => exact voi_0_2 hd hL hk hk8 hi hx p1 p2 ht ht4 hΦ
      | 0, _, p2, 3, _, hΦ => exact voi_0_3 hd hL hk hk8 hi hx p1 p2 ht ht4 hΦ
      | 1, _, p2, 0, _, hΦ => exact voi_1_0 hd hL hk hk8 hi hx p1 p2 ht ht4 hΦ
      | 1, _, p2, 1, _, hΦ => exact voi_1_1 hd hL hk hk8 hi hx p1 p2 ht ht4 hΦ
      | 1, _, p2, 2, _, hΦ => exact voi_1_2 hd hL hk hk8 hi hx p1 p2 ht ht4 hΦ
      | 1, _, p2, 3, _, hΦ => exact voi_1_3 hd hL hk hk8 hi hx p1 p2 ht ht4 hΦ
      | 2, _, p2, 0, _, hΦ => exact voi_2_0 hd hL hk hk8 hi hx p1 p2 ht ht4 hΦ
      | 2, _, p2, 1, _, hΦ => exact voi_2_1 hd hL hk hk8 hi hx p1 p2 ht ht4 hΦ
      | 2, _, p2, 2, _, hΦ => exact voi_2_2 hd hL hk hk8 hi hx p1 p2 ht ht4 hΦ
      | 2, _, p2, 3, _, hΦ => exact voi_2_3 hd hL hk hk8 hi hx p1 p2 ht ht4 hΦ
      | 3, _, p2, 0, _, hΦ => exact voi_3_0 hd hL hk hk8 hi hx p1 p2 ht ht4 hΦ
      | 3, _, p2, 1, _, hΦ => exact voi_3_1 hd hL hk hk8 hi hx p1 p2 ht ht4 hΦ
      | 3, _, p2, 2, _, hΦ => exact voi_3_2 hd hL hk hk8 hi hx p1 p2 ht ht4 hΦ
      | 3, _, p2, 3, _, hΦ => exact voi_3_3 hd hL hk hk8 hi hx p1 p2 ht ht4 hΦ
      | 4, _, p2, 0, _, hΦ => exact voi_4_0 hd hL hk hk8 hi hx p1 p2 ht ht4 hΦ
      | 4, _, p2, 1, _, hΦ => exact voi_4_1 hd hL hk hk8 hi hx p1 p2 ht ht4 hΦ
      | 4, _, p2, 2, _, hΦ => exact voi_4_2 hd hL hk hk8 hi hx p1 p2 ht ht4 hΦ
      | 4, _, p2, 3, _, hΦ => exact voi_4_3 hd hL hk hk8 hi hx p1 p2 ht ht4 hΦ
      | 5, _, p2, 0, _, hΦ => exact voi_5_0 hd hL hk hk8 hi hx p1 p2 ht ht4 hΦ
      | 5, _, p2, 1, _, hΦ => exact voi_5_1 hd hL hk hk8 hi hx p1 p2 ht ht4 hΦ
      | 5, _, p2, 2, _, hΦ => exact voi_5_2 hd hL hk hk8 hi hx p1 p2 ht ht4 hΦ
      | 5, _, p2, 3, _, hΦ => exact voi_5_3 hd hL hk hk8 hi hx p1 p2 ht ht4 hΦ
      | 6, _, p2, 0, _, hΦ => exact voi_6_0 hd hL hk hk8 hi hx p1 p2 ht ht4 hΦ
      | 6, _, p2, 1, _, hΦ => exact voi_6_1 hd hL hk hk8 hi hx p1 p2 ht ht4 hΦ
      | 6, _, p2, 2, _, hΦ => exact voi_6_2 hd hL hk hk8 hi hx p1 p2 ht ht4 hΦ
      | 6, _, p2, 3, _, hΦ => exact voi_6_3 hd hL hk hk8 hi hx p1 p2 ht ht4 hΦ
    · have hΦ := h2 (fun h => hc2 h.2)
      refine MM_entry [some _, some _, some _, some _, none] (by decide) (Nat.le_of_ble_eq_true rfl) rfl ?_
      have h0 := hL.gw
      have l1 := hL.live
      have l2 := hL.s21.c
      refine E_aload_n (i := 0) dX11_voice_0 rfl rfl ?_
      refine E_gr dX11_voice_1 gf_X11_21_11 rfl (by assumption) (by assumption) ?_
      refine E_iload_n (i := 1) dX11_voice_4 rfl rfl ?_
      refine k_X11_voice_5 (mc' := 0) (ms' := 0) (rc := 0) (rs := 0) (by omega) (Nat.le_of_ble_eq_true rfl) (by assumption) (c_rideAt_in (by omega) hL.s21 hk hk8 hi hx p1 ?_)
      refine E_astoreC dX11_voice_8 (by decide) rfl ?_
      refine E_lv (lv' := [_, _, _, _, _]) rfl ?_
      refine E_aload dX11_voice_10 rfl ?_
      refine E_ifnull dX11_voice_12 ?_
      refine E_iload_n (i := 2) dX11_voice_15 rfl rfl ?_
      refine E_iconst (v := 0) dX11_voice_16 (by decide) ?_
      refine E_iconst (v := 3) dX11_voice_17 (by decide) ?_
      refine k_X11_voice_18 (mc' := 0) (ms' := 0) (rc := 0) (rs := 0) (by omega) (Nat.le_of_ble_eq_true rfl) (c_X11_within ?_)
      rw [bz_f hc2]
      refine E_if_ne (tgt := 30) dX11_voice_21 (by decide) (fun c_21 => absurd (rfl) c_21) (fun c_21 => ?_)
      refine E_aload_n (i := 0) dX11_voice_24 rfl rfl ?_
      refine E_iconst (v := 1) dX11_voice_25 (by decide) ?_
      refine k_X11_voice_26 (mc' := 0) (ms' := 0) (rc := 0) (rs := 0) (by omega) (Nat.le_of_ble_eq_true rfl) (by assumption) (c_X11_fail (k := 1) hL rfl (by decide) (by decide) ?_)
      refine E_iret dX11_voice_29 rfl ?_
      exact hΦ
  · have hΦ := h2 (fun h => hc h.1)
    refine MM_entry [some _, some _, some _, some _, none] (by decide) (Nat.le_of_ble_eq_true rfl) rfl ?_
    have h0 := hL.gw
    have l1 := hL.live
    have l2 := hL.s21.c
    refine E_aload_n (i := 0) dX11_voice_0 rfl rfl ?_
    refine E_gr dX11_voice_1 gf_X11_21_11 rfl (by assumption) (by assumption) ?_
    refine E_iload_n (i := 1) dX11_voice_4 rfl rfl ?_
    refine k_X11_voice_5 (mc' := 0) (ms' := 0) (rc := 0) (rs := 0) (by omega) (Nat.le_of_ble_eq_true rfl) (by assumption) (c_rideAt_out (by omega) hL.s21 (by rw [hk]; exact hc) ?_)
    refine E_astoreNC dX11_voice_8 (by decide) rfl ?_
    refine E_lv (lv' := [_, _, _, _, _]) rfl ?_
    refine E_aloadN dX11_voice_10 rfl ?_
    refine E_ifnullN (tgt := 24) dX11_voice_12 (by decide) ?_
    refine E_aload_n (i := 0) dX11_voice_24 rfl rfl ?_
    refine E_iconst (v := 1) dX11_voice_25 (by decide) ?_
    refine k_X11_voice_26 (mc' := 0) (ms' := 0) (rc := 0) (rs := 0) (by omega) (Nat.le_of_ble_eq_true rfl) (by assumption) (c_X11_fail (k := 1) hL rfl (by decide) (by decide) ?_)
    refine E_iret dX11_voice_29 rfl ?_
    exact hΦ
theorem vcd {v : Int32} {i kk f : Nat} (hd : 17 ≤ d) (hM : Mo g P) (hS : Sp I i kk) (hkk : kk ≤ 6) (hf : f ≤ 3) (hΦ : Φ (some (.int (vV kk f v (I 109 22) (I 110 (16 + 7 * i + 2))))) g P (mads I (vT kk f))) : MM Γ mX12_voiced (d - 1) 0 0 [.ref 109, .int (nI f), .int v] g P I Φ := by
  match kk, hkk, hS, f, hf, hΦ with
  | 0, _, hS, 0, _, hΦ => exact u_0_0 (by omega) hM hS (by rw [vV_0_0, vT_0_0] at hΦ; exact hΦ)
  | 0, _, hS, 1, _, hΦ => exact u_0_1 (by omega) hM hS (by rw [vV_0_1, vT_0_1] at hΦ; exact hΦ)
  | 0, _, hS, 2, _, hΦ => exact u_0_2 (by omega) hM hS (by rw [vV_0_2, vT_0_2] at hΦ; exact hΦ)
  | 0, _, hS, 3, _, hΦ => exact u_0_3 (by omega) hM hS (by rw [vV_0_3, vT_0_3] at hΦ; exact hΦ)
  | 1, _, hS, 0, _, hΦ => exact u_1_0 (by omega) hM hS (by rw [vV_1_0, vT_1_0] at hΦ; exact hΦ)
  | 1, _, hS, 1, _, hΦ => exact u_1_1 (by omega) hM hS (by rw [vV_1_1, vT_1_1] at hΦ; exact hΦ)
  | 1, _, hS, 2, _, hΦ => exact u_1_2 (by omega) hM hS (by rw [vV_1_2, vT_1_2] at hΦ; exact hΦ)
  | 1, _, hS, 3, _, hΦ => exact u_1_3 (by omega) hM hS (by rw [vV_1_3, vT_1_3] at hΦ; exact hΦ)
  | 2, _, hS, 0, _, hΦ => exact u_2_0 (by omega) hM hS (by rw [vV_2_0, vT_2_0] at hΦ; exact hΦ)
  | 2, _, hS, 1, _, hΦ => exact u_2_1 (by omega) hM hS (by rw [vV_2_1, vT_2_1] at hΦ; exact hΦ)
  | 2, _, hS, 2, _, hΦ => exact u_2_2 (by omega) hM hS (by rw [vV_2_2, vT_2_2] at hΦ; exact hΦ)
  | 2, _, hS, 3, _, hΦ => exact u_2_3 (by omega) hM hS (by rw [vV_2_3, vT_2_3] at hΦ; exact hΦ)
  | 3, _, hS, 0, _, hΦ => exact u_3_0 (by omega) hM hS (by rw [vV_3_0, vT_3_0] at hΦ; exact hΦ)
  | 3, _, hS, 1, _, hΦ => exact u_3_1 (by omega) hM hS (by rw [vV_3_1, vT_3_1] at hΦ; exact hΦ)
  | 3, _, hS, 2, _, hΦ => exact u_3_2 (by omega) hM hS (by rw [vV_3_2, vT_3_2] at hΦ; exact hΦ)
  | 3, _, hS, 3, _, hΦ => exact u_3_3 (by omega) hM hS (by rw [vV_3_3, vT_3_3] at hΦ; exact hΦ)
  | 4, _, hS, 0, _, hΦ => exact u_4_0 (by omega) hM hS (by rw [vV_4_0, vT_4_0] at hΦ; exact hΦ)
  | 4, _, hS, 1, _, hΦ => exact u_4_1 (by omega) hM hS (by rw [vV_4_1, vT_4_1] at hΦ; exact hΦ)
  | 4, _, hS, 2, _, hΦ => exact u_4_2 (by omega) hM hS (by rw [vV_4_2, vT_4_2] at hΦ; exact hΦ)
  | 4, _, hS, 3, _, hΦ => exact u_4_3 (by omega) hM hS (by rw [vV_4_3, vT_4_3] at hΦ; exact hΦ)
  | 5, _, hS, 0, _, hΦ => exact u_5_0 (by omega) hM hS (by rw [vV_5_0, vT_5_0] at hΦ; exact hΦ)
  | 5, _, hS, 1, _, hΦ => exact u_5_1 (by omega) hM hS (by rw [vV_5_1, vT_5_1] at hΦ; exact hΦ)
  | 5, _, hS, 2, _, hΦ => exact u_5_2 (by omega) hM hS (by rw [vV_5_2, vT_5_2] at hΦ; exact hΦ)
  | 5, _, hS, 3, _, hΦ => exact u_5_3 (by omega) hM hS (by rw [vV_5_3, vT_5_3] at hΦ; exact hΦ)
  | 6, _, hS, 0, _, hΦ => exact u_6_0 (by omega) hM hS (by rw [vV_6_0, vT_6_0] at hΦ; exact hΦ)
  | 6, _, hS, 1, _, hΦ => exact u_6_1 (by omega) hM hS (by rw [vV_6_1, vT_6_1] at hΦ; exact hΦ)
  | 6, _, hS, 2, _, hΦ => exact u_6_2 (by omega) hM hS (by rw [vV_6_2, vT_6_2] at hΦ; exact hΦ)
  | 6, _, hS, 3, _, hΦ => exact u_6_3 (by omega) hM hS (by rw [vV_6_3, vT_6_3] at hΦ; exact hΦ)
theorem c_X12_voice {x y v : Int32} {k : Nat} {kd : Nat → Nat} (hd : 17 ≤ d) (hM : Mo g P) (hk : I 110 1 = nI k) (hk8 : k ≤ 8) (hR : rdM (I 110) k kd) (h1 : ∀ i f, x = nI i → i < k → y = nI f → f ≤ 3 → Φ (some (.int (vV (kd i) f v (nI i) (I 110 (16 + 7 * i + 2))))) g P (mads (u2 (u2 I 109 21 0) 109 22 (nI i)) (vT (kd i) f))) (h2 : ¬ ((0 ≤ x ∧ x ≤ nI k - 1) ∧ (0 ≤ y ∧ y ≤ 3)) → Φ (some (.int (er 1))) g P (flM I 1)) : MM Γ mX12_voice d 0 0 [.ref 109, .int x, .int y, .int v] g P I Φ := by
  have h0 := hM.1
  by_cases hc : 0 ≤ x ∧ x ≤ nI k - 1
  · obtain ⟨i, hx, hi⟩ := in_nat (by omega) hc
    by_cases hc2 : 0 ≤ y ∧ y ≤ 3
    · obtain ⟨f, hy, hf⟩ := in_04 (n := 3) (by omega) hc2
      have hΦ := h1 i f hx hi hy hf
      obtain ⟨q1, q2, q3⟩ := hR i hi
      generalize kd i = kk at hΦ q1 q2
      generalize hJ : u2 (u2 I 109 21 0) 109 22 (nI i) = J at hΦ
      have j1 : J 110 = I 110 := by rw [← hJ, u2_oth _ (by decide), u2_oth _ (by decide)]
      have j2 : J 109 22 = nI i := by rw [← hJ, u2_s]
      have j3 : J 109 21 = 0 := by rw [← hJ, u2_o (by decide), u2_s]
      have hS : Sp J i kk := ⟨j2, by omega, by rw [j1]; exact q2, 0, j3, by omega⟩
      rw [← j1, ← j2] at hΦ
      refine MM_entry [some _, some _, some _, some _] (by decide) (Nat.le_of_ble_eq_true rfl) rfl ?_
      have hcc : 0 ≤ x ∧ x ≤ I 110 1 - 1 := by rw [hk]; exact hc
      refine E_aload_n (i := 0) dX12_voice_0 rfl rfl ?_
      refine E_iload_n (i := 1) dX12_voice_1 rfl rfl ?_
      refine E_iconst (v := 1) dX12_voice_2 (by decide) ?_
      refine k_X12_voice_3 (mc' := 0) (ms' := 0) (rc := 0) (rs := 0) (by omega) (Nat.le_of_ble_eq_true rfl) (by assumption) (c_X12_is (k := 1) (by omega) hM rfl (by decide) ?_)
      rw [bz_t hcc]
      refine E_if_eq (tgt := 18) dX12_voice_6 (by decide) (fun c_6 => absurd c_6 (by decide)) (fun c_6 => ?_)
      refine E_iload_n (i := 2) dX12_voice_9 rfl rfl ?_
      refine E_iconst (v := 0) dX12_voice_10 (by decide) ?_
      refine E_iconst (v := 3) dX12_voice_11 (by decide) ?_
      refine k_X12_voice_12 (mc' := 0) (ms' := 0) (rc := 0) (rs := 0) (by omega) (Nat.le_of_ble_eq_true rfl) (c_X12_within ?_)
      rw [bz_t hc2]
      refine E_if_ne (tgt := 25) dX12_voice_15 (by decide) (fun c_15 => ?_) (fun c_15 => absurd c_15 (by decide))
      refine E_aload_n (i := 0) dX12_voice_25 rfl rfl ?_
      refine E_iconst (v := 0) dX12_voice_26 (by decide) ?_
      refine E_pi dX12_voice_27 gf_X12_282_12 rfl (by assumption) ?_
      refine E_aload_n (i := 0) dX12_voice_30 rfl rfl ?_
      refine E_iload_n (i := 1) dX12_voice_31 rfl rfl ?_
      refine E_pi dX12_voice_32 gf_X12_285_12 rfl (by assumption) ?_
      refine E_aload_n (i := 0) dX12_voice_35 rfl rfl ?_
      refine E_iload_n (i := 2) dX12_voice_36 rfl rfl ?_
      refine E_iload_n (i := 3) dX12_voice_37 rfl rfl ?_
      rw [hx, hJ]
      subst hy
      refine k_X12_voice_38 (mc' := 0) (ms' := 0) (rc := 0) (rs := 0) (by omega) (Nat.le_of_ble_eq_true rfl) (by assumption) (vcd hd hM hS q1 hf ?_)
      refine E_iret dX12_voice_41 rfl ?_
      exact hΦ
    · have hΦ := h2 (fun h => hc2 h.2)
      refine MM_entry [some _, some _, some _, some _] (by decide) (Nat.le_of_ble_eq_true rfl) rfl ?_
      have hcc : 0 ≤ x ∧ x ≤ I 110 1 - 1 := by rw [hk]; exact hc
      refine E_aload_n (i := 0) dX12_voice_0 rfl rfl ?_
      refine E_iload_n (i := 1) dX12_voice_1 rfl rfl ?_
      refine E_iconst (v := 1) dX12_voice_2 (by decide) ?_
      refine k_X12_voice_3 (mc' := 0) (ms' := 0) (rc := 0) (rs := 0) (by omega) (Nat.le_of_ble_eq_true rfl) (by assumption) (c_X12_is (k := 1) (by omega) hM rfl (by decide) ?_)
      rw [bz_t hcc]
      refine E_if_eq (tgt := 18) dX12_voice_6 (by decide) (fun c_6 => absurd c_6 (by decide)) (fun c_6 => ?_)
      refine E_iload_n (i := 2) dX12_voice_9 rfl rfl ?_
      refine E_iconst (v := 0) dX12_voice_10 (by decide) ?_
      refine E_iconst (v := 3) dX12_voice_11 (by decide) ?_
      refine k_X12_voice_12 (mc' := 0) (ms' := 0) (rc := 0) (rs := 0) (by omega) (Nat.le_of_ble_eq_true rfl) (c_X12_within ?_)
      rw [bz_f hc2]
      refine E_if_ne (tgt := 25) dX12_voice_15 (by decide) (fun c_15 => absurd (rfl) c_15) (fun c_15 => ?_)
      refine E_aload_n (i := 0) dX12_voice_18 rfl rfl ?_
      refine E_ldc (v := -1000000001) dX12_voice_19 w_1208 ?_
      refine k_X12_voice_21 (mc' := 0) (ms' := 0) (rc := 0) (rs := 0) (by omega) (Nat.le_of_ble_eq_true rfl) (by assumption) (c_find1 hM ?_)
      refine E_iret dX12_voice_24 rfl ?_
      exact hΦ
  · have hΦ := h2 (fun h => hc h.1)
    refine MM_entry [some _, some _, some _, some _] (by decide) (Nat.le_of_ble_eq_true rfl) rfl ?_
    have hcc : ¬ (0 ≤ x ∧ x ≤ I 110 1 - 1) := by rw [hk]; exact hc
    refine E_aload_n (i := 0) dX12_voice_0 rfl rfl ?_
    refine E_iload_n (i := 1) dX12_voice_1 rfl rfl ?_
    refine E_iconst (v := 1) dX12_voice_2 (by decide) ?_
    refine k_X12_voice_3 (mc' := 0) (ms' := 0) (rc := 0) (rs := 0) (by omega) (Nat.le_of_ble_eq_true rfl) (by assumption) (c_X12_is (k := 1) (by omega) hM rfl (by decide) ?_)
    rw [bz_f hcc]
    refine E_if_eq (tgt := 18) dX12_voice_6 (by decide) (fun c_6 => ?_) (fun c_6 => absurd (rfl) c_6)
    refine E_aload_n (i := 0) dX12_voice_18 rfl rfl ?_
    refine E_ldc (v := -1000000001) dX12_voice_19 w_1208 ?_
    refine k_X12_voice_21 (mc' := 0) (ms' := 0) (rc := 0) (rs := 0) (by omega) (Nat.le_of_ble_eq_true rfl) (by assumption) (c_find1 hM ?_)
    refine E_iret dX12_voice_24 rfl ?_
    exact hΦ
end
