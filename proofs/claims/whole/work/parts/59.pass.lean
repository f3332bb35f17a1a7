/-! the class: ticks go by -/
section
variable {Γ : GE} {d : Nat} {g : Sh} {P : HP} {I : HI} {Φ : Option Value → Sh → HP → HI → Prop}
theorem c_X8_goesOn {B k i r ci : Nat} {x : Int32} (hd : 6 ≤ d) (hS : St g P B) (hO : WOK (I (B + 2))) (hk : I B 7 = nI k) (hk8 : k ≤ 8) (hi : i < k) (hx : x = nI i) (hp : P (B + 3) i = some r) (hr : Cel g r ci) (hc : isR ci) (hΦ : Φ (some (.int (bz (goB (rsI I B i (pcn ci (I (B + 2)) (I r 2) (I r 3) (I (B + 4) i) (I (B + 5) i))) B i (I (B + 4) i) (I (B + 5) i))))) g P (rsI I B i (pcn ci (I (B + 2)) (I r 2) (I r 3) (I (B + 4) i) (I (B + 5) i)))) : MM Γ mX8_goesOn d 0 0 [.ref B, .int x] g P I Φ := by
  rcases hc with rfl | rfl | rfl | rfl | rfl | rfl | rfl
  · exact c_goesOn_5 hd hS hO hk hk8 hi hx hp hr hΦ
  · exact c_goesOn_6 hd hS hO hk hk8 hi hx hp hr hΦ
  · exact c_goesOn_2 hd hS hO hk hk8 hi hx hp hr hΦ
  · exact c_goesOn_0 hd hS hO hk hk8 hi hx hp hr hΦ
  · exact c_goesOn_9 hd hS hO hk hk8 hi hx hp hr hΦ
  · exact c_goesOn_3 hd hS hO hk hk8 hi hx hp hr hΦ
  · exact c_goesOn_1 hd hS hO hk hk8 hi hx hp hr hΦ
theorem pc_CM {B k i : Nat} {rd : Nat → Nat} {M : Nat → Int32} (hD : RD I B k M) (hR : RR g P I B k rd M) (hi : i < k) : pcn (kc (kdo M i)) (I (B + 2)) (I (rd i) 2) (I (rd i) 3) (I (B + 4) i) (I (B + 5) i) = pcM M i := by
  obtain ⟨-, -, -, -, -, -, r7, r8⟩ := hR i hi
  obtain ⟨a3, a4, -, -⟩ := hD.2 i hi
  unfold pcM
  rw [← pcn_c8 _ (I (B + 2)), hD.w8, pcn_c8, r7, r8, a3, a4]
/-- a ride's tick, by the row -/
theorem r_goesOn {B k i : Nat} {x : Int32} {rd : Nat → Nat} {M : Nat → Int32} (hd : 6 ≤ d) (hS : St g P B) (hk : I B 7 = nI k) (hV : VM M k) (hD : RD I B k M) (hR : RR g P I B k rd M) (hx : x = nI i) (hi : i < k) (hΦ : ∀ J v, RD J B k (goN M i) → FS B k I J → J (B + 2) = I (B + 2) → J B = I B → (v = bz (goB J B i (M (16 + 7 * i + 3)) (M (16 + 7 * i + 4)))) → Φ (some (.int v)) g P J) : MM Γ mX8_goesOn d 0 0 [.ref B, .int x] g P I Φ := by
  obtain ⟨r1, r2, r3, r4, r5, r6, r7, r8⟩ := hR i hi
  obtain ⟨a3, a4, -, -⟩ := hD.2 i hi
  have hkd := (hV.2.2.2 i hi).kd
  refine c_X8_goesOn hd hS (hD.wok hV) hk hV.2.1 hi hx r1 r2 (isR_kc hkd.1) ?_
  rw [pc_CM hD hR hi]
  obtain ⟨q1, q2, q3, q4⟩ := RD_go hD hi
  exact hΦ _ _ q1 q2 q3 q4 (by rw [a3, a4])
/-- the texts' codes -/
def TD (I : HI) (B : Nat) (nt : Nat → Nat) (δ : Nat → List Int32) : Prop := ∀ u, u ≤ 1 → (rdT (I (B + 11 + 2 * u)) (nt u) u).2.2 = δ u
theorem gvC_D {B u : Nat} {nt : Nat → Nat} {δ : Nat → List Int32} (h : TD I B nt δ) (hu : u ≤ 1) (a b c e : Int32) : gvC I B u nt a b c e = gvl u (δ u) a b c e := by
  unfold gvC
  rw [h u hu]
theorem TG.mv {J : HI} {B : Nat} {nt : Nat → Nat} (h : TG I B nt) (hJ : ∀ a, B + 10 ≤ a → a ≤ B + 13 → J a = I a) : TG J B nt := fun u hu => by
  have e1 : J (B + 10 + 2 * u) = I (B + 10 + 2 * u) := hJ _ (by omega) (by omega)
  have e2 : J (B + 11 + 2 * u) = I (B + 11 + 2 * u) := hJ _ (by omega) (by omega)
  rw [e1, e2]
  exact h u hu
theorem TD.mv {J : HI} {B : Nat} {nt : Nat → Nat} {δ : Nat → List Int32} (h : TD I B nt δ) (hJ : ∀ a, B + 10 ≤ a → a ≤ B + 13 → J a = I a) : TD J B nt δ := fun u hu => by
  have e2 : J (B + 11 + 2 * u) = I (B + 11 + 2 * u) := hJ _ (by omega) (by omega)
  rw [e2]
  exact h u hu
theorem c_X8_wearStrands {B k i r ci : Nat} {x : Int32} {nt : Nat → Nat} (hd : 55 ≤ d) (hL : Ly g P) (hS : St g P B) (hB : 17 < B) (hT : TG I B nt) (hk : I B 7 = nI k) (hk8 : k ≤ 8) (hi : i < k) (hx : x = nI i) (hp : P (B + 3) i = some r) (hr : Cel g r ci) (hc : isR ci) (hr128 : 128 ≤ r) (h1 : I (B + 7) i = 0 → Φ none g P I) (h2 : ¬ I (B + 7) i = 0 → ∀ v : Int32, (Unit → v = gvC I B 0 nt (I r 2) (I (B + 6) i) (I (B + 2) 8) 0) → ∀ P' J, PF P P' → (∀ a, a ≠ 17 → a ≠ 18 → J a = I a) → Φ none g P' (if alw 8 (if 0 < I (B + 2) 8 - v then I (B + 2) 8 - v else 0) then u2 J (B + 2) 8 (if 0 < I (B + 2) 8 - v then I (B + 2) 8 - v else 0) else J)) : MM Γ mX8_wearStrands d 0 0 [.ref B, .int x] g P I Φ := by
  refine MM_entry [some _, some _, none, none, none] (by decide) (Nat.le_of_ble_eq_true rfl) rfl ?_
  have s1 := hS.c
  have s2 := hS.wp
  have s3 := hS.wi
  have s4 := s3.1
  have s5 := hS.rd
  have s6 := hS.wear.1
  have l4 := hL.rea.1
  obtain ⟨u1, v2, u3⟩ := hS.in
  obtain ⟨t1, t2, t3⟩ := hS.ca
  by_cases hz : I (B + 7) i = 0
  · have hΦ := h1 hz
    clear h1 h2
    refine E_aload_n (i := 0) dX8_wearStrands_0 rfl rfl ?_
    refine E_iload_n (i := 1) dX8_wearStrands_1 rfl rfl ?_
    refine k_X8_wearStrands_2 (mc' := 0) (ms' := 0) (rc := 0) (rs := 0) (by omega) (Nat.le_of_ble_eq_true rfl) (by assumption) (c_rideAt_in (by omega) hS hk hk8 hi hx hp ?_)
    refine E_astore_nC (i := 2) dX8_wearStrands_5 rfl (by decide) rfl ?_
    refine E_lv (lv' := [_, _, _, _, _]) rfl ?_
    refine E_aload_n (i := 2) dX8_wearStrands_6 rfl rfl ?_
    refine E_ifnull dX8_wearStrands_7 ?_
    refine E_aload_n (i := 0) dX8_wearStrands_10 rfl rfl ?_
    refine E_gr dX8_wearStrands_11 gf_X8_34_8 rfl (by assumption) (by assumption) ?_
    refine E_iload_n (i := 1) dX8_wearStrands_14 rfl rfl ?_
    refine E_zaj i dX8_wearStrands_15 (by assumption) hx (by omega) (by rw [u3]; omega) ?_
    refine E_if_eq (tgt := 72) dX8_wearStrands_16 (by decide) (fun c_16 => ?_) (fun c_16 => absurd (hz) c_16)
    refine E_vret dX8_wearStrands_72 rfl ?_
    exact hΦ
  · have hΦ := h2 hz
    clear h1 h2
    have hwt : ∀ {μ : MD} {d mc ms rc rs pc : Nat} {QQ : List Frame → Array Value → State → State → Prop} {lv : List (Option Value)} {st : List Value}, E Γ mX8_wearStrands d mc ms QQ rc rs 42 lv (.int (I r 2) :: st) g P I → E Γ mX8_wearStrands d mc ms QQ rc rs 39 lv (.ref r :: st) g P I := by
      intro μ d mc ms rc rs pc QQ lv st kk
      rcases hc with rfl | rfl | rfl | rfl | rfl | rfl | rfl
      · exact E_gi dX8_wearStrands_39 gf_X8_112_5 rfl hr kk
      · exact E_gi dX8_wearStrands_39 gf_X8_112_6 rfl hr kk
      · exact E_gi dX8_wearStrands_39 gf_X8_112_2 rfl hr kk
      · exact E_gi dX8_wearStrands_39 gf_X8_112_0 rfl hr kk
      · exact E_gi dX8_wearStrands_39 gf_X8_112_9 rfl hr kk
      · exact E_gi dX8_wearStrands_39 gf_X8_112_3 rfl hr kk
      · exact E_gi dX8_wearStrands_39 gf_X8_112_1 rfl hr kk
    refine E_aload_n (i := 0) dX8_wearStrands_0 rfl rfl ?_
    refine E_iload_n (i := 1) dX8_wearStrands_1 rfl rfl ?_
    refine k_X8_wearStrands_2 (mc' := 0) (ms' := 0) (rc := 0) (rs := 0) (by omega) (Nat.le_of_ble_eq_true rfl) (by assumption) (c_rideAt_in (by omega) hS hk hk8 hi hx hp ?_)
    refine E_astore_nC (i := 2) dX8_wearStrands_5 rfl (by decide) rfl ?_
    refine E_lv (lv' := [_, _, _, _, _]) rfl ?_
    refine E_aload_n (i := 2) dX8_wearStrands_6 rfl rfl ?_
    refine E_ifnull dX8_wearStrands_7 ?_
    refine E_aload_n (i := 0) dX8_wearStrands_10 rfl rfl ?_
    refine E_gr dX8_wearStrands_11 gf_X8_34_8 rfl (by assumption) (by assumption) ?_
    refine E_iload_n (i := 1) dX8_wearStrands_14 rfl rfl ?_
    refine E_zaj i dX8_wearStrands_15 (by assumption) hx (by omega) (by rw [u3]; omega) ?_
    refine E_if_eq (tgt := 72) dX8_wearStrands_16 (by decide) (fun c_16 => absurd c_16 (hz)) (fun c_16 => ?_)
    refine E_aload_n (i := 0) dX8_wearStrands_19 rfl rfl ?_
    refine E_gr dX8_wearStrands_20 gf_X8_12_8 rfl (by assumption) (by assumption) ?_
    refine E_bipush (v := 8) dX8_wearStrands_23 (by decide) ?_
    refine k_X8_wearStrands_25 (mc' := 0) (ms' := 0) (rc := 0) (rs := 0) (by omega) (Nat.le_of_ble_eq_true rfl) (by assumption) (c_X10_ofk (k := 8) rfl (by decide) s3 ?_)
    refine E_istore_nC (i := 3) dX8_wearStrands_28 rfl (by decide) rfl ?_
    refine E_lv (lv' := [_, _, _, _, _]) rfl ?_
    refine E_aload_n (i := 0) dX8_wearStrands_29 rfl rfl ?_
    refine E_gr dX8_wearStrands_30 gf_X8_78_8 rfl (by assumption) (by assumption) ?_
    refine E_aload_n (i := 0) dX8_wearStrands_33 rfl rfl ?_
    refine E_gr dX8_wearStrands_34 gf_X8_57_8 rfl (by assumption) (by assumption) ?_
    refine E_iconst (v := 0) dX8_wearStrands_37 (by decide) ?_
    refine E_aload_n (i := 2) dX8_wearStrands_38 rfl rfl ?_
    refine hwt (μ := mX8_wearStrands) (pc := 39) ?_
    refine E_aload_n (i := 0) dX8_wearStrands_42 rfl rfl ?_
    refine E_gr dX8_wearStrands_43 gf_X8_31_8 rfl (by assumption) (by assumption) ?_
    refine E_iload_n (i := 1) dX8_wearStrands_46 rfl rfl ?_
    refine E_iaj i dX8_wearStrands_47 (by assumption) hx (by omega) (by rw [t3]; omega) ?_
    refine E_iload_n (i := 3) dX8_wearStrands_48 rfl rfl ?_
    refine E_iconst (v := 0) dX8_wearStrands_49 (by decide) ?_
    refine k_X8_wearStrands_50 (mc' := 0) (ms' := 0) (rc := 0) (rs := 0) (by omega) (Nat.le_of_ble_eq_true rfl) (by assumption) (c_givesT (B := B) (u := 0) (nt := nt) (by omega) hL hS hB hT rfl (by decide) (fun P' J f1 f2 => ?_))
    obtain ⟨v, hv⟩ := hid (gvC I B 0 nt (I r 2) (I (B + 6) i) (I (B + 2) 8) 0)
    rw [hv ()]
    have hS' := hS.pf f1 hB
    have s1' := hS'.c
    have s2' := hS'.wp
    have s3' := hS'.wi
    have s4' := s3'.1
    refine E_istoreC dX8_wearStrands_53 (by decide) rfl ?_
    refine E_lv (lv' := [_, _, _, _, _]) rfl ?_
    refine E_aload_n (i := 0) dX8_wearStrands_55 rfl rfl ?_
    refine E_gr dX8_wearStrands_56 gf_X8_12_8 rfl (by assumption) (by assumption) ?_
    refine E_bipush (v := 8) dX8_wearStrands_59 (by decide) ?_
    refine E_iconst (v := 0) dX8_wearStrands_61 (by decide) ?_
    refine E_iload_n (i := 3) dX8_wearStrands_62 rfl rfl ?_
    refine E_iload dX8_wearStrands_63 rfl ?_
    refine E_isub dX8_wearStrands_65 ?_
    refine E_max dX8_wearStrands_66 w_815 w_112 w_74 w_113 (Nat.le_of_ble_eq_true rfl) (by omega) ?_
    refine k_X8_wearStrands_69 (mc' := 0) (ms' := 0) (rc := 0) (rs := 0) (by omega) (Nat.le_of_ble_eq_true rfl) (by assumption) (c_X10_becomes (by omega) s3' ?_)
    refine E_vret dX8_wearStrands_72 rfl ?_
    exact hΦ v (fun _ => (hv ()).symm) P' J f1 f2
end
