/-! the class: rides told, kinds -/
/-- what a State tells of a ride -/
def facC (ci : Nat) (I : HI) (B r i f : Nat) : Int32 :=
  if f = 0 then I r 0 else if f = 1 then I r 2 else if f = 2 then I r 3 else if f = 3 then I (B + 4) i else if f = 4 then I (B + 5) i
  else if f = 5 then bz (¬ I (B + 7) i = 0) else if f = 6 then I (B + 6) i else if f = 7 then gnc ci (I (B + 2)) (I r 2) (I r 3) (I (B + 4) i) (I (B + 5) i) else rbc ci (I (B + 2))
section
variable {Γ : GE} {d : Nat} {g : Sh} {P : HP} {I : HI} {Φ : Option Value → Sh → HP → HI → Prop}
theorem c_factOf_5 {B k i r f : Nat} {x y : Int32} (hd : 5 ≤ d) (hS : St g P B) (hO : WOK (I (B + 2))) (hk : I B 7 = nI k) (hk8 : k ≤ 8) (hi : i < k) (hx : x = nI i) (hy : y = nI f) (hf : f ≤ 8) (hp : P (B + 3) i = some r) (hr : Cel g r 5) (hΦ : Φ (some (.int (facC 5 I B r i f))) g P I) : MM Γ mX8_factOf d 0 0 [.ref B, .int x, .int y] g P I Φ := by
  refine MM_entry [some _, some _, some _, none] (by decide) (Nat.le_of_ble_eq_true rfl) rfl ?_
  have s1 := hS.c
  have s2 := hS.wp
  have s3 := hS.wi
  have s4 := s3.1
  obtain ⟨p1, p2, p3⟩ := hS.pl
  obtain ⟨q1, q2, q3⟩ := hS.pa
  obtain ⟨t1, t2, t3⟩ := hS.ca
  obtain ⟨u1, v2, u3⟩ := hS.in
  unfold facC at hΦ
  rcases (show f = 0 ∨ f = 1 ∨ f = 2 ∨ f = 3 ∨ f = 4 ∨ f = 5 ∨ f = 6 ∨ f = 7 ∨ f = 8 by omega) with rfl | rfl | rfl | rfl | rfl | rfl | rfl | rfl | rfl
  · subst hy
    have hΦ := hΦ
    rw [if_pos rfl] at hΦ
    refine E_aload_n (i := 0) dX8_factOf_0 rfl rfl ?_
    refine E_iload_n (i := 1) dX8_factOf_1 rfl rfl ?_
    refine k_X8_factOf_2 (mc' := 0) (ms' := 0) (rc := 0) (rs := 0) (by omega) (Nat.le_of_ble_eq_true rfl) (by assumption) (c_rideAt_in (by omega) hS hk hk8 hi hx hp ?_)
    refine E_astore_nC (i := 3) dX8_factOf_5 rfl (by decide) rfl ?_
    refine E_lv (lv' := [_, _, _, _]) rfl ?_
    refine E_aload_n (i := 3) dX8_factOf_6 rfl rfl ?_
    refine E_ifnonnull (tgt := 12) dX8_factOf_7 (by decide) ?_
    refine E_iload_n (i := 2) dX8_factOf_12 rfl rfl ?_
    refine E_tswIn (tgt := 60) dX8_factOf_13 (by decide) (by decide) rfl (by decide) ?_
    refine E_aload_n (i := 3) dX8_factOf_60 rfl rfl ?_
    refine E_gi dX8_factOf_61 gf_X8_109_5 rfl hr ?_
    refine E_iret dX8_factOf_64 rfl ?_
    exact hΦ
  · subst hy
    have hΦ := hΦ
    rw [if_neg (show ¬ (1 : Nat) = 0 by decide), if_pos rfl] at hΦ
    refine E_aload_n (i := 0) dX8_factOf_0 rfl rfl ?_
    refine E_iload_n (i := 1) dX8_factOf_1 rfl rfl ?_
    refine k_X8_factOf_2 (mc' := 0) (ms' := 0) (rc := 0) (rs := 0) (by omega) (Nat.le_of_ble_eq_true rfl) (by assumption) (c_rideAt_in (by omega) hS hk hk8 hi hx hp ?_)
    refine E_astore_nC (i := 3) dX8_factOf_5 rfl (by decide) rfl ?_
    refine E_lv (lv' := [_, _, _, _]) rfl ?_
    refine E_aload_n (i := 3) dX8_factOf_6 rfl rfl ?_
    refine E_ifnonnull (tgt := 12) dX8_factOf_7 (by decide) ?_
    refine E_iload_n (i := 2) dX8_factOf_12 rfl rfl ?_
    refine E_tswIn (tgt := 65) dX8_factOf_13 (by decide) (by decide) rfl (by decide) ?_
    refine E_aload_n (i := 3) dX8_factOf_65 rfl rfl ?_
    refine E_gi dX8_factOf_66 gf_X8_112_5 rfl hr ?_
    refine E_iret dX8_factOf_69 rfl ?_
    exact hΦ
  · subst hy
    have hΦ := hΦ
    rw [if_neg (show ¬ (2 : Nat) = 0 by decide), if_neg (show ¬ (2 : Nat) = 1 by decide), if_pos rfl] at hΦ
    refine E_aload_n (i := 0) dX8_factOf_0 rfl rfl ?_
    refine E_iload_n (i := 1) dX8_factOf_1 rfl rfl ?_
    refine k_X8_factOf_2 (mc' := 0) (ms' := 0) (rc := 0) (rs := 0) (by omega) (Nat.le_of_ble_eq_true rfl) (by assumption) (c_rideAt_in (by omega) hS hk hk8 hi hx hp ?_)
    refine E_astore_nC (i := 3) dX8_factOf_5 rfl (by decide) rfl ?_
    refine E_lv (lv' := [_, _, _, _]) rfl ?_
    refine E_aload_n (i := 3) dX8_factOf_6 rfl rfl ?_
    refine E_ifnonnull (tgt := 12) dX8_factOf_7 (by decide) ?_
    refine E_iload_n (i := 2) dX8_factOf_12 rfl rfl ?_
    refine E_tswIn (tgt := 70) dX8_factOf_13 (by decide) (by decide) rfl (by decide) ?_
    refine E_aload_n (i := 3) dX8_factOf_70 rfl rfl ?_
    refine E_gi dX8_factOf_71 gf_X8_115_5 rfl hr ?_
    refine E_iret dX8_factOf_74 rfl ?_
    exact hΦ
  · subst hy
    have hΦ := hΦ
    rw [if_neg (show ¬ (3 : Nat) = 0 by decide), if_neg (show ¬ (3 : Nat) = 1 by decide), if_neg (show ¬ (3 : Nat) = 2 by decide), if_pos rfl] at hΦ
    refine E_aload_n (i := 0) dX8_factOf_0 rfl rfl ?_
    refine E_iload_n (i := 1) dX8_factOf_1 rfl rfl ?_
    refine k_X8_factOf_2 (mc' := 0) (ms' := 0) (rc := 0) (rs := 0) (by omega) (Nat.le_of_ble_eq_true rfl) (by assumption) (c_rideAt_in (by omega) hS hk hk8 hi hx hp ?_)
    refine E_astore_nC (i := 3) dX8_factOf_5 rfl (by decide) rfl ?_
    refine E_lv (lv' := [_, _, _, _]) rfl ?_
    refine E_aload_n (i := 3) dX8_factOf_6 rfl rfl ?_
    refine E_ifnonnull (tgt := 12) dX8_factOf_7 (by decide) ?_
    refine E_iload_n (i := 2) dX8_factOf_12 rfl rfl ?_
    refine E_tswIn (tgt := 75) dX8_factOf_13 (by decide) (by decide) rfl (by decide) ?_
    refine E_aload_n (i := 0) dX8_factOf_75 rfl rfl ?_
    refine E_gr dX8_factOf_76 gf_X8_24_8 rfl (by assumption) (by assumption) ?_
    refine E_iload_n (i := 1) dX8_factOf_79 rfl rfl ?_
    refine E_iaj i dX8_factOf_80 (by assumption) hx (by omega) (by rw [p3]; omega) ?_
    refine E_iret dX8_factOf_81 rfl ?_
    exact hΦ
  · subst hy
    have hΦ := hΦ
    rw [if_neg (show ¬ (4 : Nat) = 0 by decide), if_neg (show ¬ (4 : Nat) = 1 by decide), if_neg (show ¬ (4 : Nat) = 2 by decide), if_neg (show ¬ (4 : Nat) = 3 by decide), if_pos rfl] at hΦ
    refine E_aload_n (i := 0) dX8_factOf_0 rfl rfl ?_
    refine E_iload_n (i := 1) dX8_factOf_1 rfl rfl ?_
    refine k_X8_factOf_2 (mc' := 0) (ms' := 0) (rc := 0) (rs := 0) (by omega) (Nat.le_of_ble_eq_true rfl) (by assumption) (c_rideAt_in (by omega) hS hk hk8 hi hx hp ?_)
    refine E_astore_nC (i := 3) dX8_factOf_5 rfl (by decide) rfl ?_
    refine E_lv (lv' := [_, _, _, _]) rfl ?_
    refine E_aload_n (i := 3) dX8_factOf_6 rfl rfl ?_
    refine E_ifnonnull (tgt := 12) dX8_factOf_7 (by decide) ?_
    refine E_iload_n (i := 2) dX8_factOf_12 rfl rfl ?_
    refine E_tswIn (tgt := 82) dX8_factOf_13 (by decide) (by decide) rfl (by decide) ?_
    refine E_aload_n (i := 0) dX8_factOf_82 rfl rfl ?_
    refine E_gr dX8_factOf_83 gf_X8_28_8 rfl (by assumption) (by assumption) ?_
    refine E_iload_n (i := 1) dX8_factOf_86 rfl rfl ?_
    refine E_iaj i dX8_factOf_87 (by assumption) hx (by omega) (by rw [q3]; omega) ?_
    refine E_iret dX8_factOf_88 rfl ?_
    exact hΦ
  · subst hy
    have hΦ := hΦ
    rw [if_neg (show ¬ (5 : Nat) = 0 by decide), if_neg (show ¬ (5 : Nat) = 1 by decide), if_neg (show ¬ (5 : Nat) = 2 by decide), if_neg (show ¬ (5 : Nat) = 3 by decide), if_neg (show ¬ (5 : Nat) = 4 by decide), if_pos rfl] at hΦ
    by_cases h7 : I (B + 7) i = 0
    · rw [bz_f (fun h => h h7)] at hΦ
      refine E_aload_n (i := 0) dX8_factOf_0 rfl rfl ?_
      refine E_iload_n (i := 1) dX8_factOf_1 rfl rfl ?_
      refine k_X8_factOf_2 (mc' := 0) (ms' := 0) (rc := 0) (rs := 0) (by omega) (Nat.le_of_ble_eq_true rfl) (by assumption) (c_rideAt_in (by omega) hS hk hk8 hi hx hp ?_)
      refine E_astore_nC (i := 3) dX8_factOf_5 rfl (by decide) rfl ?_
      refine E_lv (lv' := [_, _, _, _]) rfl ?_
      refine E_aload_n (i := 3) dX8_factOf_6 rfl rfl ?_
      refine E_ifnonnull (tgt := 12) dX8_factOf_7 (by decide) ?_
      refine E_iload_n (i := 2) dX8_factOf_12 rfl rfl ?_
      refine E_tswIn (tgt := 89) dX8_factOf_13 (by decide) (by decide) rfl (by decide) ?_
      refine E_aload_n (i := 0) dX8_factOf_89 rfl rfl ?_
      refine E_gr dX8_factOf_90 gf_X8_34_8 rfl (by assumption) (by assumption) ?_
      refine E_iload_n (i := 1) dX8_factOf_93 rfl rfl ?_
      refine E_zaj i dX8_factOf_94 (by assumption) hx (by omega) (by rw [u3]; omega) ?_
      refine E_if_eq (tgt := 102) dX8_factOf_95 (by decide) (fun c_95 => ?_) (fun c_95 => absurd (h7) c_95)
      refine E_iconst (v := 0) dX8_factOf_102 (by decide) ?_
      refine E_iret dX8_factOf_103 rfl ?_
      exact hΦ
    · rw [bz_t h7] at hΦ
      refine E_aload_n (i := 0) dX8_factOf_0 rfl rfl ?_
      refine E_iload_n (i := 1) dX8_factOf_1 rfl rfl ?_
      refine k_X8_factOf_2 (mc' := 0) (ms' := 0) (rc := 0) (rs := 0) (by omega) (Nat.le_of_ble_eq_true rfl) (by assumption) (c_rideAt_in (by omega) hS hk hk8 hi hx hp ?_)
      refine E_astore_nC (i := 3) dX8_factOf_5 rfl (by decide) rfl ?_
      refine E_lv (lv' := [_, _, _, _]) rfl ?_
      refine E_aload_n (i := 3) dX8_factOf_6 rfl rfl ?_
      refine E_ifnonnull (tgt := 12) dX8_factOf_7 (by decide) ?_
      refine E_iload_n (i := 2) dX8_factOf_12 rfl rfl ?_
      refine E_tswIn (tgt := 89) dX8_factOf_13 (by decide) (by decide) rfl (by decide) ?_
      refine E_aload_n (i := 0) dX8_factOf_89 rfl rfl ?_
      refine E_gr dX8_factOf_90 gf_X8_34_8 rfl (by assumption) (by assumption) ?_
      refine E_iload_n (i := 1) dX8_factOf_93 rfl rfl ?_
      refine E_zaj i dX8_factOf_94 (by assumption) hx (by omega) (by rw [u3]; omega) ?_
      refine E_if_eq (tgt := 102) dX8_factOf_95 (by decide) (fun c_95 => absurd c_95 (h7)) (fun c_95 => ?_)
      refine E_iconst (v := 1) dX8_factOf_98 (by decide) ?_
      refine E_goto (tgt := 103) dX8_factOf_99 (by decide) ?_
      refine E_iret dX8_factOf_103 rfl ?_
      exact hΦ
  · subst hy
    have hΦ := hΦ
    rw [if_neg (show ¬ (6 : Nat) = 0 by decide), if_neg (show ¬ (6 : Nat) = 1 by decide), if_neg (show ¬ (6 : Nat) = 2 by decide), if_neg (show ¬ (6 : Nat) = 3 by decide), if_neg (show ¬ (6 : Nat) = 4 by decide), if_neg (show ¬ (6 : Nat) = 5 by decide), if_pos rfl] at hΦ
    refine E_aload_n (i := 0) dX8_factOf_0 rfl rfl ?_
    refine E_iload_n (i := 1) dX8_factOf_1 rfl rfl ?_
    refine k_X8_factOf_2 (mc' := 0) (ms' := 0) (rc := 0) (rs := 0) (by omega) (Nat.le_of_ble_eq_true rfl) (by assumption) (c_rideAt_in (by omega) hS hk hk8 hi hx hp ?_)
    refine E_astore_nC (i := 3) dX8_factOf_5 rfl (by decide) rfl ?_
    refine E_lv (lv' := [_, _, _, _]) rfl ?_
    refine E_aload_n (i := 3) dX8_factOf_6 rfl rfl ?_
    refine E_ifnonnull (tgt := 12) dX8_factOf_7 (by decide) ?_
    refine E_iload_n (i := 2) dX8_factOf_12 rfl rfl ?_
    refine E_tswIn (tgt := 104) dX8_factOf_13 (by decide) (by decide) rfl (by decide) ?_
    refine E_aload_n (i := 0) dX8_factOf_104 rfl rfl ?_
    refine E_gr dX8_factOf_105 gf_X8_31_8 rfl (by assumption) (by assumption) ?_
    refine E_iload_n (i := 1) dX8_factOf_108 rfl rfl ?_
    refine E_iaj i dX8_factOf_109 (by assumption) hx (by omega) (by rw [t3]; omega) ?_
    refine E_iret dX8_factOf_110 rfl ?_
    exact hΦ
  · subst hy
    have hΦ := hΦ
    rw [if_neg (show ¬ (7 : Nat) = 0 by decide), if_neg (show ¬ (7 : Nat) = 1 by decide), if_neg (show ¬ (7 : Nat) = 2 by decide), if_neg (show ¬ (7 : Nat) = 3 by decide), if_neg (show ¬ (7 : Nat) = 4 by decide), if_neg (show ¬ (7 : Nat) = 5 by decide), if_neg (show ¬ (7 : Nat) = 6 by decide), if_pos rfl] at hΦ
    refine E_aload_n (i := 0) dX8_factOf_0 rfl rfl ?_
    refine E_iload_n (i := 1) dX8_factOf_1 rfl rfl ?_
    refine k_X8_factOf_2 (mc' := 0) (ms' := 0) (rc := 0) (rs := 0) (by omega) (Nat.le_of_ble_eq_true rfl) (by assumption) (c_rideAt_in (by omega) hS hk hk8 hi hx hp ?_)
    refine E_astore_nC (i := 3) dX8_factOf_5 rfl (by decide) rfl ?_
    refine E_lv (lv' := [_, _, _, _]) rfl ?_
    refine E_aload_n (i := 3) dX8_factOf_6 rfl rfl ?_
    refine E_ifnonnull (tgt := 12) dX8_factOf_7 (by decide) ?_
    refine E_iload_n (i := 2) dX8_factOf_12 rfl rfl ?_
    refine E_tswIn (tgt := 111) dX8_factOf_13 (by decide) (by decide) rfl (by decide) ?_
    refine E_aload_n (i := 3) dX8_factOf_111 rfl rfl ?_
    refine E_aload_n (i := 0) dX8_factOf_112 rfl rfl ?_
    refine E_gr dX8_factOf_113 gf_X8_12_8 rfl (by assumption) (by assumption) ?_
    refine E_aload_n (i := 0) dX8_factOf_116 rfl rfl ?_
    refine E_gr dX8_factOf_117 gf_X8_24_8 rfl (by assumption) (by assumption) ?_
    refine E_iload_n (i := 1) dX8_factOf_120 rfl rfl ?_
    refine E_iaj i dX8_factOf_121 (by assumption) hx (by omega) (by rw [p3]; omega) ?_
    refine E_aload_n (i := 0) dX8_factOf_122 rfl rfl ?_
    refine E_gr dX8_factOf_123 gf_X8_28_8 rfl (by assumption) (by assumption) ?_
    refine E_iload_n (i := 1) dX8_factOf_126 rfl rfl ?_
    refine E_iaj i dX8_factOf_127 (by assumption) hx (by omega) (by rw [q3]; omega) ?_
    refine k_X8_factOf_128_5 (mc' := 0) (ms' := 0) (rc := 0) (rs := 0) (by omega) (Nat.le_of_ble_eq_true rfl) hr (c_X5_gain_5 (by omega) hr s3 hO ?_)
    refine E_iret dX8_factOf_131 rfl ?_
    exact hΦ
  · subst hy
    have hΦ := hΦ
    rw [if_neg (show ¬ (8 : Nat) = 0 by decide), if_neg (show ¬ (8 : Nat) = 1 by decide), if_neg (show ¬ (8 : Nat) = 2 by decide), if_neg (show ¬ (8 : Nat) = 3 by decide), if_neg (show ¬ (8 : Nat) = 4 by decide), if_neg (show ¬ (8 : Nat) = 5 by decide), if_neg (show ¬ (8 : Nat) = 6 by decide), if_neg (show ¬ (8 : Nat) = 7 by decide)] at hΦ
    unfold rbc at hΦ
    rw [if_neg (by decide)] at hΦ
    refine E_aload_n (i := 0) dX8_factOf_0 rfl rfl ?_
    refine E_iload_n (i := 1) dX8_factOf_1 rfl rfl ?_
    refine k_X8_factOf_2 (mc' := 0) (ms' := 0) (rc := 0) (rs := 0) (by omega) (Nat.le_of_ble_eq_true rfl) (by assumption) (c_rideAt_in (by omega) hS hk hk8 hi hx hp ?_)
    refine E_astore_nC (i := 3) dX8_factOf_5 rfl (by decide) rfl ?_
    refine E_lv (lv' := [_, _, _, _]) rfl ?_
    refine E_aload_n (i := 3) dX8_factOf_6 rfl rfl ?_
    refine E_ifnonnull (tgt := 12) dX8_factOf_7 (by decide) ?_
    refine E_iload_n (i := 2) dX8_factOf_12 rfl rfl ?_
    refine E_tswOut (tgt := 132) dX8_factOf_13 (by decide) (by decide) ?_
    refine E_aload_n (i := 3) dX8_factOf_132 rfl rfl ?_
    refine E_aload_n (i := 0) dX8_factOf_133 rfl rfl ?_
    refine E_gr dX8_factOf_134 gf_X8_12_8 rfl (by assumption) (by assumption) ?_
    refine k_X8_factOf_137_5 (mc' := 0) (ms' := 0) (rc := 0) (rs := 0) (by omega) (Nat.le_of_ble_eq_true rfl) hr (c_X5_rubs (by omega) s3 ?_)
    refine E_iret dX8_factOf_140 rfl ?_
    exact hΦ
theorem c_factOf_6 {B k i r f : Nat} {x y : Int32} (hd : 5 ≤ d) (hS : St g P B) (hO : WOK (I (B + 2))) (hk : I B 7 = nI k) (hk8 : k ≤ 8) (hi : i < k) (hx : x = nI i) (hy : y = nI f) (hf : f ≤ 8) (hp : P (B + 3) i = some r) (hr : Cel g r 6) (hΦ : Φ (some (.int (facC 6 I B r i f))) g P I) : MM Γ mX8_factOf d 0 0 [.ref B, .int x, .int y] g P I Φ := by
  refine MM_entry [some _, some _, some _, none] (by decide) (Nat.le_of_ble_eq_true rfl) rfl ?_
  have s1 := hS.c
  have s2 := hS.wp
  have s3 := hS.wi
  have s4 := s3.1
  obtain ⟨p1, p2, p3⟩ := hS.pl
  obtain ⟨q1, q2, q3⟩ := hS.pa
  obtain ⟨t1, t2, t3⟩ := hS.ca
  obtain ⟨u1, v2, u3⟩ := hS.in
  unfold facC at hΦ
  rcases (show f = 0 ∨ f = 1 ∨ f = 2 ∨ f = 3 ∨ f = 4 ∨ f = 5 ∨ f = 6 ∨ f = 7 ∨ f = 8 by omega) with rfl | rfl | rfl | rfl | rfl | rfl | rfl | rfl | rfl
  · subst hy
    have hΦ := hΦ
    rw [if_pos rfl] at hΦ
    refine E_aload_n (i := 0) dX8_factOf_0 rfl rfl ?_
    refine E_iload_n (i := 1) dX8_factOf_1 rfl rfl ?_
    refine k_X8_factOf_2 (mc' := 0) (ms' := 0) (rc := 0) (rs := 0) (by omega) (Nat.le_of_ble_eq_true rfl) (by assumption) (c_rideAt_in (by omega) hS hk hk8 hi hx hp ?_)
    refine E_astore_nC (i := 3) dX8_factOf_5 rfl (by decide) rfl ?_
    refine E_lv (lv' := [_, _, _, _]) rfl ?_
    refine E_aload_n (i := 3) dX8_factOf_6 rfl rfl ?_
    refine E_ifnonnull (tgt := 12) dX8_factOf_7 (by decide) ?_
    refine E_iload_n (i := 2) dX8_factOf_12 rfl rfl ?_
    refine E_tswIn (tgt := 60) dX8_factOf_13 (by decide) (by decide) rfl (by decide) ?_
    refine E_aload_n (i := 3) dX8_factOf_60 rfl rfl ?_
    refine E_gi dX8_factOf_61 gf_X8_109_6 rfl hr ?_
    refine E_iret dX8_factOf_64 rfl ?_
    exact hΦ
  · subst hy
    have hΦ := hΦ
    rw [if_neg (show ¬ (1 : Nat) = 0 by decide), if_pos rfl] at hΦ
    refine E_aload_n (i := 0) dX8_factOf_0 rfl rfl ?_
    refine E_iload_n (i := 1) dX8_factOf_1 rfl rfl ?_
    refine k_X8_factOf_2 (mc' := 0) (ms' := 0) (rc := 0) (rs := 0) (by omega) (Nat.le_of_ble_eq_true rfl) (by assumption) (c_rideAt_in (by omega) hS hk hk8 hi hx hp ?_)
    refine E_astore_nC (i := 3) dX8_factOf_5 rfl (by decide) rfl ?_
    refine E_lv (lv' := [_, _, _, _]) rfl ?_
    refine E_aload_n (i := 3) dX8_factOf_6 rfl rfl ?_
    refine E_ifnonnull (tgt := 12) dX8_factOf_7 (by decide) ?_
    refine E_iload_n (i := 2) dX8_factOf_12 rfl rfl ?_
    refine E_tswIn (tgt := 65) dX8_factOf_13 (by decide) (by decide) rfl (by decide) ?_
    refine E_aload_n (i := 3) dX8_factOf_65 rfl rfl ?_
    refine E_gi dX8_factOf_66 gf_X8_112_6 rfl hr ?_
    refine E_iret dX8_factOf_69 rfl ?_
    exact hΦ
  · subst hy
    have hΦ := hΦ
    rw [if_neg (show ¬ (2 : Nat) = 0 by decide), if_neg (show ¬ (2 : Nat) = 1 by decide), if_pos rfl] at hΦ
    refine E_aload_n (i := 0) dX8_factOf_0 rfl rfl ?_
    refine E_iload_n (i := 1) dX8_factOf_1 rfl rfl ?_
    refine k_X8_factOf_2 (mc' := 0) (ms' := 0) (rc := 0) (rs := 0) (by omega) (Nat.le_of_ble_eq_true rfl) (by assumption) (c_rideAt_in (by omega) hS hk hk8 hi hx hp ?_)
    refine E_astore_nC (i := 3) dX8_factOf_5 rfl (by decide) rfl ?_
    refine E_lv (lv' := [_, _, _, _]) rfl ?_
    refine E_aload_n (i := 3) dX8_factOf_6 rfl rfl ?_
    refine E_ifnonnull (tgt := 12) dX8_factOf_7 (by decide) ?_
    refine E_iload_n (i := 2) dX8_factOf_12 rfl rfl ?_
    refine E_tswIn (tgt := 70) dX8_factOf_13 (by decide) (by decide) rfl (by decide) ?_
    refine E_aload_n (i := 3) dX8_factOf_70 rfl rfl ?_
    refine E_gi dX8_factOf_71 gf_X8_115_6 rfl hr ?_
    refine E_iret dX8_factOf_74 rfl ?_
    exact hΦ
  · subst hy
    have hΦ := hΦ
    rw [if_neg (show ¬ (3 : Nat) = 0 by decide), if_neg (show ¬ (3 : Nat) = 1 by decide), if_neg (show ¬ (3 : Nat) = 2 by decide), if_pos rfl] at hΦ
    refine E_aload_n (i := 0) dX8_factOf_0 rfl rfl ?_
    refine E_iload_n (i := 1) dX8_factOf_1 rfl rfl ?_
    refine k_X8_factOf_2 (mc' := 0) (ms' := 0) (rc := 0) (rs := 0) (by omega) (Nat.le_of_ble_eq_true rfl) (by assumption) (c_rideAt_in (by omega) hS hk hk8 hi hx hp ?_)
    refine E_astore_nC (i := 3) dX8_factOf_5 rfl (by decide) rfl ?_
    refine E_lv (lv' := [_, _, _, _]) rfl ?_
    refine E_aload_n (i := 3) dX8_factOf_6 rfl rfl ?_
    refine E_ifnonnull (tgt := 12) dX8_factOf_7 (by decide) ?_
    refine E_iload_n (i := 2) dX8_factOf_12 rfl rfl ?_
    refine E_tswIn (tgt := 75) dX8_factOf_13 (by decide) (by decide) rfl (by decide) ?_
    refine E_aload_n (i := 0) dX8_factOf_75 rfl rfl ?_
    refine E_gr dX8_factOf_76 gf_X8_24_8 rfl (by assumption) (by assumption) ?_
    refine E_iload_n (i := 1) dX8_factOf_79 rfl rfl ?_
    refine E_iaj i dX8_factOf_80 (by assumption) hx (by omega) (by rw [p3]; omega) ?_
    refine E_iret dX8_factOf_81 rfl ?_
    exact hΦ
  · subst hy
    have hΦ := hΦ
    rw [if_neg (show ¬ (4 : Nat) = 0 by decide), if_neg (show ¬ (4 : Nat) = 1 by decide), if_neg (show ¬ (4 : Nat) = 2 by decide), if_neg (show ¬ (4 : Nat) = 3 by decide), if_pos rfl] at hΦ
    refine E_aload_n (i := 0) dX8_factOf_0 rfl rfl ?_
    refine E_iload_n (i := 1) dX8_factOf_1 rfl rfl ?_
    refine k_X8_factOf_2 (mc' := 0) (ms' := 0) (rc := 0) (rs := 0) (by omega) (Nat.le_of_ble_eq_true rfl) (by assumption) (c_rideAt_in (by omega) hS hk hk8 hi hx hp ?_)
    refine E_astore_nC (i := 3) dX8_factOf_5 rfl (by decide) rfl ?_
    refine E_lv (lv' := [_, _, _, _]) rfl ?_
    refine E_aload_n (i := 3) dX8_factOf_6 rfl rfl ?_
    refine E_ifnonnull (tgt := 12) dX8_factOf_7 (by decide) ?_
    refine E_iload_n (i := 2) dX8_factOf_12 rfl rfl ?_
    refine E_tswIn (tgt := 82) dX8_factOf_13 (by decide) (by decide) rfl (by decide) ?_
    refine E_aload_n (i := 0) dX8_factOf_82 rfl rfl ?_
    refine E_gr dX8_factOf_83 gf_X8_28_8 rfl (by assumption) (by assumption) ?_
    refine E_iload_n (i := 1) dX8_factOf_86 rfl rfl ?_
    refine E_iaj i dX8_factOf_87 (by assumption) hx (by omega) (by rw [q3]; omega) ?_
    refine E_iret dX8_factOf_88 rfl ?_
    exact hΦ
  · subst hy
    have hΦ := hΦ
    rw [if_neg (show ¬ (5 : Nat) = 0 by decide), if_neg (show ¬ (5 : Nat) = 1 by decide), if_neg (show ¬ (5 : Nat) = 2 by decide), if_neg (show ¬ (5 : Nat) = 3 by decide), if_neg (show ¬ (5 : Nat) = 4 by decide), if_pos rfl] at hΦ
    by_cases h7 : I (B + 7) i = 0
    · rw [bz_f (fun h => h h7)] at hΦ
      refine E_aload_n (i := 0) dX8_factOf_0 rfl rfl ?_
      refine E_iload_n (i := 1) dX8_factOf_1 rfl rfl ?_
      refine k_X8_factOf_2 (mc' := 0) (ms' := 0) (rc := 0) (rs := 0) (by omega) (Nat.le_of_ble_eq_true rfl) (by assumption) (c_rideAt_in (by omega) hS hk hk8 hi hx hp ?_)
      refine E_astore_nC (i := 3) dX8_factOf_5 rfl (by decide) rfl ?_
      refine E_lv (lv' := [_, _, _, _]) rfl ?_
      refine E_aload_n (i := 3) dX8_factOf_6 rfl rfl ?_
      refine E_ifnonnull (tgt := 12) dX8_factOf_7 (by decide) ?_
      refine E_iload_n (i := 2) dX8_factOf_12 rfl rfl ?_
      refine E_tswIn (tgt := 89) dX8_factOf_13 (by decide) (by decide) rfl (by decide) ?_
      refine E_aload_n (i := 0) dX8_factOf_89 rfl rfl ?_
      refine E_gr dX8_factOf_90 gf_X8_34_8 rfl (by assumption) (by assumption) ?_
      refine E_iload_n (i := 1) dX8_factOf_93 rfl rfl ?_
      refine E_zaj i dX8_factOf_94 (by assumption) hx (by omega) (by rw [u3]; omega) ?_
      refine E_if_eq (tgt := 102) dX8_factOf_95 (by decide) (fun c_95 => ?_) (fun c_95 => absurd (h7) c_95)
      refine E_iconst (v := 0) dX8_factOf_102 (by decide) ?_
      refine E_iret dX8_factOf_103 rfl ?_
      exact hΦ
    · rw [bz_t h7] at hΦ
      refine E_aload_n (i := 0) dX8_factOf_0 rfl rfl ?_
      refine E_iload_n (i := 1) dX8_factOf_1 rfl rfl ?_
      refine k_X8_factOf_2 (mc' := 0) (ms' := 0) (rc := 0) (rs := 0) (by omega) (Nat.le_of_ble_eq_true rfl) (by assumption) (c_rideAt_in (by omega) hS hk hk8 hi hx hp ?_)
      refine E_astore_nC (i := 3) dX8_factOf_5 rfl (by decide) rfl ?_
      refine E_lv (lv' := [_, _, _, _]) rfl ?_
      refine E_aload_n (i := 3) dX8_factOf_6 rfl rfl ?_
      refine E_ifnonnull (tgt := 12) dX8_factOf_7 (by decide) ?_
      refine E_iload_n (i := 2) dX8_factOf_12 rfl rfl ?_
      refine E_tswIn (tgt := 89) dX8_factOf_13 (by decide) (by decide) rfl (by decide) ?_
      refine E_aload_n (i := 0) dX8_factOf_89 rfl rfl ?_
      refine E_gr dX8_factOf_90 gf_X8_34_8 rfl (by assumption) (by assumption) ?_
      refine E_iload_n (i := 1) dX8_factOf_93 rfl rfl ?_
      refine E_zaj i dX8_factOf_94 (by assumption) hx (by omega) (by rw [u3]; omega) ?_
      refine E_if_eq (tgt := 102) dX8_factOf_95 (by decide) (fun c_95 => absurd c_95 (h7)) (fun c_95 => ?_)
      refine E_iconst (v := 1) dX8_factOf_98 (by decide) ?_
      refine E_goto (tgt := 103) dX8_factOf_99 (by decide) ?_
      refine E_iret dX8_factOf_103 rfl ?_
      exact hΦ
  · subst hy
    have hΦ := hΦ
    rw [if_neg (show ¬ (6 : Nat) = 0 by decide), if_neg (show ¬ (6 : Nat) = 1 by decide), if_neg (show ¬ (6 : Nat) = 2 by decide), if_neg (show ¬ (6 : Nat) = 3 by decide), if_neg (show ¬ (6 : Nat) = 4 by decide), if_neg (show ¬ (6 : Nat) = 5 by decide), if_pos rfl] at hΦ
    refine E_aload_n (i := 0) dX8_factOf_0 rfl rfl ?_
    refine E_iload_n (i := 1) dX8_factOf_1 rfl rfl ?_
    refine k_X8_factOf_2 (mc' := 0) (ms' := 0) (rc := 0) (rs := 0) (by omega) (Nat.le_of_ble_eq_true rfl) (by assumption) (c_rideAt_in (by omega) hS hk hk8 hi hx hp ?_)
    refine E_astore_nC (i := 3) dX8_factOf_5 rfl (by decide) rfl ?_
    refine E_lv (lv' := [_, _, _, _]) rfl ?_
    refine E_aload_n (i := 3) dX8_factOf_6 rfl rfl ?_
    refine E_ifnonnull (tgt := 12) dX8_factOf_7 (by decide) ?_
    refine E_iload_n (i := 2) dX8_factOf_12 rfl rfl ?_
    refine E_tswIn (tgt := 104) dX8_factOf_13 (by decide) (by decide) rfl (by decide) ?_
    refine E_aload_n (i := 0) dX8_factOf_104 rfl rfl ?_
    refine E_gr dX8_factOf_105 gf_X8_31_8 rfl (by assumption) (by assumption) ?_
    refine E_iload_n (i := 1) dX8_factOf_108 rfl rfl ?_
    refine E_iaj i dX8_factOf_109 (by assumption) hx (by omega) (by rw [t3]; omega) ?_
    refine E_iret dX8_factOf_110 rfl ?_
    exact hΦ
  · subst hy
    have hΦ := hΦ
    rw [if_neg (show ¬ (7 : Nat) = 0 by decide), if_neg (show ¬ (7 : Nat) = 1 by decide), if_neg (show ¬ (7 : Nat) = 2 by decide), if_neg (show ¬ (7 : Nat) = 3 by decide), if_neg (show ¬ (7 : Nat) = 4 by decide), if_neg (show ¬ (7 : Nat) = 5 by decide), if_neg (show ¬ (7 : Nat) = 6 by decide), if_pos rfl] at hΦ
    refine E_aload_n (i := 0) dX8_factOf_0 rfl rfl ?_
    refine E_iload_n (i := 1) dX8_factOf_1 rfl rfl ?_
    refine k_X8_factOf_2 (mc' := 0) (ms' := 0) (rc := 0) (rs := 0) (by omega) (Nat.le_of_ble_eq_true rfl) (by assumption) (c_rideAt_in (by omega) hS hk hk8 hi hx hp ?_)
    refine E_astore_nC (i := 3) dX8_factOf_5 rfl (by decide) rfl ?_
    refine E_lv (lv' := [_, _, _, _]) rfl ?_
    refine E_aload_n (i := 3) dX8_factOf_6 rfl rfl ?_
    refine E_ifnonnull (tgt := 12) dX8_factOf_7 (by decide) ?_
    refine E_iload_n (i := 2) dX8_factOf_12 rfl rfl ?_
    refine E_tswIn (tgt := 111) dX8_factOf_13 (by decide) (by decide) rfl (by decide) ?_
    refine E_aload_n (i := 3) dX8_factOf_111 rfl rfl ?_
    refine E_aload_n (i := 0) dX8_factOf_112 rfl rfl ?_
    refine E_gr dX8_factOf_113 gf_X8_12_8 rfl (by assumption) (by assumption) ?_
    refine E_aload_n (i := 0) dX8_factOf_116 rfl rfl ?_
    refine E_gr dX8_factOf_117 gf_X8_24_8 rfl (by assumption) (by assumption) ?_
    refine E_iload_n (i := 1) dX8_factOf_120 rfl rfl ?_
    refine E_iaj i dX8_factOf_121 (by assumption) hx (by omega) (by rw [p3]; omega) ?_
    refine E_aload_n (i := 0) dX8_factOf_122 rfl rfl ?_
    refine E_gr dX8_factOf_123 gf_X8_28_8 rfl (by assumption) (by assumption) ?_
    refine E_iload_n (i := 1) dX8_factOf_126 rfl rfl ?_
    refine E_iaj i dX8_factOf_127 (by assumption) hx (by omega) (by rw [q3]; omega) ?_
    refine k_X8_factOf_128_6 (mc' := 0) (ms' := 0) (rc := 0) (rs := 0) (by omega) (Nat.le_of_ble_eq_true rfl) hr (c_X5_gain_6 (by omega) hr s3 hO ?_)
    refine E_iret dX8_factOf_131 rfl ?_
    exact hΦ
  · subst hy
    have hΦ := hΦ
    rw [if_neg (show ¬ (8 : Nat) = 0 by decide), if_neg (show ¬ (8 : Nat) = 1 by decide), if_neg (show ¬ (8 : Nat) = 2 by decide), if_neg (show ¬ (8 : Nat) = 3 by decide), if_neg (show ¬ (8 : Nat) = 4 by decide), if_neg (show ¬ (8 : Nat) = 5 by decide), if_neg (show ¬ (8 : Nat) = 6 by decide), if_neg (show ¬ (8 : Nat) = 7 by decide)] at hΦ
    unfold rbc at hΦ
    rw [if_neg (by decide)] at hΦ
    refine E_aload_n (i := 0) dX8_factOf_0 rfl rfl ?_
    refine E_iload_n (i := 1) dX8_factOf_1 rfl rfl ?_
    refine k_X8_factOf_2 (mc' := 0) (ms' := 0) (rc := 0) (rs := 0) (by omega) (Nat.le_of_ble_eq_true rfl) (by assumption) (c_rideAt_in (by omega) hS hk hk8 hi hx hp ?_)
    refine E_astore_nC (i := 3) dX8_factOf_5 rfl (by decide) rfl ?_
    refine E_lv (lv' := [_, _, _, _]) rfl ?_
    refine E_aload_n (i := 3) dX8_factOf_6 rfl rfl ?_
    refine E_ifnonnull (tgt := 12) dX8_factOf_7 (by decide) ?_
    refine E_iload_n (i := 2) dX8_factOf_12 rfl rfl ?_
    refine E_tswOut (tgt := 132) dX8_factOf_13 (by decide) (by decide) ?_
    refine E_aload_n (i := 3) dX8_factOf_132 rfl rfl ?_
    refine E_aload_n (i := 0) dX8_factOf_133 rfl rfl ?_
    refine E_gr dX8_factOf_134 gf_X8_12_8 rfl (by assumption) (by assumption) ?_
    refine k_X8_factOf_137_6 (mc' := 0) (ms' := 0) (rc := 0) (rs := 0) (by omega) (Nat.le_of_ble_eq_true rfl) hr (c_X5_rubs (by omega) s3 ?_)
    refine E_iret dX8_factOf_140 rfl ?_
    exact hΦ
theorem c_factOf_2 {B k i r f : Nat} {x y : Int32} (hd : 5 ≤ d) (hS : St g P B) (hO : WOK (I (B + 2))) (hk : I B 7 = nI k) (hk8 : k ≤ 8) (hi : i < k) (hx : x = nI i) (hy : y = nI f) (hf : f ≤ 8) (hp : P (B + 3) i = some r) (hr : Cel g r 2) (hΦ : Φ (some (.int (facC 2 I B r i f))) g P I) : MM Γ mX8_factOf d 0 0 [.ref B, .int x, .int y] g P I Φ := by
  refine MM_entry [some _, some _, some _, none] (by decide) (Nat.le_of_ble_eq_true rfl) rfl ?_
  have s1 := hS.c
  have s2 := hS.wp
  have s3 := hS.wi
  have s4 := s3.1
  obtain ⟨p1, p2, p3⟩ := hS.pl
  obtain ⟨q1, q2, q3⟩ := hS.pa
  obtain ⟨t1, t2, t3⟩ := hS.ca
  obtain ⟨u1, v2, u3⟩ := hS.in
  unfold facC at hΦ
  rcases (show f = 0 ∨ f = 1 ∨ f = 2 ∨ f = 3 ∨ f = 4 ∨ f = 5 ∨ f = 6 ∨ f = 7 ∨ f = 8 by omega) with rfl | rfl | rfl | rfl | rfl | rfl | rfl | rfl | rfl
  · subst hy
    have hΦ := hΦ
    rw [if_pos rfl] at hΦ
    refine E_aload_n (i := 0) dX8_factOf_0 rfl rfl ?_
    refine E_iload_n (i := 1) dX8_factOf_1 rfl rfl ?_
    refine k_X8_factOf_2 (mc' := 0) (ms' := 0) (rc := 0) (rs := 0) (by omega) (Nat.le_of_ble_eq_true rfl) (by assumption) (c_rideAt_in (by omega) hS hk hk8 hi hx hp ?_)
    refine E_astore_nC (i := 3) dX8_factOf_5 rfl (by decide) rfl ?_
    refine E_lv (lv' := [_, _, _, _]) rfl ?_
    refine E_aload_n (i := 3) dX8_factOf_6 rfl rfl ?_
    refine E_ifnonnull (tgt := 12) dX8_factOf_7 (by decide) ?_
    refine E_iload_n (i := 2) dX8_factOf_12 rfl rfl ?_
    refine E_tswIn (tgt := 60) dX8_factOf_13 (by decide) (by decide) rfl (by decide) ?_
    refine E_aload_n (i := 3) dX8_factOf_60 rfl rfl ?_
    refine E_gi dX8_factOf_61 gf_X8_109_2 rfl hr ?_
    refine E_iret dX8_factOf_64 rfl ?_
    exact hΦ
  · subst hy
    have hΦ := hΦ
    rw [if_neg (show ¬ (1 : Nat) = 0 by decide), if_pos rfl] at hΦ
    refine E_aload_n (i := 0) dX8_factOf_0 rfl rfl ?_
    refine E_iload_n (i := 1) dX8_factOf_1 rfl rfl ?_
    refine k_X8_factOf_2 (mc' := 0) (ms' := 0) (rc := 0) (rs := 0) (by omega) (Nat.le_of_ble_eq_true rfl) (by assumption) (c_rideAt_in (by omega) hS hk hk8 hi hx hp ?_)
    refine E_astore_nC (i := 3) dX8_factOf_5 rfl (by decide) rfl ?_
    refine E_lv (lv' := [_, _, _, _]) rfl ?_
    refine E_aload_n (i := 3) dX8_factOf_6 rfl rfl ?_
    refine E_ifnonnull (tgt := 12) dX8_factOf_7 (by decide) ?_
    refine E_iload_n (i := 2) dX8_factOf_12 rfl rfl ?_
    refine E_tswIn (tgt := 65) dX8_factOf_13 (by decide) (by decide) rfl (by decide) ?_
    refine E_aload_n (i := 3) dX8_factOf_65 rfl rfl ?_
    refine E_gi dX8_factOf_66 gf_X8_112_2 rfl hr ?_
    refine E_iret dX8_factOf_69 rfl ?_
    exact hΦ
  · subst hy
    have hΦ := hΦ
    rw [if_neg (show ¬ (2 : Nat) = 0 by decide), if_neg (show ¬ (2 : Nat) = 1 by decide), if_pos rfl] at hΦ
    refine E_aload_n (i := 0) dX8_factOf_0 rfl rfl ?_
    refine E_iload_n (i := 1) dX8_factOf_1 rfl rfl ?_
    refine k_X8_factOf_2 (mc' := 0) (ms' := 0) (rc := 0) (rs := 0) (by omega) (Nat.le_of_ble_eq_true rfl) (by assumption) (c_rideAt_in (by omega) hS hk hk8 hi hx hp ?_)
    refine E_astore_nC (i := 3) dX8_factOf_5 rfl (by decide) rfl ?_
    refine E_lv (lv' := [_, _, _, _]) rfl ?_
    refine E_aload_n (i := 3) dX8_factOf_6 rfl rfl ?_
    refine E_ifnonnull (tgt := 12) dX8_factOf_7 (by decide) ?_
    refine E_iload_n (i := 2) dX8_factOf_12 rfl rfl ?_
    refine E_tswIn (tgt := 70) dX8_factOf_13 (by decide) (by decide) rfl (by decide) ?_
    refine E_aload_n (i := 3) dX8_factOf_70 rfl rfl ?_
    refine E_gi dX8_factOf_71 gf_X8_115_2 rfl hr ?_
    refine E_iret dX8_factOf_74 rfl ?_
    exact hΦ
  · subst hy
    have hΦ := hΦ
    rw [if_neg (show ¬ (3 : Nat) = 0 by decide), if_neg (show ¬ (3 : Nat) = 1 by decide), if_neg (show ¬ (3 : Nat) = 2 by decide), if_pos rfl] at hΦ
    refine E_aload_n (i := 0) dX8_factOf_0 rfl rfl ?_
    refine E_iload_n (i := 1) dX8_factOf_1 rfl rfl ?_
    refine k_X8_factOf_2 (mc' := 0) (ms' := 0) (rc := 0) (rs := 0) (by omega) (Nat.le_of_ble_eq_true rfl) (by assumption) (c_rideAt_in (by omega) hS hk hk8 hi hx hp ?_)
    refine E_astore_nC (i := 3) dX8_factOf_5 rfl (by decide) rfl ?_
    refine E_lv (lv' := [_, _, _, _]) rfl ?_
    refine E_aload_n (i := 3) dX8_factOf_6 rfl rfl ?_
    refine E_ifnonnull (tgt := 12) dX8_factOf_7 (by decide) ?_
    refine E_iload_n (i := 2) dX8_factOf_12 rfl rfl ?_
    refine E_tswIn (tgt := 75) dX8_factOf_13 (by decide) (by decide) rfl (by decide) ?_
    refine E_aload_n (i := 0) dX8_factOf_75 rfl rfl ?_
    refine E_gr dX8_factOf_76 gf_X8_24_8 rfl (by assumption) (by assumption) ?_
    refine E_iload_n (i := 1) dX8_factOf_79 rfl rfl ?_
    refine E_iaj i dX8_factOf_80 (by assumption) hx (by omega) (by rw [p3]; omega) ?_
    refine E_iret dX8_factOf_81 rfl ?_
    exact hΦ
  · subst hy
    have hΦ := hΦ
    rw [if_neg (show ¬ (4 : Nat) = 0 by decide), if_neg (show ¬ (4 : Nat) = 1 by decide), if_neg (show ¬ (4 : Nat) = 2 by decide), if_neg (show ¬ (4 : Nat) = 3 by decide), if_pos rfl] at hΦ
    refine E_aload_n (i := 0) dX8_factOf_0 rfl rfl ?_
    refine E_iload_n (i := 1) dX8_factOf_1 rfl rfl ?_
    refine k_X8_factOf_2 (mc' := 0) (ms' := 0) (rc := 0) (rs := 0) (by omega) (Nat.le_of_ble_eq_true rfl) (by assumption) (c_rideAt_in (by omega) hS hk hk8 hi hx hp ?_)
    refine E_astore_nC (i := 3) dX8_factOf_5 rfl (by decide) rfl ?_
    refine E_lv (lv' := [_, _, _, _]) rfl ?_
    refine E_aload_n (i := 3) dX8_factOf_6 rfl rfl ?_
    refine E_ifnonnull (tgt := 12) dX8_factOf_7 (by decide) ?_
    refine E_iload_n (i := 2) dX8_factOf_12 rfl rfl ?_
    refine E_tswIn (tgt := 82) dX8_factOf_13 (by decide) (by decide) rfl (by decide) ?_
    refine E_aload_n (i := 0) dX8_factOf_82 rfl rfl ?_
    refine E_gr dX8_factOf_83 gf_X8_28_8 rfl (by assumption) (by assumption) ?_
    refine E_iload_n (i := 1) dX8_factOf_86 rfl rfl ?_
    refine E_iaj i dX8_factOf_87 (by assumption) hx (by omega) (by rw [q3]; omega) ?_
    refine E_iret dX8_factOf_88 rfl ?_
    exact hΦ
  · subst hy
    have hΦ := hΦ
    rw [if_neg (show ¬ (5 : Nat) = 0 by decide), if_neg (show ¬ (5 : Nat) = 1 by decide), if_neg (show ¬ (5 : Nat) = 2 by decide), if_neg (show ¬ (5 : Nat) = 3 by decide), if_neg (show ¬ (5 : Nat) = 4 by decide), if_pos rfl] at hΦ
    by_cases h7 : I (B + 7) i = 0
    · rw [bz_f (fun h => h h7)] at hΦ
      refine E_aload_n (i := 0) dX8_factOf_0 rfl rfl ?_
      refine E_iload_n (i := 1) dX8_factOf_1 rfl rfl ?_
      refine k_X8_factOf_2 (mc' := 0) (ms' := 0) (rc := 0) (rs := 0) (by omega) (Nat.le_of_ble_eq_true rfl) (by assumption) (c_rideAt_in (by omega) hS hk hk8 hi hx hp ?_)
      refine E_astore_nC (i := 3) dX8_factOf_5 rfl (by decide) rfl ?_
      refine E_lv (lv' := [_, _, _, _]) rfl ?_
      refine E_aload_n (i := 3) dX8_factOf_6 rfl rfl ?_
      refine E_ifnonnull (tgt := 12) dX8_factOf_7 (by decide) ?_
      refine E_iload_n (i := 2) dX8_factOf_12 rfl rfl ?_
      refine E_tswIn (tgt := 89) dX8_factOf_13 (by decide) (by decide) rfl (by decide) ?_
      refine E_aload_n (i := 0) dX8_factOf_89 rfl rfl ?_
      refine E_gr dX8_factOf_90 gf_X8_34_8 rfl (by assumption) (by assumption) ?_
      refine E_iload_n (i := 1) dX8_factOf_93 rfl rfl ?_
      refine E_zaj i dX8_factOf_94 (by assumption) hx (by omega) (by rw [u3]; omega) ?_
      refine E_if_eq (tgt := 102) dX8_factOf_95 (by decide) (fun c_95 => ?_) (fun c_95 => absurd (h7) c_95)
      refine E_iconst (v := 0) dX8_factOf_102 (by decide) ?_
      refine E_iret dX8_factOf_103 rfl ?_
      exact hΦ
    · rw [bz_t h7] at hΦ
      refine E_aload_n (i := 0) dX8_factOf_0 rfl rfl ?_
      refine E_iload_n (i := 1) dX8_factOf_1 rfl rfl ?_
      refine k_X8_factOf_2 (mc' := 0) (ms' := 0) (rc := 0) (rs := 0) (by omega) (Nat.le_of_ble_eq_true rfl) (by assumption) (c_rideAt_in (by omega) hS hk hk8 hi hx hp ?_)
      refine E_astore_nC (i := 3) dX8_factOf_5 rfl (by decide) rfl ?_
      refine E_lv (lv' := [_, _, _, _]) rfl ?_
      refine E_aload_n (i := 3) dX8_factOf_6 rfl rfl ?_
      refine E_ifnonnull (tgt := 12) dX8_factOf_7 (by decide) ?_
      refine E_iload_n (i := 2) dX8_factOf_12 rfl rfl ?_
      refine E_tswIn (tgt := 89) dX8_factOf_13 (by decide) (by decide) rfl (by decide) ?_
      refine E_aload_n (i := 0) dX8_factOf_89 rfl rfl ?_
      refine E_gr dX8_factOf_90 gf_X8_34_8 rfl (by assumption) (by assumption) ?_
      refine E_iload_n (i := 1) dX8_factOf_93 rfl rfl ?_
      refine E_zaj i dX8_factOf_94 (by assumption) hx (by omega) (by rw [u3]; omega) ?_
      refine E_if_eq (tgt := 102) dX8_factOf_95 (by decide) (fun c_95 => absurd c_95 (h7)) (fun c_95 => ?_)
      refine E_iconst (v := 1) dX8_factOf_98 (by decide) ?_
      refine E_goto (tgt := 103) dX8_factOf_99 (by decide) ?_
      refine E_iret dX8_factOf_103 rfl ?_
      exact hΦ
  · subst hy
    have hΦ := hΦ
    rw [if_neg (show ¬ (6 : Nat) = 0 by decide), if_neg (show ¬ (6 : Nat) = 1 by decide), if_neg (show ¬ (6 : Nat) = 2 by decide), if_neg (show ¬ (6 : Nat) = 3 by decide), if_neg (show ¬ (6 : Nat) = 4 by decide), if_neg (show ¬ (6 : Nat) = 5 by decide), if_pos rfl] at hΦ
    refine E_aload_n (i := 0) dX8_factOf_0 rfl rfl ?_
    refine E_iload_n (i := 1) dX8_factOf_1 rfl rfl ?_
    refine k_X8_factOf_2 (mc' := 0) (ms' := 0) (rc := 0) (rs := 0) (by omega) (Nat.le_of_ble_eq_true rfl) (by assumption) (c_rideAt_in (by omega) hS hk hk8 hi hx hp ?_)
    refine E_astore_nC (i := 3) dX8_factOf_5 rfl (by decide) rfl ?_
    refine E_lv (lv' := [_, _, _, _]) rfl ?_
    refine E_aload_n (i := 3) dX8_factOf_6 rfl rfl ?_
    refine E_ifnonnull (tgt := 12) dX8_factOf_7 (by decide) ?_
    refine E_iload_n (i := 2) dX8_factOf_12 rfl rfl ?_
    refine E_tswIn (tgt := 104) dX8_factOf_13 (by decide) (by decide) rfl (by decide) ?_
    refine E_aload_n (i := 0) dX8_factOf_104 rfl rfl ?_
    refine E_gr dX8_factOf_105 gf_X8_31_8 rfl (by assumption) (by assumption) ?_
    refine E_iload_n (i := 1) dX8_factOf_108 rfl rfl ?_
    refine E_iaj i dX8_factOf_109 (by assumption) hx (by omega) (by rw [t3]; omega) ?_
    refine E_iret dX8_factOf_110 rfl ?_
    exact hΦ
  · subst hy
    have hΦ := hΦ
    rw [if_neg (show ¬ (7 : Nat) = 0 by decide), if_neg (show ¬ (7 : Nat) = 1 by decide), if_neg (show ¬ (7 : Nat) = 2 by decide), if_neg (show ¬ (7 : Nat) = 3 by decide), if_neg (show ¬ (7 : Nat) = 4 by decide), if_neg (show ¬ (7 : Nat) = 5 by decide), if_neg (show ¬ (7 : Nat) = 6 by decide), if_pos rfl] at hΦ
    refine E_aload_n (i := 0) dX8_factOf_0 rfl rfl ?_
    refine E_iload_n (i := 1) dX8_factOf_1 rfl rfl ?_
    refine k_X8_factOf_2 (mc' := 0) (ms' := 0) (rc := 0) (rs := 0) (by omega) (Nat.le_of_ble_eq_true rfl) (by assumption) (c_rideAt_in (by omega) hS hk hk8 hi hx hp ?_)
    refine E_astore_nC (i := 3) dX8_factOf_5 rfl (by decide) rfl ?_
    refine E_lv (lv' := [_, _, _, _]) rfl ?_
    refine E_aload_n (i := 3) dX8_factOf_6 rfl rfl ?_
    refine E_ifnonnull (tgt := 12) dX8_factOf_7 (by decide) ?_
    refine E_iload_n (i := 2) dX8_factOf_12 rfl rfl ?_
    refine E_tswIn (tgt := 111) dX8_factOf_13 (by decide) (by decide) rfl (by decide) ?_
    refine E_aload_n (i := 3) dX8_factOf_111 rfl rfl ?_
    refine E_aload_n (i := 0) dX8_factOf_112 rfl rfl ?_
    refine E_gr dX8_factOf_113 gf_X8_12_8 rfl (by assumption) (by assumption) ?_
    refine E_aload_n (i := 0) dX8_factOf_116 rfl rfl ?_
    refine E_gr dX8_factOf_117 gf_X8_24_8 rfl (by assumption) (by assumption) ?_
    refine E_iload_n (i := 1) dX8_factOf_120 rfl rfl ?_
    refine E_iaj i dX8_factOf_121 (by assumption) hx (by omega) (by rw [p3]; omega) ?_
    refine E_aload_n (i := 0) dX8_factOf_122 rfl rfl ?_
    refine E_gr dX8_factOf_123 gf_X8_28_8 rfl (by assumption) (by assumption) ?_
    refine E_iload_n (i := 1) dX8_factOf_126 rfl rfl ?_
    refine E_iaj i dX8_factOf_127 (by assumption) hx (by omega) (by rw [q3]; omega) ?_
    refine k_X8_factOf_128_2 (mc' := 0) (ms' := 0) (rc := 0) (rs := 0) (by omega) (Nat.le_of_ble_eq_true rfl) hr (c_X5_gain_2 (by omega) hr s3 hO ?_)
    refine E_iret dX8_factOf_131 rfl ?_
    exact hΦ
  · subst hy
    have hΦ := hΦ
    rw [if_neg (show ¬ (8 : Nat) = 0 by decide), if_neg (show ¬ (8 : Nat) = 1 by decide), if_neg (show ¬ (8 : Nat) = 2 by decide), if_neg (show ¬ (8 : Nat) = 3 by decide), if_neg (show ¬ (8 : Nat) = 4 by decide), if_neg (show ¬ (8 : Nat) = 5 by decide), if_neg (show ¬ (8 : Nat) = 6 by decide), if_neg (show ¬ (8 : Nat) = 7 by decide)] at hΦ
    unfold rbc at hΦ
    rw [if_neg (by decide)] at hΦ
    refine E_aload_n (i := 0) dX8_factOf_0 rfl rfl ?_
    refine E_iload_n (i := 1) dX8_factOf_1 rfl rfl ?_
    refine k_X8_factOf_2 (mc' := 0) (ms' := 0) (rc := 0) (rs := 0) (by omega) (Nat.le_of_ble_eq_true rfl) (by assumption) (c_rideAt_in (by omega) hS hk hk8 hi hx hp ?_)
    refine E_astore_nC (i := 3) dX8_factOf_5 rfl (by decide) rfl ?_
    refine E_lv (lv' := [_, _, _, _]) rfl ?_
    refine E_aload_n (i := 3) dX8_factOf_6 rfl rfl ?_
    refine E_ifnonnull (tgt := 12) dX8_factOf_7 (by decide) ?_
    refine E_iload_n (i := 2) dX8_factOf_12 rfl rfl ?_
    refine E_tswOut (tgt := 132) dX8_factOf_13 (by decide) (by decide) ?_
    refine E_aload_n (i := 3) dX8_factOf_132 rfl rfl ?_
    refine E_aload_n (i := 0) dX8_factOf_133 rfl rfl ?_
    refine E_gr dX8_factOf_134 gf_X8_12_8 rfl (by assumption) (by assumption) ?_
    refine k_X8_factOf_137_2 (mc' := 0) (ms' := 0) (rc := 0) (rs := 0) (by omega) (Nat.le_of_ble_eq_true rfl) hr (c_X5_rubs (by omega) s3 ?_)
    refine E_iret dX8_factOf_140 rfl ?_
    exact hΦ
theorem c_factOf_0 {B k i r f : Nat} {x y : Int32} (hd : 5 ≤ d) (hS : St g P B) (hO : WOK (I (B + 2))) (hk : I B 7 = nI k) (hk8 : k ≤ 8) (hi : i < k) (hx : x = nI i) (hy : y = nI f) (hf : f ≤ 8) (hp : P (B + 3) i = some r) (hr : Cel g r 0) (hΦ : Φ (some (.int (facC 0 I B r i f))) g P I) : MM Γ mX8_factOf d 0 0 [.ref B, .int x, .int y] g P I Φ := by
  refine MM_entry [some _, some _, some _, none] (by decide) (Nat.le_of_ble_eq_true rfl) rfl ?_
  have s1 := hS.c
  have s2 := hS.wp
  have s3 := hS.wi
  have s4 := s3.1
  obtain ⟨p1, p2, p3⟩ := hS.pl
  obtain ⟨q1, q2, q3⟩ := hS.pa
  obtain ⟨t1, t2, t3⟩ := hS.ca
  obtain ⟨u1, v2, u3⟩ := hS.in
  unfold facC at hΦ
  rcases (show f = 0 ∨ f = 1 ∨ f = 2 ∨ f = 3 ∨ f = 4 ∨ f = 5 ∨ f = 6 ∨ f = 7 ∨ f = 8 by omega) with rfl | rfl | rfl | rfl | rfl | rfl | rfl | rfl | rfl
  · subst hy
    have hΦ := hΦ
    rw [if_pos rfl] at hΦ
    refine E_aload_n (i := 0) dX8_factOf_0 rfl rfl ?_
    refine E_iload_n (i := 1) dX8_factOf_1 rfl rfl ?_
    refine k_X8_factOf_2 (mc' := 0) (ms' := 0) (rc := 0) (rs := 0) (by omega) (Nat.le_of_ble_eq_true rfl) (by assumption) (c_rideAt_in (by omega) hS hk hk8 hi hx hp ?_)
    refine E_astore_nC (i := 3) dX8_factOf_5 rfl (by decide) rfl ?_
    refine E_lv (lv' := [_, _, _, _]) rfl ?_
    refine E_aload_n (i := 3) dX8_factOf_6 rfl rfl ?_
    refine E_ifnonnull (tgt := 12) dX8_factOf_7 (by decide) ?_
    refine E_iload_n (i := 2) dX8_factOf_12 rfl rfl ?_
    refine E_tswIn (tgt := 60) dX8_factOf_13 (by decide) (by decide) rfl (by decide) ?_
    refine E_aload_n (i := 3) dX8_factOf_60 rfl rfl ?_
    refine E_gi dX8_factOf_61 gf_X8_109_0 rfl hr ?_
    refine E_iret dX8_factOf_64 rfl ?_
    exact hΦ
  · subst hy
    have hΦ := hΦ
    rw [if_neg (show ¬ (1 : Nat) = 0 by decide), if_pos rfl] at hΦ
    refine E_aload_n (i := 0) dX8_factOf_0 rfl rfl ?_
    refine E_iload_n (i := 1) dX8_factOf_1 rfl rfl ?_
    refine k_X8_factOf_2 (mc' := 0) (ms' := 0) (rc := 0) (rs := 0) (by omega) (Nat.le_of_ble_eq_true rfl) (by assumption) (c_rideAt_in (by omega) hS hk hk8 hi hx hp ?_)
    refine E_astore_nC (i := 3) dX8_factOf_5 rfl (by decide) rfl ?_
    refine E_lv (lv' := [_, _, _, _]) rfl ?_
    refine E_aload_n (i := 3) dX8_factOf_6 rfl rfl ?_
    refine E_ifnonnull (tgt := 12) dX8_factOf_7 (by decide) ?_
    refine E_iload_n (i := 2) dX8_factOf_12 rfl rfl ?_
    refine E_tswIn (tgt := 65) dX8_factOf_13 (by decide) (by decide) rfl (by decide) ?_
    refine E_aload_n (i := 3) dX8_factOf_65 rfl rfl ?_
    refine E_gi dX8_factOf_66 gf_X8_112_0 rfl hr ?_
    refine E_iret dX8_factOf_69 rfl ?_
    exact hΦ
  · subst hy
    have hΦ := hΦ
    rw [if_neg (show ¬ (2 : Nat) = 0 by decide), if_neg (show ¬ (2 : Nat) = 1 by decide), if_pos rfl] at hΦ
    refine E_aload_n (i := 0) dX8_factOf_0 rfl rfl ?_
    refine E_iload_n (i := 1) dX8_factOf_1 rfl rfl ?_
    refine k_X8_factOf_2 (mc' := 0) (ms' := 0) (rc := 0) (rs := 0) (by omega) (Nat.le_of_ble_eq_true rfl) (by assumption) (c_rideAt_in (by omega) hS hk hk8 hi hx hp ?_)
    refine E_astore_nC (i := 3) dX8_factOf_5 rfl (by decide) rfl ?_
    refine E_lv (lv' := [_, _, _, _]) rfl ?_
    refine E_aload_n (i := 3) dX8_factOf_6 rfl rfl ?_
    refine E_ifnonnull (tgt := 12) dX8_factOf_7 (by decide) ?_
    refine E_iload_n (i := 2) dX8_factOf_12 rfl rfl ?_
    refine E_tswIn (tgt := 70) dX8_factOf_13 (by decide) (by decide) rfl (by decide) ?_
    refine E_aload_n (i := 3) dX8_factOf_70 rfl rfl ?_
    refine E_gi dX8_factOf_71 gf_X8_115_0 rfl hr ?_
    refine E_iret dX8_factOf_74 rfl ?_
    exact hΦ
  · subst hy
    have hΦ := hΦ
    rw [if_neg (show ¬ (3 : Nat) = 0 by decide), if_neg (show ¬ (3 : Nat) = 1 by decide), if_neg (show ¬ (3 : Nat) = 2 by decide), if_pos rfl] at hΦ
    refine E_aload_n (i := 0) dX8_factOf_0 rfl rfl ?_
    refine E_iload_n (i := 1) dX8_factOf_1 rfl rfl ?_
    refine k_X8_factOf_2 (mc' := 0) (ms' := 0) (rc := 0) (rs := 0) (by omega) (Nat.le_of_ble_eq_true rfl) (by assumption) (c_rideAt_in (by omega) hS hk hk8 hi hx hp ?_)
    refine E_astore_nC (i := 3) dX8_factOf_5 rfl (by decide) rfl ?_
    refine E_lv (lv' := [_, _, _, _]) rfl ?_
    refine E_aload_n (i := 3) dX8_factOf_6 rfl rfl ?_
    refine E_ifnonnull (tgt := 12) dX8_factOf_7 (by decide) ?_
    refine E_iload_n (i := 2) dX8_factOf_12 rfl rfl ?_
    refine E_tswIn (tgt := 75) dX8_factOf_13 (by decide) (by decide) rfl (by decide) ?_
    refine E_aload_n (i := 0) dX8_factOf_75 rfl rfl ?_
    refine E_gr dX8_factOf_76 gf_X8_24_8 rfl (by assumption) (by assumption) ?_
    refine E_iload_n (i := 1) dX8_factOf_79 rfl rfl ?_
    refine E_iaj i dX8_factOf_80 (by assumption) hx (by omega) (by rw [p3]; omega) ?_
    refine E_iret dX8_factOf_81 rfl ?_
    exact hΦ
  · subst hy
    have hΦ := hΦ
    rw [if_neg (show ¬ (4 : Nat) = 0 by decide), if_neg (show ¬ (4 : Nat) = 1 by decide), if_neg (show ¬ (4 : Nat) = 2 by decide), if_neg (show ¬ (4 : Nat) = 3 by decide), if_pos rfl] at hΦ
    refine E_aload_n (i := 0) dX8_factOf_0 rfl rfl ?_
    refine E_iload_n (i := 1) dX8_factOf_1 rfl rfl ?_
    refine k_X8_factOf_2 (mc' := 0) (ms' := 0) (rc := 0) (rs := 0) (by omega) (Nat.le_of_ble_eq_true rfl) (by assumption) (c_rideAt_in (by omega) hS hk hk8 hi hx hp ?_)
    refine E_astore_nC (i := 3) dX8_factOf_5 rfl (by decide) rfl ?_
    refine E_lv (lv' := [_, _, _, _]) rfl ?_
    refine E_aload_n (i := 3) dX8_factOf_6 rfl rfl ?_
    refine E_ifnonnull (tgt := 12) dX8_factOf_7 (by decide) ?_
    refine E_iload_n (i := 2) dX8_factOf_12 rfl rfl ?_
    refine E_tswIn (tgt := 82) dX8_factOf_13 (by decide) (by decide) rfl (by decide) ?_
    refine E_aload_n (i := 0) dX8_factOf_82 rfl rfl ?_
    refine E_gr dX8_factOf_83 gf_X8_28_8 rfl (by assumption) (by assumption) ?_
    refine E_iload_n (i := 1) dX8_factOf_86 rfl rfl ?_
    refine E_iaj i dX8_factOf_87 (by assumption) hx (by omega) (by rw [q3]; omega) ?_
    refine E_iret dX8_factOf_88 rfl ?_
    exact hΦ
  · subst hy
    have hΦ := hΦ
    rw [if_neg (show ¬ (5 : Nat) = 0 by decide), if_neg (show ¬ (5 : Nat) = 1 by decide), if_neg (show ¬ (5 : Nat) = 2 by decide), if_neg (show ¬ (5 : Nat) = 3 by decide), if_neg (show ¬ (5 : Nat) = 4 by decide), if_pos rfl] at hΦ
    by_cases h7 : I (B + 7) i = 0
    · rw [bz_f (fun h => h h7)] at hΦ
      refine E_aload_n (i := 0) dX8_factOf_0 rfl rfl ?_
      refine E_iload_n (i := 1) dX8_factOf_1 rfl rfl ?_
      refine k_X8_factOf_2 (mc' := 0) (ms' := 0) (rc := 0) (rs := 0) (by omega) (Nat.le_of_ble_eq_true rfl) (by assumption) (c_rideAt_in (by omega) hS hk hk8 hi hx hp ?_)
      refine E_astore_nC (i := 3) dX8_factOf_5 rfl (by decide) rfl ?_
      refine E_lv (lv' := [_, _, _, _]) rfl ?_
      refine E_aload_n (i := 3) dX8_factOf_6 rfl rfl ?_
      refine E_ifnonnull (tgt := 12) dX8_factOf_7 (by decide) ?_
      refine E_iload_n (i := 2) dX8_factOf_12 rfl rfl ?_
      refine E_tswIn (tgt := 89) dX8_factOf_13 (by decide) (by decide) rfl (by decide) ?_
      refine E_aload_n (i := 0) dX8_factOf_89 rfl rfl ?_
      refine E_gr dX8_factOf_90 gf_X8_34_8 rfl (by assumption) (by assumption) ?_
      refine E_iload_n (i := 1) dX8_factOf_93 rfl rfl ?_
      refine E_zaj i dX8_factOf_94 (by assumption) hx (by omega) (by rw [u3]; omega) ?_
      refine E_if_eq (tgt := 102) dX8_factOf_95 (by decide) (fun c_95 => ?_) (fun c_95 => absurd (h7) c_95)
      refine E_iconst (v := 0) dX8_factOf_102 (by decide) ?_
      refine E_iret dX8_factOf_103 rfl ?_
      exact hΦ
    · rw [bz_t h7] at hΦ
      refine E_aload_n (i := 0) dX8_factOf_0 rfl rfl ?_
      refine E_iload_n (i := 1) dX8_factOf_1 rfl rfl ?_
      refine k_X8_factOf_2 (mc' := 0) (ms' := 0) (rc := 0) (rs := 0) (by omega) (Nat.le_of_ble_eq_true rfl) (by assumption) (c_rideAt_in (by omega) hS hk hk8 hi hx hp ?_)
      refine E_astore_nC (i := 3) dX8_factOf_5 rfl (by decide) rfl ?_
      refine E_lv (lv' := [_, _, _, _]) rfl ?_
      refine E_aload_n (i := 3) dX8_factOf_6 rfl rfl ?_
      refine E_ifnonnull (tgt := 12) dX8_factOf_7 (by decide) ?_
      refine E_iload_n (i := 2) dX8_factOf_12 rfl rfl ?_
      refine E_tswIn (tgt := 89) dX8_factOf_13 (by decide) (by decide) rfl (by decide) ?_
      refine E_aload_n (i := 0) dX8_factOf_89 rfl rfl ?_
      refine E_gr dX8_factOf_90 gf_X8_34_8 rfl (by assumption) (by assumption) ?_
      refine E_iload_n (i := 1) dX8_factOf_93 rfl rfl ?_
      refine E_zaj i dX8_factOf_94 (by assumption) hx (by omega) (by rw [u3]; omega) ?_
      refine E_if_eq (tgt := 102) dX8_factOf_95 (by decide) (fun c_95 => absurd c_95 (h7)) (fun c_95 => ?_)
      refine E_iconst (v := 1) dX8_factOf_98 (by decide) ?_
      refine E_goto (tgt := 103) dX8_factOf_99 (by decide) ?_
      refine E_iret dX8_factOf_103 rfl ?_
      exact hΦ
  · subst hy
    have hΦ := hΦ
    rw [if_neg (show ¬ (6 : Nat) = 0 by decide), if_neg (show ¬ (6 : Nat) = 1 by decide), if_neg (show ¬ (6 : Nat) = 2 by decide), if_neg (show ¬ (6 : Nat) = 3 by decide), if_neg (show ¬ (6 : Nat) = 4 by decide), if_neg (show ¬ (6 : Nat) = 5 by decide), if_pos rfl] at hΦ
    refine E_aload_n (i := 0) dX8_factOf_0 rfl rfl ?_
    refine E_iload_n (i := 1) dX8_factOf_1 rfl rfl ?_
    refine k_X8_factOf_2 (mc' := 0) (ms' := 0) (rc := 0) (rs := 0) (by omega) (Nat.le_of_ble_eq_true rfl) (by assumption) (c_rideAt_in (by omega) hS hk hk8 hi hx hp ?_)
    refine E_astore_nC (i := 3) dX8_factOf_5 rfl (by decide) rfl ?_
    refine E_lv (lv' := [_, _, _, _]) rfl ?_
    refine E_aload_n (i := 3) dX8_factOf_6 rfl rfl ?_
    refine E_ifnonnull (tgt := 12) dX8_factOf_7 (by decide) ?_
    refine E_iload_n (i := 2) dX8_factOf_12 rfl rfl ?_
    refine E_tswIn (tgt := 104) dX8_factOf_13 (by decide) (by decide) rfl (by decide) ?_
    refine E_aload_n (i := 0) dX8_factOf_104 rfl rfl ?_
    refine E_gr dX8_factOf_105 gf_X8_31_8 rfl (by assumption) (by assumption) ?_
    refine E_iload_n (i := 1) dX8_factOf_108 rfl rfl ?_
    refine E_iaj i dX8_factOf_109 (by assumption) hx (by omega) (by rw [t3]; omega) ?_
    refine E_iret dX8_factOf_110 rfl ?_
    exact hΦ
  · subst hy
    have hΦ := hΦ
    rw [if_neg (show ¬ (7 : Nat) = 0 by decide), if_neg (show ¬ (7 : Nat) = 1 by decide), if_neg (show ¬ (7 : Nat) = 2 by decide), if_neg (show ¬ (7 : Nat) = 3 by decide), if_neg (show ¬ (7 : Nat) = 4 by decide), if_neg (show ¬ (7 : Nat) = 5 by decide), if_neg (show ¬ (7 : Nat) = 6 by decide), if_pos rfl] at hΦ
    refine E_aload_n (i := 0) dX8_factOf_0 rfl rfl ?_
    refine E_iload_n (i := 1) dX8_factOf_1 rfl rfl ?_
    refine k_X8_factOf_2 (mc' := 0) (ms' := 0) (rc := 0) (rs := 0) (by omega) (Nat.le_of_ble_eq_true rfl) (by assumption) (c_rideAt_in (by omega) hS hk hk8 hi hx hp ?_)
    refine E_astore_nC (i := 3) dX8_factOf_5 rfl (by decide) rfl ?_
    refine E_lv (lv' := [_, _, _, _]) rfl ?_
    refine E_aload_n (i := 3) dX8_factOf_6 rfl rfl ?_
    refine E_ifnonnull (tgt := 12) dX8_factOf_7 (by decide) ?_
    refine E_iload_n (i := 2) dX8_factOf_12 rfl rfl ?_
    refine E_tswIn (tgt := 111) dX8_factOf_13 (by decide) (by decide) rfl (by decide) ?_
    refine E_aload_n (i := 3) dX8_factOf_111 rfl rfl ?_
    refine E_aload_n (i := 0) dX8_factOf_112 rfl rfl ?_
    refine E_gr dX8_factOf_113 gf_X8_12_8 rfl (by assumption) (by assumption) ?_
    refine E_aload_n (i := 0) dX8_factOf_116 rfl rfl ?_
    refine E_gr dX8_factOf_117 gf_X8_24_8 rfl (by assumption) (by assumption) ?_
    refine E_iload_n (i := 1) dX8_factOf_120 rfl rfl ?_
    refine E_iaj i dX8_factOf_121 (by assumption) hx (by omega) (by rw [p3]; omega) ?_
    refine E_aload_n (i := 0) dX8_factOf_122 rfl rfl ?_
    refine E_gr dX8_factOf_123 gf_X8_28_8 rfl (by assumption) (by assumption) ?_
    refine E_iload_n (i := 1) dX8_factOf_126 rfl rfl ?_
    refine E_iaj i dX8_factOf_127 (by assumption) hx (by omega) (by rw [q3]; omega) ?_
    refine k_X8_factOf_128_0 (mc' := 0) (ms' := 0) (rc := 0) (rs := 0) (by omega) (Nat.le_of_ble_eq_true rfl) hr (c_X5_gain_0 (by omega) hr s3 hO ?_)
    refine E_iret dX8_factOf_131 rfl ?_
    exact hΦ
  · subst hy
    have hΦ := hΦ
    rw [if_neg (show ¬ (8 : Nat) = 0 by decide), if_neg (show ¬ (8 : Nat) = 1 by decide), if_neg (show ¬ (8 : Nat) = 2 by decide), if_neg (show ¬ (8 : Nat) = 3 by decide), if_neg (show ¬ (8 : Nat) = 4 by decide), if_neg (show ¬ (8 : Nat) = 5 by decide), if_neg (show ¬ (8 : Nat) = 6 by decide), if_neg (show ¬ (8 : Nat) = 7 by decide)] at hΦ
    unfold rbc at hΦ
    rw [if_neg (by decide)] at hΦ
    refine E_aload_n (i := 0) dX8_factOf_0 rfl rfl ?_
    refine E_iload_n (i := 1) dX8_factOf_1 rfl rfl ?_
    refine k_X8_factOf_2 (mc' := 0) (ms' := 0) (rc := 0) (rs := 0) (by omega) (Nat.le_of_ble_eq_true rfl) (by assumption) (c_rideAt_in (by omega) hS hk hk8 hi hx hp ?_)
    refine E_astore_nC (i := 3) dX8_factOf_5 rfl (by decide) rfl ?_
    refine E_lv (lv' := [_, _, _, _]) rfl ?_
    refine E_aload_n (i := 3) dX8_factOf_6 rfl rfl ?_
    refine E_ifnonnull (tgt := 12) dX8_factOf_7 (by decide) ?_
    refine E_iload_n (i := 2) dX8_factOf_12 rfl rfl ?_
    refine E_tswOut (tgt := 132) dX8_factOf_13 (by decide) (by decide) ?_
    refine E_aload_n (i := 3) dX8_factOf_132 rfl rfl ?_
    refine E_aload_n (i := 0) dX8_factOf_133 rfl rfl ?_
    refine E_gr dX8_factOf_134 gf_X8_12_8 rfl (by assumption) (by assumption) ?_
    refine k_X8_factOf_137_0 (mc' := 0) (ms' := 0) (rc := 0) (rs := 0) (by omega) (Nat.le_of_ble_eq_true rfl) hr (c_X5_rubs (by omega) s3 ?_)
    refine E_iret dX8_factOf_140 rfl ?_
    exact hΦ
theorem c_factOf_9 {B k i r f : Nat} {x y : Int32} (hd : 5 ≤ d) (hS : St g P B) (hO : WOK (I (B + 2))) (hk : I B 7 = nI k) (hk8 : k ≤ 8) (hi : i < k) (hx : x = nI i) (hy : y = nI f) (hf : f ≤ 8) (hp : P (B + 3) i = some r) (hr : Cel g r 9) (hΦ : Φ (some (.int (facC 9 I B r i f))) g P I) : MM Γ mX8_factOf d 0 0 [.ref B, .int x, .int y] g P I Φ := by
  refine MM_entry [some _, some _, some _, none] (by decide) (Nat.le_of_ble_eq_true rfl) rfl ?_
  have s1 := hS.c
  have s2 := hS.wp
  have s3 := hS.wi
  have s4 := s3.1
  obtain ⟨p1, p2, p3⟩ := hS.pl
  obtain ⟨q1, q2, q3⟩ := hS.pa
  obtain ⟨t1, t2, t3⟩ := hS.ca
  obtain ⟨u1, v2, u3⟩ := hS.in
  unfold facC at hΦ
  rcases (show f = 0 ∨ f = 1 ∨ f = 2 ∨ f = 3 ∨ f = 4 ∨ f = 5 ∨ f = 6 ∨ f = 7 ∨ f = 8 by omega) with rfl | rfl | rfl | rfl | rfl | rfl | rfl | rfl | rfl
  · subst hy
    have hΦ := hΦ
    rw [if_pos rfl] at hΦ
    refine E_aload_n (i := 0) dX8_factOf_0 rfl rfl ?_
    refine E_iload_n (i := 1) dX8_factOf_1 rfl rfl ?_
    refine k_X8_factOf_2 (mc' := 0) (ms' := 0) (rc := 0) (rs := 0) (by omega) (Nat.le_of_ble_eq_true rfl) (by assumption) (c_rideAt_in (by omega) hS hk hk8 hi hx hp ?_)
    refine E_astore_nC (i := 3) dX8_factOf_5 rfl (by decide) rfl ?_
    refine E_lv (lv' := [_, _, _, _]) rfl ?_
    refine E_aload_n (i := 3) dX8_factOf_6 rfl rfl ?_
    refine E_ifnonnull (tgt := 12) dX8_factOf_7 (by decide) ?_
    refine E_iload_n (i := 2) dX8_factOf_12 rfl rfl ?_
    refine E_tswIn (tgt := 60) dX8_factOf_13 (by decide) (by decide) rfl (by decide) ?_
    refine E_aload_n (i := 3) dX8_factOf_60 rfl rfl ?_
    refine E_gi dX8_factOf_61 gf_X8_109_9 rfl hr ?_
    refine E_iret dX8_factOf_64 rfl ?_
    exact hΦ
  · subst hy
    have hΦ := hΦ
    rw [if_neg (show ¬ (1 : Nat) = 0 by decide), if_pos rfl] at hΦ
    refine E_aload_n (i := 0) dX8_factOf_0 rfl rfl ?_
    refine E_iload_n (i := 1) dX8_factOf_1 rfl rfl ?_
    refine k_X8_factOf_2 (mc' := 0) (ms' := 0) (rc := 0) (rs := 0) (by omega) (Nat.le_of_ble_eq_true rfl) (by assumption) (c_rideAt_in (by omega) hS hk hk8 hi hx hp ?_)
    refine E_astore_nC (i := 3) dX8_factOf_5 rfl (by decide) rfl ?_
    refine E_lv (lv' := [_, _, _, _]) rfl ?_
    refine E_aload_n (i := 3) dX8_factOf_6 rfl rfl ?_
    refine E_ifnonnull (tgt := 12) dX8_factOf_7 (by decide) ?_
    refine E_iload_n (i := 2) dX8_factOf_12 rfl rfl ?_
    refine E_tswIn (tgt := 65) dX8_factOf_13 (by decide) (by decide) rfl (by decide) ?_
    refine E_aload_n (i := 3) dX8_factOf_65 rfl rfl ?_
    refine E_gi dX8_factOf_66 gf_X8_112_9 rfl hr ?_
    refine E_iret dX8_factOf_69 rfl ?_
    exact hΦ
  · subst hy
    have hΦ := hΦ
    rw [if_neg (show ¬ (2 : Nat) = 0 by decide), if_neg (show ¬ (2 : Nat) = 1 by decide), if_pos rfl] at hΦ
    refine E_aload_n (i := 0) dX8_factOf_0 rfl rfl ?_
    refine E_iload_n (i := 1) dX8_factOf_1 rfl rfl ?_
    refine k_X8_factOf_2 (mc' := 0) (ms' := 0) (rc := 0) (rs := 0) (by omega) (Nat.le_of_ble_eq_true rfl) (by assumption) (c_rideAt_in (by omega) hS hk hk8 hi hx hp ?_)
    refine E_astore_nC (i := 3) dX8_factOf_5 rfl (by decide) rfl ?_
    refine E_lv (lv' := [_, _, _, _]) rfl ?_
    refine E_aload_n (i := 3) dX8_factOf_6 rfl rfl ?_
    refine E_ifnonnull (tgt := 12) dX8_factOf_7 (by decide) ?_
    refine E_iload_n (i := 2) dX8_factOf_12 rfl rfl ?_
    refine E_tswIn (tgt := 70) dX8_factOf_13 (by decide) (by decide) rfl (by decide) ?_
    refine E_aload_n (i := 3) dX8_factOf_70 rfl rfl ?_
    refine E_gi dX8_factOf_71 gf_X8_115_9 rfl hr ?_
    refine E_iret dX8_factOf_74 rfl ?_
    exact hΦ
  · subst hy
    have hΦ := hΦ
    rw [if_neg (show ¬ (3 : Nat) = 0 by decide), if_neg (show ¬ (3 : Nat) = 1 by decide), if_neg (show ¬ (3 : Nat) = 2 by decide), if_pos rfl] at hΦ
    refine E_aload_n (i := 0) dX8_factOf_0 rfl rfl ?_
    refine E_iload_n (i := 1) dX8_factOf_1 rfl rfl ?_
    refine k_X8_factOf_2 (mc' := 0) (ms' := 0) (rc := 0) (rs := 0) (by omega) (Nat.le_of_ble_eq_true rfl) (by assumption) (c_rideAt_in (by omega) hS hk hk8 hi hx hp ?_)
    refine E_astore_nC (i := 3) dX8_factOf_5 rfl (by decide) rfl ?_
    refine E_lv (lv' := [_, _, _, _]) rfl ?_
    refine E_aload_n (i := 3) dX8_factOf_6 rfl rfl ?_
    refine E_ifnonnull (tgt := 12) dX8_factOf_7 (by decide) ?_
    refine E_iload_n (i := 2) dX8_factOf_12 rfl rfl ?_
    refine E_tswIn (tgt := 75) dX8_factOf_13 (by decide) (by decide) rfl (by decide) ?_
    refine E_aload_n (i := 0) dX8_factOf_75 rfl rfl ?_
    refine E_gr dX8_factOf_76 gf_X8_24_8 rfl (by assumption) (by assumption) ?_
    refine E_iload_n (i := 1) dX8_factOf_79 rfl rfl ?_
    refine E_iaj i dX8_factOf_80 (by assumption) hx (by omega) (by rw [p3]; omega) ?_
    refine E_iret dX8_factOf_81 rfl ?_
    exact hΦ
  · subst hy
    have hΦ := hΦ
    rw [if_neg (show ¬ (4 : Nat) = 0 by decide), if_neg (show ¬ (4 : Nat) = 1 by decide), if_neg (show ¬ (4 : Nat) = 2 by decide), if_neg (show ¬ (4 : Nat) = 3 by decide), if_pos rfl] at hΦ
    refine E_aload_n (i := 0) dX8_factOf_0 rfl rfl ?_
    refine E_iload_n (i := 1) dX8_factOf_1 rfl rfl ?_
    refine k_X8_factOf_2 (mc' := 0) (ms' := 0) (rc := 0) (rs := 0) (by omega) (Nat.le_of_ble_eq_true rfl) (by assumption) (c_rideAt_in (by omega) hS hk hk8 hi hx hp ?_)
    refine E_astore_nC (i := 3) dX8_factOf_5 rfl (by decide) rfl ?_
    refine E_lv (lv' := [_, _, _, _]) rfl ?_
    refine E_aload_n (i := 3) dX8_factOf_6 rfl rfl ?_
    refine E_ifnonnull (tgt := 12) dX8_factOf_7 (by decide) ?_
    refine E_iload_n (i := 2) dX8_factOf_12 rfl rfl ?_
    refine E_tswIn (tgt := 82) dX8_factOf_13 (by decide) (by decide) rfl (by decide) ?_
    refine E_aload_n (i := 0) dX8_factOf_82 rfl rfl ?_
    refine E_gr dX8_factOf_83 gf_X8_28_8 rfl (by assumption) (by assumption) ?_
    refine E_iload_n (i := 1) dX8_factOf_86 rfl rfl ?_
    refine E_iaj i dX8_factOf_87 (by assumption) hx (by omega) (by rw [q3]; omega) ?_
    refine E_iret dX8_factOf_88 rfl ?_
    exact hΦ
  · subst hy
    have hΦ := hΦ
    rw [if_neg (show ¬ (5 : Nat) = 0 by decide), if_neg (show ¬ (5 : Nat) = 1 by decide), if_neg (show ¬ (5 : Nat) = 2 by decide), if_neg (show ¬ (5 : Nat) = 3 by decide), if_neg (show ¬ (5 : Nat) = 4 by decide), if_pos rfl] at hΦ
    by_cases h7 : I (B + 7) i = 0
    · rw [bz_f (fun h => h h7)] at hΦ
      refine E_aload_n (i := 0) dX8_factOf_0 rfl rfl ?_
      refine E_iload_n (i := 1) dX8_factOf_1 rfl rfl ?_
      refine k_X8_factOf_2 (mc' := 0) (ms' := 0) (rc := 0) (rs := 0) (by omega) (Nat.le_of_ble_eq_true rfl) (by assumption) (c_rideAt_in (by omega) hS hk hk8 hi hx hp ?_)
      refine E_astore_nC (i := 3) dX8_factOf_5 rfl (by decide) rfl ?_
      refine E_lv (lv' := [_, _, _, _]) rfl ?_
      refine E_aload_n (i := 3) dX8_factOf_6 rfl rfl ?_
      refine E_ifnonnull (tgt := 12) dX8_factOf_7 (by decide) ?_
      refine E_iload_n (i := 2) dX8_factOf_12 rfl rfl ?_
      refine E_tswIn (tgt := 89) dX8_factOf_13 (by decide) (by decide) rfl (by decide) ?_
      refine E_aload_n (i := 0) dX8_factOf_89 rfl rfl ?_
      refine E_gr dX8_factOf_90 gf_X8_34_8 rfl (by assumption) (by assumption) ?_
      refine E_iload_n (i := 1) dX8_factOf_93 rfl rfl ?_
      refine E_zaj i dX8_factOf_94 (by assumption) hx (by omega) (by rw [u3]; omega) ?_
      refine E_if_eq (tgt := 102) dX8_factOf_95 (by decide) (fun c_95 => ?_) (fun c_95 => absurd (h7) c_95)
      refine E_iconst (v := 0) dX8_factOf_102 (by decide) ?_
      refine E_iret dX8_factOf_103 rfl ?_
      exact hΦ
    · rw [bz_t h7] at hΦ
      refine E_aload_n (i := 0) dX8_factOf_0 rfl rfl ?_
      refine E_iload_n (i := 1) dX8_factOf_1 rfl rfl ?_
      refine k_X8_factOf_2 (mc' := 0) (ms' := 0) (rc := 0) (rs := 0) (by omega) (Nat.le_of_ble_eq_true rfl) (by assumption) (c_rideAt_in (by omega) hS hk hk8 hi hx hp ?_)
      refine E_astore_nC (i := 3) dX8_factOf_5 rfl (by decide) rfl ?_
      refine E_lv (lv' := [_, _, _, _]) rfl ?_
      refine E_aload_n (i := 3) dX8_factOf_6 rfl rfl ?_
      refine E_ifnonnull (tgt := 12) dX8_factOf_7 (by decide) ?_
      refine E_iload_n (i := 2) dX8_factOf_12 rfl rfl ?_
      refine E_tswIn (tgt := 89) dX8_factOf_13 (by decide) (by decide) rfl (by decide) ?_
      refine E_aload_n (i := 0) dX8_factOf_89 rfl rfl ?_
      refine E_gr dX8_factOf_90 gf_X8_34_8 rfl (by assumption) (by assumption) ?_
      refine E_iload_n (i := 1) dX8_factOf_93 rfl rfl ?_
      refine E_zaj i dX8_factOf_94 (by assumption) hx (by omega) (by rw [u3]; omega) ?_
      refine E_if_eq (tgt := 102) dX8_factOf_95 (by decide) (fun c_95 => absurd c_95 (h7)) (fun c_95 => ?_)
      refine E_iconst (v := 1) dX8_factOf_98 (by decide) ?_
      refine E_goto (tgt := 103) dX8_factOf_99 (by decide) ?_
      refine E_iret dX8_factOf_103 rfl ?_
      exact hΦ
  · subst hy
    have hΦ := hΦ
    rw [if_neg (show ¬ (6 : Nat) = 0 by decide), if_neg (show ¬ (6 : Nat) = 1 by decide), if_neg (show ¬ (6 : Nat) = 2 by decide), if_neg (show ¬ (6 : Nat) = 3 by decide), if_neg (show ¬ (6 : Nat) = 4 by decide), if_neg (show ¬ (6 : Nat) = 5 by decide), if_pos rfl] at hΦ
    refine E_aload_n (i := 0) dX8_factOf_0 rfl rfl ?_
    refine E_iload_n (i := 1) dX8_factOf_1 rfl rfl ?_
    refine k_X8_factOf_2 (mc' := 0) (ms' := 0) (rc := 0) (rs := 0) (by omega) (Nat.le_of_ble_eq_true rfl) (by assumption) (c_rideAt_in (by omega) hS hk hk8 hi hx hp ?_)
    refine E_astore_nC (i := 3) dX8_factOf_5 rfl (by decide) rfl ?_
    refine E_lv (lv' := [_, _, _, _]) rfl ?_
    refine E_aload_n (i := 3) dX8_factOf_6 rfl rfl ?_
    refine E_ifnonnull (tgt := 12) dX8_factOf_7 (by decide) ?_
    refine E_iload_n (i := 2) dX8_factOf_12 rfl rfl ?_
    refine E_tswIn (tgt := 104) dX8_factOf_13 (by decide) (by decide) rfl (by decide) ?_
    refine E_aload_n (i := 0) dX8_factOf_104 rfl rfl ?_
    refine E_gr dX8_factOf_105 gf_X8_31_8 rfl (by assumption) (by assumption) ?_
    refine E_iload_n (i := 1) dX8_factOf_108 rfl rfl ?_
    refine E_iaj i dX8_factOf_109 (by assumption) hx (by omega) (by rw [t3]; omega) ?_
    refine E_iret dX8_factOf_110 rfl ?_
    exact hΦ
  · subst hy
    have hΦ := hΦ
    rw [if_neg (show ¬ (7 : Nat) = 0 by decide), if_neg (show ¬ (7 : Nat) = 1 by decide), if_neg (show ¬ (7 : Nat) = 2 by decide), if_neg (show ¬ (7 : Nat) = 3 by decide), if_neg (show ¬ (7 : Nat) = 4 by decide), if_neg (show ¬ (7 : Nat) = 5 by decide), if_neg (show ¬ (7 : Nat) = 6 by decide), if_pos rfl] at hΦ
    refine E_aload_n (i := 0) dX8_factOf_0 rfl rfl ?_
    refine E_iload_n (i := 1) dX8_factOf_1 rfl rfl ?_
    refine k_X8_factOf_2 (mc' := 0) (ms' := 0) (rc := 0) (rs := 0) (by omega) (Nat.le_of_ble_eq_true rfl) (by assumption) (c_rideAt_in (by omega) hS hk hk8 hi hx hp ?_)
    refine E_astore_nC (i := 3) dX8_factOf_5 rfl (by decide) rfl ?_
    refine E_lv (lv' := [_, _, _, _]) rfl ?_
    refine E_aload_n (i := 3) dX8_factOf_6 rfl rfl ?_
    refine E_ifnonnull (tgt := 12) dX8_factOf_7 (by decide) ?_
    refine E_iload_n (i := 2) dX8_factOf_12 rfl rfl ?_
    refine E_tswIn (tgt := 111) dX8_factOf_13 (by decide) (by decide) rfl (by decide) ?_
    refine E_aload_n (i := 3) dX8_factOf_111 rfl rfl ?_
    refine E_aload_n (i := 0) dX8_factOf_112 rfl rfl ?_
    refine E_gr dX8_factOf_113 gf_X8_12_8 rfl (by assumption) (by assumption) ?_
    refine E_aload_n (i := 0) dX8_factOf_116 rfl rfl ?_
    refine E_gr dX8_factOf_117 gf_X8_24_8 rfl (by assumption) (by assumption) ?_
    refine E_iload_n (i := 1) dX8_factOf_120 rfl rfl ?_
    refine E_iaj i dX8_factOf_121 (by assumption) hx (by omega) (by rw [p3]; omega) ?_
    refine E_aload_n (i := 0) dX8_factOf_122 rfl rfl ?_
    refine E_gr dX8_factOf_123 gf_X8_28_8 rfl (by assumption) (by assumption) ?_
    refine E_iload_n (i := 1) dX8_factOf_126 rfl rfl ?_
    refine E_iaj i dX8_factOf_127 (by assumption) hx (by omega) (by rw [q3]; omega) ?_
    refine k_X8_factOf_128_9 (mc' := 0) (ms' := 0) (rc := 0) (rs := 0) (by omega) (Nat.le_of_ble_eq_true rfl) hr (c_X5_gain_9 (by omega) hr s3 hO ?_)
    refine E_iret dX8_factOf_131 rfl ?_
    exact hΦ
  · subst hy
    have hΦ := hΦ
    rw [if_neg (show ¬ (8 : Nat) = 0 by decide), if_neg (show ¬ (8 : Nat) = 1 by decide), if_neg (show ¬ (8 : Nat) = 2 by decide), if_neg (show ¬ (8 : Nat) = 3 by decide), if_neg (show ¬ (8 : Nat) = 4 by decide), if_neg (show ¬ (8 : Nat) = 5 by decide), if_neg (show ¬ (8 : Nat) = 6 by decide), if_neg (show ¬ (8 : Nat) = 7 by decide)] at hΦ
    unfold rbc at hΦ
    rw [if_neg (by decide)] at hΦ
    refine E_aload_n (i := 0) dX8_factOf_0 rfl rfl ?_
    refine E_iload_n (i := 1) dX8_factOf_1 rfl rfl ?_
    refine k_X8_factOf_2 (mc' := 0) (ms' := 0) (rc := 0) (rs := 0) (by omega) (Nat.le_of_ble_eq_true rfl) (by assumption) (c_rideAt_in (by omega) hS hk hk8 hi hx hp ?_)
    refine E_astore_nC (i := 3) dX8_factOf_5 rfl (by decide) rfl ?_
    refine E_lv (lv' := [_, _, _, _]) rfl ?_
    refine E_aload_n (i := 3) dX8_factOf_6 rfl rfl ?_
    refine E_ifnonnull (tgt := 12) dX8_factOf_7 (by decide) ?_
    refine E_iload_n (i := 2) dX8_factOf_12 rfl rfl ?_
    refine E_tswOut (tgt := 132) dX8_factOf_13 (by decide) (by decide) ?_
    refine E_aload_n (i := 3) dX8_factOf_132 rfl rfl ?_
    refine E_aload_n (i := 0) dX8_factOf_133 rfl rfl ?_
    refine E_gr dX8_factOf_134 gf_X8_12_8 rfl (by assumption) (by assumption) ?_
    refine k_X8_factOf_137_9 (mc' := 0) (ms' := 0) (rc := 0) (rs := 0) (by omega) (Nat.le_of_ble_eq_true rfl) hr (c_X5_rubs (by omega) s3 ?_)
    refine E_iret dX8_factOf_140 rfl ?_
    exact hΦ
theorem c_factOf_3 {B k i r f : Nat} {x y : Int32} (hd : 5 ≤ d) (hS : St g P B) (hO : WOK (I (B + 2))) (hk : I B 7 = nI k) (hk8 : k ≤ 8) (hi : i < k) (hx : x = nI i) (hy : y = nI f) (hf : f ≤ 8) (hp : P (B + 3) i = some r) (hr : Cel g r 3) (hΦ : Φ (some (.int (facC 3 I B r i f))) g P I) : MM Γ mX8_factOf d 0 0 [.ref B, .int x, .int y] g P I Φ := by
  refine MM_entry [some _, some _, some _, none] (by decide) (Nat.le_of_ble_eq_true rfl) rfl ?_
  have s1 := hS.c
  have s2 := hS.wp
  have s3 := hS.wi
  have s4 := s3.1
  obtain ⟨p1, p2, p3⟩ := hS.pl
  obtain ⟨q1, q2, q3⟩ := hS.pa
  obtain ⟨t1, t2, t3⟩ := hS.ca
  obtain ⟨u1, v2, u3⟩ := hS.in
  unfold facC at hΦ
  rcases (show f = 0 ∨ f = 1 ∨ f = 2 ∨ f = 3 ∨ f = 4 ∨ f = 5 ∨ f = 6 ∨ f = 7 ∨ f = 8 by omega) with rfl | rfl | rfl | rfl | rfl | rfl | rfl | rfl | rfl
  · subst hy
    have hΦ := hΦ
    rw [if_pos rfl] at hΦ
    refine E_aload_n (i := 0) dX8_factOf_0 rfl rfl ?_
    refine E_iload_n (i := 1) dX8_factOf_1 rfl rfl ?_
    refine k_X8_factOf_2 (mc' := 0) (ms' := 0) (rc := 0) (rs := 0) (by omega) (Nat.le_of_ble_eq_true rfl) (by assumption) (c_rideAt_in (by omega) hS hk hk8 hi hx hp ?_)
    refine E_astore_nC (i := 3) dX8_factOf_5 rfl (by decide) rfl ?_
    refine E_lv (lv' := [_, _, _, _]) rfl ?_
    refine E_aload_n (i := 3) dX8_factOf_6 rfl rfl ?_
    refine E_ifnonnull (tgt := 12) dX8_factOf_7 (by decide) ?_
    refine E_iload_n (i := 2) dX8_factOf_12 rfl rfl ?_
    refine E_tswIn (tgt := 60) dX8_factOf_13 (by decide) (by decide) rfl (by decide) ?_
    refine E_aload_n (i := 3) dX8_factOf_60 rfl rfl ?_
    refine E_gi dX8_factOf_61 gf_X8_109_3 rfl hr ?_
    refine E_iret dX8_factOf_64 rfl ?_
    exact hΦ
  · subst hy
    have hΦ := hΦ
    rw [if_neg (show ¬ (1 : Nat) = 0 by decide), if_pos rfl] at hΦ
    refine E_aload_n (i := 0) dX8_factOf_0 rfl rfl ?_
    refine E_iload_n (i := 1) dX8_factOf_1 rfl rfl ?_
    refine k_X8_factOf_2 (mc' := 0) (ms' := 0) (rc := 0) (rs := 0) (by omega) (Nat.le_of_ble_eq_true rfl) (by assumption) (c_rideAt_in (by omega) hS hk hk8 hi hx hp ?_)
    refine E_astore_nC (i := 3) dX8_factOf_5 rfl (by decide) rfl ?_
    refine E_lv (lv' := [_, _, _, _]) rfl ?_
    refine E_aload_n (i := 3) dX8_factOf_6 rfl rfl ?_
    refine E_ifnonnull (tgt := 12) dX8_factOf_7 (by decide) ?_
    refine E_iload_n (i := 2) dX8_factOf_12 rfl rfl ?_
    refine E_tswIn (tgt := 65) dX8_factOf_13 (by decide) (by decide) rfl (by decide) ?_
    refine E_aload_n (i := 3) dX8_factOf_65 rfl rfl ?_
    refine E_gi dX8_factOf_66 gf_X8_112_3 rfl hr ?_
    refine E_iret dX8_factOf_69 rfl ?_
    exact hΦ
  · subst hy
    have hΦ := hΦ
    rw [if_neg (show ¬ (2 : Nat) = 0 by decide), if_neg (show ¬ (2 : Nat) = 1 by decide), if_pos rfl] at hΦ
    refine E_aload_n (i := 0) dX8_factOf_0 rfl rfl ?_
    refine E_iload_n (i := 1) dX8_factOf_1 rfl rfl ?_
    refine k_X8_factOf_2 (mc' := 0) (ms' := 0) (rc := 0) (rs := 0) (by omega) (Nat.le_of_ble_eq_true rfl) (by assumption) (c_rideAt_in (by omega) hS hk hk8 hi hx hp ?_)
    refine E_astore_nC (i := 3) dX8_factOf_5 rfl (by decide) rfl ?_
    refine E_lv (lv' := [_, _, _, _]) rfl ?_
    refine E_aload_n (i := 3) dX8_factOf_6 rfl rfl ?_
    refine E_ifnonnull (tgt := 12) dX8_factOf_7 (by decide) ?_
    refine E_iload_n (i := 2) dX8_factOf_12 rfl rfl ?_
    refine E_tswIn (tgt := 70) dX8_factOf_13 (by decide) (by decide) rfl (by decide) ?_
    refine E_aload_n (i := 3) dX8_factOf_70 rfl rfl ?_
    refine E_gi dX8_factOf_71 gf_X8_115_3 rfl hr ?_
    refine E_iret dX8_factOf_74 rfl ?_
    exact hΦ
  · subst hy
    have hΦ := hΦ
    rw [if_neg (show ¬ (3 : Nat) = 0 by decide), if_neg (show ¬ (3 : Nat) = 1 by decide), if_neg (show ¬ (3 : Nat) = 2 by decide), if_pos rfl] at hΦ
    refine E_aload_n (i := 0) dX8_factOf_0 rfl rfl ?_
    refine E_iload_n (i := 1) dX8_factOf_1 rfl rfl ?_
    refine k_X8_factOf_2 (mc' := 0) (ms' := 0) (rc := 0) (rs := 0) (by omega) (Nat.le_of_ble_eq_true rfl) (by assumption) (c_rideAt_in (by omega) hS hk hk8 hi hx hp ?_)
    refine E_astore_nC (i := 3) dX8_factOf_5 rfl (by decide) rfl ?_
    refine E_lv (lv' := [_, _, _, _]) rfl ?_
    refine E_aload_n (i := 3) dX8_factOf_6 rfl rfl ?_
    refine E_ifnonnull (tgt := 12) dX8_factOf_7 (by decide) ?_
    refine E_iload_n (i := 2) dX8_factOf_12 rfl rfl ?_
    refine E_tswIn (tgt := 75) dX8_factOf_13 (by decide) (by decide) rfl (by decide) ?_
    refine E_aload_n (i := 0) dX8_factOf_75 rfl rfl ?_
    refine E_gr dX8_factOf_76 gf_X8_24_8 rfl (by assumption) (by assumption) ?_
    refine E_iload_n (i := 1) dX8_factOf_79 rfl rfl ?_
    refine E_iaj i dX8_factOf_80 (by assumption) hx (by omega) (by rw [p3]; omega) ?_
    refine E_iret dX8_factOf_81 rfl ?_
    exact hΦ
  · subst hy
    have hΦ := hΦ
    rw [if_neg (show ¬ (4 : Nat) = 0 by decide), if_neg (show ¬ (4 : Nat) = 1 by decide), if_neg (show ¬ (4 : Nat) = 2 by decide), if_neg (show ¬ (4 : Nat) = 3 by decide), if_pos rfl] at hΦ
    refine E_aload_n (i := 0) dX8_factOf_0 rfl rfl ?_
    refine E_iload_n (i := 1) dX8_factOf_1 rfl rfl ?_
    refine k_X8_factOf_2 (mc' := 0) (ms' := 0) (rc := 0) (rs := 0) (by omega) (Nat.le_of_ble_eq_true rfl) (by assumption) (c_rideAt_in (by omega) hS hk hk8 hi hx hp ?_)
    refine E_astore_nC (i := 3) dX8_factOf_5 rfl (by decide) rfl ?_
    refine E_lv (lv' := [_, _, _, _]) rfl ?_
    refine E_aload_n (i := 3) dX8_factOf_6 rfl rfl ?_
    refine E_ifnonnull (tgt := 12) dX8_factOf_7 (by decide) ?_
    refine E_iload_n (i := 2) dX8_factOf_12 rfl rfl ?_
    refine E_tswIn (tgt := 82) dX8_factOf_13 (by decide) (by decide) rfl (by decide) ?_
    refine E_aload_n (i := 0) dX8_factOf_82 rfl rfl ?_
    refine E_gr dX8_factOf_83 gf_X8_28_8 rfl (by assumption) (by assumption) ?_
    refine E_iload_n (i := 1) dX8_factOf_86 rfl rfl ?_
    refine E_iaj i dX8_factOf_87 (by assumption) hx (by omega) (by rw [q3]; omega) ?_
    refine E_iret dX8_factOf_88 rfl ?_
    exact hΦ
  · subst hy
    have hΦ := hΦ
    rw [if_neg (show ¬ (5 : Nat) = 0 by decide), if_neg (show ¬ (5 : Nat) = 1 by decide), if_neg (show ¬ (5 : Nat) = 2 by decide), if_neg (show ¬ (5 : Nat) = 3 by decide), if_neg (show ¬ (5 : Nat) = 4 by decide), if_pos rfl] at hΦ
    by_cases h7 : I (B + 7) i = 0
    · rw [bz_f (fun h => h h7)] at hΦ
      refine E_aload_n (i := 0) dX8_factOf_0 rfl rfl ?_
      refine E_iload_n (i := 1) dX8_factOf_1 rfl rfl ?_
      refine k_X8_factOf_2 (mc' := 0) (ms' := 0) (rc := 0) (rs := 0) (by omega) (Nat.le_of_ble_eq_true rfl) (by assumption) (c_rideAt_in (by omega) hS hk hk8 hi hx hp ?_)
      refine E_astore_nC (i := 3) dX8_factOf_5 rfl (by decide) rfl ?_
      refine E_lv (lv' := [_, _, _, _]) rfl ?_
      refine E_aload_n (i := 3) dX8_factOf_6 rfl rfl ?_
      refine E_ifnonnull (tgt := 12) dX8_factOf_7 (by decide) ?_
      refine E_iload_n (i := 2) dX8_factOf_12 rfl rfl ?_
      refine E_tswIn (tgt := 89) dX8_factOf_13 (by decide) (by decide) rfl (by decide) ?_
      refine E_aload_n (i := 0) dX8_factOf_89 rfl rfl ?_
      refine E_gr dX8_factOf_90 gf_X8_34_8 rfl (by assumption) (by assumption) ?_
      refine E_iload_n (i := 1) dX8_factOf_93 rfl rfl ?_
      refine E_zaj i dX8_factOf_94 (by assumption) hx (by omega) (by rw [u3]; omega) ?_
      refine E_if_eq (tgt := 102) dX8_factOf_95 (by decide) (fun c_95 => ?_) (fun c_95 => absurd (h7) c_95)
      refine E_iconst (v := 0) dX8_factOf_102 (by decide) ?_
      refine E_iret dX8_factOf_103 rfl ?_
      exact hΦ
    · rw [bz_t h7] at hΦ
      refine E_aload_n (i := 0) dX8_factOf_0 rfl rfl ?_
      refine E_iload_n (i := 1) dX8_factOf_1 rfl rfl ?_
      refine k_X8_factOf_2 (mc' := 0) (ms' := 0) (rc := 0) (rs := 0) (by omega) (Nat.le_of_ble_eq_true rfl) (by assumption) (c_rideAt_in (by omega) hS hk hk8 hi hx hp ?_)
      refine E_astore_nC (i := 3) dX8_factOf_5 rfl (by decide) rfl ?_
      refine E_lv (lv' := [_, _, _, _]) rfl ?_
      refine E_aload_n (i := 3) dX8_factOf_6 rfl rfl ?_
      refine E_ifnonnull (tgt := 12) dX8_factOf_7 (by decide) ?_
      refine E_iload_n (i := 2) dX8_factOf_12 rfl rfl ?_
      refine E_tswIn (tgt := 89) dX8_factOf_13 (by decide) (by decide) rfl (by decide) ?_
      refine E_aload_n (i := 0) dX8_factOf_89 rfl rfl ?_
      refine E_gr dX8_factOf_90 gf_X8_34_8 rfl (by assumption) (by assumption) ?_
      refine E_iload_n (i := 1) dX8_factOf_93 rfl rfl ?_
      refine E_zaj i dX8_factOf_94 (by assumption) hx (by omega) (by rw [u3]; omega) ?_
      refine E_if_eq (tgt := 102) dX8_factOf_95 (by decide) (fun c_95 => absurd c_95 (h7)) (fun c_95 => ?_)
      refine E_iconst (v := 1) dX8_factOf_98 (by decide) ?_
      refine E_goto (tgt := 103) dX8_factOf_99 (by decide) ?_
      refine E_iret dX8_factOf_103 rfl ?_
      exact hΦ
  · subst hy
    have hΦ := hΦ
    rw [if_neg (show ¬ (6 : Nat) = 0 by decide), if_neg (show ¬ (6 : Nat) = 1 by decide), if_neg (show ¬ (6 : Nat) = 2 by decide), if_neg (show ¬ (6 : Nat) = 3 by decide), if_neg (show ¬ (6 : Nat) = 4 by decide), if_neg (show ¬ (6 : Nat) = 5 by decide), if_pos rfl] at hΦ
    refine E_aload_n (i := 0) dX8_factOf_0 rfl rfl ?_
    refine E_iload_n (i := 1) dX8_factOf_1 rfl rfl ?_
    refine k_X8_factOf_2 (mc' := 0) (ms' := 0) (rc := 0) (rs := 0) (by omega) (Nat.le_of_ble_eq_true rfl) (by assumption) (c_rideAt_in (by omega) hS hk hk8 hi hx hp ?_)
    refine E_astore_nC (i := 3) dX8_factOf_5 rfl (by decide) rfl ?_
    refine E_lv (lv' := [_, _, _, _]) rfl ?_
    refine E_aload_n (i := 3) dX8_factOf_6 rfl rfl ?_
    refine E_ifnonnull (tgt := 12) dX8_factOf_7 (by decide) ?_
    refine E_iload_n (i := 2) dX8_factOf_12 rfl rfl ?_
    refine E_tswIn (tgt := 104) dX8_factOf_13 (by decide) (by decide) rfl (by decide) ?_
    refine E_aload_n (i := 0) dX8_factOf_104 rfl rfl ?_
    refine E_gr dX8_factOf_105 gf_X8_31_8 rfl (by assumption) (by assumption) ?_
    refine E_iload_n (i := 1) dX8_factOf_108 rfl rfl ?_
    refine E_iaj i dX8_factOf_109 (by assumption) hx (by omega) (by rw [t3]; omega) ?_
    refine E_iret dX8_factOf_110 rfl ?_
    exact hΦ
  · subst hy
    have hΦ := hΦ
    rw [if_neg (show ¬ (7 : Nat) = 0 by decide), if_neg (show ¬ (7 : Nat) = 1 by decide), if_neg (show ¬ (7 : Nat) = 2 by decide), if_neg (show ¬ (7 : Nat) = 3 by decide), if_neg (show ¬ (7 : Nat) = 4 by decide), if_neg (show ¬ (7 : Nat) = 5 by decide), if_neg (show ¬ (7 : Nat) = 6 by decide), if_pos rfl] at hΦ
    refine E_aload_n (i := 0) dX8_factOf_0 rfl rfl ?_
    refine E_iload_n (i := 1) dX8_factOf_1 rfl rfl ?_
    refine k_X8_factOf_2 (mc' := 0) (ms' := 0) (rc := 0) (rs := 0) (by omega) (Nat.le_of_ble_eq_true rfl) (by assumption) (c_rideAt_in (by omega) hS hk hk8 hi hx hp ?_)
    refine E_astore_nC (i := 3) dX8_factOf_5 rfl (by decide) rfl ?_
    refine E_lv (lv' := [_, _, _, _]) rfl ?_
    refine E_aload_n (i := 3) dX8_factOf_6 rfl rfl ?_
    refine E_ifnonnull (tgt := 12) dX8_factOf_7 (by decide) ?_
    refine E_iload_n (i := 2) dX8_factOf_12 rfl rfl ?_
    refine E_tswIn (tgt := 111) dX8_factOf_13 (by decide) (by decide) rfl (by decide) ?_
    refine E_aload_n (i := 3) dX8_factOf_111 rfl rfl ?_
    refine E_aload_n (i := 0) dX8_factOf_112 rfl rfl ?_
    refine E_gr dX8_factOf_113 gf_X8_12_8 rfl (by assumption) (by assumption) ?_
    refine E_aload_n (i := 0) dX8_factOf_116 rfl rfl ?_
    refine E_gr dX8_factOf_117 gf_X8_24_8 rfl (by assumption) (by assumption) ?_
    refine E_iload_n (i := 1) dX8_factOf_120 rfl rfl ?_
    refine E_iaj i dX8_factOf_121 (by assumption) hx (by omega) (by rw [p3]; omega) ?_
    refine E_aload_n (i := 0) dX8_factOf_122 rfl rfl ?_
    refine E_gr dX8_factOf_123 gf_X8_28_8 rfl (by assumption) (by assumption) ?_
    refine E_iload_n (i := 1) dX8_factOf_126 rfl rfl ?_
    refine E_iaj i dX8_factOf_127 (by assumption) hx (by omega) (by rw [q3]; omega) ?_
    refine k_X8_factOf_128_3 (mc' := 0) (ms' := 0) (rc := 0) (rs := 0) (by omega) (Nat.le_of_ble_eq_true rfl) hr (c_X5_gain_3 (by omega) hr s3 hO ?_)
    refine E_iret dX8_factOf_131 rfl ?_
    exact hΦ
  · subst hy
    have hΦ := hΦ
    rw [if_neg (show ¬ (8 : Nat) = 0 by decide), if_neg (show ¬ (8 : Nat) = 1 by decide), if_neg (show ¬ (8 : Nat) = 2 by decide), if_neg (show ¬ (8 : Nat) = 3 by decide), if_neg (show ¬ (8 : Nat) = 4 by decide), if_neg (show ¬ (8 : Nat) = 5 by decide), if_neg (show ¬ (8 : Nat) = 6 by decide), if_neg (show ¬ (8 : Nat) = 7 by decide)] at hΦ
    unfold rbc at hΦ
    rw [if_neg (by decide)] at hΦ
    refine E_aload_n (i := 0) dX8_factOf_0 rfl rfl ?_
    refine E_iload_n (i := 1) dX8_factOf_1 rfl rfl ?_
    refine k_X8_factOf_2 (mc' := 0) (ms' := 0) (rc := 0) (rs := 0) (by omega) (Nat.le_of_ble_eq_true rfl) (by assumption) (c_rideAt_in (by omega) hS hk hk8 hi hx hp ?_)
    refine E_astore_nC (i := 3) dX8_factOf_5 rfl (by decide) rfl ?_
    refine E_lv (lv' := [_, _, _, _]) rfl ?_
    refine E_aload_n (i := 3) dX8_factOf_6 rfl rfl ?_
    refine E_ifnonnull (tgt := 12) dX8_factOf_7 (by decide) ?_
    refine E_iload_n (i := 2) dX8_factOf_12 rfl rfl ?_
    refine E_tswOut (tgt := 132) dX8_factOf_13 (by decide) (by decide) ?_
    refine E_aload_n (i := 3) dX8_factOf_132 rfl rfl ?_
    refine E_aload_n (i := 0) dX8_factOf_133 rfl rfl ?_
    refine E_gr dX8_factOf_134 gf_X8_12_8 rfl (by assumption) (by assumption) ?_
    refine k_X8_factOf_137_3 (mc' := 0) (ms' := 0) (rc := 0) (rs := 0) (by omega) (Nat.le_of_ble_eq_true rfl) hr (c_X5_rubs (by omega) s3 ?_)
    refine E_iret dX8_factOf_140 rfl ?_
    exact hΦ
theorem c_factOf_1 {B k i r f : Nat} {x y : Int32} (hd : 5 ≤ d) (hS : St g P B) (hO : WOK (I (B + 2))) (hk : I B 7 = nI k) (hk8 : k ≤ 8) (hi : i < k) (hx : x = nI i) (hy : y = nI f) (hf : f ≤ 8) (hp : P (B + 3) i = some r) (hr : Cel g r 1) (hΦ : Φ (some (.int (facC 1 I B r i f))) g P I) : MM Γ mX8_factOf d 0 0 [.ref B, .int x, .int y] g P I Φ := by
  refine MM_entry [some _, some _, some _, none] (by decide) (Nat.le_of_ble_eq_true rfl) rfl ?_
  have s1 := hS.c
  have s2 := hS.wp
  have s3 := hS.wi
  have s4 := s3.1
  obtain ⟨p1, p2, p3⟩ := hS.pl
  obtain ⟨q1, q2, q3⟩ := hS.pa
  obtain ⟨t1, t2, t3⟩ := hS.ca
  obtain ⟨u1, v2, u3⟩ := hS.in
  unfold facC at hΦ
  rcases (show f = 0 ∨ f = 1 ∨ f = 2 ∨ f = 3 ∨ f = 4 ∨ f = 5 ∨ f = 6 ∨ f = 7 ∨ f = 8 by omega) with rfl | rfl | rfl | rfl | rfl | rfl | rfl | rfl | rfl
  · subst hy
    have hΦ := hΦ
    rw [if_pos rfl] at hΦ
    refine E_aload_n (i := 0) dX8_factOf_0 rfl rfl ?_
    refine E_iload_n (i := 1) dX8_factOf_1 rfl rfl ?_
    refine k_X8_factOf_2 (mc' := 0) (ms' := 0) (rc := 0) (rs := 0) (by omega) (Nat.le_of_ble_eq_true rfl) (by assumption) (c_rideAt_in (by omega) hS hk hk8 hi hx hp ?_)
    refine E_astore_nC (i := 3) dX8_factOf_5 rfl (by decide) rfl ?_
    refine E_lv (lv' := [_, _, _, _]) rfl ?_
    refine E_aload_n (i := 3) dX8_factOf_6 rfl rfl ?_
    refine E_ifnonnull (tgt := 12) dX8_factOf_7 (by decide) ?_
    refine E_iload_n (i := 2) dX8_factOf_12 rfl rfl ?_
    refine E_tswIn (tgt := 60) dX8_factOf_13 (by decide) (by decide) rfl (by decide) ?_
    refine E_aload_n (i := 3) dX8_factOf_60 rfl rfl ?_
    refine E_gi dX8_factOf_61 gf_X8_109_1 rfl hr ?_
    refine E_iret dX8_factOf_64 rfl ?_
    exact hΦ
  · subst hy
    have hΦ := hΦ
    rw [if_neg (show ¬ (1 : Nat) = 0 by decide), if_pos rfl] at hΦ
    refine E_aload_n (i := 0) dX8_factOf_0 rfl rfl ?_
    refine E_iload_n (i := 1) dX8_factOf_1 rfl rfl ?_
    refine k_X8_factOf_2 (mc' := 0) (ms' := 0) (rc := 0) (rs := 0) (by omega) (Nat.le_of_ble_eq_true rfl) (by assumption) (c_rideAt_in (by omega) hS hk hk8 hi hx hp ?_)
    refine E_astore_nC (i := 3) dX8_factOf_5 rfl (by decide) rfl ?_
    refine E_lv (lv' := [_, _, _, _]) rfl ?_
    refine E_aload_n (i := 3) dX8_factOf_6 rfl rfl ?_
    refine E_ifnonnull (tgt := 12) dX8_factOf_7 (by decide) ?_
    refine E_iload_n (i := 2) dX8_factOf_12 rfl rfl ?_
    refine E_tswIn (tgt := 65) dX8_factOf_13 (by decide) (by decide) rfl (by decide) ?_
    refine E_aload_n (i := 3) dX8_factOf_65 rfl rfl ?_
    refine E_gi dX8_factOf_66 gf_X8_112_1 rfl hr ?_
    refine E_iret dX8_factOf_69 rfl ?_
    exact hΦ
  · subst hy
    have hΦ := hΦ
    rw [if_neg (show ¬ (2 : Nat) = 0 by decide), if_neg (show ¬ (2 : Nat) = 1 by decide), if_pos rfl] at hΦ
    refine E_aload_n (i := 0) dX8_factOf_0 rfl rfl ?_
    refine E_iload_n (i := 1) dX8_factOf_1 rfl rfl ?_
    refine k_X8_factOf_2 (mc' := 0) (ms' := 0) (rc := 0) (rs := 0) (by omega) (Nat.le_of_ble_eq_true rfl) (by assumption) (c_rideAt_in (by omega) hS hk hk8 hi hx hp ?_)
    refine E_astore_nC (i := 3) dX8_factOf_5 rfl (by decide) rfl ?_
    refine E_lv (lv' := [_, _, _, _]) rfl ?_
    refine E_aload_n (i := 3) dX8_factOf_6 rfl rfl ?_
    refine E_ifnonnull (tgt := 12) dX8_factOf_7 (by decide) ?_
    refine E_iload_n (i := 2) dX8_factOf_12 rfl rfl ?_
    refine E_tswIn (tgt := 70) dX8_factOf_13 (by decide) (by decide) rfl (by decide) ?_
    refine E_aload_n (i := 3) dX8_factOf_70 rfl rfl ?_
    refine E_gi dX8_factOf_71 gf_X8_115_1 rfl hr ?_
    refine E_iret dX8_factOf_74 rfl ?_
    exact hΦ
  · subst hy
    have hΦ := hΦ
    rw [if_neg (show ¬ (3 : Nat) = 0 by decide), if_neg (show ¬ (3 : Nat) = 1 by decide), if_neg (show ¬ (3 : Nat) = 2 by decide), if_pos rfl] at hΦ
    refine E_aload_n (i := 0) dX8_factOf_0 rfl rfl ?_
    refine E_iload_n (i := 1) dX8_factOf_1 rfl rfl ?_
    refine k_X8_factOf_2 (mc' := 0) (ms' := 0) (rc := 0) (rs := 0) (by omega) (Nat.le_of_ble_eq_true rfl) (by assumption) (c_rideAt_in (by omega) hS hk hk8 hi hx hp ?_)
    refine E_astore_nC (i := 3) dX8_factOf_5 rfl (by decide) rfl ?_
    refine E_lv (lv' := [_, _, _, _]) rfl ?_
    refine E_aload_n (i := 3) dX8_factOf_6 rfl rfl ?_
    refine E_ifnonnull (tgt := 12) dX8_factOf_7 (by decide) ?_
    refine E_iload_n (i := 2) dX8_factOf_12 rfl rfl ?_
    refine E_tswIn (tgt := 75) dX8_factOf_13 (by decide) (by decide) rfl (by decide) ?_
    refine E_aload_n (i := 0) dX8_factOf_75 rfl rfl ?_
    refine E_gr dX8_factOf_76 gf_X8_24_8 rfl (by assumption) (by assumption) ?_
    refine E_iload_n (i := 1) dX8_factOf_79 rfl rfl ?_
    refine E_iaj i dX8_factOf_80 (by assumption) hx (by omega) (by rw [p3]; omega) ?_
    refine E_iret dX8_factOf_81 rfl ?_
    exact hΦ
  · subst hy
    have hΦ := hΦ
    rw [if_neg (show ¬ (4 : Nat) = 0 by decide), if_neg (show ¬ (4 : Nat) = 1 by decide), if_neg (show ¬ (4 : Nat) = 2 by decide), if_neg (show ¬ (4 : Nat) = 3 by decide), if_pos rfl] at hΦ
    refine E_aload_n (i := 0) dX8_factOf_0 rfl rfl ?_
    refine E_iload_n (i := 1) dX8_factOf_1 rfl rfl ?_
    refine k_X8_factOf_2 (mc' := 0) (ms' := 0) (rc := 0) (rs := 0) (by omega) (Nat.le_of_ble_eq_true rfl) (by assumption) (c_rideAt_in (by omega) hS hk hk8 hi hx hp ?_)
    refine E_astore_nC (i := 3) dX8_factOf_5 rfl (by decide) rfl ?_
    refine E_lv (lv' := [_, _, _, _]) rfl ?_
    refine E_aload_n (i := 3) dX8_factOf_6 rfl rfl ?_
    refine E_ifnonnull (tgt := 12) dX8_factOf_7 (by decide) ?_
    refine E_iload_n (i := 2) dX8_factOf_12 rfl rfl ?_
    refine E_tswIn (tgt := 82) dX8_factOf_13 (by decide) (by decide) rfl (by decide) ?_
    refine E_aload_n (i := 0) dX8_factOf_82 rfl rfl ?_
    refine E_gr dX8_factOf_83 gf_X8_28_8 rfl (by assumption) (by assumption) ?_
    refine E_iload_n (i := 1) dX8_factOf_86 rfl rfl ?_
    refine E_iaj i dX8_factOf_87 (by assumption) hx (by omega) (by rw [q3]; omega) ?_
    refine E_iret dX8_factOf_88 rfl ?_
    exact hΦ
  · subst hy
    have hΦ := hΦ
    rw [if_neg (show ¬ (5 : Nat) = 0 by decide), if_neg (show ¬ (5 : Nat) = 1 by decide), if_neg (show ¬ (5 : Nat) = 2 by decide), if_neg (show ¬ (5 : Nat) = 3 by decide), if_neg (show ¬ (5 : Nat) = 4 by decide), if_pos rfl] at hΦ
    by_cases h7 : I (B + 7) i = 0
    · rw [bz_f (fun h => h h7)] at hΦ
      refine E_aload_n (i := 0) dX8_factOf_0 rfl rfl ?_
      refine E_iload_n (i := 1) dX8_factOf_1 rfl rfl ?_
      refine k_X8_factOf_2 (mc' := 0) (ms' := 0) (rc := 0) (rs := 0) (by omega) (Nat.le_of_ble_eq_true rfl) (by assumption) (c_rideAt_in (by omega) hS hk hk8 hi hx hp ?_)
      refine E_astore_nC (i := 3) dX8_factOf_5 rfl (by decide) rfl ?_
      refine E_lv (lv' := [_, _, _, _]) rfl ?_
      refine E_aload_n (i := 3) dX8_factOf_6 rfl rfl ?_
      refine E_ifnonnull (tgt := 12) dX8_factOf_7 (by decide) ?_
      refine E_iload_n (i := 2) dX8_factOf_12 rfl rfl ?_
      refine E_tswIn (tgt := 89) dX8_factOf_13 (by decide) (by decide) rfl (by decide) ?_
      refine E_aload_n (i := 0) dX8_factOf_89 rfl rfl ?_
      refine E_gr dX8_factOf_90 gf_X8_34_8 rfl (by assumption) (by assumption) ?_
      refine E_iload_n (i := 1) dX8_factOf_93 rfl rfl ?_
      refine E_zaj i dX8_factOf_94 (by assumption) hx (by omega) (by rw [u3]; omega) ?_
      refine E_if_eq (tgt := 102) dX8_factOf_95 (by decide) (fun c_95 => ?_) (fun c_95 => absurd (h7) c_95)
      refine E_iconst (v := 0) dX8_factOf_102 (by decide) ?_
      refine E_iret dX8_factOf_103 rfl ?_
      exact hΦ
    · rw [bz_t h7] at hΦ
      refine E_aload_n (i := 0) dX8_factOf_0 rfl rfl ?_
      refine E_iload_n (i := 1) dX8_factOf_1 rfl rfl ?_
      refine k_X8_factOf_2 (mc' := 0) (ms' := 0) (rc := 0) (rs := 0) (by omega) (Nat.le_of_ble_eq_true rfl) (by assumption) (c_rideAt_in (by omega) hS hk hk8 hi hx hp ?_)
      refine E_astore_nC (i := 3) dX8_factOf_5 rfl (by decide) rfl ?_
      refine E_lv (lv' := [_, _, _, _]) rfl ?_
      refine E_aload_n (i := 3) dX8_factOf_6 rfl rfl ?_
      refine E_ifnonnull (tgt := 12) dX8_factOf_7 (by decide) ?_
      refine E_iload_n (i := 2) dX8_factOf_12 rfl rfl ?_
      refine E_tswIn (tgt := 89) dX8_factOf_13 (by decide) (by decide) rfl (by decide) ?_
      refine E_aload_n (i := 0) dX8_factOf_89 rfl rfl ?_
      refine E_gr dX8_factOf_90 gf_X8_34_8 rfl (by assumption) (by assumption) ?_
      refine E_iload_n (i := 1) dX8_factOf_93 rfl rfl ?_
      refine E_zaj i dX8_factOf_94 (by assumption) hx (by omega) (by rw [u3]; omega) ?_
      refine E_if_eq (tgt := 102) dX8_factOf_95 (by decide) (fun c_95 => absurd c_95 (h7)) (fun c_95 => ?_)
      refine E_iconst (v := 1) dX8_factOf_98 (by decide) ?_
      refine E_goto (tgt := 103) dX8_factOf_99 (by decide) ?_
      refine E_iret dX8_factOf_103 rfl ?_
      exact hΦ
  · subst hy
    have hΦ := hΦ
    rw [if_neg (show ¬ (6 : Nat) = 0 by decide), if_neg (show ¬ (6 : Nat) = 1 by decide), if_neg (show ¬ (6 : Nat) = 2 by decide), if_neg (show ¬ (6 : Nat) = 3 by decide), if_neg (show ¬ (6 : Nat) = 4 by decide), if_neg (show ¬ (6 : Nat) = 5 by decide), if_pos rfl] at hΦ
    refine E_aload_n (i := 0) dX8_factOf_0 rfl rfl ?_
    refine E_iload_n (i := 1) dX8_factOf_1 rfl rfl ?_
    refine k_X8_factOf_2 (mc' := 0) (ms' := 0) (rc := 0) (rs := 0) (by omega) (Nat.le_of_ble_eq_true rfl) (by assumption) (c_rideAt_in (by omega) hS hk hk8 hi hx hp ?_)
    refine E_astore_nC (i := 3) dX8_factOf_5 rfl (by decide) rfl ?_
    refine E_lv (lv' := [_, _, _, _]) rfl ?_
    refine E_aload_n (i := 3) dX8_factOf_6 rfl rfl ?_
    refine E_ifnonnull (tgt := 12) dX8_factOf_7 (by decide) ?_
    refine E_iload_n (i := 2) dX8_factOf_12 rfl rfl ?_
    refine E_tswIn (tgt := 104) dX8_factOf_13 (by decide) (by decide) rfl (by decide) ?_
    refine E_aload_n (i := 0) dX8_factOf_104 rfl rfl ?_
    refine E_gr dX8_factOf_105 gf_X8_31_8 rfl (by assumption) (by assumption) ?_
    refine E_iload_n (i := 1) dX8_factOf_108 rfl rfl ?_
    refine E_iaj i dX8_factOf_109 (by assumption) hx (by omega) (by rw [t3]; omega) ?_
    refine E_iret dX8_factOf_110 rfl ?_
    exact hΦ
  · subst hy
    have hΦ := hΦ
    rw [if_neg (show ¬ (7 : Nat) = 0 by decide), if_neg (show ¬ (7 : Nat) = 1 by decide), if_neg (show ¬ (7 : Nat) = 2 by decide), if_neg (show ¬ (7 : Nat) = 3 by decide), if_neg (show ¬ (7 : Nat) = 4 by decide), if_neg (show ¬ (7 : Nat) = 5 by decide), if_neg (show ¬ (7 : Nat) = 6 by decide), if_pos rfl] at hΦ
    refine E_aload_n (i := 0) dX8_factOf_0 rfl rfl ?_
    refine E_iload_n (i := 1) dX8_factOf_1 rfl rfl ?_
    refine k_X8_factOf_2 (mc' := 0) (ms' := 0) (rc := 0) (rs := 0) (by omega) (Nat.le_of_ble_eq_true rfl) (by assumption) (c_rideAt_in (by omega) hS hk hk8 hi hx hp ?_)
    refine E_astore_nC (i := 3) dX8_factOf_5 rfl (by decide) rfl ?_
    refine E_lv (lv' := [_, _, _, _]) rfl ?_
    refine E_aload_n (i := 3) dX8_factOf_6 rfl rfl ?_
    refine E_ifnonnull (tgt := 12) dX8_factOf_7 (by decide) ?_
    refine E_iload_n (i := 2) dX8_factOf_12 rfl rfl ?_
    refine E_tswIn (tgt := 111) dX8_factOf_13 (by decide) (by decide) rfl (by decide) ?_
    refine E_aload_n (i := 3) dX8_factOf_111 rfl rfl ?_
    refine E_aload_n (i := 0) dX8_factOf_112 rfl rfl ?_
    refine E_gr dX8_factOf_113 gf_X8_12_8 rfl (by assumption) (by assumption) ?_
    refine E_aload_n (i := 0) dX8_factOf_116 rfl rfl ?_
    refine E_gr dX8_factOf_117 gf_X8_24_8 rfl (by assumption) (by assumption) ?_
    refine E_iload_n (i := 1) dX8_factOf_120 rfl rfl ?_
    refine E_iaj i dX8_factOf_121 (by assumption) hx (by omega) (by rw [p3]; omega) ?_
    refine E_aload_n (i := 0) dX8_factOf_122 rfl rfl ?_
    refine E_gr dX8_factOf_123 gf_X8_28_8 rfl (by assumption) (by assumption) ?_
    refine E_iload_n (i := 1) dX8_factOf_126 rfl rfl ?_
    refine E_iaj i dX8_factOf_127 (by assumption) hx (by omega) (by rw [q3]; omega) ?_
    refine k_X8_factOf_128_1 (mc' := 0) (ms' := 0) (rc := 0) (rs := 0) (by omega) (Nat.le_of_ble_eq_true rfl) hr (c_X5_gain_1 (by omega) hr s3 hO ?_)
    refine E_iret dX8_factOf_131 rfl ?_
    exact hΦ
  · subst hy
    have hΦ := hΦ
    rw [if_neg (show ¬ (8 : Nat) = 0 by decide), if_neg (show ¬ (8 : Nat) = 1 by decide), if_neg (show ¬ (8 : Nat) = 2 by decide), if_neg (show ¬ (8 : Nat) = 3 by decide), if_neg (show ¬ (8 : Nat) = 4 by decide), if_neg (show ¬ (8 : Nat) = 5 by decide), if_neg (show ¬ (8 : Nat) = 6 by decide), if_neg (show ¬ (8 : Nat) = 7 by decide)] at hΦ
    unfold rbc at hΦ
    rw [if_pos rfl] at hΦ
    refine E_aload_n (i := 0) dX8_factOf_0 rfl rfl ?_
    refine E_iload_n (i := 1) dX8_factOf_1 rfl rfl ?_
    refine k_X8_factOf_2 (mc' := 0) (ms' := 0) (rc := 0) (rs := 0) (by omega) (Nat.le_of_ble_eq_true rfl) (by assumption) (c_rideAt_in (by omega) hS hk hk8 hi hx hp ?_)
    refine E_astore_nC (i := 3) dX8_factOf_5 rfl (by decide) rfl ?_
    refine E_lv (lv' := [_, _, _, _]) rfl ?_
    refine E_aload_n (i := 3) dX8_factOf_6 rfl rfl ?_
    refine E_ifnonnull (tgt := 12) dX8_factOf_7 (by decide) ?_
    refine E_iload_n (i := 2) dX8_factOf_12 rfl rfl ?_
    refine E_tswOut (tgt := 132) dX8_factOf_13 (by decide) (by decide) ?_
    refine E_aload_n (i := 3) dX8_factOf_132 rfl rfl ?_
    refine E_aload_n (i := 0) dX8_factOf_133 rfl rfl ?_
    refine E_gr dX8_factOf_134 gf_X8_12_8 rfl (by assumption) (by assumption) ?_
    refine k_X8_factOf_137_1 (mc' := 0) (ms' := 0) (rc := 0) (rs := 0) (by omega) (Nat.le_of_ble_eq_true rfl) hr (c_X1_rubs (by omega) hr s3 ?_)
    refine E_iret dX8_factOf_140 rfl ?_
    exact hΦ
theorem c_X8_factOf {B k i r f ci : Nat} {x y : Int32} (hd : 5 ≤ d) (hS : St g P B) (hO : WOK (I (B + 2))) (hk : I B 7 = nI k) (hk8 : k ≤ 8) (hi : i < k) (hx : x = nI i) (hy : y = nI f) (hf : f ≤ 8) (hp : P (B + 3) i = some r) (hr : Cel g r ci) (hc : isR ci) (hΦ : Φ (some (.int (facC ci I B r i f))) g P I) : MM Γ mX8_factOf d 0 0 [.ref B, .int x, .int y] g P I Φ := by
  rcases hc with rfl | rfl | rfl | rfl | rfl | rfl | rfl
  · exact c_factOf_5 hd hS hO hk hk8 hi hx hy hf hp hr hΦ
  · exact c_factOf_6 hd hS hO hk hk8 hi hx hy hf hp hr hΦ
  · exact c_factOf_2 hd hS hO hk hk8 hi hx hy hf hp hr hΦ
  · exact c_factOf_0 hd hS hO hk hk8 hi hx hy hf hp hr hΦ
  · exact c_factOf_9 hd hS hO hk hk8 hi hx hy hf hp hr hΦ
  · exact c_factOf_3 hd hS hO hk hk8 hi hx hy hf hp hr hΦ
  · exact c_factOf_1 hd hS hO hk hk8 hi hx hy hf hp hr hΦ
/-- a State's rides: those there are, each with its class -/
def Ris (g : Sh) (P : HP) (B k : Nat) (rd ci : Nat → Nat) : Prop := ∀ i, i < k → P (B + 3) i = some (rd i) ∧ Cel g (rd i) (ci i) ∧ isR (ci i)
theorem c_X11_ofRide {x y : Int32} {k : Nat} {rd ci : Nat → Nat} (hd : 6 ≤ d) (hL : Ly g P) (hO : WOK (I 23)) (hk : I 21 7 = nI k) (hk8 : k ≤ 8) (hR : Ris g P 21 k rd ci) (h1 : ∀ i f, x = nI i → i < k → y = nI f → f ≤ 8 → Φ (some (.int (facC (ci i) I 21 (rd i) i f))) g P I) (h2 : ¬ ((0 ≤ x ∧ x ≤ nI k - 1) ∧ (0 ≤ y ∧ y ≤ 8)) → Φ (some (.int (er 1))) g P (fl I 1)) : MM Γ mX11_ofRide d 0 0 [.ref 16, .int x, .int y] g P I Φ := by
  refine MM_entry [some _, some _, some _] (by decide) (Nat.le_of_ble_eq_true rfl) rfl ?_
  have h0 := hL.gw
  have l1 := hL.live
  have l2 := hL.s21.c
  by_cases hc2 : 0 ≤ y ∧ y ≤ 8
  · by_cases hc : 0 ≤ x ∧ x ≤ nI k - 1
    · obtain ⟨i, hx, hi⟩ := in_nat (by omega) hc
      obtain ⟨f, hy, hf⟩ := in_04 (n := 8) (by omega) hc2
      obtain ⟨r1, r2, r3⟩ := hR i hi
      have hΦ := h1 i f hx hi hy hf
      refine E_iload_n (i := 2) dX11_ofRide_0 rfl rfl ?_
      refine E_iconst (v := 0) dX11_ofRide_1 (by decide) ?_
      refine E_bipush (v := 8) dX11_ofRide_2 (by decide) ?_
      refine k_X11_ofRide_4 (mc' := 0) (ms' := 0) (rc := 0) (rs := 0) (by omega) (Nat.le_of_ble_eq_true rfl) (c_X11_within ?_)
      rw [bz_t hc2]
      refine E_if_eq (tgt := 21) dX11_ofRide_7 (by decide) (fun c_7 => absurd c_7 (by decide)) (fun c_7 => ?_)
      refine E_aload_n (i := 0) dX11_ofRide_10 rfl rfl ?_
      refine E_gr dX11_ofRide_11 gf_X11_21_11 rfl (by assumption) (by assumption) ?_
      refine E_iload_n (i := 1) dX11_ofRide_14 rfl rfl ?_
      refine k_X11_ofRide_15 (mc' := 0) (ms' := 0) (rc := 0) (rs := 0) (by omega) (Nat.le_of_ble_eq_true rfl) (by assumption) (c_rideAt_in (by omega) hL.s21 hk hk8 hi hx r1 ?_)
      refine E_ifnonnull (tgt := 27) dX11_ofRide_18 (by decide) ?_
      refine E_aload_n (i := 0) dX11_ofRide_27 rfl rfl ?_
      refine E_gr dX11_ofRide_28 gf_X11_21_11 rfl (by assumption) (by assumption) ?_
      refine E_iload_n (i := 1) dX11_ofRide_31 rfl rfl ?_
      refine E_iload_n (i := 2) dX11_ofRide_32 rfl rfl ?_
      refine k_X11_ofRide_33 (mc' := 0) (ms' := 0) (rc := 0) (rs := 0) (by omega) (Nat.le_of_ble_eq_true rfl) (by assumption) (c_X8_factOf (by omega) hL.s21 hO hk hk8 hi hx hy hf r1 r2 r3 ?_)
      refine E_iret dX11_ofRide_36 rfl ?_
      exact hΦ
    · have hΦ := h2 (fun h => hc h.1)
      refine E_iload_n (i := 2) dX11_ofRide_0 rfl rfl ?_
      refine E_iconst (v := 0) dX11_ofRide_1 (by decide) ?_
      refine E_bipush (v := 8) dX11_ofRide_2 (by decide) ?_
      refine k_X11_ofRide_4 (mc' := 0) (ms' := 0) (rc := 0) (rs := 0) (by omega) (Nat.le_of_ble_eq_true rfl) (c_X11_within ?_)
      rw [bz_t hc2]
      refine E_if_eq (tgt := 21) dX11_ofRide_7 (by decide) (fun c_7 => absurd c_7 (by decide)) (fun c_7 => ?_)
      refine E_aload_n (i := 0) dX11_ofRide_10 rfl rfl ?_
      refine E_gr dX11_ofRide_11 gf_X11_21_11 rfl (by assumption) (by assumption) ?_
      refine E_iload_n (i := 1) dX11_ofRide_14 rfl rfl ?_
      refine k_X11_ofRide_15 (mc' := 0) (ms' := 0) (rc := 0) (rs := 0) (by omega) (Nat.le_of_ble_eq_true rfl) (by assumption) (c_rideAt_out (by omega) hL.s21 (by rw [hk]; exact hc) ?_)
      refine E_ifnonnullN dX11_ofRide_18 ?_
      refine E_aload_n (i := 0) dX11_ofRide_21 rfl rfl ?_
      refine E_iconst (v := 1) dX11_ofRide_22 (by decide) ?_
      refine k_X11_ofRide_23 (mc' := 0) (ms' := 0) (rc := 0) (rs := 0) (by omega) (Nat.le_of_ble_eq_true rfl) (by assumption) (c_X11_fail (k := 1) hL rfl (by decide) (by decide) ?_)
      refine E_iret dX11_ofRide_26 rfl ?_
      exact hΦ
  · have hΦ := h2 (fun h => hc2 h.2)
    refine E_iload_n (i := 2) dX11_ofRide_0 rfl rfl ?_
    refine E_iconst (v := 0) dX11_ofRide_1 (by decide) ?_
    refine E_bipush (v := 8) dX11_ofRide_2 (by decide) ?_
    refine k_X11_ofRide_4 (mc' := 0) (ms' := 0) (rc := 0) (rs := 0) (by omega) (Nat.le_of_ble_eq_true rfl) (c_X11_within ?_)
    rw [bz_f hc2]
    refine E_if_eq (tgt := 21) dX11_ofRide_7 (by decide) (fun c_7 => ?_) (fun c_7 => absurd (rfl) c_7)
    refine E_aload_n (i := 0) dX11_ofRide_21 rfl rfl ?_
    refine E_iconst (v := 1) dX11_ofRide_22 (by decide) ?_
    refine k_X11_ofRide_23 (mc' := 0) (ms' := 0) (rc := 0) (rs := 0) (by omega) (Nat.le_of_ble_eq_true rfl) (by assumption) (c_X11_fail (k := 1) hL rfl (by decide) (by decide) ?_)
    refine E_iret dX11_ofRide_26 rfl ?_
    exact hΦ
theorem c_isOf_0 {r f : Nat} {y : Int32} (hy : y = nI f) (hf : f ≤ 6) (hr : Cel g r 5) (hΦ : Φ (some (.int (bz (f ∈ ups 0)))) g P I) : MM Γ mX11_isOf d 0 0 [.ref r, .int y] g P I Φ := by
  refine MM_entry [some _, some _] (by decide) (Nat.le_of_ble_eq_true rfl) rfl ?_
  rcases (show f = 0 ∨ f = 1 ∨ f = 2 ∨ f = 3 ∨ f = 4 ∨ f = 5 ∨ f = 6 by omega) with rfl | rfl | rfl | rfl | rfl | rfl | rfl
  · subst hy
    rw [bz_t (by decide)] at hΦ
    refine E_iload_n (i := 1) dX11_isOf_0 rfl rfl ?_
    refine E_tswOut (tgt := 70) dX11_isOf_1 (by decide) (by decide) ?_
    refine E_iconst (v := 1) dX11_isOf_70 (by decide) ?_
    refine E_zret dX11_isOf_71 rfl rfl ?_
    exact hΦ
  · subst hy
    rw [bz_f (by decide)] at hΦ
    refine E_iload_n (i := 1) dX11_isOf_0 rfl rfl ?_
    refine E_tswIn (tgt := 40) dX11_isOf_1 (by decide) (by decide) rfl (by decide) ?_
    refine E_aload_n (i := 0) dX11_isOf_40 rfl rfl ?_
    refine E_instN (q := (RX5, TX5, 5)) dX11_isOf_41 w_563 (by decide) rfl hr.1 hr.2.1 hr.2.2 ?_
    refine E_zret dX11_isOf_44 rfl rfl ?_
    exact hΦ
  · subst hy
    rw [bz_f (by decide)] at hΦ
    refine E_iload_n (i := 1) dX11_isOf_0 rfl rfl ?_
    refine E_tswIn (tgt := 45) dX11_isOf_1 (by decide) (by decide) rfl (by decide) ?_
    refine E_aload_n (i := 0) dX11_isOf_45 rfl rfl ?_
    refine E_instN (q := (RX5, TX5, 5)) dX11_isOf_46 w_610 (by decide) rfl hr.1 hr.2.1 hr.2.2 ?_
    refine E_zret dX11_isOf_49 rfl rfl ?_
    exact hΦ
  · subst hy
    rw [bz_f (by decide)] at hΦ
    refine E_iload_n (i := 1) dX11_isOf_0 rfl rfl ?_
    refine E_tswIn (tgt := 50) dX11_isOf_1 (by decide) (by decide) rfl (by decide) ?_
    refine E_aload_n (i := 0) dX11_isOf_50 rfl rfl ?_
    refine E_instN (q := (RX5, TX5, 5)) dX11_isOf_51 w_622 (by decide) rfl hr.1 hr.2.1 hr.2.2 ?_
    refine E_zret dX11_isOf_54 rfl rfl ?_
    exact hΦ
  · subst hy
    rw [bz_f (by decide)] at hΦ
    refine E_iload_n (i := 1) dX11_isOf_0 rfl rfl ?_
    refine E_tswIn (tgt := 55) dX11_isOf_1 (by decide) (by decide) rfl (by decide) ?_
    refine E_aload_n (i := 0) dX11_isOf_55 rfl rfl ?_
    refine E_instN (q := (RX5, TX5, 5)) dX11_isOf_56 w_634 (by decide) rfl hr.1 hr.2.1 hr.2.2 ?_
    refine E_zret dX11_isOf_59 rfl rfl ?_
    exact hΦ
  · subst hy
    rw [bz_f (by decide)] at hΦ
    refine E_iload_n (i := 1) dX11_isOf_0 rfl rfl ?_
    refine E_tswIn (tgt := 60) dX11_isOf_1 (by decide) (by decide) rfl (by decide) ?_
    refine E_aload_n (i := 0) dX11_isOf_60 rfl rfl ?_
    refine E_instN (q := (RX5, TX5, 5)) dX11_isOf_61 w_646 (by decide) rfl hr.1 hr.2.1 hr.2.2 ?_
    refine E_zret dX11_isOf_64 rfl rfl ?_
    exact hΦ
  · subst hy
    rw [bz_f (by decide)] at hΦ
    refine E_iload_n (i := 1) dX11_isOf_0 rfl rfl ?_
    refine E_tswIn (tgt := 65) dX11_isOf_1 (by decide) (by decide) rfl (by decide) ?_
    refine E_aload_n (i := 0) dX11_isOf_65 rfl rfl ?_
    refine E_instN (q := (RX5, TX5, 5)) dX11_isOf_66 w_658 (by decide) rfl hr.1 hr.2.1 hr.2.2 ?_
    refine E_zret dX11_isOf_69 rfl rfl ?_
    exact hΦ
theorem c_isOf_1 {r f : Nat} {y : Int32} (hy : y = nI f) (hf : f ≤ 6) (hr : Cel g r 6) (hΦ : Φ (some (.int (bz (f ∈ ups 1)))) g P I) : MM Γ mX11_isOf d 0 0 [.ref r, .int y] g P I Φ := by
  refine MM_entry [some _, some _] (by decide) (Nat.le_of_ble_eq_true rfl) rfl ?_
  rcases (show f = 0 ∨ f = 1 ∨ f = 2 ∨ f = 3 ∨ f = 4 ∨ f = 5 ∨ f = 6 by omega) with rfl | rfl | rfl | rfl | rfl | rfl | rfl
  · subst hy
    rw [bz_t (by decide)] at hΦ
    refine E_iload_n (i := 1) dX11_isOf_0 rfl rfl ?_
    refine E_tswOut (tgt := 70) dX11_isOf_1 (by decide) (by decide) ?_
    refine E_iconst (v := 1) dX11_isOf_70 (by decide) ?_
    refine E_zret dX11_isOf_71 rfl rfl ?_
    exact hΦ
  · subst hy
    rw [bz_t (by decide)] at hΦ
    refine E_iload_n (i := 1) dX11_isOf_0 rfl rfl ?_
    refine E_tswIn (tgt := 40) dX11_isOf_1 (by decide) (by decide) rfl (by decide) ?_
    refine E_aload_n (i := 0) dX11_isOf_40 rfl rfl ?_
    refine E_instS (q := (RX6, TX6, 5)) dX11_isOf_41 w_563 rfl hr.1 hr.2.1 hr.2.2 ?_
    refine E_zret dX11_isOf_44 rfl rfl ?_
    exact hΦ
  · subst hy
    rw [bz_f (by decide)] at hΦ
    refine E_iload_n (i := 1) dX11_isOf_0 rfl rfl ?_
    refine E_tswIn (tgt := 45) dX11_isOf_1 (by decide) (by decide) rfl (by decide) ?_
    refine E_aload_n (i := 0) dX11_isOf_45 rfl rfl ?_
    refine E_instN (q := (RX6, TX6, 5)) dX11_isOf_46 w_610 (by decide) rfl hr.1 hr.2.1 hr.2.2 ?_
    refine E_zret dX11_isOf_49 rfl rfl ?_
    exact hΦ
  · subst hy
    rw [bz_f (by decide)] at hΦ
    refine E_iload_n (i := 1) dX11_isOf_0 rfl rfl ?_
    refine E_tswIn (tgt := 50) dX11_isOf_1 (by decide) (by decide) rfl (by decide) ?_
    refine E_aload_n (i := 0) dX11_isOf_50 rfl rfl ?_
    refine E_instN (q := (RX6, TX6, 5)) dX11_isOf_51 w_622 (by decide) rfl hr.1 hr.2.1 hr.2.2 ?_
    refine E_zret dX11_isOf_54 rfl rfl ?_
    exact hΦ
  · subst hy
    rw [bz_f (by decide)] at hΦ
    refine E_iload_n (i := 1) dX11_isOf_0 rfl rfl ?_
    refine E_tswIn (tgt := 55) dX11_isOf_1 (by decide) (by decide) rfl (by decide) ?_
    refine E_aload_n (i := 0) dX11_isOf_55 rfl rfl ?_
    refine E_instN (q := (RX6, TX6, 5)) dX11_isOf_56 w_634 (by decide) rfl hr.1 hr.2.1 hr.2.2 ?_
    refine E_zret dX11_isOf_59 rfl rfl ?_
    exact hΦ
  · subst hy
    rw [bz_f (by decide)] at hΦ
    refine E_iload_n (i := 1) dX11_isOf_0 rfl rfl ?_
    refine E_tswIn (tgt := 60) dX11_isOf_1 (by decide) (by decide) rfl (by decide) ?_
    refine E_aload_n (i := 0) dX11_isOf_60 rfl rfl ?_
    refine E_instN (q := (RX6, TX6, 5)) dX11_isOf_61 w_646 (by decide) rfl hr.1 hr.2.1 hr.2.2 ?_
    refine E_zret dX11_isOf_64 rfl rfl ?_
    exact hΦ
  · subst hy
    rw [bz_f (by decide)] at hΦ
    refine E_iload_n (i := 1) dX11_isOf_0 rfl rfl ?_
    refine E_tswIn (tgt := 65) dX11_isOf_1 (by decide) (by decide) rfl (by decide) ?_
    refine E_aload_n (i := 0) dX11_isOf_65 rfl rfl ?_
    refine E_instN (q := (RX6, TX6, 5)) dX11_isOf_66 w_658 (by decide) rfl hr.1 hr.2.1 hr.2.2 ?_
    refine E_zret dX11_isOf_69 rfl rfl ?_
    exact hΦ
theorem c_isOf_2 {r f : Nat} {y : Int32} (hy : y = nI f) (hf : f ≤ 6) (hr : Cel g r 2) (hΦ : Φ (some (.int (bz (f ∈ ups 2)))) g P I) : MM Γ mX11_isOf d 0 0 [.ref r, .int y] g P I Φ := by
  refine MM_entry [some _, some _] (by decide) (Nat.le_of_ble_eq_true rfl) rfl ?_
  rcases (show f = 0 ∨ f = 1 ∨ f = 2 ∨ f = 3 ∨ f = 4 ∨ f = 5 ∨ f = 6 by omega) with rfl | rfl | rfl | rfl | rfl | rfl | rfl
  · subst hy
    rw [bz_t (by decide)] at hΦ
    refine E_iload_n (i := 1) dX11_isOf_0 rfl rfl ?_
    refine E_tswOut (tgt := 70) dX11_isOf_1 (by decide) (by decide) ?_
    refine E_iconst (v := 1) dX11_isOf_70 (by decide) ?_
    refine E_zret dX11_isOf_71 rfl rfl ?_
    exact hΦ
  · subst hy
    rw [bz_f (by decide)] at hΦ
    refine E_iload_n (i := 1) dX11_isOf_0 rfl rfl ?_
    refine E_tswIn (tgt := 40) dX11_isOf_1 (by decide) (by decide) rfl (by decide) ?_
    refine E_aload_n (i := 0) dX11_isOf_40 rfl rfl ?_
    refine E_instN (q := (RX2, TX2, 5)) dX11_isOf_41 w_563 (by decide) rfl hr.1 hr.2.1 hr.2.2 ?_
    refine E_zret dX11_isOf_44 rfl rfl ?_
    exact hΦ
  · subst hy
    rw [bz_t (by decide)] at hΦ
    refine E_iload_n (i := 1) dX11_isOf_0 rfl rfl ?_
    refine E_tswIn (tgt := 45) dX11_isOf_1 (by decide) (by decide) rfl (by decide) ?_
    refine E_aload_n (i := 0) dX11_isOf_45 rfl rfl ?_
    refine E_instS (q := (RX2, TX2, 5)) dX11_isOf_46 w_610 rfl hr.1 hr.2.1 hr.2.2 ?_
    refine E_zret dX11_isOf_49 rfl rfl ?_
    exact hΦ
  · subst hy
    rw [bz_f (by decide)] at hΦ
    refine E_iload_n (i := 1) dX11_isOf_0 rfl rfl ?_
    refine E_tswIn (tgt := 50) dX11_isOf_1 (by decide) (by decide) rfl (by decide) ?_
    refine E_aload_n (i := 0) dX11_isOf_50 rfl rfl ?_
    refine E_instN (q := (RX2, TX2, 5)) dX11_isOf_51 w_622 (by decide) rfl hr.1 hr.2.1 hr.2.2 ?_
    refine E_zret dX11_isOf_54 rfl rfl ?_
    exact hΦ
  · subst hy
    rw [bz_f (by decide)] at hΦ
    refine E_iload_n (i := 1) dX11_isOf_0 rfl rfl ?_
    refine E_tswIn (tgt := 55) dX11_isOf_1 (by decide) (by decide) rfl (by decide) ?_
    refine E_aload_n (i := 0) dX11_isOf_55 rfl rfl ?_
    refine E_instN (q := (RX2, TX2, 5)) dX11_isOf_56 w_634 (by decide) rfl hr.1 hr.2.1 hr.2.2 ?_
    refine E_zret dX11_isOf_59 rfl rfl ?_
    exact hΦ
  · subst hy
    rw [bz_f (by decide)] at hΦ
    refine E_iload_n (i := 1) dX11_isOf_0 rfl rfl ?_
    refine E_tswIn (tgt := 60) dX11_isOf_1 (by decide) (by decide) rfl (by decide) ?_
    refine E_aload_n (i := 0) dX11_isOf_60 rfl rfl ?_
    refine E_instN (q := (RX2, TX2, 5)) dX11_isOf_61 w_646 (by decide) rfl hr.1 hr.2.1 hr.2.2 ?_
    refine E_zret dX11_isOf_64 rfl rfl ?_
    exact hΦ
  · subst hy
    rw [bz_f (by decide)] at hΦ
    refine E_iload_n (i := 1) dX11_isOf_0 rfl rfl ?_
    refine E_tswIn (tgt := 65) dX11_isOf_1 (by decide) (by decide) rfl (by decide) ?_
    refine E_aload_n (i := 0) dX11_isOf_65 rfl rfl ?_
    refine E_instN (q := (RX2, TX2, 5)) dX11_isOf_66 w_658 (by decide) rfl hr.1 hr.2.1 hr.2.2 ?_
    refine E_zret dX11_isOf_69 rfl rfl ?_
    exact hΦ
theorem c_isOf_3 {r f : Nat} {y : Int32} (hy : y = nI f) (hf : f ≤ 6) (hr : Cel g r 0) (hΦ : Φ (some (.int (bz (f ∈ ups 3)))) g P I) : MM Γ mX11_isOf d 0 0 [.ref r, .int y] g P I Φ := by
  refine MM_entry [some _, some _] (by decide) (Nat.le_of_ble_eq_true rfl) rfl ?_
  rcases (show f = 0 ∨ f = 1 ∨ f = 2 ∨ f = 3 ∨ f = 4 ∨ f = 5 ∨ f = 6 by omega) with rfl | rfl | rfl | rfl | rfl | rfl | rfl
  · subst hy
    rw [bz_t (by decide)] at hΦ
    refine E_iload_n (i := 1) dX11_isOf_0 rfl rfl ?_
    refine E_tswOut (tgt := 70) dX11_isOf_1 (by decide) (by decide) ?_
    refine E_iconst (v := 1) dX11_isOf_70 (by decide) ?_
    refine E_zret dX11_isOf_71 rfl rfl ?_
    exact hΦ
  · subst hy
    rw [bz_t (by decide)] at hΦ
    refine E_iload_n (i := 1) dX11_isOf_0 rfl rfl ?_
    refine E_tswIn (tgt := 40) dX11_isOf_1 (by decide) (by decide) rfl (by decide) ?_
    refine E_aload_n (i := 0) dX11_isOf_40 rfl rfl ?_
    refine E_instY (q := (RX0, TX0, 5)) dX11_isOf_41 w_563 (by decide) rfl hr.1 hr.2.1 hr.2.2 ?_
    refine E_zret dX11_isOf_44 rfl rfl ?_
    exact hΦ
  · subst hy
    rw [bz_f (by decide)] at hΦ
    refine E_iload_n (i := 1) dX11_isOf_0 rfl rfl ?_
    refine E_tswIn (tgt := 45) dX11_isOf_1 (by decide) (by decide) rfl (by decide) ?_
    refine E_aload_n (i := 0) dX11_isOf_45 rfl rfl ?_
    refine E_instN (q := (RX0, TX0, 5)) dX11_isOf_46 w_610 (by decide) rfl hr.1 hr.2.1 hr.2.2 ?_
    refine E_zret dX11_isOf_49 rfl rfl ?_
    exact hΦ
  · subst hy
    rw [bz_t (by decide)] at hΦ
    refine E_iload_n (i := 1) dX11_isOf_0 rfl rfl ?_
    refine E_tswIn (tgt := 50) dX11_isOf_1 (by decide) (by decide) rfl (by decide) ?_
    refine E_aload_n (i := 0) dX11_isOf_50 rfl rfl ?_
    refine E_instS (q := (RX0, TX0, 5)) dX11_isOf_51 w_622 rfl hr.1 hr.2.1 hr.2.2 ?_
    refine E_zret dX11_isOf_54 rfl rfl ?_
    exact hΦ
  · subst hy
    rw [bz_f (by decide)] at hΦ
    refine E_iload_n (i := 1) dX11_isOf_0 rfl rfl ?_
    refine E_tswIn (tgt := 55) dX11_isOf_1 (by decide) (by decide) rfl (by decide) ?_
    refine E_aload_n (i := 0) dX11_isOf_55 rfl rfl ?_
    refine E_instN (q := (RX0, TX0, 5)) dX11_isOf_56 w_634 (by decide) rfl hr.1 hr.2.1 hr.2.2 ?_
    refine E_zret dX11_isOf_59 rfl rfl ?_
    exact hΦ
  · subst hy
    rw [bz_f (by decide)] at hΦ
    refine E_iload_n (i := 1) dX11_isOf_0 rfl rfl ?_
    refine E_tswIn (tgt := 60) dX11_isOf_1 (by decide) (by decide) rfl (by decide) ?_
    refine E_aload_n (i := 0) dX11_isOf_60 rfl rfl ?_
    refine E_instN (q := (RX0, TX0, 5)) dX11_isOf_61 w_646 (by decide) rfl hr.1 hr.2.1 hr.2.2 ?_
    refine E_zret dX11_isOf_64 rfl rfl ?_
    exact hΦ
  · subst hy
    rw [bz_f (by decide)] at hΦ
    refine E_iload_n (i := 1) dX11_isOf_0 rfl rfl ?_
    refine E_tswIn (tgt := 65) dX11_isOf_1 (by decide) (by decide) rfl (by decide) ?_
    refine E_aload_n (i := 0) dX11_isOf_65 rfl rfl ?_
    refine E_instN (q := (RX0, TX0, 5)) dX11_isOf_66 w_658 (by decide) rfl hr.1 hr.2.1 hr.2.2 ?_
    refine E_zret dX11_isOf_69 rfl rfl ?_
    exact hΦ
theorem c_isOf_4 {r f : Nat} {y : Int32} (hy : y = nI f) (hf : f ≤ 6) (hr : Cel g r 9) (hΦ : Φ (some (.int (bz (f ∈ ups 4)))) g P I) : MM Γ mX11_isOf d 0 0 [.ref r, .int y] g P I Φ := by
  refine MM_entry [some _, some _] (by decide) (Nat.le_of_ble_eq_true rfl) rfl ?_
  rcases (show f = 0 ∨ f = 1 ∨ f = 2 ∨ f = 3 ∨ f = 4 ∨ f = 5 ∨ f = 6 by omega) with rfl | rfl | rfl | rfl | rfl | rfl | rfl
  · subst hy
    rw [bz_t (by decide)] at hΦ
    refine E_iload_n (i := 1) dX11_isOf_0 rfl rfl ?_
    refine E_tswOut (tgt := 70) dX11_isOf_1 (by decide) (by decide) ?_
    refine E_iconst (v := 1) dX11_isOf_70 (by decide) ?_
    refine E_zret dX11_isOf_71 rfl rfl ?_
    exact hΦ
  · subst hy
    rw [bz_f (by decide)] at hΦ
    refine E_iload_n (i := 1) dX11_isOf_0 rfl rfl ?_
    refine E_tswIn (tgt := 40) dX11_isOf_1 (by decide) (by decide) rfl (by decide) ?_
    refine E_aload_n (i := 0) dX11_isOf_40 rfl rfl ?_
    refine E_instN (q := (RX9, TX9, 5)) dX11_isOf_41 w_563 (by decide) rfl hr.1 hr.2.1 hr.2.2 ?_
    refine E_zret dX11_isOf_44 rfl rfl ?_
    exact hΦ
  · subst hy
    rw [bz_f (by decide)] at hΦ
    refine E_iload_n (i := 1) dX11_isOf_0 rfl rfl ?_
    refine E_tswIn (tgt := 45) dX11_isOf_1 (by decide) (by decide) rfl (by decide) ?_
    refine E_aload_n (i := 0) dX11_isOf_45 rfl rfl ?_
    refine E_instN (q := (RX9, TX9, 5)) dX11_isOf_46 w_610 (by decide) rfl hr.1 hr.2.1 hr.2.2 ?_
    refine E_zret dX11_isOf_49 rfl rfl ?_
    exact hΦ
  · subst hy
    rw [bz_f (by decide)] at hΦ
    refine E_iload_n (i := 1) dX11_isOf_0 rfl rfl ?_
    refine E_tswIn (tgt := 50) dX11_isOf_1 (by decide) (by decide) rfl (by decide) ?_
    refine E_aload_n (i := 0) dX11_isOf_50 rfl rfl ?_
    refine E_instN (q := (RX9, TX9, 5)) dX11_isOf_51 w_622 (by decide) rfl hr.1 hr.2.1 hr.2.2 ?_
    refine E_zret dX11_isOf_54 rfl rfl ?_
    exact hΦ
  · subst hy
    rw [bz_t (by decide)] at hΦ
    refine E_iload_n (i := 1) dX11_isOf_0 rfl rfl ?_
    refine E_tswIn (tgt := 55) dX11_isOf_1 (by decide) (by decide) rfl (by decide) ?_
    refine E_aload_n (i := 0) dX11_isOf_55 rfl rfl ?_
    refine E_instS (q := (RX9, TX9, 5)) dX11_isOf_56 w_634 rfl hr.1 hr.2.1 hr.2.2 ?_
    refine E_zret dX11_isOf_59 rfl rfl ?_
    exact hΦ
  · subst hy
    rw [bz_f (by decide)] at hΦ
    refine E_iload_n (i := 1) dX11_isOf_0 rfl rfl ?_
    refine E_tswIn (tgt := 60) dX11_isOf_1 (by decide) (by decide) rfl (by decide) ?_
    refine E_aload_n (i := 0) dX11_isOf_60 rfl rfl ?_
    refine E_instN (q := (RX9, TX9, 5)) dX11_isOf_61 w_646 (by decide) rfl hr.1 hr.2.1 hr.2.2 ?_
    refine E_zret dX11_isOf_64 rfl rfl ?_
    exact hΦ
  · subst hy
    rw [bz_f (by decide)] at hΦ
    refine E_iload_n (i := 1) dX11_isOf_0 rfl rfl ?_
    refine E_tswIn (tgt := 65) dX11_isOf_1 (by decide) (by decide) rfl (by decide) ?_
    refine E_aload_n (i := 0) dX11_isOf_65 rfl rfl ?_
    refine E_instN (q := (RX9, TX9, 5)) dX11_isOf_66 w_658 (by decide) rfl hr.1 hr.2.1 hr.2.2 ?_
    refine E_zret dX11_isOf_69 rfl rfl ?_
    exact hΦ
theorem c_isOf_5 {r f : Nat} {y : Int32} (hy : y = nI f) (hf : f ≤ 6) (hr : Cel g r 3) (hΦ : Φ (some (.int (bz (f ∈ ups 5)))) g P I) : MM Γ mX11_isOf d 0 0 [.ref r, .int y] g P I Φ := by
  refine MM_entry [some _, some _] (by decide) (Nat.le_of_ble_eq_true rfl) rfl ?_
  rcases (show f = 0 ∨ f = 1 ∨ f = 2 ∨ f = 3 ∨ f = 4 ∨ f = 5 ∨ f = 6 by omega) with rfl | rfl | rfl | rfl | rfl | rfl | rfl
  · subst hy
    rw [bz_t (by decide)] at hΦ
    refine E_iload_n (i := 1) dX11_isOf_0 rfl rfl ?_
    refine E_tswOut (tgt := 70) dX11_isOf_1 (by decide) (by decide) ?_
    refine E_iconst (v := 1) dX11_isOf_70 (by decide) ?_
    refine E_zret dX11_isOf_71 rfl rfl ?_
    exact hΦ
  · subst hy
    rw [bz_t (by decide)] at hΦ
    refine E_iload_n (i := 1) dX11_isOf_0 rfl rfl ?_
    refine E_tswIn (tgt := 40) dX11_isOf_1 (by decide) (by decide) rfl (by decide) ?_
    refine E_aload_n (i := 0) dX11_isOf_40 rfl rfl ?_
    refine E_instY (q := (RX3, TX3, 5)) dX11_isOf_41 w_563 (by decide) rfl hr.1 hr.2.1 hr.2.2 ?_
    refine E_zret dX11_isOf_44 rfl rfl ?_
    exact hΦ
  · subst hy
    rw [bz_f (by decide)] at hΦ
    refine E_iload_n (i := 1) dX11_isOf_0 rfl rfl ?_
    refine E_tswIn (tgt := 45) dX11_isOf_1 (by decide) (by decide) rfl (by decide) ?_
    refine E_aload_n (i := 0) dX11_isOf_45 rfl rfl ?_
    refine E_instN (q := (RX3, TX3, 5)) dX11_isOf_46 w_610 (by decide) rfl hr.1 hr.2.1 hr.2.2 ?_
    refine E_zret dX11_isOf_49 rfl rfl ?_
    exact hΦ
  · subst hy
    rw [bz_t (by decide)] at hΦ
    refine E_iload_n (i := 1) dX11_isOf_0 rfl rfl ?_
    refine E_tswIn (tgt := 50) dX11_isOf_1 (by decide) (by decide) rfl (by decide) ?_
    refine E_aload_n (i := 0) dX11_isOf_50 rfl rfl ?_
    refine E_instY (q := (RX3, TX3, 5)) dX11_isOf_51 w_622 (by decide) rfl hr.1 hr.2.1 hr.2.2 ?_
    refine E_zret dX11_isOf_54 rfl rfl ?_
    exact hΦ
  · subst hy
    rw [bz_f (by decide)] at hΦ
    refine E_iload_n (i := 1) dX11_isOf_0 rfl rfl ?_
    refine E_tswIn (tgt := 55) dX11_isOf_1 (by decide) (by decide) rfl (by decide) ?_
    refine E_aload_n (i := 0) dX11_isOf_55 rfl rfl ?_
    refine E_instN (q := (RX3, TX3, 5)) dX11_isOf_56 w_634 (by decide) rfl hr.1 hr.2.1 hr.2.2 ?_
    refine E_zret dX11_isOf_59 rfl rfl ?_
    exact hΦ
  · subst hy
    rw [bz_t (by decide)] at hΦ
    refine E_iload_n (i := 1) dX11_isOf_0 rfl rfl ?_
    refine E_tswIn (tgt := 60) dX11_isOf_1 (by decide) (by decide) rfl (by decide) ?_
    refine E_aload_n (i := 0) dX11_isOf_60 rfl rfl ?_
    refine E_instS (q := (RX3, TX3, 5)) dX11_isOf_61 w_646 rfl hr.1 hr.2.1 hr.2.2 ?_
    refine E_zret dX11_isOf_64 rfl rfl ?_
    exact hΦ
  · subst hy
    rw [bz_f (by decide)] at hΦ
    refine E_iload_n (i := 1) dX11_isOf_0 rfl rfl ?_
    refine E_tswIn (tgt := 65) dX11_isOf_1 (by decide) (by decide) rfl (by decide) ?_
    refine E_aload_n (i := 0) dX11_isOf_65 rfl rfl ?_
    refine E_instN (q := (RX3, TX3, 5)) dX11_isOf_66 w_658 (by decide) rfl hr.1 hr.2.1 hr.2.2 ?_
    refine E_zret dX11_isOf_69 rfl rfl ?_
    exact hΦ
theorem c_isOf_6 {r f : Nat} {y : Int32} (hy : y = nI f) (hf : f ≤ 6) (hr : Cel g r 1) (hΦ : Φ (some (.int (bz (f ∈ ups 6)))) g P I) : MM Γ mX11_isOf d 0 0 [.ref r, .int y] g P I Φ := by
  refine MM_entry [some _, some _] (by decide) (Nat.le_of_ble_eq_true rfl) rfl ?_
  rcases (show f = 0 ∨ f = 1 ∨ f = 2 ∨ f = 3 ∨ f = 4 ∨ f = 5 ∨ f = 6 by omega) with rfl | rfl | rfl | rfl | rfl | rfl | rfl
  · subst hy
    rw [bz_t (by decide)] at hΦ
    refine E_iload_n (i := 1) dX11_isOf_0 rfl rfl ?_
    refine E_tswOut (tgt := 70) dX11_isOf_1 (by decide) (by decide) ?_
    refine E_iconst (v := 1) dX11_isOf_70 (by decide) ?_
    refine E_zret dX11_isOf_71 rfl rfl ?_
    exact hΦ
  · subst hy
    rw [bz_f (by decide)] at hΦ
    refine E_iload_n (i := 1) dX11_isOf_0 rfl rfl ?_
    refine E_tswIn (tgt := 40) dX11_isOf_1 (by decide) (by decide) rfl (by decide) ?_
    refine E_aload_n (i := 0) dX11_isOf_40 rfl rfl ?_
    refine E_instN (q := (RX1, TX1, 5)) dX11_isOf_41 w_563 (by decide) rfl hr.1 hr.2.1 hr.2.2 ?_
    refine E_zret dX11_isOf_44 rfl rfl ?_
    exact hΦ
  · subst hy
    rw [bz_t (by decide)] at hΦ
    refine E_iload_n (i := 1) dX11_isOf_0 rfl rfl ?_
    refine E_tswIn (tgt := 45) dX11_isOf_1 (by decide) (by decide) rfl (by decide) ?_
    refine E_aload_n (i := 0) dX11_isOf_45 rfl rfl ?_
    refine E_instY (q := (RX1, TX1, 5)) dX11_isOf_46 w_610 (by decide) rfl hr.1 hr.2.1 hr.2.2 ?_
    refine E_zret dX11_isOf_49 rfl rfl ?_
    exact hΦ
  · subst hy
    rw [bz_f (by decide)] at hΦ
    refine E_iload_n (i := 1) dX11_isOf_0 rfl rfl ?_
    refine E_tswIn (tgt := 50) dX11_isOf_1 (by decide) (by decide) rfl (by decide) ?_
    refine E_aload_n (i := 0) dX11_isOf_50 rfl rfl ?_
    refine E_instN (q := (RX1, TX1, 5)) dX11_isOf_51 w_622 (by decide) rfl hr.1 hr.2.1 hr.2.2 ?_
    refine E_zret dX11_isOf_54 rfl rfl ?_
    exact hΦ
  · subst hy
    rw [bz_f (by decide)] at hΦ
    refine E_iload_n (i := 1) dX11_isOf_0 rfl rfl ?_
    refine E_tswIn (tgt := 55) dX11_isOf_1 (by decide) (by decide) rfl (by decide) ?_
    refine E_aload_n (i := 0) dX11_isOf_55 rfl rfl ?_
    refine E_instN (q := (RX1, TX1, 5)) dX11_isOf_56 w_634 (by decide) rfl hr.1 hr.2.1 hr.2.2 ?_
    refine E_zret dX11_isOf_59 rfl rfl ?_
    exact hΦ
  · subst hy
    rw [bz_f (by decide)] at hΦ
    refine E_iload_n (i := 1) dX11_isOf_0 rfl rfl ?_
    refine E_tswIn (tgt := 60) dX11_isOf_1 (by decide) (by decide) rfl (by decide) ?_
    refine E_aload_n (i := 0) dX11_isOf_60 rfl rfl ?_
    refine E_instN (q := (RX1, TX1, 5)) dX11_isOf_61 w_646 (by decide) rfl hr.1 hr.2.1 hr.2.2 ?_
    refine E_zret dX11_isOf_64 rfl rfl ?_
    exact hΦ
  · subst hy
    rw [bz_t (by decide)] at hΦ
    refine E_iload_n (i := 1) dX11_isOf_0 rfl rfl ?_
    refine E_tswIn (tgt := 65) dX11_isOf_1 (by decide) (by decide) rfl (by decide) ?_
    refine E_aload_n (i := 0) dX11_isOf_65 rfl rfl ?_
    refine E_instS (q := (RX1, TX1, 5)) dX11_isOf_66 w_658 rfl hr.1 hr.2.1 hr.2.2 ?_
    refine E_zret dX11_isOf_69 rfl rfl ?_
    exact hΦ
theorem c_X11_isOf {r f kd : Nat} {y : Int32} (hy : y = nI f) (hf : f ≤ 6) (hkd : kd ≤ 6) (hr : Cel g r (kc kd)) (hΦ : Φ (some (.int (bz (f ∈ ups kd)))) g P I) : MM Γ mX11_isOf d 0 0 [.ref r, .int y] g P I Φ := by
  rcases (show kd = 0 ∨ kd = 1 ∨ kd = 2 ∨ kd = 3 ∨ kd = 4 ∨ kd = 5 ∨ kd = 6 by omega) with rfl | rfl | rfl | rfl | rfl | rfl | rfl
  · exact c_isOf_0 hy hf hr hΦ
  · exact c_isOf_1 hy hf hr hΦ
  · exact c_isOf_2 hy hf hr hΦ
  · exact c_isOf_3 hy hf hr hΦ
  · exact c_isOf_4 hy hf hr hΦ
  · exact c_isOf_5 hy hf hr hΦ
  · exact c_isOf_6 hy hf hr hΦ
theorem c_as_0 {x y : Int32} {k i r f : Nat} (hd : 2 ≤ d) (hL : Ly g P) (hk : I 21 7 = nI k) (hk8 : k ≤ 8) (hi : i < k) (hx : x = nI i) (hy : y = nI f) (hf : f ≤ 6) (hp : P 24 i = some r) (hr : Cel g r 5) (h1 : f ∈ ups 0 → Φ (some (.int (I r 2))) g P I) (h3 : ¬ f ∈ ups 0 → Φ (some (.int (er 5))) g P (fl I 5)) : MM Γ mX11_as d 0 0 [.ref 16, .int x, .int y] g P I Φ := by
  refine MM_entry [some _, some _, some _, none] (by decide) (Nat.le_of_ble_eq_true rfl) rfl ?_
  have h0 := hL.gw
  have l1 := hL.live
  have l2 := hL.s21.c
  have hc2 : 0 ≤ y ∧ y ≤ 6 := by rw [hy]; exact ⟨nI_pos' (by omega), nI_le (b := 6) hf (by omega)⟩
  by_cases hm : f ∈ ups 0
  · have hΦ := h1 hm
    refine E_aload_n (i := 0) dX11_as_0 rfl rfl ?_
    refine E_gr dX11_as_1 gf_X11_21_11 rfl (by assumption) (by assumption) ?_
    refine E_iload_n (i := 1) dX11_as_4 rfl rfl ?_
    refine k_X11_as_5 (mc' := 0) (ms' := 0) (rc := 0) (rs := 0) (by omega) (Nat.le_of_ble_eq_true rfl) (by assumption) (c_rideAt_in (by omega) hL.s21 hk hk8 hi hx hp ?_)
    refine E_astore_nC (i := 3) dX11_as_8 rfl (by decide) rfl ?_
    refine E_lv (lv' := [_, _, _, _]) rfl ?_
    refine E_aload_n (i := 3) dX11_as_9 rfl rfl ?_
    refine E_ifnull dX11_as_10 ?_
    refine E_iload_n (i := 2) dX11_as_13 rfl rfl ?_
    refine E_iconst (v := 0) dX11_as_14 (by decide) ?_
    refine E_bipush (v := 6) dX11_as_15 (by decide) ?_
    refine k_X11_as_17 (mc' := 0) (ms' := 0) (rc := 0) (rs := 0) (by omega) (Nat.le_of_ble_eq_true rfl) (c_X11_within ?_)
    rw [bz_t hc2]
    refine E_if_ne (tgt := 29) dX11_as_20 (by decide) (fun c_20 => ?_) (fun c_20 => absurd c_20 (by decide))
    refine E_aload_n (i := 3) dX11_as_29 rfl rfl ?_
    refine E_iload_n (i := 2) dX11_as_30 rfl rfl ?_
    refine k_X11_as_31 (mc' := 0) (ms' := 0) (rc := 0) (rs := 0) (by omega) (Nat.le_of_ble_eq_true rfl) (c_isOf_0 hy hf hr ?_)
    rw [bz_t hm]
    refine E_if_eq (tgt := 44) dX11_as_34 (by decide) (fun c_34 => absurd c_34 (by decide)) (fun c_34 => ?_)
    refine E_aload_n (i := 3) dX11_as_37 rfl rfl ?_
    refine E_gi dX11_as_38 gf_X11_138_5 rfl hr ?_
    refine E_goto (tgt := 49) dX11_as_41 (by decide) ?_
    refine E_iret dX11_as_49 rfl ?_
    exact hΦ
  · have hΦ := h3 hm
    refine E_aload_n (i := 0) dX11_as_0 rfl rfl ?_
    refine E_gr dX11_as_1 gf_X11_21_11 rfl (by assumption) (by assumption) ?_
    refine E_iload_n (i := 1) dX11_as_4 rfl rfl ?_
    refine k_X11_as_5 (mc' := 0) (ms' := 0) (rc := 0) (rs := 0) (by omega) (Nat.le_of_ble_eq_true rfl) (by assumption) (c_rideAt_in (by omega) hL.s21 hk hk8 hi hx hp ?_)
    refine E_astore_nC (i := 3) dX11_as_8 rfl (by decide) rfl ?_
    refine E_lv (lv' := [_, _, _, _]) rfl ?_
    refine E_aload_n (i := 3) dX11_as_9 rfl rfl ?_
    refine E_ifnull dX11_as_10 ?_
    refine E_iload_n (i := 2) dX11_as_13 rfl rfl ?_
    refine E_iconst (v := 0) dX11_as_14 (by decide) ?_
    refine E_bipush (v := 6) dX11_as_15 (by decide) ?_
    refine k_X11_as_17 (mc' := 0) (ms' := 0) (rc := 0) (rs := 0) (by omega) (Nat.le_of_ble_eq_true rfl) (c_X11_within ?_)
    rw [bz_t hc2]
    refine E_if_ne (tgt := 29) dX11_as_20 (by decide) (fun c_20 => ?_) (fun c_20 => absurd c_20 (by decide))
    refine E_aload_n (i := 3) dX11_as_29 rfl rfl ?_
    refine E_iload_n (i := 2) dX11_as_30 rfl rfl ?_
    refine k_X11_as_31 (mc' := 0) (ms' := 0) (rc := 0) (rs := 0) (by omega) (Nat.le_of_ble_eq_true rfl) (c_isOf_0 hy hf hr ?_)
    rw [bz_f hm]
    refine E_if_eq (tgt := 44) dX11_as_34 (by decide) (fun c_34 => ?_) (fun c_34 => absurd (rfl) c_34)
    refine E_aload_n (i := 0) dX11_as_44 rfl rfl ?_
    refine E_iconst (v := 5) dX11_as_45 (by decide) ?_
    refine k_X11_as_46 (mc' := 0) (ms' := 0) (rc := 0) (rs := 0) (by omega) (Nat.le_of_ble_eq_true rfl) (by assumption) (c_X11_fail (k := 5) hL rfl (by decide) (by decide) ?_)
    refine E_iret dX11_as_49 rfl ?_
    exact hΦ
theorem c_as_1 {x y : Int32} {k i r f : Nat} (hd : 2 ≤ d) (hL : Ly g P) (hk : I 21 7 = nI k) (hk8 : k ≤ 8) (hi : i < k) (hx : x = nI i) (hy : y = nI f) (hf : f ≤ 6) (hp : P 24 i = some r) (hr : Cel g r 6) (h1 : f ∈ ups 1 → Φ (some (.int (I r 2))) g P I) (h3 : ¬ f ∈ ups 1 → Φ (some (.int (er 5))) g P (fl I 5)) : MM Γ mX11_as d 0 0 [.ref 16, .int x, .int y] g P I Φ := by
  refine MM_entry [some _, some _, some _, none] (by decide) (Nat.le_of_ble_eq_true rfl) rfl ?_
  have h0 := hL.gw
  have l1 := hL.live
  have l2 := hL.s21.c
  have hc2 : 0 ≤ y ∧ y ≤ 6 := by rw [hy]; exact ⟨nI_pos' (by omega), nI_le (b := 6) hf (by omega)⟩
  by_cases hm : f ∈ ups 1
  · have hΦ := h1 hm
    refine E_aload_n (i := 0) dX11_as_0 rfl rfl ?_
    refine E_gr dX11_as_1 gf_X11_21_11 rfl (by assumption) (by assumption) ?_
    refine E_iload_n (i := 1) dX11_as_4 rfl rfl ?_
    refine k_X11_as_5 (mc' := 0) (ms' := 0) (rc := 0) (rs := 0) (by omega) (Nat.le_of_ble_eq_true rfl) (by assumption) (c_rideAt_in (by omega) hL.s21 hk hk8 hi hx hp ?_)
    refine E_astore_nC (i := 3) dX11_as_8 rfl (by decide) rfl ?_
    refine E_lv (lv' := [_, _, _, _]) rfl ?_
    refine E_aload_n (i := 3) dX11_as_9 rfl rfl ?_
    refine E_ifnull dX11_as_10 ?_
    refine E_iload_n (i := 2) dX11_as_13 rfl rfl ?_
    refine E_iconst (v := 0) dX11_as_14 (by decide) ?_
    refine E_bipush (v := 6) dX11_as_15 (by decide) ?_
    refine k_X11_as_17 (mc' := 0) (ms' := 0) (rc := 0) (rs := 0) (by omega) (Nat.le_of_ble_eq_true rfl) (c_X11_within ?_)
    rw [bz_t hc2]
    refine E_if_ne (tgt := 29) dX11_as_20 (by decide) (fun c_20 => ?_) (fun c_20 => absurd c_20 (by decide))
    refine E_aload_n (i := 3) dX11_as_29 rfl rfl ?_
    refine E_iload_n (i := 2) dX11_as_30 rfl rfl ?_
    refine k_X11_as_31 (mc' := 0) (ms' := 0) (rc := 0) (rs := 0) (by omega) (Nat.le_of_ble_eq_true rfl) (c_isOf_1 hy hf hr ?_)
    rw [bz_t hm]
    refine E_if_eq (tgt := 44) dX11_as_34 (by decide) (fun c_34 => absurd c_34 (by decide)) (fun c_34 => ?_)
    refine E_aload_n (i := 3) dX11_as_37 rfl rfl ?_
    refine E_gi dX11_as_38 gf_X11_138_6 rfl hr ?_
    refine E_goto (tgt := 49) dX11_as_41 (by decide) ?_
    refine E_iret dX11_as_49 rfl ?_
    exact hΦ
  · have hΦ := h3 hm
    refine E_aload_n (i := 0) dX11_as_0 rfl rfl ?_
    refine E_gr dX11_as_1 gf_X11_21_11 rfl (by assumption) (by assumption) ?_
    refine E_iload_n (i := 1) dX11_as_4 rfl rfl ?_
    refine k_X11_as_5 (mc' := 0) (ms' := 0) (rc := 0) (rs := 0) (by omega) (Nat.le_of_ble_eq_true rfl) (by assumption) (c_rideAt_in (by omega) hL.s21 hk hk8 hi hx hp ?_)
    refine E_astore_nC (i := 3) dX11_as_8 rfl (by decide) rfl ?_
    refine E_lv (lv' := [_, _, _, _]) rfl ?_
    refine E_aload_n (i := 3) dX11_as_9 rfl rfl ?_
    refine E_ifnull dX11_as_10 ?_
    refine E_iload_n (i := 2) dX11_as_13 rfl rfl ?_
    refine E_iconst (v := 0) dX11_as_14 (by decide) ?_
    refine E_bipush (v := 6) dX11_as_15 (by decide) ?_
    refine k_X11_as_17 (mc' := 0) (ms' := 0) (rc := 0) (rs := 0) (by omega) (Nat.le_of_ble_eq_true rfl) (c_X11_within ?_)
    rw [bz_t hc2]
    refine E_if_ne (tgt := 29) dX11_as_20 (by decide) (fun c_20 => ?_) (fun c_20 => absurd c_20 (by decide))
    refine E_aload_n (i := 3) dX11_as_29 rfl rfl ?_
    refine E_iload_n (i := 2) dX11_as_30 rfl rfl ?_
    refine k_X11_as_31 (mc' := 0) (ms' := 0) (rc := 0) (rs := 0) (by omega) (Nat.le_of_ble_eq_true rfl) (c_isOf_1 hy hf hr ?_)
    rw [bz_f hm]
    refine E_if_eq (tgt := 44) dX11_as_34 (by decide) (fun c_34 => ?_) (fun c_34 => absurd (rfl) c_34)
    refine E_aload_n (i := 0) dX11_as_44 rfl rfl ?_
    refine E_iconst (v := 5) dX11_as_45 (by decide) ?_
    refine k_X11_as_46 (mc' := 0) (ms' := 0) (rc := 0) (rs := 0) (by omega) (Nat.le_of_ble_eq_true rfl) (by assumption) (c_X11_fail (k := 5) hL rfl (by decide) (by decide) ?_)
    refine E_iret dX11_as_49 rfl ?_
    exact hΦ
theorem c_as_2 {x y : Int32} {k i r f : Nat} (hd : 2 ≤ d) (hL : Ly g P) (hk : I 21 7 = nI k) (hk8 : k ≤ 8) (hi : i < k) (hx : x = nI i) (hy : y = nI f) (hf : f ≤ 6) (hp : P 24 i = some r) (hr : Cel g r 2) (h1 : f ∈ ups 2 → Φ (some (.int (I r 2))) g P I) (h3 : ¬ f ∈ ups 2 → Φ (some (.int (er 5))) g P (fl I 5)) : MM Γ mX11_as d 0 0 [.ref 16, .int x, .int y] g P I Φ := by
  refine MM_entry [some _, some _, some _, none] (by decide) (Nat.le_of_ble_eq_true rfl) rfl ?_
  have h0 := hL.gw
  have l1 := hL.live
  have l2 := hL.s21.c
  have hc2 : 0 ≤ y ∧ y ≤ 6 := by rw [hy]; exact ⟨nI_pos' (by omega), nI_le (b := 6) hf (by omega)⟩
  by_cases hm : f ∈ ups 2
  · have hΦ := h1 hm
    refine E_aload_n (i := 0) dX11_as_0 rfl rfl ?_
    refine E_gr dX11_as_1 gf_X11_21_11 rfl (by assumption) (by assumption) ?_
    refine E_iload_n (i := 1) dX11_as_4 rfl rfl ?_
    refine k_X11_as_5 (mc' := 0) (ms' := 0) (rc := 0) (rs := 0) (by omega) (Nat.le_of_ble_eq_true rfl) (by assumption) (c_rideAt_in (by omega) hL.s21 hk hk8 hi hx hp ?_)
    refine E_astore_nC (i := 3) dX11_as_8 rfl (by decide) rfl ?_
    refine E_lv (lv' := [_, _, _, _]) rfl ?_
    refine E_aload_n (i := 3) dX11_as_9 rfl rfl ?_
    refine E_ifnull dX11_as_10 ?_
    refine E_iload_n (i := 2) dX11_as_13 rfl rfl ?_
    refine E_iconst (v := 0) dX11_as_14 (by decide) ?_
    refine E_bipush (v := 6) dX11_as_15 (by decide) ?_
    refine k_X11_as_17 (mc' := 0) (ms' := 0) (rc := 0) (rs := 0) (by omega) (Nat.le_of_ble_eq_true rfl) (c_X11_within ?_)
    rw [bz_t hc2]
    refine E_if_ne (tgt := 29) dX11_as_20 (by decide) (fun c_20 => ?_) (fun c_20 => absurd c_20 (by decide))
    refine E_aload_n (i := 3) dX11_as_29 rfl rfl ?_
    refine E_iload_n (i := 2) dX11_as_30 rfl rfl ?_
    refine k_X11_as_31 (mc' := 0) (ms' := 0) (rc := 0) (rs := 0) (by omega) (Nat.le_of_ble_eq_true rfl) (c_isOf_2 hy hf hr ?_)
    rw [bz_t hm]
    refine E_if_eq (tgt := 44) dX11_as_34 (by decide) (fun c_34 => absurd c_34 (by decide)) (fun c_34 => ?_)
    refine E_aload_n (i := 3) dX11_as_37 rfl rfl ?_
    refine E_gi dX11_as_38 gf_X11_138_2 rfl hr ?_
    refine E_goto (tgt := 49) dX11_as_41 (by decide) ?_
    refine E_iret dX11_as_49 rfl ?_
    exact hΦ
  · have hΦ := h3 hm
    refine E_aload_n (i := 0) dX11_as_0 rfl rfl ?_
    refine E_gr dX11_as_1 gf_X11_21_11 rfl (by assumption) (by assumption) ?_
    refine E_iload_n (i := 1) dX11_as_4 rfl rfl ?_
    refine k_X11_as_5 (mc' := 0) (ms' := 0) (rc := 0) (rs := 0) (by omega) (Nat.le_of_ble_eq_true rfl) (by assumption) (c_rideAt_in (by omega) hL.s21 hk hk8 hi hx hp ?_)
    refine E_astore_nC (i := 3) dX11_as_8 rfl (by decide) rfl ?_
    refine E_lv (lv' := [_, _, _, _]) rfl ?_
    refine E_aload_n (i := 3) dX11_as_9 rfl rfl ?_
    refine E_ifnull dX11_as_10 ?_
    refine E_iload_n (i := 2) dX11_as_13 rfl rfl ?_
    refine E_iconst (v := 0) dX11_as_14 (by decide) ?_
    refine E_bipush (v := 6) dX11_as_15 (by decide) ?_
    refine k_X11_as_17 (mc' := 0) (ms' := 0) (rc := 0) (rs := 0) (by omega) (Nat.le_of_ble_eq_true rfl) (c_X11_within ?_)
    rw [bz_t hc2]
    refine E_if_ne (tgt := 29) dX11_as_20 (by decide) (fun c_20 => ?_) (fun c_20 => absurd c_20 (by decide))
    refine E_aload_n (i := 3) dX11_as_29 rfl rfl ?_
    refine E_iload_n (i := 2) dX11_as_30 rfl rfl ?_
    refine k_X11_as_31 (mc' := 0) (ms' := 0) (rc := 0) (rs := 0) (by omega) (Nat.le_of_ble_eq_true rfl) (c_isOf_2 hy hf hr ?_)
    rw [bz_f hm]
    refine E_if_eq (tgt := 44) dX11_as_34 (by decide) (fun c_34 => ?_) (fun c_34 => absurd (rfl) c_34)
    refine E_aload_n (i := 0) dX11_as_44 rfl rfl ?_
    refine E_iconst (v := 5) dX11_as_45 (by decide) ?_
    refine k_X11_as_46 (mc' := 0) (ms' := 0) (rc := 0) (rs := 0) (by omega) (Nat.le_of_ble_eq_true rfl) (by assumption) (c_X11_fail (k := 5) hL rfl (by decide) (by decide) ?_)
    refine E_iret dX11_as_49 rfl ?_
    exact hΦ
theorem c_as_3 {x y : Int32} {k i r f : Nat} (hd : 2 ≤ d) (hL : Ly g P) (hk : I 21 7 = nI k) (hk8 : k ≤ 8) (hi : i < k) (hx : x = nI i) (hy : y = nI f) (hf : f ≤ 6) (hp : P 24 i = some r) (hr : Cel g r 0) (h1 : f ∈ ups 3 → Φ (some (.int (I r 2))) g P I) (h3 : ¬ f ∈ ups 3 → Φ (some (.int (er 5))) g P (fl I 5)) : MM Γ mX11_as d 0 0 [.ref 16, .int x, .int y] g P I Φ := by
  refine MM_entry [some _, some _, some _, none] (by decide) (Nat.le_of_ble_eq_true rfl) rfl ?_
  have h0 := hL.gw
  have l1 := hL.live
  have l2 := hL.s21.c
  have hc2 : 0 ≤ y ∧ y ≤ 6 := by rw [hy]; exact ⟨nI_pos' (by omega), nI_le (b := 6) hf (by omega)⟩
  by_cases hm : f ∈ ups 3
  · have hΦ := h1 hm
    refine E_aload_n (i := 0) dX11_as_0 rfl rfl ?_
    refine E_gr dX11_as_1 gf_X11_21_11 rfl (by assumption) (by assumption) ?_
    refine E_iload_n (i := 1) dX11_as_4 rfl rfl ?_
    refine k_X11_as_5 (mc' := 0) (ms' := 0) (rc := 0) (rs := 0) (by omega) (Nat.le_of_ble_eq_true rfl) (by assumption) (c_rideAt_in (by omega) hL.s21 hk hk8 hi hx hp ?_)
    refine E_astore_nC (i := 3) dX11_as_8 rfl (by decide) rfl ?_
    refine E_lv (lv' := [_, _, _, _]) rfl ?_
    refine E_aload_n (i := 3) dX11_as_9 rfl rfl ?_
    refine E_ifnull dX11_as_10 ?_
    refine E_iload_n (i := 2) dX11_as_13 rfl rfl ?_
    refine E_iconst (v := 0) dX11_as_14 (by decide) ?_
    refine E_bipush (v := 6) dX11_as_15 (by decide) ?_
    refine k_X11_as_17 (mc' := 0) (ms' := 0) (rc := 0) (rs := 0) (by omega) (Nat.le_of_ble_eq_true rfl) (c_X11_within ?_)
    rw [bz_t hc2]
    refine E_if_ne (tgt := 29) dX11_as_20 (by decide) (fun c_20 => ?_) (fun c_20 => absurd c_20 (by decide))
    refine E_aload_n (i := 3) dX11_as_29 rfl rfl ?_
    refine E_iload_n (i := 2) dX11_as_30 rfl rfl ?_
    refine k_X11_as_31 (mc' := 0) (ms' := 0) (rc := 0) (rs := 0) (by omega) (Nat.le_of_ble_eq_true rfl) (c_isOf_3 hy hf hr ?_)
    rw [bz_t hm]
    refine E_if_eq (tgt := 44) dX11_as_34 (by decide) (fun c_34 => absurd c_34 (by decide)) (fun c_34 => ?_)
    refine E_aload_n (i := 3) dX11_as_37 rfl rfl ?_
    refine E_gi dX11_as_38 gf_X11_138_0 rfl hr ?_
    refine E_goto (tgt := 49) dX11_as_41 (by decide) ?_
    refine E_iret dX11_as_49 rfl ?_
    exact hΦ
  · have hΦ := h3 hm
    refine E_aload_n (i := 0) dX11_as_0 rfl rfl ?_
    refine E_gr dX11_as_1 gf_X11_21_11 rfl (by assumption) (by assumption) ?_
    refine E_iload_n (i := 1) dX11_as_4 rfl rfl ?_
    refine k_X11_as_5 (mc' := 0) (ms' := 0) (rc := 0) (rs := 0) (by omega) (Nat.le_of_ble_eq_true rfl) (by assumption) (c_rideAt_in (by omega) hL.s21 hk hk8 hi hx hp ?_)
    refine E_astore_nC (i := 3) dX11_as_8 rfl (by decide) rfl ?_
    refine E_lv (lv' := [_, _, _, _]) rfl ?_
    refine E_aload_n (i := 3) dX11_as_9 rfl rfl ?_
    refine E_ifnull dX11_as_10 ?_
    refine E_iload_n (i := 2) dX11_as_13 rfl rfl ?_
    refine E_iconst (v := 0) dX11_as_14 (by decide) ?_
    refine E_bipush (v := 6) dX11_as_15 (by decide) ?_
    refine k_X11_as_17 (mc' := 0) (ms' := 0) (rc := 0) (rs := 0) (by omega) (Nat.le_of_ble_eq_true rfl) (c_X11_within ?_)
    rw [bz_t hc2]
    refine E_if_ne (tgt := 29) dX11_as_20 (by decide) (fun c_20 => ?_) (fun c_20 => absurd c_20 (by decide))
    refine E_aload_n (i := 3) dX11_as_29 rfl rfl ?_
    refine E_iload_n (i := 2) dX11_as_30 rfl rfl ?_
    refine k_X11_as_31 (mc' := 0) (ms' := 0) (rc := 0) (rs := 0) (by omega) (Nat.le_of_ble_eq_true rfl) (c_isOf_3 hy hf hr ?_)
    rw [bz_f hm]
    refine E_if_eq (tgt := 44) dX11_as_34 (by decide) (fun c_34 => ?_) (fun c_34 => absurd (rfl) c_34)
    refine E_aload_n (i := 0) dX11_as_44 rfl rfl ?_
    refine E_iconst (v := 5) dX11_as_45 (by decide) ?_
    refine k_X11_as_46 (mc' := 0) (ms' := 0) (rc := 0) (rs := 0) (by omega) (Nat.le_of_ble_eq_true rfl) (by assumption) (c_X11_fail (k := 5) hL rfl (by decide) (by decide) ?_)
    refine E_iret dX11_as_49 rfl ?_
    exact hΦ
theorem c_as_4 {x y : Int32} {k i r f : Nat} (hd : 2 ≤ d) (hL : Ly g P) (hk : I 21 7 = nI k) (hk8 : k ≤ 8) (hi : i < k) (hx : x = nI i) (hy : y = nI f) (hf : f ≤ 6) (hp : P 24 i = some r) (hr : Cel g r 9) (h1 : f ∈ ups 4 → Φ (some (.int (I r 2))) g P I) (h3 : ¬ f ∈ ups 4 → Φ (some (.int (er 5))) g P (fl I 5)) : MM Γ mX11_as d 0 0 [.ref 16, .int x, .int y] g P I Φ := by
  refine MM_entry [some _, some _, some _, none] (by decide) (Nat.le_of_ble_eq_true rfl) rfl ?_
  have h0 := hL.gw
  have l1 := hL.live
  have l2 := hL.s21.c
  have hc2 : 0 ≤ y ∧ y ≤ 6 := by rw [hy]; exact ⟨nI_pos' (by omega), nI_le (b := 6) hf (by omega)⟩
  by_cases hm : f ∈ ups 4
  · have hΦ := h1 hm
    refine E_aload_n (i := 0) dX11_as_0 rfl rfl ?_
    refine E_gr dX11_as_1 gf_X11_21_11 rfl (by assumption) (by assumption) ?_
    refine E_iload_n (i := 1) dX11_as_4 rfl rfl ?_
    refine k_X11_as_5 (mc' := 0) (ms' := 0) (rc := 0) (rs := 0) (by omega) (Nat.le_of_ble_eq_true rfl) (by assumption) (c_rideAt_in (by omega) hL.s21 hk hk8 hi hx hp ?_)
    refine E_astore_nC (i := 3) dX11_as_8 rfl (by decide) rfl ?_
    refine E_lv (lv' := [_, _, _, _]) rfl ?_
    refine E_aload_n (i := 3) dX11_as_9 rfl rfl ?_
    refine E_ifnull dX11_as_10 ?_
    refine E_iload_n (i := 2) dX11_as_13 rfl rfl ?_
    refine E_iconst (v := 0) dX11_as_14 (by decide) ?_
    refine E_bipush (v := 6) dX11_as_15 (by decide) ?_
    refine k_X11_as_17 (mc' := 0) (ms' := 0) (rc := 0) (rs := 0) (by omega) (Nat.le_of_ble_eq_true rfl) (c_X11_within ?_)
    rw [bz_t hc2]
    refine E_if_ne (tgt := 29) dX11_as_20 (by decide) (fun c_20 => ?_) (fun c_20 => absurd c_20 (by decide))
    refine E_aload_n (i := 3) dX11_as_29 rfl rfl ?_
    refine E_iload_n (i := 2) dX11_as_30 rfl rfl ?_
    refine k_X11_as_31 (mc' := 0) (ms' := 0) (rc := 0) (rs := 0) (by omega) (Nat.le_of_ble_eq_true rfl) (c_isOf_4 hy hf hr ?_)
    rw [bz_t hm]
    refine E_if_eq (tgt := 44) dX11_as_34 (by decide) (fun c_34 => absurd c_34 (by decide)) (fun c_34 => ?_)
    refine E_aload_n (i := 3) dX11_as_37 rfl rfl ?_
    refine E_gi dX11_as_38 gf_X11_138_9 rfl hr ?_
    refine E_goto (tgt := 49) dX11_as_41 (by decide) ?_
    refine E_iret dX11_as_49 rfl ?_
    exact hΦ
  · have hΦ := h3 hm
    refine E_aload_n (i := 0) dX11_as_0 rfl rfl ?_
    refine E_gr dX11_as_1 gf_X11_21_11 rfl (by assumption) (by assumption) ?_
    refine E_iload_n (i := 1) dX11_as_4 rfl rfl ?_
    refine k_X11_as_5 (mc' := 0) (ms' := 0) (rc := 0) (rs := 0) (by omega) (Nat.le_of_ble_eq_true rfl) (by assumption) (c_rideAt_in (by omega) hL.s21 hk hk8 hi hx hp ?_)
    refine E_astore_nC (i := 3) dX11_as_8 rfl (by decide) rfl ?_
    refine E_lv (lv' := [_, _, _, _]) rfl ?_
    refine E_aload_n (i := 3) dX11_as_9 rfl rfl ?_
    refine E_ifnull dX11_as_10 ?_
    refine E_iload_n (i := 2) dX11_as_13 rfl rfl ?_
    refine E_iconst (v := 0) dX11_as_14 (by decide) ?_
    refine E_bipush (v := 6) dX11_as_15 (by decide) ?_
    refine k_X11_as_17 (mc' := 0) (ms' := 0) (rc := 0) (rs := 0) (by omega) (Nat.le_of_ble_eq_true rfl) (c_X11_within ?_)
    rw [bz_t hc2]
    refine E_if_ne (tgt := 29) dX11_as_20 (by decide) (fun c_20 => ?_) (fun c_20 => absurd c_20 (by decide))
    refine E_aload_n (i := 3) dX11_as_29 rfl rfl ?_
    refine E_iload_n (i := 2) dX11_as_30 rfl rfl ?_
    refine k_X11_as_31 (mc' := 0) (ms' := 0) (rc := 0) (rs := 0) (by omega) (Nat.le_of_ble_eq_true rfl) (c_isOf_4 hy hf hr ?_)
    rw [bz_f hm]
    refine E_if_eq (tgt := 44) dX11_as_34 (by decide) (fun c_34 => ?_) (fun c_34 => absurd (rfl) c_34)
    refine E_aload_n (i := 0) dX11_as_44 rfl rfl ?_
    refine E_iconst (v := 5) dX11_as_45 (by decide) ?_
    refine k_X11_as_46 (mc' := 0) (ms' := 0) (rc := 0) (rs := 0) (by omega) (Nat.le_of_ble_eq_true rfl) (by assumption) (c_X11_fail (k := 5) hL rfl (by decide) (by decide) ?_)
    refine E_iret dX11_as_49 rfl ?_
    exact hΦ
theorem c_as_5 {x y : Int32} {k i r f : Nat} (hd : 2 ≤ d) (hL : Ly g P) (hk : I 21 7 = nI k) (hk8 : k ≤ 8) (hi : i < k) (hx : x = nI i) (hy : y = nI f) (hf : f ≤ 6) (hp : P 24 i = some r) (hr : Cel g r 3) (h1 : f ∈ ups 5 → Φ (some (.int (I r 2))) g P I) (h3 : ¬ f ∈ ups 5 → Φ (some (.int (er 5))) g P (fl I 5)) : MM Γ mX11_as d 0 0 [.ref 16, .int x, .int y] g P I Φ := by
  refine MM_entry [some _, some _, some _, none] (by decide) (Nat.le_of_ble_eq_true rfl) rfl ?_
  have h0 := hL.gw
  have l1 := hL.live
  have l2 := hL.s21.c
  have hc2 : 0 ≤ y ∧ y ≤ 6 := by rw [hy]; exact ⟨nI_pos' (by omega), nI_le (b := 6) hf (by omega)⟩
  by_cases hm : f ∈ ups 5
  · have hΦ := h1 hm
    refine E_aload_n (i := 0) dX11_as_0 rfl rfl ?_
    refine E_gr dX11_as_1 gf_X11_21_11 rfl (by assumption) (by assumption) ?_
    refine E_iload_n (i := 1) dX11_as_4 rfl rfl ?_
    refine k_X11_as_5 (mc' := 0) (ms' := 0) (rc := 0) (rs := 0) (by omega) (Nat.le_of_ble_eq_true rfl) (by assumption) (c_rideAt_in (by omega) hL.s21 hk hk8 hi hx hp ?_)
    refine E_astore_nC (i := 3) dX11_as_8 rfl (by decide) rfl ?_
    refine E_lv (lv' := [_, _, _, _]) rfl ?_
    refine E_aload_n (i := 3) dX11_as_9 rfl rfl ?_
    refine E_ifnull dX11_as_10 ?_
    refine E_iload_n (i := 2) dX11_as_13 rfl rfl ?_
    refine E_iconst (v := 0) dX11_as_14 (by decide) ?_
    refine E_bipush (v := 6) dX11_as_15 (by decide) ?_
    refine k_X11_as_17 (mc' := 0) (ms' := 0) (rc := 0) (rs := 0) (by omega) (Nat.le_of_ble_eq_true rfl) (c_X11_within ?_)
    rw [bz_t hc2]
    refine E_if_ne (tgt := 29) dX11_as_20 (by decide) (fun c_20 => ?_) (fun c_20 => absurd c_20 (by decide))
    refine E_aload_n (i := 3) dX11_as_29 rfl rfl ?_
    refine E_iload_n (i := 2) dX11_as_30 rfl rfl ?_
    refine k_X11_as_31 (mc' := 0) (ms' := 0) (rc := 0) (rs := 0) (by omega) (Nat.le_of_ble_eq_true rfl) (c_isOf_5 hy hf hr ?_)
    rw [bz_t hm]
    refine E_if_eq (tgt := 44) dX11_as_34 (by decide) (fun c_34 => absurd c_34 (by decide)) (fun c_34 => ?_)
    refine E_aload_n (i := 3) dX11_as_37 rfl rfl ?_
    refine E_gi dX11_as_38 gf_X11_138_3 rfl hr ?_
    refine E_goto (tgt := 49) dX11_as_41 (by decide) ?_
    refine E_iret dX11_as_49 rfl ?_
    exact hΦ
  · have hΦ := h3 hm
    refine E_aload_n (i := 0) dX11_as_0 rfl rfl ?_
    refine E_gr dX11_as_1 gf_X11_21_11 rfl (by assumption) (by assumption) ?_
    refine E_iload_n (i := 1) dX11_as_4 rfl rfl ?_
    refine k_X11_as_5 (mc' := 0) (ms' := 0) (rc := 0) (rs := 0) (by omega) (Nat.le_of_ble_eq_true rfl) (by assumption) (c_rideAt_in (by omega) hL.s21 hk hk8 hi hx hp ?_)
    refine E_astore_nC (i := 3) dX11_as_8 rfl (by decide) rfl ?_
    refine E_lv (lv' := [_, _, _, _]) rfl ?_
    refine E_aload_n (i := 3) dX11_as_9 rfl rfl ?_
    refine E_ifnull dX11_as_10 ?_
    refine E_iload_n (i := 2) dX11_as_13 rfl rfl ?_
    refine E_iconst (v := 0) dX11_as_14 (by decide) ?_
    refine E_bipush (v := 6) dX11_as_15 (by decide) ?_
    refine k_X11_as_17 (mc' := 0) (ms' := 0) (rc := 0) (rs := 0) (by omega) (Nat.le_of_ble_eq_true rfl) (c_X11_within ?_)
    rw [bz_t hc2]
    refine E_if_ne (tgt := 29) dX11_as_20 (by decide) (fun c_20 => ?_) (fun c_20 => absurd c_20 (by decide))
    refine E_aload_n (i := 3) dX11_as_29 rfl rfl ?_
    refine E_iload_n (i := 2) dX11_as_30 rfl rfl ?_
    refine k_X11_as_31 (mc' := 0) (ms' := 0) (rc := 0) (rs := 0) (by omega) (Nat.le_of_ble_eq_true rfl) (c_isOf_5 hy hf hr ?_)
    rw [bz_f hm]
    refine E_if_eq (tgt := 44) dX11_as_34 (by decide) (fun c_34 => ?_) (fun c_34 => absurd (rfl) c_34)
    refine E_aload_n (i := 0) dX11_as_44 rfl rfl ?_
    refine E_iconst (v := 5) dX11_as_45 (by decide) ?_
    refine k_X11_as_46 (mc' := 0) (ms' := 0) (rc := 0) (rs := 0) (by omega) (Nat.le_of_ble_eq_true rfl) (by assumption) (c_X11_fail (k := 5) hL rfl (by decide) (by decide) ?_)
    refine E_iret dX11_as_49 rfl ?_
    exact hΦ
theorem c_as_6 {x y : Int32} {k i r f : Nat} (hd : 2 ≤ d) (hL : Ly g P) (hk : I 21 7 = nI k) (hk8 : k ≤ 8) (hi : i < k) (hx : x = nI i) (hy : y = nI f) (hf : f ≤ 6) (hp : P 24 i = some r) (hr : Cel g r 1) (h1 : f ∈ ups 6 → Φ (some (.int (I r 2))) g P I) (h3 : ¬ f ∈ ups 6 → Φ (some (.int (er 5))) g P (fl I 5)) : MM Γ mX11_as d 0 0 [.ref 16, .int x, .int y] g P I Φ := by
  refine MM_entry [some _, some _, some _, none] (by decide) (Nat.le_of_ble_eq_true rfl) rfl ?_
  have h0 := hL.gw
  have l1 := hL.live
  have l2 := hL.s21.c
  have hc2 : 0 ≤ y ∧ y ≤ 6 := by rw [hy]; exact ⟨nI_pos' (by omega), nI_le (b := 6) hf (by omega)⟩
  by_cases hm : f ∈ ups 6
  · have hΦ := h1 hm
    refine E_aload_n (i := 0) dX11_as_0 rfl rfl ?_
    refine E_gr dX11_as_1 gf_X11_21_11 rfl (by assumption) (by assumption) ?_
    refine E_iload_n (i := 1) dX11_as_4 rfl rfl ?_
    refine k_X11_as_5 (mc' := 0) (ms' := 0) (rc := 0) (rs := 0) (by omega) (Nat.le_of_ble_eq_true rfl) (by assumption) (c_rideAt_in (by omega) hL.s21 hk hk8 hi hx hp ?_)
    refine E_astore_nC (i := 3) dX11_as_8 rfl (by decide) rfl ?_
    refine E_lv (lv' := [_, _, _, _]) rfl ?_
    refine E_aload_n (i := 3) dX11_as_9 rfl rfl ?_
    refine E_ifnull dX11_as_10 ?_
    refine E_iload_n (i := 2) dX11_as_13 rfl rfl ?_
    refine E_iconst (v := 0) dX11_as_14 (by decide) ?_
    refine E_bipush (v := 6) dX11_as_15 (by decide) ?_
    refine k_X11_as_17 (mc' := 0) (ms' := 0) (rc := 0) (rs := 0) (by omega) (Nat.le_of_ble_eq_true rfl) (c_X11_within ?_)
    rw [bz_t hc2]
    refine E_if_ne (tgt := 29) dX11_as_20 (by decide) (fun c_20 => ?_) (fun c_20 => absurd c_20 (by decide))
    refine E_aload_n (i := 3) dX11_as_29 rfl rfl ?_
    refine E_iload_n (i := 2) dX11_as_30 rfl rfl ?_
    refine k_X11_as_31 (mc' := 0) (ms' := 0) (rc := 0) (rs := 0) (by omega) (Nat.le_of_ble_eq_true rfl) (c_isOf_6 hy hf hr ?_)
    rw [bz_t hm]
    refine E_if_eq (tgt := 44) dX11_as_34 (by decide) (fun c_34 => absurd c_34 (by decide)) (fun c_34 => ?_)
    refine E_aload_n (i := 3) dX11_as_37 rfl rfl ?_
    refine E_gi dX11_as_38 gf_X11_138_1 rfl hr ?_
    refine E_goto (tgt := 49) dX11_as_41 (by decide) ?_
    refine E_iret dX11_as_49 rfl ?_
    exact hΦ
  · have hΦ := h3 hm
    refine E_aload_n (i := 0) dX11_as_0 rfl rfl ?_
    refine E_gr dX11_as_1 gf_X11_21_11 rfl (by assumption) (by assumption) ?_
    refine E_iload_n (i := 1) dX11_as_4 rfl rfl ?_
    refine k_X11_as_5 (mc' := 0) (ms' := 0) (rc := 0) (rs := 0) (by omega) (Nat.le_of_ble_eq_true rfl) (by assumption) (c_rideAt_in (by omega) hL.s21 hk hk8 hi hx hp ?_)
    refine E_astore_nC (i := 3) dX11_as_8 rfl (by decide) rfl ?_
    refine E_lv (lv' := [_, _, _, _]) rfl ?_
    refine E_aload_n (i := 3) dX11_as_9 rfl rfl ?_
    refine E_ifnull dX11_as_10 ?_
    refine E_iload_n (i := 2) dX11_as_13 rfl rfl ?_
    refine E_iconst (v := 0) dX11_as_14 (by decide) ?_
    refine E_bipush (v := 6) dX11_as_15 (by decide) ?_
    refine k_X11_as_17 (mc' := 0) (ms' := 0) (rc := 0) (rs := 0) (by omega) (Nat.le_of_ble_eq_true rfl) (c_X11_within ?_)
    rw [bz_t hc2]
    refine E_if_ne (tgt := 29) dX11_as_20 (by decide) (fun c_20 => ?_) (fun c_20 => absurd c_20 (by decide))
    refine E_aload_n (i := 3) dX11_as_29 rfl rfl ?_
    refine E_iload_n (i := 2) dX11_as_30 rfl rfl ?_
    refine k_X11_as_31 (mc' := 0) (ms' := 0) (rc := 0) (rs := 0) (by omega) (Nat.le_of_ble_eq_true rfl) (c_isOf_6 hy hf hr ?_)
    rw [bz_f hm]
    refine E_if_eq (tgt := 44) dX11_as_34 (by decide) (fun c_34 => ?_) (fun c_34 => absurd (rfl) c_34)
    refine E_aload_n (i := 0) dX11_as_44 rfl rfl ?_
    refine E_iconst (v := 5) dX11_as_45 (by decide) ?_
    refine k_X11_as_46 (mc' := 0) (ms' := 0) (rc := 0) (rs := 0) (by omega) (Nat.le_of_ble_eq_true rfl) (by assumption) (c_X11_fail (k := 5) hL rfl (by decide) (by decide) ?_)
    refine E_iret dX11_as_49 rfl ?_
    exact hΦ
theorem c_X11_as {x y : Int32} {k : Nat} {rd ci kd : Nat → Nat} (hd : 2 ≤ d) (hL : Ly g P) (hk : I 21 7 = nI k) (hk8 : k ≤ 8) (hR : Ris g P 21 k rd ci) (hK : ∀ i, i < k → kd i ≤ 6 ∧ ci i = kc (kd i)) (h1 : ∀ i f, x = nI i → i < k → y = nI f → f ≤ 6 → f ∈ ups (kd i) → Φ (some (.int (I (rd i) 2))) g P I) (h3 : ∀ i f, x = nI i → i < k → y = nI f → f ≤ 6 → ¬ f ∈ ups (kd i) → Φ (some (.int (er 5))) g P (fl I 5)) (h2 : ¬ ((0 ≤ x ∧ x ≤ nI k - 1) ∧ (0 ≤ y ∧ y ≤ 6)) → Φ (some (.int (er 1))) g P (fl I 1)) : MM Γ mX11_as d 0 0 [.ref 16, .int x, .int y] g P I Φ := by
  by_cases hc : 0 ≤ x ∧ x ≤ nI k - 1
  · obtain ⟨i, hx, hi⟩ := in_nat (by omega) hc
    obtain ⟨r1, r2, r3⟩ := hR i hi
    obtain ⟨k1, k2⟩ := hK i hi
    by_cases hc2 : 0 ≤ y ∧ y ≤ 6
    · obtain ⟨f, hy, hf⟩ := in_04 (n := 6) (by omega) hc2
      have g1 := h1 i f hx hi hy hf
      have g2 := h3 i f hx hi hy hf
      rw [k2] at r2
      generalize kd i = kk at g1 g2 r2 k1
      rcases (show kk = 0 ∨ kk = 1 ∨ kk = 2 ∨ kk = 3 ∨ kk = 4 ∨ kk = 5 ∨ kk = 6 by omega) with rfl | rfl | rfl | rfl | rfl | rfl | rfl
      · exact c_as_0 hd hL hk hk8 hi hx hy hf r1 r2 g1 g2
      · exact c_as_1 hd hL hk hk8 hi hx hy hf r1 r2 g1 g2
      · exact c_as_2 hd hL hk hk8 hi hx hy hf r1 r2 g1 g2
      · exact c_as_3 hd hL hk hk8 hi hx hy hf r1 r2 g1 g2
      · exact c_as_4 hd hL hk hk8 hi hx hy hf r1 r2 g1 g2
      · exact c_as_5 hd hL hk hk8 hi hx hy hf r1 r2 g1 g2
      · exact c_as_6 hd hL hk hk8 hi hx hy hf r1 r2 g1 g2
    · have hΦ := h2 (fun h => hc2 h.2)
      refine MM_entry [some _, some _, some _, none] (by decide) (Nat.le_of_ble_eq_true rfl) rfl ?_
      have h0 := hL.gw
      have l1 := hL.live
      have l2 := hL.s21.c
      refine E_aload_n (i := 0) dX11_as_0 rfl rfl ?_
      refine E_gr dX11_as_1 gf_X11_21_11 rfl (by assumption) (by assumption) ?_
      refine E_iload_n (i := 1) dX11_as_4 rfl rfl ?_
      refine k_X11_as_5 (mc' := 0) (ms' := 0) (rc := 0) (rs := 0) (by omega) (Nat.le_of_ble_eq_true rfl) (by assumption) (c_rideAt_in (by omega) hL.s21 hk hk8 hi hx r1 ?_)
      refine E_astore_nC (i := 3) dX11_as_8 rfl (by decide) rfl ?_
      refine E_lv (lv' := [_, _, _, _]) rfl ?_
      refine E_aload_n (i := 3) dX11_as_9 rfl rfl ?_
      refine E_ifnull dX11_as_10 ?_
      refine E_iload_n (i := 2) dX11_as_13 rfl rfl ?_
      refine E_iconst (v := 0) dX11_as_14 (by decide) ?_
      refine E_bipush (v := 6) dX11_as_15 (by decide) ?_
      refine k_X11_as_17 (mc' := 0) (ms' := 0) (rc := 0) (rs := 0) (by omega) (Nat.le_of_ble_eq_true rfl) (c_X11_within ?_)
      rw [bz_f hc2]
      refine E_if_ne (tgt := 29) dX11_as_20 (by decide) (fun c_20 => absurd (rfl) c_20) (fun c_20 => ?_)
      refine E_aload_n (i := 0) dX11_as_23 rfl rfl ?_
      refine E_iconst (v := 1) dX11_as_24 (by decide) ?_
      refine k_X11_as_25 (mc' := 0) (ms' := 0) (rc := 0) (rs := 0) (by omega) (Nat.le_of_ble_eq_true rfl) (by assumption) (c_X11_fail (k := 1) hL rfl (by decide) (by decide) ?_)
      refine E_iret dX11_as_28 rfl ?_
      exact hΦ
  · have hΦ := h2 (fun h => hc h.1)
    have h0 := hL.gw
    have l1 := hL.live
    have l2 := hL.s21.c
    refine MM_entry [some _, some _, some _, none] (by decide) (Nat.le_of_ble_eq_true rfl) rfl ?_
    refine E_aload_n (i := 0) dX11_as_0 rfl rfl ?_
    refine E_gr dX11_as_1 gf_X11_21_11 rfl (by assumption) (by assumption) ?_
    refine E_iload_n (i := 1) dX11_as_4 rfl rfl ?_
    refine k_X11_as_5 (mc' := 0) (ms' := 0) (rc := 0) (rs := 0) (by omega) (Nat.le_of_ble_eq_true rfl) (by assumption) (c_rideAt_out (by omega) hL.s21 (by rw [hk]; exact hc) ?_)
    refine E_astore_nNC (i := 3) dX11_as_8 rfl (by decide) rfl ?_
    refine E_lv (lv' := [_, _, _, _]) rfl ?_
    refine E_aload_nN (i := 3) dX11_as_9 rfl rfl ?_
    refine E_ifnullN (tgt := 23) dX11_as_10 (by decide) ?_
    refine E_aload_n (i := 0) dX11_as_23 rfl rfl ?_
    refine E_iconst (v := 1) dX11_as_24 (by decide) ?_
    refine k_X11_as_25 (mc' := 0) (ms' := 0) (rc := 0) (rs := 0) (by omega) (Nat.le_of_ble_eq_true rfl) (by assumption) (c_X11_fail (k := 1) hL rfl (by decide) (by decide) ?_)
    refine E_iret dX11_as_28 rfl ?_
    exact hΦ
end
