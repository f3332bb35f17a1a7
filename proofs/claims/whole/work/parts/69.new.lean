/-! the constructors -/
theorem Cel_b {g : Sh} {a c : Nat} (h : g.2.1 a = c) (h1 : Nat.ble 16 a = true) (h2 : Nat.ble (a + 1) g.1 = true) : Cel g a c := ⟨h, Nat.le_of_ble_eq_true h1, Nat.le_of_ble_eq_true h2⟩
section
variable {Γ : GE} {μ : MD} {d mc ms rc rs pc : Nat} {QQ : List Frame → Array Value → State → State → Prop} {lv : List (Option Value)} {st : List Value} {g : Sh} {P : HP} {I : HI}
theorem E_newL {ci idx N : Nat} {Cn : String} {T : u_T} (n0 : Nat) (hd : decode μ.2.1 pc = .ok (.new idx, 3)) (hc : CF ci Cn T N) (hl : Cond.classLink μ.1.cls idx Cn ∈ gtb) (h0 : g.1 = n0) (hg : 16 ≤ n0) {rc' rs' : Nat} (e1 : rc' = rc + 1) (e2 : rs' = rs + N)
    (kk : E Γ μ d mc ms QQ rc rs (pc + 3) lv (.ref n0 :: st) (gNew g ci 0) (ur P n0 (fun _ => none)) (ur I n0 (fun _ => 0))) : E Γ μ d mc ms QQ rc' rs' pc lv st g P I := by
  subst h0; subst e1; subst e2; exact E_new hd hc hl hg kk
theorem E_newiL {n : Int32} (n0 N : Nat) (hd : decode μ.2.1 pc = .ok (.newarray .int, 2)) (hN : n = nI N) (hb : N ≤ 1000) (h0 : g.1 = n0) (hg : 16 ≤ n0) {rc' rs' : Nat} (e1 : rc' = rc + 1) (e2 : rs' = rs + N)
    (kk : E Γ μ d mc ms QQ rc rs (pc + 2) lv (.ref n0 :: st) (gNew g 13 N) (ur P n0 (fun _ => none)) (ur I n0 (fun _ => 0))) : E Γ μ d mc ms QQ rc' rs' pc lv (.int n :: st) g P I := by
  subst h0; subst e1; subst e2; subst hN
  exact E_newi hd w_125 hg (nI_pos (by omega)) (by rw [nI_clamp (by omega)]; exact hb) (nI_clamp (by omega)) kk
theorem E_newzL {n : Int32} (n0 N : Nat) (hd : decode μ.2.1 pc = .ok (.newarray .boolean, 2)) (hN : n = nI N) (hb : N ≤ 1000) (h0 : g.1 = n0) (hg : 16 ≤ n0) {rc' rs' : Nat} (e1 : rc' = rc + 1) (e2 : rs' = rs + N)
    (kk : E Γ μ d mc ms QQ rc rs (pc + 2) lv (.ref n0 :: st) (gNew g 14 N) (ur P n0 (fun _ => none)) (ur I n0 (fun _ => 0))) : E Γ μ d mc ms QQ rc' rs' pc lv (.int n :: st) g P I := by
  subst h0; subst e1; subst e2; subst hN
  exact E_newz hd w_300 hg (nI_pos (by omega)) (by rw [nI_clamp (by omega)]; exact hb) (nI_clamp (by omega)) kk
theorem E_newrL {n : Int32} {idx : Nat} (t n0 N : Nat) (hd : decode μ.2.1 pc = .ok (.anewarray idx, 3)) (ht : t < 3) (hl : Cond.classLink μ.1.cls idx (["GorgeWire$Row", "GorgeWire$Ride", "java/lang/String"].getD t "") ∈ gtb) (hN : n = nI N) (hb : N ≤ 1000) (h0 : g.1 = n0) (hg : 16 ≤ n0) {rc' rs' : Nat} (e1 : rc' = rc + 1) (e2 : rs' = rs + N)
    (kk : E Γ μ d mc ms QQ rc rs (pc + 3) lv (.ref n0 :: st) (gNew g (15 + t) N) (ur P n0 (fun _ => none)) (ur I n0 (fun _ => 0))) : E Γ μ d mc ms QQ rc' rs' pc lv (.int n :: st) g P I := by
  subst h0; subst e1; subst e2; subst hN
  exact E_newr hd ht hl hg (nI_pos (by omega)) (by rw [nI_clamp (by omega)]; exact hb) (nI_clamp (by omega)) kk
end
section
variable {Γ : GE} {d : Nat} {g : Sh} {P : HP} {I : HI} {Φ : Option Value → Sh → HP → HI → Prop}
theorem mx0 {x : Int32} {n : Nat} (hx : x = nI n) (hn : n ≤ 1000) : (if (0 : Int32) < x then x else 0) = x := by
  split
  · rfl
  · next h =>
    have h3 := Int32.not_lt.mp h
    rw [hx, i32_le, nI_toInt (by omega), Int32.toInt_zero] at h3
    have : n = 0 := by omega
    subst this
    exact hx.symm
theorem c_X7_init {r n n0 : Nat} {x : Int32} (hd : 1 ≤ d) (hx : x = nI n) (hn : n ≤ 1000) (h0 : g.1 = n0) (hg : 16 ≤ n0) (hr : Cel g r 7) (hΦ : Φ none (gNew g 13 n) (u2 (ur P n0 (fun _ => none)) r 0 (some n0)) (ur (u2 I r 1 0) n0 (fun _ => 0))) : MM Γ mX7_init d 1 n [.ref r, .int x] g P I Φ := by
  refine MM_entry [some _, some _] (by decide) (Nat.le_of_ble_eq_true rfl) rfl ?_
  have hr' : Cel (gNew g 13 n) r 7 := hr.sx (SX_new (P := P) (f := fun _ => none))
  refine E_aload_n (i := 0) dX7_init_0 rfl rfl ?_
  refine E_objInit dX7_init_1 w_110 w_97 w_98 (Nat.le_of_ble_eq_true rfl) (by omega) ?_
  refine E_aload_n (i := 0) dX7_init_4 rfl rfl ?_
  refine E_iconst (v := 0) dX7_init_5 (by decide) ?_
  refine E_pi dX7_init_6 gf_X7_7_7 rfl (by assumption) ?_
  refine E_aload_n (i := 0) dX7_init_9 rfl rfl ?_
  refine E_iconst (v := 0) dX7_init_10 (by decide) ?_
  refine E_iload_n (i := 1) dX7_init_11 rfl rfl ?_
  refine E_max dX7_init_12 w_111 w_112 w_74 w_113 (Nat.le_of_ble_eq_true rfl) (by omega) ?_
  rw [show (if (0 : Int32) < x then x else 0) = x from mx0 hx hn]
  refine E_newiL (rc := 0) (rs := 0) n0 n dX7_init_15 hx hn h0 hg rfl (Nat.zero_add n).symm ?_
  refine E_prF dX7_init_17 rfl gff_X7_19_7 (Or.inr ⟨_, rfl⟩) (by assumption) ?_
  refine E_vret dX7_init_20 rfl ?_
  exact hΦ
theorem c_X10_init {r n0 : Nat} (hd : 1 ≤ d) (h0 : g.1 = n0) (hg : 16 ≤ n0) (hr : Cel g r 10) (hΦ : Φ none (gNew g 13 9) (u2 (ur P n0 (fun _ => none)) r 0 (some n0)) (ur I n0 (fun j => firstL.getD j 0))) : MM Γ mX10_init d 1 9 [.ref r] g P I Φ := by
  subst h0
  refine MM_entry [some _] (by decide) (Nat.le_of_ble_eq_true rfl) rfl ?_
  have hr' : Cel (gNew g 13 9) r 10 := hr.sx (SX_new (P := P) (f := fun _ => none))
  refine E_aload_n (i := 0) dX10_init_0 rfl rfl ?_
  refine E_objInit dX10_init_1 w_155 w_97 w_98 (Nat.le_of_ble_eq_true rfl) (by omega) ?_
  refine E_aload_n (i := 0) dX10_init_4 rfl rfl ?_
  refine E_getsA (q := ("FIRST", 12, firstL)) dX10_init_5 (by decide) (by decide) w_156 ?_
  refine E_clone (μ := mX10_init) (rc := 0) (rs := 0) (q := ("FIRST", 12, firstL)) dX10_init_8 (by decide) (by decide) rfl w_158 w_159 w_160 w_161 w_162 (Nat.le_of_ble_eq_true rfl) hd hg ?_
  refine E_castA dX10_init_11 w_164 (ur_s _ _ _) hg (Nat.lt_succ_self _) ?_
  refine E_prF dX10_init_14 rfl gff_X10_20_10 (Or.inr ⟨_, rfl⟩) (by assumption) ?_
  refine E_vret dX10_init_17 rfl ?_
  exact hΦ
theorem c_X7_addSigns {r q n j : Nat} (hd : 4 ≤ d) (hj : j < 5) (hR : Rw g P I r q n 0) (hn : sln j ≤ n) (hΦ : ∀ J : HI, J r 1 = nI (sln j) → (∀ i, i < sln j → J q i = sbt j i) → (∀ a, a ≠ r → a ≠ q → J a = I a) → Φ none g P J) : MM Γ mX7_addSigns d 0 0 [.ref r, .ref j] g P I Φ := by
  refine MM_entry [some _, some _, none] (by decide) (Nat.le_of_ble_eq_true rfl) rfl ?_
  have hs13 := sln_13 j hj
  have hc7 := hR.1
  have hqr : r ≠ q := fun h => by have a := hR.1.1; have b := hR.2.2.1.1; rw [h] at a; omega
  have loop : ∀ (N i : Nat) (x : Int32) (J : HI), sln j - i ≤ N → i ≤ sln j → x = nI i → J r 1 = nI i → (∀ e, e < i → J q e = sbt j e) → (∀ a, a ≠ r → a ≠ q → J a = I a) → E Γ mX7_addSigns d 0 0 (QM Γ 0 0 Φ) 0 0 2 [some (.ref r), some (.ref j), some (.int x)] [] g P J := by
    intro N
    induction N with
    | zero =>
      intro i x J hN hi hx h1 h2 h3
      have he : i = sln j := by omega
      subst he
      have hΦ := hΦ J h1 h2 h3
      refine E_iload_n (i := 2) dX7_addSigns_2 rfl rfl ?_
      refine E_aload_n (i := 1) dX7_addSigns_3 rfl rfl ?_
      refine k_X7_addSigns_4 (mc' := 0) (ms' := 0) (rc := 0) (rs := 0) (by omega) (Nat.le_of_ble_eq_true rfl) (by assumption) (c_length (by omega) hj ?_)
      refine E_icmp_ge (tgt := 25) dX7_addSigns_7 (by decide) (fun c_7 => ?_) (fun c_7 => absurd (by rw [hx]; exact Int32.le_refl _) c_7)
      refine E_vret dX7_addSigns_25 rfl ?_
      exact hΦ
    | succ N ih =>
      intro i x J hN hi hx h1 h2 h3
      by_cases he : i = sln j
      · subst he
        have hΦ := hΦ J h1 h2 h3
        refine E_iload_n (i := 2) dX7_addSigns_2 rfl rfl ?_
        refine E_aload_n (i := 1) dX7_addSigns_3 rfl rfl ?_
        refine k_X7_addSigns_4 (mc' := 0) (ms' := 0) (rc := 0) (rs := 0) (by omega) (Nat.le_of_ble_eq_true rfl) (by assumption) (c_length (by omega) hj ?_)
        refine E_icmp_ge (tgt := 25) dX7_addSigns_7 (by decide) (fun c_7 => ?_) (fun c_7 => absurd (by rw [hx]; exact Int32.le_refl _) c_7)
        refine E_vret dX7_addSigns_25 rfl ?_
        exact hΦ
      · have hR' : Rw g P J r q n i := ⟨hR.1, hR.2.1, hR.2.2.1, hR.2.2.2.1, h1, by omega, hR.2.2.2.2.2.2⟩
        refine E_iload_n (i := 2) dX7_addSigns_2 rfl rfl ?_
        refine E_aload_n (i := 1) dX7_addSigns_3 rfl rfl ?_
        refine k_X7_addSigns_4 (mc' := 0) (ms' := 0) (rc := 0) (rs := 0) (by omega) (Nat.le_of_ble_eq_true rfl) (by assumption) (c_length (by omega) hj ?_)
        refine E_icmp_ge (tgt := 25) dX7_addSigns_7 (by decide) (fun c_7 => absurd c_7 (by rw [hx]; exact nI_ge (by omega) (by omega))) (fun c_7 => ?_)
        refine E_aload_n (i := 0) dX7_addSigns_10 rfl rfl ?_
        refine E_aload_n (i := 1) dX7_addSigns_11 rfl rfl ?_
        refine E_iload_n (i := 2) dX7_addSigns_12 rfl rfl ?_
        refine k_X7_addSigns_13 (mc' := 0) (ms' := 0) (rc := 0) (rs := 0) (by omega) (Nat.le_of_ble_eq_true rfl) (by assumption) (c_charAt (by omega) hj hx (by omega) ?_)
        refine k_X7_addSigns_16 (mc' := 0) (ms' := 0) (rc := 0) (rs := 0) (by omega) (Nat.le_of_ble_eq_true rfl) (by assumption) (c_X7_add hR' ?_)
        rw [if_pos (show i < n by omega)]
        refine E_incC (c := 1) dX7_addSigns_19 rfl (by decide) (by decide) rfl ?_
        refine E_lv (lv' := [_, _, _]) rfl ?_
        refine E_goto (tgt := 2) dX7_addSigns_22 (by decide) ?_
        refine ih (i + 1) _ _ (by omega) (by omega) (by rw [hx, nI_1]) (u2_s _ _ _ _) (fun e he' => ?_) (fun a ha hb => ?_)
        · rw [u2_oth _ (Ne.symm hqr)]
          by_cases hei : e = i
          · rw [hei, u2_s]
          · rw [u2_o (fun h => hei h.2)]; exact h2 e (by omega)
        · rw [u2_oth _ ha, u2_oth _ hb]; exact h3 a ha hb
  refine E_iconst (v := 0) dX7_addSigns_0 (by decide) ?_
  refine E_istore_nC (i := 2) dX7_addSigns_1 rfl (by decide) rfl ?_
  refine E_lv (lv' := [_, _, _]) rfl ?_
  exact loop (sln j) 0 _ I (by omega) (by omega) rfl hR.2.2.2.2.1 (fun e he => absurd he (by omega)) (fun _ _ _ => rfl)
/-- a State as its constructor leaves it -/
def S0 (P : HP) (I : HI) (B : Nat) : Prop := (I B 7 = 0 ∧ I B 8 = 0 ∧ I B 9 = 1) ∧ (∀ j, I (B + 2) j = firstL.getD j 0) ∧ ((∀ j, I (B + 4) j = 0) ∧ (∀ j, I (B + 5) j = 0) ∧ (∀ j, I (B + 6) j = 0) ∧ (∀ j, I (B + 7) j = 0)) ∧ (I (B + 8) 1 = 0 ∧ I (B + 14) 1 = 0 ∧ I (B + 16) 1 = 0 ∧ I (B + 18) 1 = 0 ∧ I (B + 20) 1 = 0 ∧ I (B + 22) 1 = 0) ∧ (I (B + 10) 1 = nI 13 ∧ ∀ i, i < 13 → I (B + 11) i = sbt 3 i) ∧ (I (B + 12) 1 = nI 5 ∧ ∀ i, i < 5 → I (B + 13) i = sbt 4 i) ∧ ∀ j, P (B + 3) j = none
theorem sRow_all {p : Nat × Nat × Nat → Prop} (h1 : p (10, 8, 50)) (h2 : p (11, 10, 50)) (h3 : p (12, 12, 50)) (h4 : p (13, 14, 8)) (h5 : p (14, 16, 8)) (h6 : p (15, 18, 5)) (h7 : p (16, 20, 5)) (h8 : p (17, 22, 20)) : ∀ q ∈ sRow, p q := by
  unfold sRow
  simp only [List.forall_mem_cons]
  exact ⟨h1, h2, h3, h4, h5, h6, h7, h8, fun _ h => absurd h List.not_mem_nil⟩
theorem init8_21 {k l : Nat → Nat} (hd : 6 ≤ d) (hk : k 21 = 8) (hΦ : ∀ (k' l' : Nat → Nat) (P' : HP) (J : HI), St (45, k', l') P' 21 → S0 P' J 21 → (∀ a, a < 21 → k' a = k a ∧ l' a = l a ∧ P' a = P a ∧ J a = I a) → Φ none (45, k', l') P' J) : MM Γ mX8_init d 23 262 [.ref 21, .ref 17] (22, k, l) P I Φ := by
  refine MM_entry [some _, some _] (by decide) (Nat.le_of_ble_eq_true rfl) rfl ?_
  refine E_aload_n (i := 0) dX8_init_0 rfl rfl ?_
  refine E_objInit dX8_init_1 w_149 w_97 w_98 (Nat.le_of_ble_eq_true rfl) (by omega) ?_
  refine E_aload_n (i := 0) dX8_init_4 rfl rfl ?_
  refine E_newL (μ := mX8_init) (N := 1) (rc := 22) (rs := 261) 22 dX8_init_5 cf_10 w_150 rfl (by decide) rfl rfl ?_
  refine E_dup dX8_init_8 rfl ?_
  refine k_X8_init_9 (mc' := 1) (ms' := 9) (rc := 21) (rs := 252) (by omega) (Nat.le_of_ble_eq_true rfl) (c_X10_init (n0 := 23) (by omega) rfl (by decide) (Cel_b rfl rfl rfl) ?_)
  refine E_prF dX8_init_12 rfl gff_X8_12_8 (Or.inl ⟨_, rfl⟩) (Cel_b hk rfl rfl) ?_
  refine E_aload_n (i := 0) dX8_init_15 rfl rfl ?_
  refine E_bipush (v := 8) dX8_init_16 (by decide) ?_
  refine E_newrL (μ := mX8_init) (rc := 20) (rs := 244) 1 24 8 dX8_init_18 (by decide) w_169 rfl (by decide) rfl (by decide) rfl rfl ?_
  refine E_prF dX8_init_21 rfl gff_X8_20_8 (Or.inr ⟨_, rfl⟩) (Cel_b hk rfl rfl) ?_
  refine E_aload_n (i := 0) dX8_init_24 rfl rfl ?_
  refine E_bipush (v := 8) dX8_init_25 (by decide) ?_
  refine E_newiL (μ := mX8_init) (rc := 19) (rs := 236) 25 8 dX8_init_27 rfl (by decide) rfl (by decide) rfl rfl ?_
  refine E_prF dX8_init_29 rfl gff_X8_24_8 (Or.inr ⟨_, rfl⟩) (Cel_b hk rfl rfl) ?_
  refine E_aload_n (i := 0) dX8_init_32 rfl rfl ?_
  refine E_bipush (v := 8) dX8_init_33 (by decide) ?_
  refine E_newiL (μ := mX8_init) (rc := 18) (rs := 228) 26 8 dX8_init_35 rfl (by decide) rfl (by decide) rfl rfl ?_
  refine E_prF dX8_init_37 rfl gff_X8_28_8 (Or.inr ⟨_, rfl⟩) (Cel_b hk rfl rfl) ?_
  refine E_aload_n (i := 0) dX8_init_40 rfl rfl ?_
  refine E_bipush (v := 8) dX8_init_41 (by decide) ?_
  refine E_newiL (μ := mX8_init) (rc := 17) (rs := 220) 27 8 dX8_init_43 rfl (by decide) rfl (by decide) rfl rfl ?_
  refine E_prF dX8_init_45 rfl gff_X8_31_8 (Or.inr ⟨_, rfl⟩) (Cel_b hk rfl rfl) ?_
  refine E_aload_n (i := 0) dX8_init_48 rfl rfl ?_
  refine E_bipush (v := 8) dX8_init_49 (by decide) ?_
  refine E_newzL (μ := mX8_init) (rc := 16) (rs := 212) 28 8 dX8_init_51 rfl (by decide) rfl (by decide) rfl rfl ?_
  refine E_prF dX8_init_53 rfl gff_X8_34_8 (Or.inr ⟨_, rfl⟩) (Cel_b hk rfl rfl) ?_
  refine E_aload_n (i := 0) dX8_init_56 rfl rfl ?_
  refine E_iconst (v := 0) dX8_init_57 (by decide) ?_
  refine E_pi dX8_init_58 gf_X8_38_8 rfl (Cel_b hk rfl rfl) ?_
  refine E_aload_n (i := 0) dX8_init_61 rfl rfl ?_
  refine E_iconst (v := 0) dX8_init_62 (by decide) ?_
  refine E_pi dX8_init_63 gf_X8_42_8 rfl (Cel_b hk rfl rfl) ?_
  refine E_aload_n (i := 0) dX8_init_66 rfl rfl ?_
  refine E_iconst (v := 1) dX8_init_67 (by decide) ?_
  refine E_pi dX8_init_68 gf_X8_45_8 rfl (Cel_b hk rfl rfl) ?_
  refine E_aload_n (i := 0) dX8_init_71 rfl rfl ?_
  refine E_newL (μ := mX8_init) (N := 2) (rc := 15) (rs := 210) 29 dX8_init_72 cf_7 w_171 rfl (by decide) rfl rfl ?_
  refine E_dup dX8_init_75 rfl ?_
  refine E_bipush (v := 50) dX8_init_76 (by decide) ?_
  refine k_X8_init_78 (mc' := 1) (ms' := 50) (rc := 14) (rs := 160) (by omega) (Nat.le_of_ble_eq_true rfl) (c_X7_init (n := 50) (n0 := 30) (by omega) rfl (by decide) rfl (by decide) (Cel_b rfl rfl rfl) ?_)
  refine E_prF dX8_init_81 rfl gff_X8_53_8 (Or.inl ⟨_, rfl⟩) (Cel_b hk rfl rfl) ?_
  refine E_aload_n (i := 0) dX8_init_84 rfl rfl ?_
  refine E_newL (μ := mX8_init) (N := 2) (rc := 13) (rs := 158) 31 dX8_init_85 cf_7 w_171 rfl (by decide) rfl rfl ?_
  refine E_dup dX8_init_88 rfl ?_
  refine E_bipush (v := 50) dX8_init_89 (by decide) ?_
  refine k_X8_init_91 (mc' := 1) (ms' := 50) (rc := 12) (rs := 108) (by omega) (Nat.le_of_ble_eq_true rfl) (c_X7_init (n := 50) (n0 := 32) (by omega) rfl (by decide) rfl (by decide) (Cel_b rfl rfl rfl) ?_)
  refine E_prF dX8_init_94 rfl gff_X8_57_8 (Or.inl ⟨_, rfl⟩) (Cel_b hk rfl rfl) ?_
  refine E_aload_n (i := 0) dX8_init_97 rfl rfl ?_
  refine E_newL (μ := mX8_init) (N := 2) (rc := 11) (rs := 106) 33 dX8_init_98 cf_7 w_171 rfl (by decide) rfl rfl ?_
  refine E_dup dX8_init_101 rfl ?_
  refine E_bipush (v := 50) dX8_init_102 (by decide) ?_
  refine k_X8_init_104 (mc' := 1) (ms' := 50) (rc := 10) (rs := 56) (by omega) (Nat.le_of_ble_eq_true rfl) (c_X7_init (n := 50) (n0 := 34) (by omega) rfl (by decide) rfl (by decide) (Cel_b rfl rfl rfl) ?_)
  refine E_prF dX8_init_107 rfl gff_X8_60_8 (Or.inl ⟨_, rfl⟩) (Cel_b hk rfl rfl) ?_
  refine E_aload_n (i := 0) dX8_init_110 rfl rfl ?_
  refine E_newL (μ := mX8_init) (N := 2) (rc := 9) (rs := 54) 35 dX8_init_111 cf_7 w_171 rfl (by decide) rfl rfl ?_
  refine E_dup dX8_init_114 rfl ?_
  refine E_bipush (v := 8) dX8_init_115 (by decide) ?_
  refine k_X8_init_117 (mc' := 1) (ms' := 8) (rc := 8) (rs := 46) (by omega) (Nat.le_of_ble_eq_true rfl) (c_X7_init (n := 8) (n0 := 36) (by omega) rfl (by decide) rfl (by decide) (Cel_b rfl rfl rfl) ?_)
  refine E_prF dX8_init_120 rfl gff_X8_63_8 (Or.inl ⟨_, rfl⟩) (Cel_b hk rfl rfl) ?_
  refine E_aload_n (i := 0) dX8_init_123 rfl rfl ?_
  refine E_newL (μ := mX8_init) (N := 2) (rc := 7) (rs := 44) 37 dX8_init_124 cf_7 w_171 rfl (by decide) rfl rfl ?_
  refine E_dup dX8_init_127 rfl ?_
  refine E_bipush (v := 8) dX8_init_128 (by decide) ?_
  refine k_X8_init_130 (mc' := 1) (ms' := 8) (rc := 6) (rs := 36) (by omega) (Nat.le_of_ble_eq_true rfl) (c_X7_init (n := 8) (n0 := 38) (by omega) rfl (by decide) rfl (by decide) (Cel_b rfl rfl rfl) ?_)
  refine E_prF dX8_init_133 rfl gff_X8_66_8 (Or.inl ⟨_, rfl⟩) (Cel_b hk rfl rfl) ?_
  refine E_aload_n (i := 0) dX8_init_136 rfl rfl ?_
  refine E_newL (μ := mX8_init) (N := 2) (rc := 5) (rs := 34) 39 dX8_init_137 cf_7 w_171 rfl (by decide) rfl rfl ?_
  refine E_dup dX8_init_140 rfl ?_
  refine E_iconst (v := 5) dX8_init_141 (by decide) ?_
  refine k_X8_init_142 (mc' := 1) (ms' := 5) (rc := 4) (rs := 29) (by omega) (Nat.le_of_ble_eq_true rfl) (c_X7_init (n := 5) (n0 := 40) (by omega) rfl (by decide) rfl (by decide) (Cel_b rfl rfl rfl) ?_)
  refine E_prF dX8_init_145 rfl gff_X8_69_8 (Or.inl ⟨_, rfl⟩) (Cel_b hk rfl rfl) ?_
  refine E_aload_n (i := 0) dX8_init_148 rfl rfl ?_
  refine E_newL (μ := mX8_init) (N := 2) (rc := 3) (rs := 27) 41 dX8_init_149 cf_7 w_171 rfl (by decide) rfl rfl ?_
  refine E_dup dX8_init_152 rfl ?_
  refine E_iconst (v := 5) dX8_init_153 (by decide) ?_
  refine k_X8_init_154 (mc' := 1) (ms' := 5) (rc := 2) (rs := 22) (by omega) (Nat.le_of_ble_eq_true rfl) (c_X7_init (n := 5) (n0 := 42) (by omega) rfl (by decide) rfl (by decide) (Cel_b rfl rfl rfl) ?_)
  refine E_prF dX8_init_157 rfl gff_X8_72_8 (Or.inl ⟨_, rfl⟩) (Cel_b hk rfl rfl) ?_
  refine E_aload_n (i := 0) dX8_init_160 rfl rfl ?_
  refine E_newL (μ := mX8_init) (N := 2) (rc := 1) (rs := 20) 43 dX8_init_161 cf_7 w_171 rfl (by decide) rfl rfl ?_
  refine E_dup dX8_init_164 rfl ?_
  refine E_bipush (v := 20) dX8_init_165 (by decide) ?_
  refine k_X8_init_167 (mc' := 1) (ms' := 20) (rc := 0) (rs := 0) (by omega) (Nat.le_of_ble_eq_true rfl) (c_X7_init (n := 20) (n0 := 44) (by omega) rfl (by decide) rfl (by decide) (Cel_b rfl rfl rfl) ?_)
  refine E_prF dX8_init_170 rfl gff_X8_75_8 (Or.inl ⟨_, rfl⟩) (Cel_b hk rfl rfl) ?_
  refine E_aload_n (i := 0) dX8_init_173 rfl rfl ?_
  refine E_aload_n (i := 1) dX8_init_174 rfl rfl ?_
  refine E_prF dX8_init_175 rfl gff_X8_78_8 (Or.inl ⟨_, rfl⟩) (Cel_b hk rfl rfl) ?_
  refine E_aload_n (i := 0) dX8_init_178 rfl rfl ?_
  refine E_gr dX8_init_179 gf_X8_57_8 rfl (Cel_b hk rfl rfl) rfl ?_
  refine E_ldcS (j := 3) (tx := "w/100+(p>100)") dX8_init_182 (by decide) (by decide) ?_
  refine k_X8_init_184 (mc' := 0) (ms' := 0) (rc := 0) (rs := 0) (by omega) (Nat.le_of_ble_eq_true rfl) (Cel_b rfl rfl rfl) (c_X7_addSigns (q := 32) (n := 50) (by omega) (by decide) ⟨Cel_b rfl rfl rfl, rfl, Cel_b rfl rfl rfl, rfl, rfl, by decide, by decide⟩ (by decide) (fun J1 a1 a2 a3 => ?_))
  refine E_aload_n (i := 0) dX8_init_187 rfl rfl ?_
  refine E_gr dX8_init_188 gf_X8_60_8 rfl (Cel_b hk rfl rfl) rfl ?_
  refine E_ldcS (j := 4) (tx := "s*5>w") dX8_init_191 (by decide) (by decide) ?_
  refine k_X8_init_193 (mc' := 0) (ms' := 0) (rc := 0) (rs := 0) (by omega) (Nat.le_of_ble_eq_true rfl) (Cel_b rfl rfl rfl) (c_X7_addSigns (q := 34) (n := 50) (by omega) (by decide) ⟨Cel_b rfl rfl rfl, rfl, Cel_b rfl rfl rfl, rfl, (congrFun (a3 33 (by decide) (by decide)) 1).trans rfl, by decide, by decide⟩ (by decide) (fun J2 b1 b2 b3 => ?_))
  refine E_vret dX8_init_196 rfl ?_
  have hJ : ∀ a, a ≠ 31 → a ≠ 32 → a ≠ 33 → a ≠ 34 → J2 a = _ := fun a x1 x2 x3 x4 => (b3 a x3 x4).trans (a3 a x1 x2)
  refine hΦ _ _ _ _ ?_ ?_ ?_
  · exact ⟨Cel_b hk rfl rfl, rfl, rfl, ⟨Cel_b rfl rfl rfl, rfl, Cel_b rfl rfl rfl, rfl⟩, ⟨rfl, Cel_b rfl rfl rfl, rfl⟩, ⟨rfl, Cel_b rfl rfl rfl, rfl⟩, ⟨rfl, Cel_b rfl rfl rfl, rfl⟩, ⟨rfl, Cel_b rfl rfl rfl, rfl⟩, ⟨rfl, Cel_b rfl rfl rfl, rfl⟩, sRow_all ⟨rfl, Cel_b rfl rfl rfl, rfl, Cel_b rfl rfl rfl, rfl⟩ ⟨rfl, Cel_b rfl rfl rfl, rfl, Cel_b rfl rfl rfl, rfl⟩ ⟨rfl, Cel_b rfl rfl rfl, rfl, Cel_b rfl rfl rfl, rfl⟩ ⟨rfl, Cel_b rfl rfl rfl, rfl, Cel_b rfl rfl rfl, rfl⟩ ⟨rfl, Cel_b rfl rfl rfl, rfl, Cel_b rfl rfl rfl, rfl⟩ ⟨rfl, Cel_b rfl rfl rfl, rfl, Cel_b rfl rfl rfl, rfl⟩ ⟨rfl, Cel_b rfl rfl rfl, rfl, Cel_b rfl rfl rfl, rfl⟩ ⟨rfl, Cel_b rfl rfl rfl, rfl, Cel_b rfl rfl rfl, rfl⟩⟩
  · have f : ∀ a j, a ≠ 31 → a ≠ 32 → a ≠ 33 → a ≠ 34 → J2 a j = _ := fun a j x1 x2 x3 x4 => congrFun (hJ a x1 x2 x3 x4) j
    exact ⟨⟨(f 21 7 (by decide) (by decide) (by decide) (by decide)).trans rfl, (f 21 8 (by decide) (by decide) (by decide) (by decide)).trans rfl, (f 21 9 (by decide) (by decide) (by decide) (by decide)).trans rfl⟩, fun j => (f 23 j (by decide) (by decide) (by decide) (by decide)).trans rfl, ⟨fun j => (f 25 j (by decide) (by decide) (by decide) (by decide)).trans rfl, fun j => (f 26 j (by decide) (by decide) (by decide) (by decide)).trans rfl, fun j => (f 27 j (by decide) (by decide) (by decide) (by decide)).trans rfl, fun j => (f 28 j (by decide) (by decide) (by decide) (by decide)).trans rfl⟩, ⟨(f 29 1 (by decide) (by decide) (by decide) (by decide)).trans rfl, (f 35 1 (by decide) (by decide) (by decide) (by decide)).trans rfl, (f 37 1 (by decide) (by decide) (by decide) (by decide)).trans rfl, (f 39 1 (by decide) (by decide) (by decide) (by decide)).trans rfl, (f 41 1 (by decide) (by decide) (by decide) (by decide)).trans rfl, (f 43 1 (by decide) (by decide) (by decide) (by decide)).trans rfl⟩, ⟨(congrFun (b3 31 (by decide) (by decide)) 1).trans a1, fun i hi => (congrFun (b3 32 (by decide) (by decide)) i).trans (a2 i hi)⟩, ⟨b1, b2⟩, fun j => rfl⟩
  · intro a ha
    refine ⟨?_, ?_, ?_, ?_⟩
    · simp only [gNew, ur, Nat.reduceAdd]; iterate 15 rw [if_neg (by omega)]
      repeat rw [if_neg (by omega)]
      exact if_neg (by omega)
    · simp only [gNew, ur, Nat.reduceAdd]; iterate 15 rw [if_neg (by omega)]
      repeat rw [if_neg (by omega)]
      exact if_neg (by omega)
    · simp only [u2, ur]; repeat rw [if_neg (by omega)]
    · rw [hJ a (by omega) (by omega) (by omega) (by omega)]; simp only [u2, ur]; repeat rw [if_neg (by omega)]
theorem init8_45 {k l : Nat → Nat} (hd : 6 ≤ d) (hk : k 45 = 8) (hΦ : ∀ (k' l' : Nat → Nat) (P' : HP) (J : HI), St (69, k', l') P' 45 → S0 P' J 45 → (∀ a, a < 45 → k' a = k a ∧ l' a = l a ∧ P' a = P a ∧ J a = I a) → Φ none (69, k', l') P' J) : MM Γ mX8_init d 23 262 [.ref 45, .ref 17] (46, k, l) P I Φ := by
  refine MM_entry [some _, some _] (by decide) (Nat.le_of_ble_eq_true rfl) rfl ?_
  refine E_aload_n (i := 0) dX8_init_0 rfl rfl ?_
  refine E_objInit dX8_init_1 w_149 w_97 w_98 (Nat.le_of_ble_eq_true rfl) (by omega) ?_
  refine E_aload_n (i := 0) dX8_init_4 rfl rfl ?_
  refine E_newL (μ := mX8_init) (N := 1) (rc := 22) (rs := 261) 46 dX8_init_5 cf_10 w_150 rfl (by decide) rfl rfl ?_
  refine E_dup dX8_init_8 rfl ?_
  refine k_X8_init_9 (mc' := 1) (ms' := 9) (rc := 21) (rs := 252) (by omega) (Nat.le_of_ble_eq_true rfl) (c_X10_init (n0 := 47) (by omega) rfl (by decide) (Cel_b rfl rfl rfl) ?_)
  refine E_prF dX8_init_12 rfl gff_X8_12_8 (Or.inl ⟨_, rfl⟩) (Cel_b hk rfl rfl) ?_
  refine E_aload_n (i := 0) dX8_init_15 rfl rfl ?_
  refine E_bipush (v := 8) dX8_init_16 (by decide) ?_
  refine E_newrL (μ := mX8_init) (rc := 20) (rs := 244) 1 48 8 dX8_init_18 (by decide) w_169 rfl (by decide) rfl (by decide) rfl rfl ?_
  refine E_prF dX8_init_21 rfl gff_X8_20_8 (Or.inr ⟨_, rfl⟩) (Cel_b hk rfl rfl) ?_
  refine E_aload_n (i := 0) dX8_init_24 rfl rfl ?_
  refine E_bipush (v := 8) dX8_init_25 (by decide) ?_
  refine E_newiL (μ := mX8_init) (rc := 19) (rs := 236) 49 8 dX8_init_27 rfl (by decide) rfl (by decide) rfl rfl ?_
  refine E_prF dX8_init_29 rfl gff_X8_24_8 (Or.inr ⟨_, rfl⟩) (Cel_b hk rfl rfl) ?_
  refine E_aload_n (i := 0) dX8_init_32 rfl rfl ?_
  refine E_bipush (v := 8) dX8_init_33 (by decide) ?_
  refine E_newiL (μ := mX8_init) (rc := 18) (rs := 228) 50 8 dX8_init_35 rfl (by decide) rfl (by decide) rfl rfl ?_
  refine E_prF dX8_init_37 rfl gff_X8_28_8 (Or.inr ⟨_, rfl⟩) (Cel_b hk rfl rfl) ?_
  refine E_aload_n (i := 0) dX8_init_40 rfl rfl ?_
  refine E_bipush (v := 8) dX8_init_41 (by decide) ?_
  refine E_newiL (μ := mX8_init) (rc := 17) (rs := 220) 51 8 dX8_init_43 rfl (by decide) rfl (by decide) rfl rfl ?_
  refine E_prF dX8_init_45 rfl gff_X8_31_8 (Or.inr ⟨_, rfl⟩) (Cel_b hk rfl rfl) ?_
  refine E_aload_n (i := 0) dX8_init_48 rfl rfl ?_
  refine E_bipush (v := 8) dX8_init_49 (by decide) ?_
  refine E_newzL (μ := mX8_init) (rc := 16) (rs := 212) 52 8 dX8_init_51 rfl (by decide) rfl (by decide) rfl rfl ?_
  refine E_prF dX8_init_53 rfl gff_X8_34_8 (Or.inr ⟨_, rfl⟩) (Cel_b hk rfl rfl) ?_
  refine E_aload_n (i := 0) dX8_init_56 rfl rfl ?_
  refine E_iconst (v := 0) dX8_init_57 (by decide) ?_
  refine E_pi dX8_init_58 gf_X8_38_8 rfl (Cel_b hk rfl rfl) ?_
  refine E_aload_n (i := 0) dX8_init_61 rfl rfl ?_
  refine E_iconst (v := 0) dX8_init_62 (by decide) ?_
  refine E_pi dX8_init_63 gf_X8_42_8 rfl (Cel_b hk rfl rfl) ?_
  refine E_aload_n (i := 0) dX8_init_66 rfl rfl ?_
  refine E_iconst (v := 1) dX8_init_67 (by decide) ?_
  refine E_pi dX8_init_68 gf_X8_45_8 rfl (Cel_b hk rfl rfl) ?_
  refine E_aload_n (i := 0) dX8_init_71 rfl rfl ?_
  refine E_newL (μ := mX8_init) (N := 2) (rc := 15) (rs := 210) 53 dX8_init_72 cf_7 w_171 rfl (by decide) rfl rfl ?_
  refine E_dup dX8_init_75 rfl ?_
  refine E_bipush (v := 50) dX8_init_76 (by decide) ?_
  refine k_X8_init_78 (mc' := 1) (ms' := 50) (rc := 14) (rs := 160) (by omega) (Nat.le_of_ble_eq_true rfl) (c_X7_init (n := 50) (n0 := 54) (by omega) rfl (by decide) rfl (by decide) (Cel_b rfl rfl rfl) ?_)
  refine E_prF dX8_init_81 rfl gff_X8_53_8 (Or.inl ⟨_, rfl⟩) (Cel_b hk rfl rfl) ?_
  refine E_aload_n (i := 0) dX8_init_84 rfl rfl ?_
  refine E_newL (μ := mX8_init) (N := 2) (rc := 13) (rs := 158) 55 dX8_init_85 cf_7 w_171 rfl (by decide) rfl rfl ?_
  refine E_dup dX8_init_88 rfl ?_
  refine E_bipush (v := 50) dX8_init_89 (by decide) ?_
  refine k_X8_init_91 (mc' := 1) (ms' := 50) (rc := 12) (rs := 108) (by omega) (Nat.le_of_ble_eq_true rfl) (c_X7_init (n := 50) (n0 := 56) (by omega) rfl (by decide) rfl (by decide) (Cel_b rfl rfl rfl) ?_)
  refine E_prF dX8_init_94 rfl gff_X8_57_8 (Or.inl ⟨_, rfl⟩) (Cel_b hk rfl rfl) ?_
  refine E_aload_n (i := 0) dX8_init_97 rfl rfl ?_
  refine E_newL (μ := mX8_init) (N := 2) (rc := 11) (rs := 106) 57 dX8_init_98 cf_7 w_171 rfl (by decide) rfl rfl ?_
  refine E_dup dX8_init_101 rfl ?_
  refine E_bipush (v := 50) dX8_init_102 (by decide) ?_
  refine k_X8_init_104 (mc' := 1) (ms' := 50) (rc := 10) (rs := 56) (by omega) (Nat.le_of_ble_eq_true rfl) (c_X7_init (n := 50) (n0 := 58) (by omega) rfl (by decide) rfl (by decide) (Cel_b rfl rfl rfl) ?_)
  refine E_prF dX8_init_107 rfl gff_X8_60_8 (Or.inl ⟨_, rfl⟩) (Cel_b hk rfl rfl) ?_
  refine E_aload_n (i := 0) dX8_init_110 rfl rfl ?_
  refine E_newL (μ := mX8_init) (N := 2) (rc := 9) (rs := 54) 59 dX8_init_111 cf_7 w_171 rfl (by decide) rfl rfl ?_
  refine E_dup dX8_init_114 rfl ?_
  refine E_bipush (v := 8) dX8_init_115 (by decide) ?_
  refine k_X8_init_117 (mc' := 1) (ms' := 8) (rc := 8) (rs := 46) (by omega) (Nat.le_of_ble_eq_true rfl) (c_X7_init (n := 8) (n0 := 60) (by omega) rfl (by decide) rfl (by decide) (Cel_b rfl rfl rfl) ?_)
  refine E_prF dX8_init_120 rfl gff_X8_63_8 (Or.inl ⟨_, rfl⟩) (Cel_b hk rfl rfl) ?_
  refine E_aload_n (i := 0) dX8_init_123 rfl rfl ?_
  refine E_newL (μ := mX8_init) (N := 2) (rc := 7) (rs := 44) 61 dX8_init_124 cf_7 w_171 rfl (by decide) rfl rfl ?_
  refine E_dup dX8_init_127 rfl ?_
  refine E_bipush (v := 8) dX8_init_128 (by decide) ?_
  refine k_X8_init_130 (mc' := 1) (ms' := 8) (rc := 6) (rs := 36) (by omega) (Nat.le_of_ble_eq_true rfl) (c_X7_init (n := 8) (n0 := 62) (by omega) rfl (by decide) rfl (by decide) (Cel_b rfl rfl rfl) ?_)
  refine E_prF dX8_init_133 rfl gff_X8_66_8 (Or.inl ⟨_, rfl⟩) (Cel_b hk rfl rfl) ?_
  refine E_aload_n (i := 0) dX8_init_136 rfl rfl ?_
  refine E_newL (μ := mX8_init) (N := 2) (rc := 5) (rs := 34) 63 dX8_init_137 cf_7 w_171 rfl (by decide) rfl rfl ?_
  refine E_dup dX8_init_140 rfl ?_
  refine E_iconst (v := 5) dX8_init_141 (by decide) ?_
  refine k_X8_init_142 (mc' := 1) (ms' := 5) (rc := 4) (rs := 29) (by omega) (Nat.le_of_ble_eq_true rfl) (c_X7_init (n := 5) (n0 := 64) (by omega) rfl (by decide) rfl (by decide) (Cel_b rfl rfl rfl) ?_)
  refine E_prF dX8_init_145 rfl gff_X8_69_8 (Or.inl ⟨_, rfl⟩) (Cel_b hk rfl rfl) ?_
  refine E_aload_n (i := 0) dX8_init_148 rfl rfl ?_
  refine E_newL (μ := mX8_init) (N := 2) (rc := 3) (rs := 27) 65 dX8_init_149 cf_7 w_171 rfl (by decide) rfl rfl ?_
  refine E_dup dX8_init_152 rfl ?_
  refine E_iconst (v := 5) dX8_init_153 (by decide) ?_
  refine k_X8_init_154 (mc' := 1) (ms' := 5) (rc := 2) (rs := 22) (by omega) (Nat.le_of_ble_eq_true rfl) (c_X7_init (n := 5) (n0 := 66) (by omega) rfl (by decide) rfl (by decide) (Cel_b rfl rfl rfl) ?_)
  refine E_prF dX8_init_157 rfl gff_X8_72_8 (Or.inl ⟨_, rfl⟩) (Cel_b hk rfl rfl) ?_
  refine E_aload_n (i := 0) dX8_init_160 rfl rfl ?_
  refine E_newL (μ := mX8_init) (N := 2) (rc := 1) (rs := 20) 67 dX8_init_161 cf_7 w_171 rfl (by decide) rfl rfl ?_
  refine E_dup dX8_init_164 rfl ?_
  refine E_bipush (v := 20) dX8_init_165 (by decide) ?_
  refine k_X8_init_167 (mc' := 1) (ms' := 20) (rc := 0) (rs := 0) (by omega) (Nat.le_of_ble_eq_true rfl) (c_X7_init (n := 20) (n0 := 68) (by omega) rfl (by decide) rfl (by decide) (Cel_b rfl rfl rfl) ?_)
  refine E_prF dX8_init_170 rfl gff_X8_75_8 (Or.inl ⟨_, rfl⟩) (Cel_b hk rfl rfl) ?_
  refine E_aload_n (i := 0) dX8_init_173 rfl rfl ?_
  refine E_aload_n (i := 1) dX8_init_174 rfl rfl ?_
  refine E_prF dX8_init_175 rfl gff_X8_78_8 (Or.inl ⟨_, rfl⟩) (Cel_b hk rfl rfl) ?_
  refine E_aload_n (i := 0) dX8_init_178 rfl rfl ?_
  refine E_gr dX8_init_179 gf_X8_57_8 rfl (Cel_b hk rfl rfl) rfl ?_
  refine E_ldcS (j := 3) (tx := "w/100+(p>100)") dX8_init_182 (by decide) (by decide) ?_
  refine k_X8_init_184 (mc' := 0) (ms' := 0) (rc := 0) (rs := 0) (by omega) (Nat.le_of_ble_eq_true rfl) (Cel_b rfl rfl rfl) (c_X7_addSigns (q := 56) (n := 50) (by omega) (by decide) ⟨Cel_b rfl rfl rfl, rfl, Cel_b rfl rfl rfl, rfl, rfl, by decide, by decide⟩ (by decide) (fun J1 a1 a2 a3 => ?_))
  refine E_aload_n (i := 0) dX8_init_187 rfl rfl ?_
  refine E_gr dX8_init_188 gf_X8_60_8 rfl (Cel_b hk rfl rfl) rfl ?_
  refine E_ldcS (j := 4) (tx := "s*5>w") dX8_init_191 (by decide) (by decide) ?_
  refine k_X8_init_193 (mc' := 0) (ms' := 0) (rc := 0) (rs := 0) (by omega) (Nat.le_of_ble_eq_true rfl) (Cel_b rfl rfl rfl) (c_X7_addSigns (q := 58) (n := 50) (by omega) (by decide) ⟨Cel_b rfl rfl rfl, rfl, Cel_b rfl rfl rfl, rfl, (congrFun (a3 57 (by decide) (by decide)) 1).trans rfl, by decide, by decide⟩ (by decide) (fun J2 b1 b2 b3 => ?_))
  refine E_vret dX8_init_196 rfl ?_
  have hJ : ∀ a, a ≠ 55 → a ≠ 56 → a ≠ 57 → a ≠ 58 → J2 a = _ := fun a x1 x2 x3 x4 => (b3 a x3 x4).trans (a3 a x1 x2)
  refine hΦ _ _ _ _ ?_ ?_ ?_
  · exact ⟨Cel_b hk rfl rfl, rfl, rfl, ⟨Cel_b rfl rfl rfl, rfl, Cel_b rfl rfl rfl, rfl⟩, ⟨rfl, Cel_b rfl rfl rfl, rfl⟩, ⟨rfl, Cel_b rfl rfl rfl, rfl⟩, ⟨rfl, Cel_b rfl rfl rfl, rfl⟩, ⟨rfl, Cel_b rfl rfl rfl, rfl⟩, ⟨rfl, Cel_b rfl rfl rfl, rfl⟩, sRow_all ⟨rfl, Cel_b rfl rfl rfl, rfl, Cel_b rfl rfl rfl, rfl⟩ ⟨rfl, Cel_b rfl rfl rfl, rfl, Cel_b rfl rfl rfl, rfl⟩ ⟨rfl, Cel_b rfl rfl rfl, rfl, Cel_b rfl rfl rfl, rfl⟩ ⟨rfl, Cel_b rfl rfl rfl, rfl, Cel_b rfl rfl rfl, rfl⟩ ⟨rfl, Cel_b rfl rfl rfl, rfl, Cel_b rfl rfl rfl, rfl⟩ ⟨rfl, Cel_b rfl rfl rfl, rfl, Cel_b rfl rfl rfl, rfl⟩ ⟨rfl, Cel_b rfl rfl rfl, rfl, Cel_b rfl rfl rfl, rfl⟩ ⟨rfl, Cel_b rfl rfl rfl, rfl, Cel_b rfl rfl rfl, rfl⟩⟩
  · have f : ∀ a j, a ≠ 55 → a ≠ 56 → a ≠ 57 → a ≠ 58 → J2 a j = _ := fun a j x1 x2 x3 x4 => congrFun (hJ a x1 x2 x3 x4) j
    exact ⟨⟨(f 45 7 (by decide) (by decide) (by decide) (by decide)).trans rfl, (f 45 8 (by decide) (by decide) (by decide) (by decide)).trans rfl, (f 45 9 (by decide) (by decide) (by decide) (by decide)).trans rfl⟩, fun j => (f 47 j (by decide) (by decide) (by decide) (by decide)).trans rfl, ⟨fun j => (f 49 j (by decide) (by decide) (by decide) (by decide)).trans rfl, fun j => (f 50 j (by decide) (by decide) (by decide) (by decide)).trans rfl, fun j => (f 51 j (by decide) (by decide) (by decide) (by decide)).trans rfl, fun j => (f 52 j (by decide) (by decide) (by decide) (by decide)).trans rfl⟩, ⟨(f 53 1 (by decide) (by decide) (by decide) (by decide)).trans rfl, (f 59 1 (by decide) (by decide) (by decide) (by decide)).trans rfl, (f 61 1 (by decide) (by decide) (by decide) (by decide)).trans rfl, (f 63 1 (by decide) (by decide) (by decide) (by decide)).trans rfl, (f 65 1 (by decide) (by decide) (by decide) (by decide)).trans rfl, (f 67 1 (by decide) (by decide) (by decide) (by decide)).trans rfl⟩, ⟨(congrFun (b3 55 (by decide) (by decide)) 1).trans a1, fun i hi => (congrFun (b3 56 (by decide) (by decide)) i).trans (a2 i hi)⟩, ⟨b1, b2⟩, fun j => rfl⟩
  · intro a ha
    refine ⟨?_, ?_, ?_, ?_⟩
    · simp only [gNew, ur, Nat.reduceAdd]; iterate 15 rw [if_neg (by omega)]
      repeat rw [if_neg (by omega)]
      exact if_neg (by omega)
    · simp only [gNew, ur, Nat.reduceAdd]; iterate 15 rw [if_neg (by omega)]
      repeat rw [if_neg (by omega)]
      exact if_neg (by omega)
    · simp only [u2, ur]; repeat rw [if_neg (by omega)]
    · rw [hJ a (by omega) (by omega) (by omega) (by omega)]; simp only [u2, ur]; repeat rw [if_neg (by omega)]
theorem init8_69 {k l : Nat → Nat} (hd : 6 ≤ d) (hk : k 69 = 8) (hΦ : ∀ (k' l' : Nat → Nat) (P' : HP) (J : HI), St (93, k', l') P' 69 → S0 P' J 69 → (∀ a, a < 69 → k' a = k a ∧ l' a = l a ∧ P' a = P a ∧ J a = I a) → Φ none (93, k', l') P' J) : MM Γ mX8_init d 23 262 [.ref 69, .ref 17] (70, k, l) P I Φ := by
  refine MM_entry [some _, some _] (by decide) (Nat.le_of_ble_eq_true rfl) rfl ?_
  refine E_aload_n (i := 0) dX8_init_0 rfl rfl ?_
  refine E_objInit dX8_init_1 w_149 w_97 w_98 (Nat.le_of_ble_eq_true rfl) (by omega) ?_
  refine E_aload_n (i := 0) dX8_init_4 rfl rfl ?_
  refine E_newL (μ := mX8_init) (N := 1) (rc := 22) (rs := 261) 70 dX8_init_5 cf_10 w_150 rfl (by decide) rfl rfl ?_
  refine E_dup dX8_init_8 rfl ?_
  refine k_X8_init_9 (mc' := 1) (ms' := 9) (rc := 21) (rs := 252) (by omega) (Nat.le_of_ble_eq_true rfl) (c_X10_init (n0 := 71) (by omega) rfl (by decide) (Cel_b rfl rfl rfl) ?_)
  refine E_prF dX8_init_12 rfl gff_X8_12_8 (Or.inl ⟨_, rfl⟩) (Cel_b hk rfl rfl) ?_
  refine E_aload_n (i := 0) dX8_init_15 rfl rfl ?_
  refine E_bipush (v := 8) dX8_init_16 (by decide) ?_
  refine E_newrL (μ := mX8_init) (rc := 20) (rs := 244) 1 72 8 dX8_init_18 (by decide) w_169 rfl (by decide) rfl (by decide) rfl rfl ?_
  refine E_prF dX8_init_21 rfl gff_X8_20_8 (Or.inr ⟨_, rfl⟩) (Cel_b hk rfl rfl) ?_
  refine E_aload_n (i := 0) dX8_init_24 rfl rfl ?_
  refine E_bipush (v := 8) dX8_init_25 (by decide) ?_
  refine E_newiL (μ := mX8_init) (rc := 19) (rs := 236) 73 8 dX8_init_27 rfl (by decide) rfl (by decide) rfl rfl ?_
  refine E_prF dX8_init_29 rfl gff_X8_24_8 (Or.inr ⟨_, rfl⟩) (Cel_b hk rfl rfl) ?_
  refine E_aload_n (i := 0) dX8_init_32 rfl rfl ?_
  refine E_bipush (v := 8) dX8_init_33 (by decide) ?_
  refine E_newiL (μ := mX8_init) (rc := 18) (rs := 228) 74 8 dX8_init_35 rfl (by decide) rfl (by decide) rfl rfl ?_
  refine E_prF dX8_init_37 rfl gff_X8_28_8 (Or.inr ⟨_, rfl⟩) (Cel_b hk rfl rfl) ?_
  refine E_aload_n (i := 0) dX8_init_40 rfl rfl ?_
  refine E_bipush (v := 8) dX8_init_41 (by decide) ?_
  refine E_newiL (μ := mX8_init) (rc := 17) (rs := 220) 75 8 dX8_init_43 rfl (by decide) rfl (by decide) rfl rfl ?_
  refine E_prF dX8_init_45 rfl gff_X8_31_8 (Or.inr ⟨_, rfl⟩) (Cel_b hk rfl rfl) ?_
  refine E_aload_n (i := 0) dX8_init_48 rfl rfl ?_
  refine E_bipush (v := 8) dX8_init_49 (by decide) ?_
  refine E_newzL (μ := mX8_init) (rc := 16) (rs := 212) 76 8 dX8_init_51 rfl (by decide) rfl (by decide) rfl rfl ?_
  refine E_prF dX8_init_53 rfl gff_X8_34_8 (Or.inr ⟨_, rfl⟩) (Cel_b hk rfl rfl) ?_
  refine E_aload_n (i := 0) dX8_init_56 rfl rfl ?_
  refine E_iconst (v := 0) dX8_init_57 (by decide) ?_
  refine E_pi dX8_init_58 gf_X8_38_8 rfl (Cel_b hk rfl rfl) ?_
  refine E_aload_n (i := 0) dX8_init_61 rfl rfl ?_
  refine E_iconst (v := 0) dX8_init_62 (by decide) ?_
  refine E_pi dX8_init_63 gf_X8_42_8 rfl (Cel_b hk rfl rfl) ?_
  refine E_aload_n (i := 0) dX8_init_66 rfl rfl ?_
  refine E_iconst (v := 1) dX8_init_67 (by decide) ?_
  refine E_pi dX8_init_68 gf_X8_45_8 rfl (Cel_b hk rfl rfl) ?_
  refine E_aload_n (i := 0) dX8_init_71 rfl rfl ?_
  refine E_newL (μ := mX8_init) (N := 2) (rc := 15) (rs := 210) 77 dX8_init_72 cf_7 w_171 rfl (by decide) rfl rfl ?_
  refine E_dup dX8_init_75 rfl ?_
  refine E_bipush (v := 50) dX8_init_76 (by decide) ?_
  refine k_X8_init_78 (mc' := 1) (ms' := 50) (rc := 14) (rs := 160) (by omega) (Nat.le_of_ble_eq_true rfl) (c_X7_init (n := 50) (n0 := 78) (by omega) rfl (by decide) rfl (by decide) (Cel_b rfl rfl rfl) ?_)
  refine E_prF dX8_init_81 rfl gff_X8_53_8 (Or.inl ⟨_, rfl⟩) (Cel_b hk rfl rfl) ?_
  refine E_aload_n (i := 0) dX8_init_84 rfl rfl ?_
  refine E_newL (μ := mX8_init) (N := 2) (rc := 13) (rs := 158) 79 dX8_init_85 cf_7 w_171 rfl (by decide) rfl rfl ?_
  refine E_dup dX8_init_88 rfl ?_
  refine E_bipush (v := 50) dX8_init_89 (by decide) ?_
  refine k_X8_init_91 (mc' := 1) (ms' := 50) (rc := 12) (rs := 108) (by omega) (Nat.le_of_ble_eq_true rfl) (c_X7_init (n := 50) (n0 := 80) (by omega) rfl (by decide) rfl (by decide) (Cel_b rfl rfl rfl) ?_)
  refine E_prF dX8_init_94 rfl gff_X8_57_8 (Or.inl ⟨_, rfl⟩) (Cel_b hk rfl rfl) ?_
  refine E_aload_n (i := 0) dX8_init_97 rfl rfl ?_
  refine E_newL (μ := mX8_init) (N := 2) (rc := 11) (rs := 106) 81 dX8_init_98 cf_7 w_171 rfl (by decide) rfl rfl ?_
  refine E_dup dX8_init_101 rfl ?_
  refine E_bipush (v := 50) dX8_init_102 (by decide) ?_
  refine k_X8_init_104 (mc' := 1) (ms' := 50) (rc := 10) (rs := 56) (by omega) (Nat.le_of_ble_eq_true rfl) (c_X7_init (n := 50) (n0 := 82) (by omega) rfl (by decide) rfl (by decide) (Cel_b rfl rfl rfl) ?_)
  refine E_prF dX8_init_107 rfl gff_X8_60_8 (Or.inl ⟨_, rfl⟩) (Cel_b hk rfl rfl) ?_
  refine E_aload_n (i := 0) dX8_init_110 rfl rfl ?_
  refine E_newL (μ := mX8_init) (N := 2) (rc := 9) (rs := 54) 83 dX8_init_111 cf_7 w_171 rfl (by decide) rfl rfl ?_
  refine E_dup dX8_init_114 rfl ?_
  refine E_bipush (v := 8) dX8_init_115 (by decide) ?_
  refine k_X8_init_117 (mc' := 1) (ms' := 8) (rc := 8) (rs := 46) (by omega) (Nat.le_of_ble_eq_true rfl) (c_X7_init (n := 8) (n0 := 84) (by omega) rfl (by decide) rfl (by decide) (Cel_b rfl rfl rfl) ?_)
  refine E_prF dX8_init_120 rfl gff_X8_63_8 (Or.inl ⟨_, rfl⟩) (Cel_b hk rfl rfl) ?_
  refine E_aload_n (i := 0) dX8_init_123 rfl rfl ?_
  refine E_newL (μ := mX8_init) (N := 2) (rc := 7) (rs := 44) 85 dX8_init_124 cf_7 w_171 rfl (by decide) rfl rfl ?_
  refine E_dup dX8_init_127 rfl ?_
  refine E_bipush (v := 8) dX8_init_128 (by decide) ?_
  refine k_X8_init_130 (mc' := 1) (ms' := 8) (rc := 6) (rs := 36) (by omega) (Nat.le_of_ble_eq_true rfl) (c_X7_init (n := 8) (n0 := 86) (by omega) rfl (by decide) rfl (by decide) (Cel_b rfl rfl rfl) ?_)
  refine E_prF dX8_init_133 rfl gff_X8_66_8 (Or.inl ⟨_, rfl⟩) (Cel_b hk rfl rfl) ?_
  refine E_aload_n (i := 0) dX8_init_136 rfl rfl ?_
  refine E_newL (μ := mX8_init) (N := 2) (rc := 5) (rs := 34) 87 dX8_init_137 cf_7 w_171 rfl (by decide) rfl rfl ?_
  refine E_dup dX8_init_140 rfl ?_
  refine E_iconst (v := 5) dX8_init_141 (by decide) ?_
  refine k_X8_init_142 (mc' := 1) (ms' := 5) (rc := 4) (rs := 29) (by omega) (Nat.le_of_ble_eq_true rfl) (c_X7_init (n := 5) (n0 := 88) (by omega) rfl (by decide) rfl (by decide) (Cel_b rfl rfl rfl) ?_)
  refine E_prF dX8_init_145 rfl gff_X8_69_8 (Or.inl ⟨_, rfl⟩) (Cel_b hk rfl rfl) ?_
  refine E_aload_n (i := 0) dX8_init_148 rfl rfl ?_
  refine E_newL (μ := mX8_init) (N := 2) (rc := 3) (rs := 27) 89 dX8_init_149 cf_7 w_171 rfl (by decide) rfl rfl ?_
  refine E_dup dX8_init_152 rfl ?_
  refine E_iconst (v := 5) dX8_init_153 (by decide) ?_
  refine k_X8_init_154 (mc' := 1) (ms' := 5) (rc := 2) (rs := 22) (by omega) (Nat.le_of_ble_eq_true rfl) (c_X7_init (n := 5) (n0 := 90) (by omega) rfl (by decide) rfl (by decide) (Cel_b rfl rfl rfl) ?_)
  refine E_prF dX8_init_157 rfl gff_X8_72_8 (Or.inl ⟨_, rfl⟩) (Cel_b hk rfl rfl) ?_
  refine E_aload_n (i := 0) dX8_init_160 rfl rfl ?_
  refine E_newL (μ := mX8_init) (N := 2) (rc := 1) (rs := 20) 91 dX8_init_161 cf_7 w_171 rfl (by decide) rfl rfl ?_
  refine E_dup dX8_init_164 rfl ?_
  refine E_bipush (v := 20) dX8_init_165 (by decide) ?_
  refine k_X8_init_167 (mc' := 1) (ms' := 20) (rc := 0) (rs := 0) (by omega) (Nat.le_of_ble_eq_true rfl) (c_X7_init (n := 20) (n0 := 92) (by omega) rfl (by decide) rfl (by decide) (Cel_b rfl rfl rfl) ?_)
  refine E_prF dX8_init_170 rfl gff_X8_75_8 (Or.inl ⟨_, rfl⟩) (Cel_b hk rfl rfl) ?_
  refine E_aload_n (i := 0) dX8_init_173 rfl rfl ?_
  refine E_aload_n (i := 1) dX8_init_174 rfl rfl ?_
  refine E_prF dX8_init_175 rfl gff_X8_78_8 (Or.inl ⟨_, rfl⟩) (Cel_b hk rfl rfl) ?_
  refine E_aload_n (i := 0) dX8_init_178 rfl rfl ?_
  refine E_gr dX8_init_179 gf_X8_57_8 rfl (Cel_b hk rfl rfl) rfl ?_
  refine E_ldcS (j := 3) (tx := "w/100+(p>100)") dX8_init_182 (by decide) (by decide) ?_
  refine k_X8_init_184 (mc' := 0) (ms' := 0) (rc := 0) (rs := 0) (by omega) (Nat.le_of_ble_eq_true rfl) (Cel_b rfl rfl rfl) (c_X7_addSigns (q := 80) (n := 50) (by omega) (by decide) ⟨Cel_b rfl rfl rfl, rfl, Cel_b rfl rfl rfl, rfl, rfl, by decide, by decide⟩ (by decide) (fun J1 a1 a2 a3 => ?_))
  refine E_aload_n (i := 0) dX8_init_187 rfl rfl ?_
  refine E_gr dX8_init_188 gf_X8_60_8 rfl (Cel_b hk rfl rfl) rfl ?_
  refine E_ldcS (j := 4) (tx := "s*5>w") dX8_init_191 (by decide) (by decide) ?_
  refine k_X8_init_193 (mc' := 0) (ms' := 0) (rc := 0) (rs := 0) (by omega) (Nat.le_of_ble_eq_true rfl) (Cel_b rfl rfl rfl) (c_X7_addSigns (q := 82) (n := 50) (by omega) (by decide) ⟨Cel_b rfl rfl rfl, rfl, Cel_b rfl rfl rfl, rfl, (congrFun (a3 81 (by decide) (by decide)) 1).trans rfl, by decide, by decide⟩ (by decide) (fun J2 b1 b2 b3 => ?_))
  refine E_vret dX8_init_196 rfl ?_
  have hJ : ∀ a, a ≠ 79 → a ≠ 80 → a ≠ 81 → a ≠ 82 → J2 a = _ := fun a x1 x2 x3 x4 => (b3 a x3 x4).trans (a3 a x1 x2)
  refine hΦ _ _ _ _ ?_ ?_ ?_
  · exact ⟨Cel_b hk rfl rfl, rfl, rfl, ⟨Cel_b rfl rfl rfl, rfl, Cel_b rfl rfl rfl, rfl⟩, ⟨rfl, Cel_b rfl rfl rfl, rfl⟩, ⟨rfl, Cel_b rfl rfl rfl, rfl⟩, ⟨rfl, Cel_b rfl rfl rfl, rfl⟩, ⟨rfl, Cel_b rfl rfl rfl, rfl⟩, ⟨rfl, Cel_b rfl rfl rfl, rfl⟩, sRow_all ⟨rfl, Cel_b rfl rfl rfl, rfl, Cel_b rfl rfl rfl, rfl⟩ ⟨rfl, Cel_b rfl rfl rfl, rfl, Cel_b rfl rfl rfl, rfl⟩ ⟨rfl, Cel_b rfl rfl rfl, rfl, Cel_b rfl rfl rfl, rfl⟩ ⟨rfl, Cel_b rfl rfl rfl, rfl, Cel_b rfl rfl rfl, rfl⟩ ⟨rfl, Cel_b rfl rfl rfl, rfl, Cel_b rfl rfl rfl, rfl⟩ ⟨rfl, Cel_b rfl rfl rfl, rfl, Cel_b rfl rfl rfl, rfl⟩ ⟨rfl, Cel_b rfl rfl rfl, rfl, Cel_b rfl rfl rfl, rfl⟩ ⟨rfl, Cel_b rfl rfl rfl, rfl, Cel_b rfl rfl rfl, rfl⟩⟩
  · have f : ∀ a j, a ≠ 79 → a ≠ 80 → a ≠ 81 → a ≠ 82 → J2 a j = _ := fun a j x1 x2 x3 x4 => congrFun (hJ a x1 x2 x3 x4) j
    exact ⟨⟨(f 69 7 (by decide) (by decide) (by decide) (by decide)).trans rfl, (f 69 8 (by decide) (by decide) (by decide) (by decide)).trans rfl, (f 69 9 (by decide) (by decide) (by decide) (by decide)).trans rfl⟩, fun j => (f 71 j (by decide) (by decide) (by decide) (by decide)).trans rfl, ⟨fun j => (f 73 j (by decide) (by decide) (by decide) (by decide)).trans rfl, fun j => (f 74 j (by decide) (by decide) (by decide) (by decide)).trans rfl, fun j => (f 75 j (by decide) (by decide) (by decide) (by decide)).trans rfl, fun j => (f 76 j (by decide) (by decide) (by decide) (by decide)).trans rfl⟩, ⟨(f 77 1 (by decide) (by decide) (by decide) (by decide)).trans rfl, (f 83 1 (by decide) (by decide) (by decide) (by decide)).trans rfl, (f 85 1 (by decide) (by decide) (by decide) (by decide)).trans rfl, (f 87 1 (by decide) (by decide) (by decide) (by decide)).trans rfl, (f 89 1 (by decide) (by decide) (by decide) (by decide)).trans rfl, (f 91 1 (by decide) (by decide) (by decide) (by decide)).trans rfl⟩, ⟨(congrFun (b3 79 (by decide) (by decide)) 1).trans a1, fun i hi => (congrFun (b3 80 (by decide) (by decide)) i).trans (a2 i hi)⟩, ⟨b1, b2⟩, fun j => rfl⟩
  · intro a ha
    refine ⟨?_, ?_, ?_, ?_⟩
    · simp only [gNew, ur, Nat.reduceAdd]; iterate 15 rw [if_neg (by omega)]
      repeat rw [if_neg (by omega)]
      exact if_neg (by omega)
    · simp only [gNew, ur, Nat.reduceAdd]; iterate 15 rw [if_neg (by omega)]
      repeat rw [if_neg (by omega)]
      exact if_neg (by omega)
    · simp only [u2, ur]; repeat rw [if_neg (by omega)]
    · rw [hJ a (by omega) (by omega) (by omega) (by omega)]; simp only [u2, ur]; repeat rw [if_neg (by omega)]
end
