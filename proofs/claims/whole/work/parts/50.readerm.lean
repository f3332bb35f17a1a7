/-! the model's reader -/
/-- where the model's reader is -/
def MS (I J : HI) (op : Nat) (σ : PS) : Prop := (∀ a, a ≠ 109 → a ≠ 117 → J a = I a) ∧ (∀ k, k ≠ 8 → k ≠ 9 → k ≠ 11 → k ≠ 13 → J 109 k = I 109 k) ∧ J 109 8 = nI σ.1 ∧ J 109 9 = nI op ∧ J 109 11 = (if σ.2.1 = true then 1 else 0) ∧ J 109 13 = nI σ.2.2.length ∧ ∀ i, i < σ.2.2.length → J 117 i = σ.2.2.getD i 0
/-- bounds -/
def BN (n : Nat) (σ : PS) : Prop := σ.1 ≤ n ∧ σ.2.2.length ≤ σ.1
def MX (g : Sh) (P : HP) (I : HI) (n u : Nat) : Prop := Mo g P ∧ I 110 4 = nI n ∧ n ≤ 50 ∧ I 109 10 = nI u ∧ u ≤ 1 ∧ ∀ i, i < n → ∃ b, b < 256 ∧ I 110 (98 + i) = nI b
abbrev tM (I : HI) : Nat → Int32 := fun i => I 110 (98 + i)
theorem Gd.B {n : Nat} {f : PS → PS} (hf : Gd n f) {σ : PS} (h : BN n σ) : BN n (f σ) := by
  obtain ⟨g1, g2, g3, δ, g4, g5, g6⟩ := hf σ
  refine ⟨g3 h.1, ?_⟩
  have := h.2
  rw [g4, List.length_append]
  omega
theorem BN.adv {n : Nat} {σ : PS} (h : BN n σ) (hp : σ.1 < n) : BN n (adv σ) := ⟨hp, Nat.le_succ_of_le h.2⟩
theorem Gd.Bs {n : Nat} {f : PS → PS} (hf : Gd n f) {t : Nat → Int32} {σ : PS} {o : Int32} (hc : ¬ hr t n σ = -1) (h1 : 20000 ≤ o) (h2 : o ≤ 20009) (h : BN n σ) : BN n (emt o (f (adv σ))) ∧ σ.1 < (emt o (f (adv σ))).1 := by
  obtain ⟨b1, b2, δ, b3, b4, b5⟩ := gd_step hf hc h1 h2
  refine ⟨⟨b2 h.1, ?_⟩, b1⟩
  have := h.2
  rw [b3, List.length_append]
  omega
theorem Mo.cod {g : Sh} {P : HP} (h : Mo g P) : P 109 12 = some 117 ∧ Cel g 117 13 ∧ g.2.2 117 = 60 := h.2.1 (12, 117, 60) (by decide)
theorem MS_adv {I J : HI} {op : Nat} {σ : PS} (h : MS I J op σ) : MS I (u2 J 109 8 (J 109 8 + 1)) op (adv σ) := by
  obtain ⟨j1, j2, j3, j4, j5, j6, j7⟩ := h
  refine ⟨fun a h1 h2 => by rw [u2_oth _ h1]; exact j1 a h1 h2, fun k h1 h2 h3 h4 => by rw [u2_o (fun q => h1 q.2)]; exact j2 k h1 h2 h3 h4, by rw [u2_s, j3, nI_1]; rfl, by rw [u2_o (by decide)]; exact j4, by rw [u2_o (by decide)]; exact j5, by rw [u2_o (by decide)]; exact j6, fun i hi => by rw [u2_oth _ (by decide)]; exact j7 i hi⟩
theorem MS_at {I J : HI} {op : Nat} {σ : PS} (h : MS I J op σ) : MS I (u2 J 109 8 (J 109 8 + 0)) op σ := by
  obtain ⟨j1, j2, j3, j4, j5, j6, j7⟩ := h
  refine ⟨fun a h1 h2 => by rw [u2_oth _ h1]; exact j1 a h1 h2, fun k h1 h2 h3 h4 => by rw [u2_o (fun q => h1 q.2)]; exact j2 k h1 h2 h3 h4, by rw [u2_s, i_add0, j3], by rw [u2_o (by decide)]; exact j4, by rw [u2_o (by decide)]; exact j5, by rw [u2_o (by decide)]; exact j6, fun i hi => by rw [u2_oth _ (by decide)]; exact j7 i hi⟩
theorem MS_op {I J : HI} {op op' : Nat} {σ : PS} {v : Int32} (h : MS I J op σ) (hv : v = nI op') : MS I (u2 J 109 9 v) op' σ := by
  obtain ⟨j1, j2, j3, j4, j5, j6, j7⟩ := h
  refine ⟨fun a h1 h2 => by rw [u2_oth _ h1]; exact j1 a h1 h2, fun k h1 h2 h3 h4 => by rw [u2_o (fun q => h2 q.2)]; exact j2 k h1 h2 h3 h4, by rw [u2_o (by decide)]; exact j3, by rw [u2_s]; exact hv, by rw [u2_o (by decide)]; exact j5, by rw [u2_o (by decide)]; exact j6, fun i hi => by rw [u2_oth _ (by decide)]; exact j7 i hi⟩
theorem MS_wr {I J : HI} {op : Nat} {σ : PS} (h : MS I J op σ) : MS I (u2 J 109 11 1) op (wrg σ) := by
  obtain ⟨j1, j2, j3, j4, j5, j6, j7⟩ := h
  exact ⟨fun a h1 h2 => by rw [u2_oth _ h1]; exact j1 a h1 h2, fun k h1 h2 h3 h4 => by rw [u2_o (fun q => h3 q.2)]; exact j2 k h1 h2 h3 h4, by rw [u2_o (by decide)]; exact j3, by rw [u2_o (by decide)]; exact j4, by rw [u2_s]; rfl, by rw [u2_o (by decide)]; exact j6, fun i hi => by rw [u2_oth _ (by decide)]; exact j7 i hi⟩
theorem MS_ok {I J : HI} {op : Nat} {σ : PS} (h : MS I J op σ) (hw : σ.2.1 = false) : MS I (u2 J 109 11 0) op σ := by
  obtain ⟨j1, j2, j3, j4, j5, j6, j7⟩ := h
  exact ⟨fun a h1 h2 => by rw [u2_oth _ h1]; exact j1 a h1 h2, fun k h1 h2 h3 h4 => by rw [u2_o (fun q => h3 q.2)]; exact j2 k h1 h2 h3 h4, by rw [u2_o (by decide)]; exact j3, by rw [u2_o (by decide)]; exact j4, by rw [u2_s, hw]; rfl, by rw [u2_o (by decide)]; exact j6, fun i hi => by rw [u2_oth _ (by decide)]; exact j7 i hi⟩
theorem MS_em {I J : HI} {op : Nat} {σ : PS} {v : Int32} (h : MS I J op σ) (hw : σ.2.1 = false) : MS I (u2 (u2 J 117 σ.2.2.length v) 109 13 (nI (σ.2.2.length + 1))) op (emt v σ) := by
  obtain ⟨j1, j2, j3, j4, j5, j6, j7⟩ := h
  rw [emt_f hw]
  refine ⟨fun a h1 h2 => by rw [u2_oth _ h1, u2_oth _ h2]; exact j1 a h1 h2, fun k h1 h2 h3 h4 => by rw [u2_o (fun q => h4 q.2), u2_oth _ (by decide)]; exact j2 k h1 h2 h3 h4, by rw [u2_o (by decide), u2_oth _ (by decide)]; exact j3, by rw [u2_o (by decide), u2_oth _ (by decide)]; exact j4, by rw [u2_o (by decide), u2_oth _ (by decide)]; exact j5, by rw [u2_s]; show _ = nI (σ.2.2 ++ [v]).length; rw [List.length_append]; rfl, fun i hi => ?_⟩
  have hi : i < (σ.2.2 ++ [v]).length := hi
  show _ = (σ.2.2 ++ [v]).getD i 0
  rw [List.length_append] at hi
  have hi : i < σ.2.2.length + 1 := hi
  rw [u2_oth _ (by decide)]
  by_cases e : i = σ.2.2.length
  · subst e
    rw [u2_s]
    simp
  · rw [u2_o (fun q => e q.2), j7 i (by omega)]
    simp [List.getD_eq_getElem?_getD, List.getElem?_append_left (show i < σ.2.2.length by omega)]
section
variable {Γ : GE} {d : Nat} {g : Sh} {P : HP} {I J : HI} {Φ : Option Value → Sh → HP → HI → Prop} {n u op : Nat} {σ : PS}
theorem c_here (hX : MX g P I n u) (hJ : MS I J op σ) (hb : σ.1 ≤ n) (hΦ : Φ (some (.int (hr (tM I) n σ))) g P J) : MM Γ mX12_here d 0 0 [.ref 109] g P J Φ := by
  refine MM_entry [some _] (by decide) (Nat.le_of_ble_eq_true rfl) rfl ?_
  obtain ⟨hM, x2, x3, x4⟩ := hX
  obtain ⟨n1, n2, n3⟩ := hM.now
  have h0 := hM.1
  obtain ⟨j1, j2, j3, j4, j5, j6, j7⟩ := hJ
  have e110 : J 110 = I 110 := j1 110 (by decide) (by decide)
  have e4 : J 110 4 = nI n := by rw [e110]; exact x2
  unfold hr at hΦ
  cases hw : σ.2.1 with
  | true =>
    rw [hw, if_neg (fun h => by cases h.1)] at hΦ
    rw [hw, if_pos rfl] at j5
    refine E_aload_n (i := 0) dX12_here_0 rfl rfl ?_
    refine E_gi dX12_here_1 gf_X12_160_12 rfl (by assumption) ?_
    refine E_if_ne (tgt := 35) dX12_here_4 (by decide) (fun c_4 => ?_) (fun c_4 => absurd c_4 (by rw [j5]; decide))
    refine E_iconst (v := -1) dX12_here_35 (by decide) ?_
    refine E_iret dX12_here_36 rfl ?_
    exact hΦ
  | false =>
    rw [hw, if_neg (by decide)] at j5
    by_cases hp : σ.1 < n
    · rw [if_pos ⟨hw, hp⟩] at hΦ
      have hΦ : Φ (some (.int (J 110 (98 + σ.1)))) g P J := by rw [e110]; exact hΦ
      refine E_aload_n (i := 0) dX12_here_0 rfl rfl ?_
      refine E_gi dX12_here_1 gf_X12_160_12 rfl (by assumption) ?_
      refine E_if_ne (tgt := 35) dX12_here_4 (by decide) (fun c_4 => absurd (j5) c_4) (fun c_4 => ?_)
      refine E_aload_n (i := 0) dX12_here_7 rfl rfl ?_
      refine E_gi dX12_here_8 gf_X12_164_12 rfl (by assumption) ?_
      refine E_aload_n (i := 0) dX12_here_11 rfl rfl ?_
      refine E_gr dX12_here_12 gf_X12_9_12 rfl (by assumption) (by assumption) ?_
      refine E_iconst (v := 4) dX12_here_15 (by decide) ?_
      refine E_iaj 4 dX12_here_16 (by assumption) rfl (by decide) (by rw [n3]; decide) ?_
      refine E_icmp_ge (tgt := 35) dX12_here_17 (by decide) (fun c_17 => absurd c_17 (by rw [j3, e4]; exact nI_ge hp (by omega))) (fun c_17 => ?_)
      refine E_aload_n (i := 0) dX12_here_20 rfl rfl ?_
      refine E_gr dX12_here_21 gf_X12_9_12 rfl (by assumption) (by assumption) ?_
      refine E_bipush (v := 98) dX12_here_24 (by decide) ?_
      refine E_aload_n (i := 0) dX12_here_26 rfl rfl ?_
      refine E_gi dX12_here_27 gf_X12_164_12 rfl (by assumption) ?_
      refine E_iadd dX12_here_30 ?_
      refine E_iaj (98 + σ.1) dX12_here_31 (by assumption) (by rw [j3]; exact nI_add 98 σ.1) (by omega) (by rw [n3]; omega) ?_
      refine E_goto (tgt := 36) dX12_here_32 (by decide) ?_
      refine E_iret dX12_here_36 rfl ?_
      exact hΦ
    · rw [if_neg (fun h => hp h.2)] at hΦ
      refine E_aload_n (i := 0) dX12_here_0 rfl rfl ?_
      refine E_gi dX12_here_1 gf_X12_160_12 rfl (by assumption) ?_
      refine E_if_ne (tgt := 35) dX12_here_4 (by decide) (fun c_4 => absurd (j5) c_4) (fun c_4 => ?_)
      refine E_aload_n (i := 0) dX12_here_7 rfl rfl ?_
      refine E_gi dX12_here_8 gf_X12_164_12 rfl (by assumption) ?_
      refine E_aload_n (i := 0) dX12_here_11 rfl rfl ?_
      refine E_gr dX12_here_12 gf_X12_9_12 rfl (by assumption) (by assumption) ?_
      refine E_iconst (v := 4) dX12_here_15 (by decide) ?_
      refine E_iaj 4 dX12_here_16 (by assumption) rfl (by decide) (by rw [n3]; decide) ?_
      refine E_icmp_ge (tgt := 35) dX12_here_17 (by decide) (fun c_17 => ?_) (fun c_17 => absurd (by rw [j3, e4]; exact nI_le (by omega) (by omega)) c_17)
      refine E_iconst (v := -1) dX12_here_35 (by decide) ?_
      refine E_iret dX12_here_36 rfl ?_
      exact hΦ
theorem c_takesM {ch : Int32} (hd : 1 ≤ d) (hX : MX g P I n u) (hJ : MS I J op σ) (hb : σ.1 ≤ n) (h1 : hr (tM I) n σ = ch → ∀ J', MS I J' op (adv σ) → Φ (some (.int 1)) g P J') (h2 : ¬ hr (tM I) n σ = ch → ∀ J', MS I J' op σ → Φ (some (.int 0)) g P J') : MM Γ mX12_takes d 0 0 [.ref 109, .int ch] g P J Φ := by
  refine MM_entry [some _, some _, none] (by decide) (Nat.le_of_ble_eq_true rfl) rfl ?_
  have h0 := hX.1.1
  by_cases hc : hr (tM I) n σ = ch
  · have hΦ := h1 hc _ (MS_adv hJ)
    refine E_aload_n (i := 0) dX12_takes_0 rfl rfl ?_
    refine k_X12_takes_1 (mc' := 0) (ms' := 0) (rc := 0) (rs := 0) (by omega) (Nat.le_of_ble_eq_true rfl) (by assumption) (c_here hX hJ hb ?_)
    refine E_iload_n (i := 1) dX12_takes_4 rfl rfl ?_
    refine E_icmp_ne (tgt := 12) dX12_takes_5 (by decide) (fun c_5 => absurd (hc) c_5) (fun c_5 => ?_)
    refine E_iconst (v := 1) dX12_takes_8 (by decide) ?_
    refine E_goto (tgt := 13) dX12_takes_9 (by decide) ?_
    refine E_istore_nC (i := 2) dX12_takes_13 rfl (by decide) rfl ?_
    refine E_lv (lv' := [_, _, _]) rfl ?_
    refine E_aload_n (i := 0) dX12_takes_14 rfl rfl ?_
    refine E_dup dX12_takes_15 rfl ?_
    refine E_gi dX12_takes_16 gf_X12_164_12 rfl (by assumption) ?_
    refine E_iload_n (i := 2) dX12_takes_19 rfl rfl ?_
    refine E_if_eq (tgt := 27) dX12_takes_20 (by decide) (fun c_20 => absurd c_20 (by decide)) (fun c_20 => ?_)
    refine E_iconst (v := 1) dX12_takes_23 (by decide) ?_
    refine E_goto (tgt := 28) dX12_takes_24 (by decide) ?_
    refine E_iadd dX12_takes_28 ?_
    refine E_pi dX12_takes_29 gf_X12_164_12 rfl (by assumption) ?_
    refine E_iload_n (i := 2) dX12_takes_32 rfl rfl ?_
    refine E_zret dX12_takes_33 rfl rfl ?_
    exact hΦ
  · have hΦ := h2 hc _ (MS_at hJ)
    refine E_aload_n (i := 0) dX12_takes_0 rfl rfl ?_
    refine k_X12_takes_1 (mc' := 0) (ms' := 0) (rc := 0) (rs := 0) (by omega) (Nat.le_of_ble_eq_true rfl) (by assumption) (c_here hX hJ hb ?_)
    refine E_iload_n (i := 1) dX12_takes_4 rfl rfl ?_
    refine E_icmp_ne (tgt := 12) dX12_takes_5 (by decide) (fun c_5 => ?_) (fun c_5 => absurd c_5 (hc))
    refine E_iconst (v := 0) dX12_takes_12 (by decide) ?_
    refine E_istore_nC (i := 2) dX12_takes_13 rfl (by decide) rfl ?_
    refine E_lv (lv' := [_, _, _]) rfl ?_
    refine E_aload_n (i := 0) dX12_takes_14 rfl rfl ?_
    refine E_dup dX12_takes_15 rfl ?_
    refine E_gi dX12_takes_16 gf_X12_164_12 rfl (by assumption) ?_
    refine E_iload_n (i := 2) dX12_takes_19 rfl rfl ?_
    refine E_if_eq (tgt := 27) dX12_takes_20 (by decide) (fun c_20 => ?_) (fun c_20 => absurd (rfl) c_20)
    refine E_iconst (v := 0) dX12_takes_27 (by decide) ?_
    refine E_iadd dX12_takes_28 ?_
    refine E_pi dX12_takes_29 gf_X12_164_12 rfl (by assumption) ?_
    refine E_iload_n (i := 2) dX12_takes_32 rfl rfl ?_
    refine E_zret dX12_takes_33 rfl rfl ?_
    exact hΦ
theorem c_codes {v : Int32} (hX : MX g P I n u) (hJ : MS I J op σ) (hl : σ.2.2.length < 60) (hΦ : ∀ J', MS I J' op (emt v σ) → Φ none g P J') : MM Γ mX12_codes d 0 0 [.ref 109, .int v] g P J Φ := by
  refine MM_entry [some _, some _] (by decide) (Nat.le_of_ble_eq_true rfl) rfl ?_
  have h0 := hX.1.1
  obtain ⟨n1, n2, n3⟩ := hX.1.cod
  have j5 := hJ.2.2.2.2.1
  have j6 := hJ.2.2.2.2.2.1
  cases hw : σ.2.1 with
  | true =>
    have hΦ := hΦ J (by rw [emt_w hw]; exact hJ)
    rw [hw, if_pos rfl] at j5
    refine E_aload_n (i := 0) dX12_codes_0 rfl rfl ?_
    refine E_gi dX12_codes_1 gf_X12_160_12 rfl (by assumption) ?_
    refine E_if_ne (tgt := 27) dX12_codes_4 (by decide) (fun c_4 => ?_) (fun c_4 => absurd c_4 (by rw [j5]; decide))
    refine E_vret dX12_codes_27 rfl ?_
    exact hΦ
  | false =>
    have hΦ := hΦ _ (MS_em hJ hw)
    rw [hw, if_neg (by decide)] at j5
    refine E_aload_n (i := 0) dX12_codes_0 rfl rfl ?_
    refine E_gi dX12_codes_1 gf_X12_160_12 rfl (by assumption) ?_
    refine E_if_ne (tgt := 27) dX12_codes_4 (by decide) (fun c_4 => absurd (j5) c_4) (fun c_4 => ?_)
    refine E_aload_n (i := 0) dX12_codes_7 rfl rfl ?_
    refine E_gr dX12_codes_8 gf_X12_39_12 rfl (by assumption) (by assumption) ?_
    refine E_aload_n (i := 0) dX12_codes_11 rfl rfl ?_
    refine E_gi dX12_codes_12 gf_X12_171_12 rfl (by assumption) ?_
    refine E_iload_n (i := 1) dX12_codes_15 rfl rfl ?_
    refine E_isj σ.2.2.length dX12_codes_16 (by assumption) j6 (by first | decide | omega) (by rw [n3]; omega) ?_
    refine E_aload_n (i := 0) dX12_codes_17 rfl rfl ?_
    refine E_dup dX12_codes_18 rfl ?_
    refine E_gi dX12_codes_19 gf_X12_171_12 rfl (by assumption) ?_
    rw [u2_oth _ (by decide), j6]
    refine E_iconst (v := 1) dX12_codes_22 (by decide) ?_
    refine E_iadd dX12_codes_23 ?_
    refine E_pi dX12_codes_24 gf_X12_171_12 rfl (by assumption) ?_
    refine E_vret dX12_codes_27 rfl ?_
    rw [nI_1]
    exact hΦ
/-- the last of the names that a byte is -/
def lsn (u : Nat) (c : Int32) : Nat → Int32
  | 0 => -1
  | i + 1 => if sbt (1 + u) i = c then nI i else lsn u c i
def nmI (u : Nat) (c : Int32) : Int32 := match nmo u c with
  | some i => nI i
  | none => -1
theorem lsn_eq {u : Nat} (hu : u ≤ 1) (c : Int32) : lsn u c (sln (1 + u)) = nmI u c := by
  match u, hu with
  | 0, _ =>
    show lsn 0 c 3 = nmI 0 c
    by_cases h0 : sbt 1 0 = c
    · subst h0; decide
    · by_cases h1 : sbt 1 1 = c
      · subst h1; decide
      · by_cases h2 : sbt 1 2 = c
        · subst h2; decide
        · have e : nmo 0 c = none := by
            show fnd (fun i => sbt 1 i = c) 3 0 = none
            simp [fnd, h0, h1, h2]
          unfold nmI
          rw [e]
          simp [lsn, h0, h1, h2]
  | 1, _ =>
    show lsn 1 c 4 = nmI 1 c
    by_cases h0 : sbt 2 0 = c
    · subst h0; decide
    · by_cases h1 : sbt 2 1 = c
      · subst h1; decide
      · by_cases h2 : sbt 2 2 = c
        · subst h2; decide
        · by_cases h3 : sbt 2 3 = c
          · subst h3; decide
          · have e : nmo 1 c = none := by
              show fnd (fun i => sbt 2 i = c) 4 0 = none
              simp [fnd, h0, h1, h2, h3]
            unfold nmI
            rw [e]
            simp [lsn, h0, h1, h2, h3]
theorem Mo.nam {g : Sh} {P : HP} (h : Mo g P) {u : Nat} (hu : u ≤ 1) : P 109 7 = some 116 ∧ Cel g 116 17 ∧ g.2.2 116 = 2 ∧ P 116 u = some (1 + u) := by
  obtain ⟨a, b, c, e, f⟩ := h.2.2
  refine ⟨a, b, c, ?_⟩
  match u, hu with
  | 0, _ => exact e
  | 1, _ => exact f
theorem c_nameOf {c : Int32} (hd : 4 ≤ d) (hM : Mo g P) (h10 : J 109 10 = nI u) (hu : u ≤ 1) (hΦ : Φ (some (.int (nmI u c))) g P J) : MM Γ mX12_nameOf d 0 0 [.ref 109, .int c] g P J Φ := by
  refine MM_entry [some _, some _, none, none] (by decide) (Nat.le_of_ble_eq_true rfl) rfl ?_
  have h0 := hM.1
  obtain ⟨n1, n2, n3, n4⟩ := hM.nam hu
  have hs := sln_lt (1 + u)
  rw [← lsn_eq hu] at hΦ
  have loop : ∀ (N i : Nat) (x y : Int32), sln (1 + u) - i ≤ N → i ≤ sln (1 + u) → x = nI i → y = lsn u c i → E Γ mX12_nameOf d 0 0 (QM Γ 0 0 Φ) 0 0 4 [some (.ref 109), some (.int c), some (.int y), some (.int x)] [] g P J := by
    intro N
    induction N with
    | zero =>
      intro i x y hN hi hx hy
      have : i = sln (1 + u) := by omega
      subst this
      refine E_iload_n (i := 3) dX12_nameOf_4 rfl rfl ?_
      refine E_aload_n (i := 0) dX12_nameOf_5 rfl rfl ?_
      refine E_gr dX12_nameOf_6 gf_X12_35_12 rfl (by assumption) (by assumption) ?_
      refine E_aload_n (i := 0) dX12_nameOf_9 rfl rfl ?_
      refine E_gi dX12_nameOf_10 gf_X12_196_12 rfl (by assumption) ?_
      refine E_aaj (t := 2) u dX12_nameOf_13 (by decide) n2 h10 (by rw [n3]; omega) (by omega) n4 ?_
      refine k_X12_nameOf_14 (mc' := 0) (ms' := 0) (rc := 0) (rs := 0) (by omega) (Nat.le_of_ble_eq_true rfl) (by omega) (c_length (by omega) (by omega) ?_)
      refine E_icmp_ge (tgt := 49) dX12_nameOf_17 (by decide) (fun c_17 => ?_) (fun c_17 => absurd (by rw [hx]; exact Int32.le_refl _) c_17)
      refine E_iload_n (i := 2) dX12_nameOf_49 rfl rfl ?_
      refine E_iret dX12_nameOf_50 rfl ?_
      rw [hy]
      exact hΦ
    | succ N ih =>
      intro i x y hN hi hx hy
      by_cases hi2 : i = sln (1 + u)
      · subst hi2
        refine E_iload_n (i := 3) dX12_nameOf_4 rfl rfl ?_
        refine E_aload_n (i := 0) dX12_nameOf_5 rfl rfl ?_
        refine E_gr dX12_nameOf_6 gf_X12_35_12 rfl (by assumption) (by assumption) ?_
        refine E_aload_n (i := 0) dX12_nameOf_9 rfl rfl ?_
        refine E_gi dX12_nameOf_10 gf_X12_196_12 rfl (by assumption) ?_
        refine E_aaj (t := 2) u dX12_nameOf_13 (by decide) n2 h10 (by rw [n3]; omega) (by omega) n4 ?_
        refine k_X12_nameOf_14 (mc' := 0) (ms' := 0) (rc := 0) (rs := 0) (by omega) (Nat.le_of_ble_eq_true rfl) (by omega) (c_length (by omega) (by omega) ?_)
        refine E_icmp_ge (tgt := 49) dX12_nameOf_17 (by decide) (fun c_17 => ?_) (fun c_17 => absurd (by rw [hx]; exact Int32.le_refl _) c_17)
        refine E_iload_n (i := 2) dX12_nameOf_49 rfl rfl ?_
        refine E_iret dX12_nameOf_50 rfl ?_
        rw [hy]
        exact hΦ
      · by_cases hm : sbt (1 + u) i = c
        · refine E_iload_n (i := 3) dX12_nameOf_4 rfl rfl ?_
          refine E_aload_n (i := 0) dX12_nameOf_5 rfl rfl ?_
          refine E_gr dX12_nameOf_6 gf_X12_35_12 rfl (by assumption) (by assumption) ?_
          refine E_aload_n (i := 0) dX12_nameOf_9 rfl rfl ?_
          refine E_gi dX12_nameOf_10 gf_X12_196_12 rfl (by assumption) ?_
          refine E_aaj (t := 2) u dX12_nameOf_13 (by decide) n2 h10 (by rw [n3]; omega) (by omega) n4 ?_
          refine k_X12_nameOf_14 (mc' := 0) (ms' := 0) (rc := 0) (rs := 0) (by omega) (Nat.le_of_ble_eq_true rfl) (by omega) (c_length (by omega) (by omega) ?_)
          refine E_icmp_ge (tgt := 49) dX12_nameOf_17 (by decide) (fun c_17 => absurd c_17 (by rw [hx]; exact nI_ge (by omega) (by omega))) (fun c_17 => ?_)
          refine E_aload_n (i := 0) dX12_nameOf_20 rfl rfl ?_
          refine E_gr dX12_nameOf_21 gf_X12_35_12 rfl (by assumption) (by assumption) ?_
          refine E_aload_n (i := 0) dX12_nameOf_24 rfl rfl ?_
          refine E_gi dX12_nameOf_25 gf_X12_196_12 rfl (by assumption) ?_
          refine E_aaj (t := 2) u dX12_nameOf_28 (by decide) n2 h10 (by rw [n3]; omega) (by omega) n4 ?_
          refine E_iload_n (i := 3) dX12_nameOf_29 rfl rfl ?_
          refine k_X12_nameOf_30 (mc' := 0) (ms' := 0) (rc := 0) (rs := 0) (by omega) (Nat.le_of_ble_eq_true rfl) (by omega) (c_charAt (by omega) (by omega) hx (by omega) ?_)
          refine E_iload_n (i := 1) dX12_nameOf_33 rfl rfl ?_
          refine E_icmp_ne (tgt := 41) dX12_nameOf_34 (by decide) (fun c_34 => absurd (hm) c_34) (fun c_34 => ?_)
          refine E_iload_n (i := 3) dX12_nameOf_37 rfl rfl ?_
          refine E_goto (tgt := 42) dX12_nameOf_38 (by decide) ?_
          refine E_istore_nC (i := 2) dX12_nameOf_42 rfl (by decide) rfl ?_
          refine E_lv (lv' := [_, _, _, _]) rfl ?_
          refine E_incC (c := 1) dX12_nameOf_43 rfl (by decide) (by decide) rfl ?_
          refine E_lv (lv' := [_, _, _, _]) rfl ?_
          refine E_goto (tgt := 4) dX12_nameOf_46 (by decide) ?_
          refine ih (i + 1) _ _ (by omega) (by omega) (by rw [hx, nI_1]) ?_
          rw [lsn, if_pos hm]
          exact hx
        · refine E_iload_n (i := 3) dX12_nameOf_4 rfl rfl ?_
          refine E_aload_n (i := 0) dX12_nameOf_5 rfl rfl ?_
          refine E_gr dX12_nameOf_6 gf_X12_35_12 rfl (by assumption) (by assumption) ?_
          refine E_aload_n (i := 0) dX12_nameOf_9 rfl rfl ?_
          refine E_gi dX12_nameOf_10 gf_X12_196_12 rfl (by assumption) ?_
          refine E_aaj (t := 2) u dX12_nameOf_13 (by decide) n2 h10 (by rw [n3]; omega) (by omega) n4 ?_
          refine k_X12_nameOf_14 (mc' := 0) (ms' := 0) (rc := 0) (rs := 0) (by omega) (Nat.le_of_ble_eq_true rfl) (by omega) (c_length (by omega) (by omega) ?_)
          refine E_icmp_ge (tgt := 49) dX12_nameOf_17 (by decide) (fun c_17 => absurd c_17 (by rw [hx]; exact nI_ge (by omega) (by omega))) (fun c_17 => ?_)
          refine E_aload_n (i := 0) dX12_nameOf_20 rfl rfl ?_
          refine E_gr dX12_nameOf_21 gf_X12_35_12 rfl (by assumption) (by assumption) ?_
          refine E_aload_n (i := 0) dX12_nameOf_24 rfl rfl ?_
          refine E_gi dX12_nameOf_25 gf_X12_196_12 rfl (by assumption) ?_
          refine E_aaj (t := 2) u dX12_nameOf_28 (by decide) n2 h10 (by rw [n3]; omega) (by omega) n4 ?_
          refine E_iload_n (i := 3) dX12_nameOf_29 rfl rfl ?_
          refine k_X12_nameOf_30 (mc' := 0) (ms' := 0) (rc := 0) (rs := 0) (by omega) (Nat.le_of_ble_eq_true rfl) (by omega) (c_charAt (by omega) (by omega) hx (by omega) ?_)
          refine E_iload_n (i := 1) dX12_nameOf_33 rfl rfl ?_
          refine E_icmp_ne (tgt := 41) dX12_nameOf_34 (by decide) (fun c_34 => ?_) (fun c_34 => absurd c_34 (hm))
          refine E_iload_n (i := 2) dX12_nameOf_41 rfl rfl ?_
          refine E_istore_nC (i := 2) dX12_nameOf_42 rfl (by decide) rfl ?_
          refine E_lv (lv' := [_, _, _, _]) rfl ?_
          refine E_incC (c := 1) dX12_nameOf_43 rfl (by decide) (by decide) rfl ?_
          refine E_lv (lv' := [_, _, _, _]) rfl ?_
          refine E_goto (tgt := 4) dX12_nameOf_46 (by decide) ?_
          refine ih (i + 1) _ _ (by omega) (by omega) (by rw [hx, nI_1]) ?_
          rw [lsn, if_neg hm]
          exact hy
  refine E_iconst (v := -1) dX12_nameOf_0 (by decide) ?_
  refine E_istore_nC (i := 2) dX12_nameOf_1 rfl (by decide) rfl ?_
  refine E_lv (lv' := [_, _, _, _]) rfl ?_
  refine E_iconst (v := 0) dX12_nameOf_2 (by decide) ?_
  refine E_istore_nC (i := 3) dX12_nameOf_3 rfl (by decide) rfl ?_
  refine E_lv (lv' := [_, _, _, _]) rfl ?_
  exact loop (sln (1 + u)) 0 _ _ (by omega) (by omega) rfl rfl
end
/-- a part's contract, of the model -/
def CM (Γ : GE) (g : Sh) (P : HP) (I : HI) (n : Nat) (μ : MD) (op need : Nat) (f : PS → PS) : Prop := ∀ (d : Nat) (J : HI) (σ : PS) (Φ : Option Value → Sh → HP → HI → Prop), need ≤ d → MS I J op σ → BN n σ → (∀ J', MS I J' op (f σ) → Φ none g P J') → MM Γ μ d 0 0 [.ref 109] g P J Φ
section
variable {Γ : GE} {g : Sh} {P : HP} {I : HI} {n u op need : Nat} {s : PS → PS}
theorem MS_id {J : HI} {σ σ' : PS} (h : MS I J op σ) (e : σ = σ') : MS I J op σ' := e ▸ h
theorem opT_no {t : Nat → Int32} {ops : List (Int32 × Int32)} (hn : nEnd ops) {σ : PS} (h : n ≤ σ.1) : opT (hr t n σ) ops = none := by
  have e : hr t n σ = -1 := if_neg (fun q => by omega)
  rw [e]
  exact opT_end hn
theorem m_product (hX : MX g P I n u) (hg : Gd n (s)) (hp : CM Γ g P I n mX12_one op (need + 1) (s)) : CM Γ g P I n mX12_product op (need + 2) (prd (tM I) n s) := by
  intro d J σ Φ hd hJ hB hΦ
  refine MM_entry [some _, none] (by decide) (Nat.le_of_ble_eq_true rfl) rfl ?_
  have h0 := hX.1.1
  have n50 := hX.2.2.1
  have loop : ∀ (k : Nat) (K : HI) (σ1 : PS) (x : Int32), n ≤ k + σ1.1 → BN n σ1 → lop (tM I) n opP (s) k σ1 = prd (tM I) n s σ → ((x = 0 ∧ opT (hr (tM I) n σ1) opP = none ∧ MS I K op σ1) ∨ (opT (hr (tM I) n σ1) opP = some x ∧ MS I K op (adv σ1))) → E Γ mX12_product d 0 0 (QM Γ 0 0 Φ) 0 0 51 [some (.ref 109), some (.int x)] [] g P K := by
    intro k
    induction k with
    | zero =>
      intro K σ1 x hk hb he hx
      have he : σ1 = prd (tM I) n s σ := he
      rcases hx with ⟨rfl, -, r0⟩ | ⟨hT, -⟩
      · refine E_iload_n (i := 1) dX12_product_51 rfl rfl ?_
        refine E_if_le (tgt := 114) dX12_product_52 (by decide) (fun c_52 => ?_) (fun c_52 => absurd (Int32.le_refl _) c_52)
        refine E_vret dX12_product_114 rfl ?_
        exact hΦ _ (MS_id r0 he)
      · have hl := hr_lt (opT_some nE_P hT).1
        exact absurd hl.2 (by omega)
    | succ k ih =>
      intro K σ1 x hk hb he hx
      rcases hx with ⟨rfl, hT, r0⟩ | ⟨hT, r0⟩
      · rw [lop, hT] at he
        have he : σ1 = prd (tM I) n s σ := he
        refine E_iload_n (i := 1) dX12_product_51 rfl rfl ?_
        refine E_if_le (tgt := 114) dX12_product_52 (by decide) (fun c_52 => ?_) (fun c_52 => absurd (Int32.le_refl _) c_52)
        refine E_vret dX12_product_114 rfl ?_
        exact hΦ _ (MS_id r0 he)
      · obtain ⟨a1, a2, a3⟩ := opT_some nE_P hT
        have hl := hr_lt a1
        rw [lop, hT] at he
        obtain ⟨b1, b2⟩ := hg.Bs a1 a2 a3 hb
        have hb3 := hg.B (hb.adv hl.2)
        have hpos : ¬ x ≤ 0 := fun q => absurd (Int32.le_trans a2 q) (by decide)
        have hb0 := b1.1
        by_cases h42 : hr (tM I) n (emt x (s (adv σ1))) = 42
        · have hT : opT (hr (tM I) n (emt x (s (adv σ1)))) opP = some 20007 := by rw [h42]; rfl
          have hT := hT
          refine E_iload_n (i := 1) dX12_product_51 rfl rfl ?_
          refine E_if_le (tgt := 114) dX12_product_52 (by decide) (fun c_52 => absurd c_52 (hpos)) (fun c_52 => ?_)
          refine E_aload_n (i := 0) dX12_product_55 rfl rfl ?_
          refine k_X12_product_56 (mc' := 0) (ms' := 0) (rc := 0) (rs := 0) (by omega) (Nat.le_of_ble_eq_true rfl) (by assumption) (hp _ _ _ _ (by omega) r0 (hb.adv hl.2) (fun J3 r3 => ?_))
          refine E_aload_n (i := 0) dX12_product_59 rfl rfl ?_
          refine E_iload_n (i := 1) dX12_product_60 rfl rfl ?_
          refine k_X12_product_61 (mc' := 0) (ms' := 0) (rc := 0) (rs := 0) (by omega) (Nat.le_of_ble_eq_true rfl) (by assumption) (c_codes hX r3 (by have := hb3.1; have := hb3.2; omega) (fun J4 r0 => ?_))
          refine E_aload_n (i := 0) dX12_product_64 rfl rfl ?_
          refine E_bipush (v := 42) dX12_product_65 (by decide) ?_
          refine k_X12_product_67 (mc' := 0) (ms' := 0) (rc := 0) (rs := 0) (by omega) (Nat.le_of_ble_eq_true rfl) (by assumption) (c_takesM (by omega) hX r0 hb0 (fun _ J42 r0 => ?_) (fun h => absurd h42 h))
          refine E_if_eq (tgt := 79) dX12_product_70 (by decide) (fun c_70 => absurd c_70 (by decide)) (fun c_70 => ?_)
          refine E_sipush (v := 20007) dX12_product_73 (by decide) ?_
          refine E_goto (tgt := 110) dX12_product_76 (by decide) ?_
          refine E_istore_nC (i := 1) dX12_product_110 rfl (by decide) rfl ?_
          refine E_lv (lv' := [_, _]) rfl ?_
          refine E_goto (tgt := 51) dX12_product_111 (by decide) ?_
          exact ih _ _ _ (by omega) b1 he (Or.inr ⟨hT, r0⟩)
        · have _ := h0
          by_cases h47 : hr (tM I) n (emt x (s (adv σ1))) = 47
          · have hT : opT (hr (tM I) n (emt x (s (adv σ1)))) opP = some 20008 := by rw [h47]; rfl
            have hT := hT
            refine E_iload_n (i := 1) dX12_product_51 rfl rfl ?_
            refine E_if_le (tgt := 114) dX12_product_52 (by decide) (fun c_52 => absurd c_52 (hpos)) (fun c_52 => ?_)
            refine E_aload_n (i := 0) dX12_product_55 rfl rfl ?_
            refine k_X12_product_56 (mc' := 0) (ms' := 0) (rc := 0) (rs := 0) (by omega) (Nat.le_of_ble_eq_true rfl) (by assumption) (hp _ _ _ _ (by omega) r0 (hb.adv hl.2) (fun J3 r3 => ?_))
            refine E_aload_n (i := 0) dX12_product_59 rfl rfl ?_
            refine E_iload_n (i := 1) dX12_product_60 rfl rfl ?_
            refine k_X12_product_61 (mc' := 0) (ms' := 0) (rc := 0) (rs := 0) (by omega) (Nat.le_of_ble_eq_true rfl) (by assumption) (c_codes hX r3 (by have := hb3.1; have := hb3.2; omega) (fun J4 r0 => ?_))
            refine E_aload_n (i := 0) dX12_product_64 rfl rfl ?_
            refine E_bipush (v := 42) dX12_product_65 (by decide) ?_
            refine k_X12_product_67 (mc' := 0) (ms' := 0) (rc := 0) (rs := 0) (by omega) (Nat.le_of_ble_eq_true rfl) (by assumption) (c_takesM (by omega) hX r0 hb0 (fun h => absurd h h42) (fun _ J42 r0 => ?_))
            refine E_if_eq (tgt := 79) dX12_product_70 (by decide) (fun c_70 => ?_) (fun c_70 => absurd (rfl) c_70)
            refine E_aload_n (i := 0) dX12_product_79 rfl rfl ?_
            refine E_bipush (v := 47) dX12_product_80 (by decide) ?_
            refine k_X12_product_82 (mc' := 0) (ms' := 0) (rc := 0) (rs := 0) (by omega) (Nat.le_of_ble_eq_true rfl) (by assumption) (c_takesM (by omega) hX r0 hb0 (fun _ J47 r0 => ?_) (fun h => absurd h47 h))
            refine E_if_eq (tgt := 94) dX12_product_85 (by decide) (fun c_85 => absurd c_85 (by decide)) (fun c_85 => ?_)
            refine E_sipush (v := 20008) dX12_product_88 (by decide) ?_
            refine E_goto (tgt := 110) dX12_product_91 (by decide) ?_
            refine E_istore_nC (i := 1) dX12_product_110 rfl (by decide) rfl ?_
            refine E_lv (lv' := [_, _]) rfl ?_
            refine E_goto (tgt := 51) dX12_product_111 (by decide) ?_
            exact ih _ _ _ (by omega) b1 he (Or.inr ⟨hT, r0⟩)
          · have _ := h0
            by_cases h37 : hr (tM I) n (emt x (s (adv σ1))) = 37
            · have hT : opT (hr (tM I) n (emt x (s (adv σ1)))) opP = some 20009 := by rw [h37]; rfl
              have hT := hT
              refine E_iload_n (i := 1) dX12_product_51 rfl rfl ?_
              refine E_if_le (tgt := 114) dX12_product_52 (by decide) (fun c_52 => absurd c_52 (hpos)) (fun c_52 => ?_)
              refine E_aload_n (i := 0) dX12_product_55 rfl rfl ?_
              refine k_X12_product_56 (mc' := 0) (ms' := 0) (rc := 0) (rs := 0) (by omega) (Nat.le_of_ble_eq_true rfl) (by assumption) (hp _ _ _ _ (by omega) r0 (hb.adv hl.2) (fun J3 r3 => ?_))
              refine E_aload_n (i := 0) dX12_product_59 rfl rfl ?_
              refine E_iload_n (i := 1) dX12_product_60 rfl rfl ?_
              refine k_X12_product_61 (mc' := 0) (ms' := 0) (rc := 0) (rs := 0) (by omega) (Nat.le_of_ble_eq_true rfl) (by assumption) (c_codes hX r3 (by have := hb3.1; have := hb3.2; omega) (fun J4 r0 => ?_))
              refine E_aload_n (i := 0) dX12_product_64 rfl rfl ?_
              refine E_bipush (v := 42) dX12_product_65 (by decide) ?_
              refine k_X12_product_67 (mc' := 0) (ms' := 0) (rc := 0) (rs := 0) (by omega) (Nat.le_of_ble_eq_true rfl) (by assumption) (c_takesM (by omega) hX r0 hb0 (fun h => absurd h h42) (fun _ J42 r0 => ?_))
              refine E_if_eq (tgt := 79) dX12_product_70 (by decide) (fun c_70 => ?_) (fun c_70 => absurd (rfl) c_70)
              refine E_aload_n (i := 0) dX12_product_79 rfl rfl ?_
              refine E_bipush (v := 47) dX12_product_80 (by decide) ?_
              refine k_X12_product_82 (mc' := 0) (ms' := 0) (rc := 0) (rs := 0) (by omega) (Nat.le_of_ble_eq_true rfl) (by assumption) (c_takesM (by omega) hX r0 hb0 (fun h => absurd h h47) (fun _ J47 r0 => ?_))
              refine E_if_eq (tgt := 94) dX12_product_85 (by decide) (fun c_85 => ?_) (fun c_85 => absurd (rfl) c_85)
              refine E_aload_n (i := 0) dX12_product_94 rfl rfl ?_
              refine E_bipush (v := 37) dX12_product_95 (by decide) ?_
              refine k_X12_product_97 (mc' := 0) (ms' := 0) (rc := 0) (rs := 0) (by omega) (Nat.le_of_ble_eq_true rfl) (by assumption) (c_takesM (by omega) hX r0 hb0 (fun _ J37 r0 => ?_) (fun h => absurd h37 h))
              refine E_if_eq (tgt := 109) dX12_product_100 (by decide) (fun c_100 => absurd c_100 (by decide)) (fun c_100 => ?_)
              refine E_sipush (v := 20009) dX12_product_103 (by decide) ?_
              refine E_goto (tgt := 110) dX12_product_106 (by decide) ?_
              refine E_istore_nC (i := 1) dX12_product_110 rfl (by decide) rfl ?_
              refine E_lv (lv' := [_, _]) rfl ?_
              refine E_goto (tgt := 51) dX12_product_111 (by decide) ?_
              exact ih _ _ _ (by omega) b1 he (Or.inr ⟨hT, r0⟩)
            · have _ := h0
              have hT : opT (hr (tM I) n (emt x (s (adv σ1)))) opP = none := by unfold opP opT; rw [if_neg h42]; unfold opT; rw [if_neg h47]; unfold opT; rw [if_neg h37]; rfl
              have hT := hT
              refine E_iload_n (i := 1) dX12_product_51 rfl rfl ?_
              refine E_if_le (tgt := 114) dX12_product_52 (by decide) (fun c_52 => absurd c_52 (hpos)) (fun c_52 => ?_)
              refine E_aload_n (i := 0) dX12_product_55 rfl rfl ?_
              refine k_X12_product_56 (mc' := 0) (ms' := 0) (rc := 0) (rs := 0) (by omega) (Nat.le_of_ble_eq_true rfl) (by assumption) (hp _ _ _ _ (by omega) r0 (hb.adv hl.2) (fun J3 r3 => ?_))
              refine E_aload_n (i := 0) dX12_product_59 rfl rfl ?_
              refine E_iload_n (i := 1) dX12_product_60 rfl rfl ?_
              refine k_X12_product_61 (mc' := 0) (ms' := 0) (rc := 0) (rs := 0) (by omega) (Nat.le_of_ble_eq_true rfl) (by assumption) (c_codes hX r3 (by have := hb3.1; have := hb3.2; omega) (fun J4 r0 => ?_))
              refine E_aload_n (i := 0) dX12_product_64 rfl rfl ?_
              refine E_bipush (v := 42) dX12_product_65 (by decide) ?_
              refine k_X12_product_67 (mc' := 0) (ms' := 0) (rc := 0) (rs := 0) (by omega) (Nat.le_of_ble_eq_true rfl) (by assumption) (c_takesM (by omega) hX r0 hb0 (fun h => absurd h h42) (fun _ J42 r0 => ?_))
              refine E_if_eq (tgt := 79) dX12_product_70 (by decide) (fun c_70 => ?_) (fun c_70 => absurd (rfl) c_70)
              refine E_aload_n (i := 0) dX12_product_79 rfl rfl ?_
              refine E_bipush (v := 47) dX12_product_80 (by decide) ?_
              refine k_X12_product_82 (mc' := 0) (ms' := 0) (rc := 0) (rs := 0) (by omega) (Nat.le_of_ble_eq_true rfl) (by assumption) (c_takesM (by omega) hX r0 hb0 (fun h => absurd h h47) (fun _ J47 r0 => ?_))
              refine E_if_eq (tgt := 94) dX12_product_85 (by decide) (fun c_85 => ?_) (fun c_85 => absurd (rfl) c_85)
              refine E_aload_n (i := 0) dX12_product_94 rfl rfl ?_
              refine E_bipush (v := 37) dX12_product_95 (by decide) ?_
              refine k_X12_product_97 (mc' := 0) (ms' := 0) (rc := 0) (rs := 0) (by omega) (Nat.le_of_ble_eq_true rfl) (by assumption) (c_takesM (by omega) hX r0 hb0 (fun h => absurd h h37) (fun _ J37 r0 => ?_))
              refine E_if_eq (tgt := 109) dX12_product_100 (by decide) (fun c_100 => ?_) (fun c_100 => absurd (rfl) c_100)
              refine E_iconst (v := 0) dX12_product_109 (by decide) ?_
              refine E_istore_nC (i := 1) dX12_product_110 rfl (by decide) rfl ?_
              refine E_lv (lv' := [_, _]) rfl ?_
              refine E_goto (tgt := 51) dX12_product_111 (by decide) ?_
              exact ih _ _ _ (by omega) b1 he (Or.inl ⟨rfl, hT, r0⟩)
  have hb0 := (hg.B hB).1
  by_cases h42 : hr (tM I) n (s σ) = 42
  · have hT : opT (hr (tM I) n (s σ)) opP = some 20007 := by rw [h42]; rfl
    have hT := hT
    refine E_aload_n (i := 0) dX12_product_0 rfl rfl ?_
    refine k_X12_product_1 (mc' := 0) (ms' := 0) (rc := 0) (rs := 0) (by omega) (Nat.le_of_ble_eq_true rfl) (by assumption) (hp _ _ _ _ (by omega) hJ hB (fun J1 r0 => ?_))
    refine E_aload_n (i := 0) dX12_product_4 rfl rfl ?_
    refine E_bipush (v := 42) dX12_product_5 (by decide) ?_
    refine k_X12_product_7 (mc' := 0) (ms' := 0) (rc := 0) (rs := 0) (by omega) (Nat.le_of_ble_eq_true rfl) (by assumption) (c_takesM (by omega) hX r0 hb0 (fun _ J42 r0 => ?_) (fun h => absurd h42 h))
    refine E_if_eq (tgt := 19) dX12_product_10 (by decide) (fun c_10 => absurd c_10 (by decide)) (fun c_10 => ?_)
    refine E_sipush (v := 20007) dX12_product_13 (by decide) ?_
    refine E_goto (tgt := 50) dX12_product_16 (by decide) ?_
    refine E_istore_nC (i := 1) dX12_product_50 rfl (by decide) rfl ?_
    refine E_lv (lv' := [_, _]) rfl ?_
    exact loop 50 _ _ _ (by omega) (hg.B hB) rfl (Or.inr ⟨hT, r0⟩)
  · have _ := h0
    by_cases h47 : hr (tM I) n (s σ) = 47
    · have hT : opT (hr (tM I) n (s σ)) opP = some 20008 := by rw [h47]; rfl
      have hT := hT
      refine E_aload_n (i := 0) dX12_product_0 rfl rfl ?_
      refine k_X12_product_1 (mc' := 0) (ms' := 0) (rc := 0) (rs := 0) (by omega) (Nat.le_of_ble_eq_true rfl) (by assumption) (hp _ _ _ _ (by omega) hJ hB (fun J1 r0 => ?_))
      refine E_aload_n (i := 0) dX12_product_4 rfl rfl ?_
      refine E_bipush (v := 42) dX12_product_5 (by decide) ?_
      refine k_X12_product_7 (mc' := 0) (ms' := 0) (rc := 0) (rs := 0) (by omega) (Nat.le_of_ble_eq_true rfl) (by assumption) (c_takesM (by omega) hX r0 hb0 (fun h => absurd h h42) (fun _ J42 r0 => ?_))
      refine E_if_eq (tgt := 19) dX12_product_10 (by decide) (fun c_10 => ?_) (fun c_10 => absurd (rfl) c_10)
      refine E_aload_n (i := 0) dX12_product_19 rfl rfl ?_
      refine E_bipush (v := 47) dX12_product_20 (by decide) ?_
      refine k_X12_product_22 (mc' := 0) (ms' := 0) (rc := 0) (rs := 0) (by omega) (Nat.le_of_ble_eq_true rfl) (by assumption) (c_takesM (by omega) hX r0 hb0 (fun _ J47 r0 => ?_) (fun h => absurd h47 h))
      refine E_if_eq (tgt := 34) dX12_product_25 (by decide) (fun c_25 => absurd c_25 (by decide)) (fun c_25 => ?_)
      refine E_sipush (v := 20008) dX12_product_28 (by decide) ?_
      refine E_goto (tgt := 50) dX12_product_31 (by decide) ?_
      refine E_istore_nC (i := 1) dX12_product_50 rfl (by decide) rfl ?_
      refine E_lv (lv' := [_, _]) rfl ?_
      exact loop 50 _ _ _ (by omega) (hg.B hB) rfl (Or.inr ⟨hT, r0⟩)
    · have _ := h0
      by_cases h37 : hr (tM I) n (s σ) = 37
      · have hT : opT (hr (tM I) n (s σ)) opP = some 20009 := by rw [h37]; rfl
        have hT := hT
        refine E_aload_n (i := 0) dX12_product_0 rfl rfl ?_
        refine k_X12_product_1 (mc' := 0) (ms' := 0) (rc := 0) (rs := 0) (by omega) (Nat.le_of_ble_eq_true rfl) (by assumption) (hp _ _ _ _ (by omega) hJ hB (fun J1 r0 => ?_))
        refine E_aload_n (i := 0) dX12_product_4 rfl rfl ?_
        refine E_bipush (v := 42) dX12_product_5 (by decide) ?_
        refine k_X12_product_7 (mc' := 0) (ms' := 0) (rc := 0) (rs := 0) (by omega) (Nat.le_of_ble_eq_true rfl) (by assumption) (c_takesM (by omega) hX r0 hb0 (fun h => absurd h h42) (fun _ J42 r0 => ?_))
        refine E_if_eq (tgt := 19) dX12_product_10 (by decide) (fun c_10 => ?_) (fun c_10 => absurd (rfl) c_10)
        refine E_aload_n (i := 0) dX12_product_19 rfl rfl ?_
        refine E_bipush (v := 47) dX12_product_20 (by decide) ?_
        refine k_X12_product_22 (mc' := 0) (ms' := 0) (rc := 0) (rs := 0) (by omega) (Nat.le_of_ble_eq_true rfl) (by assumption) (c_takesM (by omega) hX r0 hb0 (fun h => absurd h h47) (fun _ J47 r0 => ?_))
        refine E_if_eq (tgt := 34) dX12_product_25 (by decide) (fun c_25 => ?_) (fun c_25 => absurd (rfl) c_25)
        refine E_aload_n (i := 0) dX12_product_34 rfl rfl ?_
        refine E_bipush (v := 37) dX12_product_35 (by decide) ?_
        refine k_X12_product_37 (mc' := 0) (ms' := 0) (rc := 0) (rs := 0) (by omega) (Nat.le_of_ble_eq_true rfl) (by assumption) (c_takesM (by omega) hX r0 hb0 (fun _ J37 r0 => ?_) (fun h => absurd h37 h))
        refine E_if_eq (tgt := 49) dX12_product_40 (by decide) (fun c_40 => absurd c_40 (by decide)) (fun c_40 => ?_)
        refine E_sipush (v := 20009) dX12_product_43 (by decide) ?_
        refine E_goto (tgt := 50) dX12_product_46 (by decide) ?_
        refine E_istore_nC (i := 1) dX12_product_50 rfl (by decide) rfl ?_
        refine E_lv (lv' := [_, _]) rfl ?_
        exact loop 50 _ _ _ (by omega) (hg.B hB) rfl (Or.inr ⟨hT, r0⟩)
      · have _ := h0
        have hT : opT (hr (tM I) n (s σ)) opP = none := by unfold opP opT; rw [if_neg h42]; unfold opT; rw [if_neg h47]; unfold opT; rw [if_neg h37]; rfl
        have hT := hT
        refine E_aload_n (i := 0) dX12_product_0 rfl rfl ?_
        refine k_X12_product_1 (mc' := 0) (ms' := 0) (rc := 0) (rs := 0) (by omega) (Nat.le_of_ble_eq_true rfl) (by assumption) (hp _ _ _ _ (by omega) hJ hB (fun J1 r0 => ?_))
        refine E_aload_n (i := 0) dX12_product_4 rfl rfl ?_
        refine E_bipush (v := 42) dX12_product_5 (by decide) ?_
        refine k_X12_product_7 (mc' := 0) (ms' := 0) (rc := 0) (rs := 0) (by omega) (Nat.le_of_ble_eq_true rfl) (by assumption) (c_takesM (by omega) hX r0 hb0 (fun h => absurd h h42) (fun _ J42 r0 => ?_))
        refine E_if_eq (tgt := 19) dX12_product_10 (by decide) (fun c_10 => ?_) (fun c_10 => absurd (rfl) c_10)
        refine E_aload_n (i := 0) dX12_product_19 rfl rfl ?_
        refine E_bipush (v := 47) dX12_product_20 (by decide) ?_
        refine k_X12_product_22 (mc' := 0) (ms' := 0) (rc := 0) (rs := 0) (by omega) (Nat.le_of_ble_eq_true rfl) (by assumption) (c_takesM (by omega) hX r0 hb0 (fun h => absurd h h47) (fun _ J47 r0 => ?_))
        refine E_if_eq (tgt := 34) dX12_product_25 (by decide) (fun c_25 => ?_) (fun c_25 => absurd (rfl) c_25)
        refine E_aload_n (i := 0) dX12_product_34 rfl rfl ?_
        refine E_bipush (v := 37) dX12_product_35 (by decide) ?_
        refine k_X12_product_37 (mc' := 0) (ms' := 0) (rc := 0) (rs := 0) (by omega) (Nat.le_of_ble_eq_true rfl) (by assumption) (c_takesM (by omega) hX r0 hb0 (fun h => absurd h h37) (fun _ J37 r0 => ?_))
        refine E_if_eq (tgt := 49) dX12_product_40 (by decide) (fun c_40 => ?_) (fun c_40 => absurd (rfl) c_40)
        refine E_iconst (v := 0) dX12_product_49 (by decide) ?_
        refine E_istore_nC (i := 1) dX12_product_50 rfl (by decide) rfl ?_
        refine E_lv (lv' := [_, _]) rfl ?_
        exact loop 50 _ _ _ (by omega) (hg.B hB) rfl (Or.inl ⟨rfl, hT, r0⟩)
theorem m_sum (hX : MX g P I n u) (hg : Gd n (prd (tM I) n s)) (hp : CM Γ g P I n mX12_product op (need + 1) (prd (tM I) n s)) : CM Γ g P I n mX12_sum op (need + 2) (smm (tM I) n s) := by
  intro d J σ Φ hd hJ hB hΦ
  refine MM_entry [some _, none] (by decide) (Nat.le_of_ble_eq_true rfl) rfl ?_
  have h0 := hX.1.1
  have n50 := hX.2.2.1
  have loop : ∀ (k : Nat) (K : HI) (σ1 : PS) (x : Int32), n ≤ k + σ1.1 → BN n σ1 → lop (tM I) n opS (prd (tM I) n s) k σ1 = smm (tM I) n s σ → ((x = 0 ∧ opT (hr (tM I) n σ1) opS = none ∧ MS I K op σ1) ∨ (opT (hr (tM I) n σ1) opS = some x ∧ MS I K op (adv σ1))) → E Γ mX12_sum d 0 0 (QM Γ 0 0 Φ) 0 0 36 [some (.ref 109), some (.int x)] [] g P K := by
    intro k
    induction k with
    | zero =>
      intro K σ1 x hk hb he hx
      have he : σ1 = smm (tM I) n s σ := he
      rcases hx with ⟨rfl, -, r0⟩ | ⟨hT, -⟩
      · refine E_iload_n (i := 1) dX12_sum_36 rfl rfl ?_
        refine E_if_le (tgt := 84) dX12_sum_37 (by decide) (fun c_37 => ?_) (fun c_37 => absurd (Int32.le_refl _) c_37)
        refine E_vret dX12_sum_84 rfl ?_
        exact hΦ _ (MS_id r0 he)
      · have hl := hr_lt (opT_some nE_S hT).1
        exact absurd hl.2 (by omega)
    | succ k ih =>
      intro K σ1 x hk hb he hx
      rcases hx with ⟨rfl, hT, r0⟩ | ⟨hT, r0⟩
      · rw [lop, hT] at he
        have he : σ1 = smm (tM I) n s σ := he
        refine E_iload_n (i := 1) dX12_sum_36 rfl rfl ?_
        refine E_if_le (tgt := 84) dX12_sum_37 (by decide) (fun c_37 => ?_) (fun c_37 => absurd (Int32.le_refl _) c_37)
        refine E_vret dX12_sum_84 rfl ?_
        exact hΦ _ (MS_id r0 he)
      · obtain ⟨a1, a2, a3⟩ := opT_some nE_S hT
        have hl := hr_lt a1
        rw [lop, hT] at he
        obtain ⟨b1, b2⟩ := hg.Bs a1 a2 a3 hb
        have hb3 := hg.B (hb.adv hl.2)
        have hpos : ¬ x ≤ 0 := fun q => absurd (Int32.le_trans a2 q) (by decide)
        have hb0 := b1.1
        by_cases h43 : hr (tM I) n (emt x (prd (tM I) n s (adv σ1))) = 43
        · have hT : opT (hr (tM I) n (emt x (prd (tM I) n s (adv σ1)))) opS = some 20005 := by rw [h43]; rfl
          have hT := hT
          refine E_iload_n (i := 1) dX12_sum_36 rfl rfl ?_
          refine E_if_le (tgt := 84) dX12_sum_37 (by decide) (fun c_37 => absurd c_37 (hpos)) (fun c_37 => ?_)
          refine E_aload_n (i := 0) dX12_sum_40 rfl rfl ?_
          refine k_X12_sum_41 (mc' := 0) (ms' := 0) (rc := 0) (rs := 0) (by omega) (Nat.le_of_ble_eq_true rfl) (by assumption) (hp _ _ _ _ (by omega) r0 (hb.adv hl.2) (fun J3 r3 => ?_))
          refine E_aload_n (i := 0) dX12_sum_44 rfl rfl ?_
          refine E_iload_n (i := 1) dX12_sum_45 rfl rfl ?_
          refine k_X12_sum_46 (mc' := 0) (ms' := 0) (rc := 0) (rs := 0) (by omega) (Nat.le_of_ble_eq_true rfl) (by assumption) (c_codes hX r3 (by have := hb3.1; have := hb3.2; omega) (fun J4 r0 => ?_))
          refine E_aload_n (i := 0) dX12_sum_49 rfl rfl ?_
          refine E_bipush (v := 43) dX12_sum_50 (by decide) ?_
          refine k_X12_sum_52 (mc' := 0) (ms' := 0) (rc := 0) (rs := 0) (by omega) (Nat.le_of_ble_eq_true rfl) (by assumption) (c_takesM (by omega) hX r0 hb0 (fun _ J43 r0 => ?_) (fun h => absurd h43 h))
          refine E_if_eq (tgt := 64) dX12_sum_55 (by decide) (fun c_55 => absurd c_55 (by decide)) (fun c_55 => ?_)
          refine E_sipush (v := 20005) dX12_sum_58 (by decide) ?_
          refine E_goto (tgt := 80) dX12_sum_61 (by decide) ?_
          refine E_istore_nC (i := 1) dX12_sum_80 rfl (by decide) rfl ?_
          refine E_lv (lv' := [_, _]) rfl ?_
          refine E_goto (tgt := 36) dX12_sum_81 (by decide) ?_
          exact ih _ _ _ (by omega) b1 he (Or.inr ⟨hT, r0⟩)
        · have _ := h0
          by_cases h45 : hr (tM I) n (emt x (prd (tM I) n s (adv σ1))) = 45
          · have hT : opT (hr (tM I) n (emt x (prd (tM I) n s (adv σ1)))) opS = some 20006 := by rw [h45]; rfl
            have hT := hT
            refine E_iload_n (i := 1) dX12_sum_36 rfl rfl ?_
            refine E_if_le (tgt := 84) dX12_sum_37 (by decide) (fun c_37 => absurd c_37 (hpos)) (fun c_37 => ?_)
            refine E_aload_n (i := 0) dX12_sum_40 rfl rfl ?_
            refine k_X12_sum_41 (mc' := 0) (ms' := 0) (rc := 0) (rs := 0) (by omega) (Nat.le_of_ble_eq_true rfl) (by assumption) (hp _ _ _ _ (by omega) r0 (hb.adv hl.2) (fun J3 r3 => ?_))
            refine E_aload_n (i := 0) dX12_sum_44 rfl rfl ?_
            refine E_iload_n (i := 1) dX12_sum_45 rfl rfl ?_
            refine k_X12_sum_46 (mc' := 0) (ms' := 0) (rc := 0) (rs := 0) (by omega) (Nat.le_of_ble_eq_true rfl) (by assumption) (c_codes hX r3 (by have := hb3.1; have := hb3.2; omega) (fun J4 r0 => ?_))
            refine E_aload_n (i := 0) dX12_sum_49 rfl rfl ?_
            refine E_bipush (v := 43) dX12_sum_50 (by decide) ?_
            refine k_X12_sum_52 (mc' := 0) (ms' := 0) (rc := 0) (rs := 0) (by omega) (Nat.le_of_ble_eq_true rfl) (by assumption) (c_takesM (by omega) hX r0 hb0 (fun h => absurd h h43) (fun _ J43 r0 => ?_))
            refine E_if_eq (tgt := 64) dX12_sum_55 (by decide) (fun c_55 => ?_) (fun c_55 => absurd (rfl) c_55)
            refine E_aload_n (i := 0) dX12_sum_64 rfl rfl ?_
            refine E_bipush (v := 45) dX12_sum_65 (by decide) ?_
            refine k_X12_sum_67 (mc' := 0) (ms' := 0) (rc := 0) (rs := 0) (by omega) (Nat.le_of_ble_eq_true rfl) (by assumption) (c_takesM (by omega) hX r0 hb0 (fun _ J45 r0 => ?_) (fun h => absurd h45 h))
            refine E_if_eq (tgt := 79) dX12_sum_70 (by decide) (fun c_70 => absurd c_70 (by decide)) (fun c_70 => ?_)
            refine E_sipush (v := 20006) dX12_sum_73 (by decide) ?_
            refine E_goto (tgt := 80) dX12_sum_76 (by decide) ?_
            refine E_istore_nC (i := 1) dX12_sum_80 rfl (by decide) rfl ?_
            refine E_lv (lv' := [_, _]) rfl ?_
            refine E_goto (tgt := 36) dX12_sum_81 (by decide) ?_
            exact ih _ _ _ (by omega) b1 he (Or.inr ⟨hT, r0⟩)
          · have _ := h0
            have hT : opT (hr (tM I) n (emt x (prd (tM I) n s (adv σ1)))) opS = none := by unfold opS opT; rw [if_neg h43]; unfold opT; rw [if_neg h45]; rfl
            have hT := hT
            refine E_iload_n (i := 1) dX12_sum_36 rfl rfl ?_
            refine E_if_le (tgt := 84) dX12_sum_37 (by decide) (fun c_37 => absurd c_37 (hpos)) (fun c_37 => ?_)
            refine E_aload_n (i := 0) dX12_sum_40 rfl rfl ?_
            refine k_X12_sum_41 (mc' := 0) (ms' := 0) (rc := 0) (rs := 0) (by omega) (Nat.le_of_ble_eq_true rfl) (by assumption) (hp _ _ _ _ (by omega) r0 (hb.adv hl.2) (fun J3 r3 => ?_))
            refine E_aload_n (i := 0) dX12_sum_44 rfl rfl ?_
            refine E_iload_n (i := 1) dX12_sum_45 rfl rfl ?_
            refine k_X12_sum_46 (mc' := 0) (ms' := 0) (rc := 0) (rs := 0) (by omega) (Nat.le_of_ble_eq_true rfl) (by assumption) (c_codes hX r3 (by have := hb3.1; have := hb3.2; omega) (fun J4 r0 => ?_))
            refine E_aload_n (i := 0) dX12_sum_49 rfl rfl ?_
            refine E_bipush (v := 43) dX12_sum_50 (by decide) ?_
            refine k_X12_sum_52 (mc' := 0) (ms' := 0) (rc := 0) (rs := 0) (by omega) (Nat.le_of_ble_eq_true rfl) (by assumption) (c_takesM (by omega) hX r0 hb0 (fun h => absurd h h43) (fun _ J43 r0 => ?_))
            refine E_if_eq (tgt := 64) dX12_sum_55 (by decide) (fun c_55 => ?_) (fun c_55 => absurd (rfl) c_55)
            refine E_aload_n (i := 0) dX12_sum_64 rfl rfl ?_
            refine E_bipush (v := 45) dX12_sum_65 (by decide) ?_
            refine k_X12_sum_67 (mc' := 0) (ms' := 0) (rc := 0) (rs := 0) (by omega) (Nat.le_of_ble_eq_true rfl) (by assumption) (c_takesM (by omega) hX r0 hb0 (fun h => absurd h h45) (fun _ J45 r0 => ?_))
            refine E_if_eq (tgt := 79) dX12_sum_70 (by decide) (fun c_70 => ?_) (fun c_70 => absurd (rfl) c_70)
            refine E_iconst (v := 0) dX12_sum_79 (by decide) ?_
            refine E_istore_nC (i := 1) dX12_sum_80 rfl (by decide) rfl ?_
            refine E_lv (lv' := [_, _]) rfl ?_
            refine E_goto (tgt := 36) dX12_sum_81 (by decide) ?_
            exact ih _ _ _ (by omega) b1 he (Or.inl ⟨rfl, hT, r0⟩)
  have hb0 := (hg.B hB).1
  by_cases h43 : hr (tM I) n (prd (tM I) n s σ) = 43
  · have hT : opT (hr (tM I) n (prd (tM I) n s σ)) opS = some 20005 := by rw [h43]; rfl
    have hT := hT
    refine E_aload_n (i := 0) dX12_sum_0 rfl rfl ?_
    refine k_X12_sum_1 (mc' := 0) (ms' := 0) (rc := 0) (rs := 0) (by omega) (Nat.le_of_ble_eq_true rfl) (by assumption) (hp _ _ _ _ (by omega) hJ hB (fun J1 r0 => ?_))
    refine E_aload_n (i := 0) dX12_sum_4 rfl rfl ?_
    refine E_bipush (v := 43) dX12_sum_5 (by decide) ?_
    refine k_X12_sum_7 (mc' := 0) (ms' := 0) (rc := 0) (rs := 0) (by omega) (Nat.le_of_ble_eq_true rfl) (by assumption) (c_takesM (by omega) hX r0 hb0 (fun _ J43 r0 => ?_) (fun h => absurd h43 h))
    refine E_if_eq (tgt := 19) dX12_sum_10 (by decide) (fun c_10 => absurd c_10 (by decide)) (fun c_10 => ?_)
    refine E_sipush (v := 20005) dX12_sum_13 (by decide) ?_
    refine E_goto (tgt := 35) dX12_sum_16 (by decide) ?_
    refine E_istore_nC (i := 1) dX12_sum_35 rfl (by decide) rfl ?_
    refine E_lv (lv' := [_, _]) rfl ?_
    exact loop 50 _ _ _ (by omega) (hg.B hB) rfl (Or.inr ⟨hT, r0⟩)
  · have _ := h0
    by_cases h45 : hr (tM I) n (prd (tM I) n s σ) = 45
    · have hT : opT (hr (tM I) n (prd (tM I) n s σ)) opS = some 20006 := by rw [h45]; rfl
      have hT := hT
      refine E_aload_n (i := 0) dX12_sum_0 rfl rfl ?_
      refine k_X12_sum_1 (mc' := 0) (ms' := 0) (rc := 0) (rs := 0) (by omega) (Nat.le_of_ble_eq_true rfl) (by assumption) (hp _ _ _ _ (by omega) hJ hB (fun J1 r0 => ?_))
      refine E_aload_n (i := 0) dX12_sum_4 rfl rfl ?_
      refine E_bipush (v := 43) dX12_sum_5 (by decide) ?_
      refine k_X12_sum_7 (mc' := 0) (ms' := 0) (rc := 0) (rs := 0) (by omega) (Nat.le_of_ble_eq_true rfl) (by assumption) (c_takesM (by omega) hX r0 hb0 (fun h => absurd h h43) (fun _ J43 r0 => ?_))
      refine E_if_eq (tgt := 19) dX12_sum_10 (by decide) (fun c_10 => ?_) (fun c_10 => absurd (rfl) c_10)
      refine E_aload_n (i := 0) dX12_sum_19 rfl rfl ?_
      refine E_bipush (v := 45) dX12_sum_20 (by decide) ?_
      refine k_X12_sum_22 (mc' := 0) (ms' := 0) (rc := 0) (rs := 0) (by omega) (Nat.le_of_ble_eq_true rfl) (by assumption) (c_takesM (by omega) hX r0 hb0 (fun _ J45 r0 => ?_) (fun h => absurd h45 h))
      refine E_if_eq (tgt := 34) dX12_sum_25 (by decide) (fun c_25 => absurd c_25 (by decide)) (fun c_25 => ?_)
      refine E_sipush (v := 20006) dX12_sum_28 (by decide) ?_
      refine E_goto (tgt := 35) dX12_sum_31 (by decide) ?_
      refine E_istore_nC (i := 1) dX12_sum_35 rfl (by decide) rfl ?_
      refine E_lv (lv' := [_, _]) rfl ?_
      exact loop 50 _ _ _ (by omega) (hg.B hB) rfl (Or.inr ⟨hT, r0⟩)
    · have _ := h0
      have hT : opT (hr (tM I) n (prd (tM I) n s σ)) opS = none := by unfold opS opT; rw [if_neg h43]; unfold opT; rw [if_neg h45]; rfl
      have hT := hT
      refine E_aload_n (i := 0) dX12_sum_0 rfl rfl ?_
      refine k_X12_sum_1 (mc' := 0) (ms' := 0) (rc := 0) (rs := 0) (by omega) (Nat.le_of_ble_eq_true rfl) (by assumption) (hp _ _ _ _ (by omega) hJ hB (fun J1 r0 => ?_))
      refine E_aload_n (i := 0) dX12_sum_4 rfl rfl ?_
      refine E_bipush (v := 43) dX12_sum_5 (by decide) ?_
      refine k_X12_sum_7 (mc' := 0) (ms' := 0) (rc := 0) (rs := 0) (by omega) (Nat.le_of_ble_eq_true rfl) (by assumption) (c_takesM (by omega) hX r0 hb0 (fun h => absurd h h43) (fun _ J43 r0 => ?_))
      refine E_if_eq (tgt := 19) dX12_sum_10 (by decide) (fun c_10 => ?_) (fun c_10 => absurd (rfl) c_10)
      refine E_aload_n (i := 0) dX12_sum_19 rfl rfl ?_
      refine E_bipush (v := 45) dX12_sum_20 (by decide) ?_
      refine k_X12_sum_22 (mc' := 0) (ms' := 0) (rc := 0) (rs := 0) (by omega) (Nat.le_of_ble_eq_true rfl) (by assumption) (c_takesM (by omega) hX r0 hb0 (fun h => absurd h h45) (fun _ J45 r0 => ?_))
      refine E_if_eq (tgt := 34) dX12_sum_25 (by decide) (fun c_25 => ?_) (fun c_25 => absurd (rfl) c_25)
      refine E_iconst (v := 0) dX12_sum_34 (by decide) ?_
      refine E_istore_nC (i := 1) dX12_sum_35 rfl (by decide) rfl ?_
      refine E_lv (lv' := [_, _]) rfl ?_
      exact loop 50 _ _ _ (by omega) (hg.B hB) rfl (Or.inl ⟨rfl, hT, r0⟩)
theorem m_compared (hX : MX g P I n u) (hg : Gd n (smm (tM I) n s)) (hp : CM Γ g P I n mX12_sum op (need + 1) (smm (tM I) n s)) : CM Γ g P I n mX12_compared op (need + 2) (cmd (tM I) n s) := by
  intro d J σ Φ hd hJ hB hΦ
  refine MM_entry [some _, none] (by decide) (Nat.le_of_ble_eq_true rfl) rfl ?_
  have h0 := hX.1.1
  have n50 := hX.2.2.1
  have hb := hg.B hB
  have hb0 := hb.1
  unfold cmd at hΦ
  by_cases h60 : hr (tM I) n (smm (tM I) n s σ) = 60
  · have hT : opT (hr (tM I) n (smm (tM I) n s σ)) opC = some 20002 := by rw [h60]; rfl
    rw [hT] at hΦ
    have hl := hr_lt (opT_some nE_C hT).1
    have hb3 := hg.B (hb.adv hl.2)
    refine E_aload_n (i := 0) dX12_compared_0 rfl rfl ?_
    refine k_X12_compared_1 (mc' := 0) (ms' := 0) (rc := 0) (rs := 0) (by omega) (Nat.le_of_ble_eq_true rfl) (by assumption) (hp _ _ _ _ (by omega) hJ hB (fun J1 r0 => ?_))
    refine E_aload_n (i := 0) dX12_compared_4 rfl rfl ?_
    refine E_bipush (v := 60) dX12_compared_5 (by decide) ?_
    refine k_X12_compared_7 (mc' := 0) (ms' := 0) (rc := 0) (rs := 0) (by omega) (Nat.le_of_ble_eq_true rfl) (by assumption) (c_takesM (by omega) hX r0 hb0 (fun _ J60 r0 => ?_) (fun h => absurd h60 h))
    refine E_if_eq (tgt := 19) dX12_compared_10 (by decide) (fun c_10 => absurd c_10 (by decide)) (fun c_10 => ?_)
    refine E_sipush (v := 20002) dX12_compared_13 (by decide) ?_
    refine E_goto (tgt := 50) dX12_compared_16 (by decide) ?_
    refine E_istore_nC (i := 1) dX12_compared_50 rfl (by decide) rfl ?_
    refine E_lv (lv' := [_, _]) rfl ?_
    refine E_iload_n (i := 1) dX12_compared_51 rfl rfl ?_
    refine E_if_le (tgt := 64) dX12_compared_52 (by decide) (fun c_52 => absurd c_52 (by decide)) (fun c_52 => ?_)
    refine E_aload_n (i := 0) dX12_compared_55 rfl rfl ?_
    refine k_X12_compared_56 (mc' := 0) (ms' := 0) (rc := 0) (rs := 0) (by omega) (Nat.le_of_ble_eq_true rfl) (by assumption) (hp _ _ _ _ (by omega) r0 (hb.adv hl.2) (fun J5 r5 => ?_))
    refine E_aload_n (i := 0) dX12_compared_59 rfl rfl ?_
    refine E_iload_n (i := 1) dX12_compared_60 rfl rfl ?_
    refine k_X12_compared_61 (mc' := 0) (ms' := 0) (rc := 0) (rs := 0) (by omega) (Nat.le_of_ble_eq_true rfl) (by assumption) (c_codes hX r5 (by have := hb3.1; have := hb3.2; omega) (fun J6 r6 => ?_))
    refine E_vret dX12_compared_64 rfl ?_
    exact hΦ _ r6
  · have _ := h0
    by_cases h61 : hr (tM I) n (smm (tM I) n s σ) = 61
    · have hT : opT (hr (tM I) n (smm (tM I) n s σ)) opC = some 20003 := by rw [h61]; rfl
      rw [hT] at hΦ
      have hl := hr_lt (opT_some nE_C hT).1
      have hb3 := hg.B (hb.adv hl.2)
      refine E_aload_n (i := 0) dX12_compared_0 rfl rfl ?_
      refine k_X12_compared_1 (mc' := 0) (ms' := 0) (rc := 0) (rs := 0) (by omega) (Nat.le_of_ble_eq_true rfl) (by assumption) (hp _ _ _ _ (by omega) hJ hB (fun J1 r0 => ?_))
      refine E_aload_n (i := 0) dX12_compared_4 rfl rfl ?_
      refine E_bipush (v := 60) dX12_compared_5 (by decide) ?_
      refine k_X12_compared_7 (mc' := 0) (ms' := 0) (rc := 0) (rs := 0) (by omega) (Nat.le_of_ble_eq_true rfl) (by assumption) (c_takesM (by omega) hX r0 hb0 (fun h => absurd h h60) (fun _ J60 r0 => ?_))
      refine E_if_eq (tgt := 19) dX12_compared_10 (by decide) (fun c_10 => ?_) (fun c_10 => absurd (rfl) c_10)
      refine E_aload_n (i := 0) dX12_compared_19 rfl rfl ?_
      refine E_bipush (v := 61) dX12_compared_20 (by decide) ?_
      refine k_X12_compared_22 (mc' := 0) (ms' := 0) (rc := 0) (rs := 0) (by omega) (Nat.le_of_ble_eq_true rfl) (by assumption) (c_takesM (by omega) hX r0 hb0 (fun _ J61 r0 => ?_) (fun h => absurd h61 h))
      refine E_if_eq (tgt := 34) dX12_compared_25 (by decide) (fun c_25 => absurd c_25 (by decide)) (fun c_25 => ?_)
      refine E_sipush (v := 20003) dX12_compared_28 (by decide) ?_
      refine E_goto (tgt := 50) dX12_compared_31 (by decide) ?_
      refine E_istore_nC (i := 1) dX12_compared_50 rfl (by decide) rfl ?_
      refine E_lv (lv' := [_, _]) rfl ?_
      refine E_iload_n (i := 1) dX12_compared_51 rfl rfl ?_
      refine E_if_le (tgt := 64) dX12_compared_52 (by decide) (fun c_52 => absurd c_52 (by decide)) (fun c_52 => ?_)
      refine E_aload_n (i := 0) dX12_compared_55 rfl rfl ?_
      refine k_X12_compared_56 (mc' := 0) (ms' := 0) (rc := 0) (rs := 0) (by omega) (Nat.le_of_ble_eq_true rfl) (by assumption) (hp _ _ _ _ (by omega) r0 (hb.adv hl.2) (fun J5 r5 => ?_))
      refine E_aload_n (i := 0) dX12_compared_59 rfl rfl ?_
      refine E_iload_n (i := 1) dX12_compared_60 rfl rfl ?_
      refine k_X12_compared_61 (mc' := 0) (ms' := 0) (rc := 0) (rs := 0) (by omega) (Nat.le_of_ble_eq_true rfl) (by assumption) (c_codes hX r5 (by have := hb3.1; have := hb3.2; omega) (fun J6 r6 => ?_))
      refine E_vret dX12_compared_64 rfl ?_
      exact hΦ _ r6
    · have _ := h0
      by_cases h62 : hr (tM I) n (smm (tM I) n s σ) = 62
      · have hT : opT (hr (tM I) n (smm (tM I) n s σ)) opC = some 20004 := by rw [h62]; rfl
        rw [hT] at hΦ
        have hl := hr_lt (opT_some nE_C hT).1
        have hb3 := hg.B (hb.adv hl.2)
        refine E_aload_n (i := 0) dX12_compared_0 rfl rfl ?_
        refine k_X12_compared_1 (mc' := 0) (ms' := 0) (rc := 0) (rs := 0) (by omega) (Nat.le_of_ble_eq_true rfl) (by assumption) (hp _ _ _ _ (by omega) hJ hB (fun J1 r0 => ?_))
        refine E_aload_n (i := 0) dX12_compared_4 rfl rfl ?_
        refine E_bipush (v := 60) dX12_compared_5 (by decide) ?_
        refine k_X12_compared_7 (mc' := 0) (ms' := 0) (rc := 0) (rs := 0) (by omega) (Nat.le_of_ble_eq_true rfl) (by assumption) (c_takesM (by omega) hX r0 hb0 (fun h => absurd h h60) (fun _ J60 r0 => ?_))
        refine E_if_eq (tgt := 19) dX12_compared_10 (by decide) (fun c_10 => ?_) (fun c_10 => absurd (rfl) c_10)
        refine E_aload_n (i := 0) dX12_compared_19 rfl rfl ?_
        refine E_bipush (v := 61) dX12_compared_20 (by decide) ?_
        refine k_X12_compared_22 (mc' := 0) (ms' := 0) (rc := 0) (rs := 0) (by omega) (Nat.le_of_ble_eq_true rfl) (by assumption) (c_takesM (by omega) hX r0 hb0 (fun h => absurd h h61) (fun _ J61 r0 => ?_))
        refine E_if_eq (tgt := 34) dX12_compared_25 (by decide) (fun c_25 => ?_) (fun c_25 => absurd (rfl) c_25)
        refine E_aload_n (i := 0) dX12_compared_34 rfl rfl ?_
        refine E_bipush (v := 62) dX12_compared_35 (by decide) ?_
        refine k_X12_compared_37 (mc' := 0) (ms' := 0) (rc := 0) (rs := 0) (by omega) (Nat.le_of_ble_eq_true rfl) (by assumption) (c_takesM (by omega) hX r0 hb0 (fun _ J62 r0 => ?_) (fun h => absurd h62 h))
        refine E_if_eq (tgt := 49) dX12_compared_40 (by decide) (fun c_40 => absurd c_40 (by decide)) (fun c_40 => ?_)
        refine E_sipush (v := 20004) dX12_compared_43 (by decide) ?_
        refine E_goto (tgt := 50) dX12_compared_46 (by decide) ?_
        refine E_istore_nC (i := 1) dX12_compared_50 rfl (by decide) rfl ?_
        refine E_lv (lv' := [_, _]) rfl ?_
        refine E_iload_n (i := 1) dX12_compared_51 rfl rfl ?_
        refine E_if_le (tgt := 64) dX12_compared_52 (by decide) (fun c_52 => absurd c_52 (by decide)) (fun c_52 => ?_)
        refine E_aload_n (i := 0) dX12_compared_55 rfl rfl ?_
        refine k_X12_compared_56 (mc' := 0) (ms' := 0) (rc := 0) (rs := 0) (by omega) (Nat.le_of_ble_eq_true rfl) (by assumption) (hp _ _ _ _ (by omega) r0 (hb.adv hl.2) (fun J5 r5 => ?_))
        refine E_aload_n (i := 0) dX12_compared_59 rfl rfl ?_
        refine E_iload_n (i := 1) dX12_compared_60 rfl rfl ?_
        refine k_X12_compared_61 (mc' := 0) (ms' := 0) (rc := 0) (rs := 0) (by omega) (Nat.le_of_ble_eq_true rfl) (by assumption) (c_codes hX r5 (by have := hb3.1; have := hb3.2; omega) (fun J6 r6 => ?_))
        refine E_vret dX12_compared_64 rfl ?_
        exact hΦ _ r6
      · have _ := h0
        have hT : opT (hr (tM I) n (smm (tM I) n s σ)) opC = none := by unfold opC opT; rw [if_neg h60]; unfold opT; rw [if_neg h61]; unfold opT; rw [if_neg h62]; rfl
        rw [hT] at hΦ
        refine E_aload_n (i := 0) dX12_compared_0 rfl rfl ?_
        refine k_X12_compared_1 (mc' := 0) (ms' := 0) (rc := 0) (rs := 0) (by omega) (Nat.le_of_ble_eq_true rfl) (by assumption) (hp _ _ _ _ (by omega) hJ hB (fun J1 r0 => ?_))
        refine E_aload_n (i := 0) dX12_compared_4 rfl rfl ?_
        refine E_bipush (v := 60) dX12_compared_5 (by decide) ?_
        refine k_X12_compared_7 (mc' := 0) (ms' := 0) (rc := 0) (rs := 0) (by omega) (Nat.le_of_ble_eq_true rfl) (by assumption) (c_takesM (by omega) hX r0 hb0 (fun h => absurd h h60) (fun _ J60 r0 => ?_))
        refine E_if_eq (tgt := 19) dX12_compared_10 (by decide) (fun c_10 => ?_) (fun c_10 => absurd (rfl) c_10)
        refine E_aload_n (i := 0) dX12_compared_19 rfl rfl ?_
        refine E_bipush (v := 61) dX12_compared_20 (by decide) ?_
        refine k_X12_compared_22 (mc' := 0) (ms' := 0) (rc := 0) (rs := 0) (by omega) (Nat.le_of_ble_eq_true rfl) (by assumption) (c_takesM (by omega) hX r0 hb0 (fun h => absurd h h61) (fun _ J61 r0 => ?_))
        refine E_if_eq (tgt := 34) dX12_compared_25 (by decide) (fun c_25 => ?_) (fun c_25 => absurd (rfl) c_25)
        refine E_aload_n (i := 0) dX12_compared_34 rfl rfl ?_
        refine E_bipush (v := 62) dX12_compared_35 (by decide) ?_
        refine k_X12_compared_37 (mc' := 0) (ms' := 0) (rc := 0) (rs := 0) (by omega) (Nat.le_of_ble_eq_true rfl) (by assumption) (c_takesM (by omega) hX r0 hb0 (fun h => absurd h h62) (fun _ J62 r0 => ?_))
        refine E_if_eq (tgt := 49) dX12_compared_40 (by decide) (fun c_40 => ?_) (fun c_40 => absurd (rfl) c_40)
        refine E_iconst (v := 0) dX12_compared_49 (by decide) ?_
        refine E_istore_nC (i := 1) dX12_compared_50 rfl (by decide) rfl ?_
        refine E_lv (lv' := [_, _]) rfl ?_
        refine E_iload_n (i := 1) dX12_compared_51 rfl rfl ?_
        refine E_if_le (tgt := 64) dX12_compared_52 (by decide) (fun c_52 => ?_) (fun c_52 => absurd (by decide) c_52)
        refine E_vret dX12_compared_64 rfl ?_
        exact hΦ _ r0
theorem m_both (hX : MX g P I n u) (hg : Gd n (cmd (tM I) n s)) (hp : CM Γ g P I n mX12_compared op (need + 1) (cmd (tM I) n s)) : CM Γ g P I n mX12_both op (need + 2) (bth (tM I) n s) := by
  intro d J σ Φ hd hJ hB hΦ
  refine MM_entry [some _] (by decide) (Nat.le_of_ble_eq_true rfl) rfl ?_
  have h0 := hX.1.1
  have n50 := hX.2.2.1
  have loop : ∀ (k : Nat) (K : HI) (σ1 : PS), n ≤ k + σ1.1 → BN n σ1 → MS I K op σ1 → lop (tM I) n opB (cmd (tM I) n s) k σ1 = bth (tM I) n s σ → E Γ mX12_both d 0 0 (QM Γ 0 0 Φ) 0 0 4 [some (.ref 109)] [] g P K := by
    intro k
    induction k with
    | zero =>
      intro K σ1 hk hb hK he
      have he : σ1 = bth (tM I) n s σ := he
      have hno : ¬ hr (tM I) n σ1 = 38 := by rw [show hr (tM I) n σ1 = -1 from if_neg (fun q => by omega)]; decide
      refine E_aload_n (i := 0) dX12_both_4 rfl rfl ?_
      refine E_bipush (v := 38) dX12_both_5 (by decide) ?_
      refine k_X12_both_7 (mc' := 0) (ms' := 0) (rc := 0) (rs := 0) (by omega) (Nat.le_of_ble_eq_true rfl) (by assumption) (c_takesM (by omega) hX hK hb.1 (fun h => absurd h hno) (fun _ J2 r2 => ?_))
      refine E_if_eq (tgt := 27) dX12_both_10 (by decide) (fun c_10 => ?_) (fun c_10 => absurd (rfl) c_10)
      refine E_vret dX12_both_27 rfl ?_
      exact hΦ _ (MS_id r2 he)
    | succ k ih =>
      intro K σ1 hk hb hK he
      by_cases hc : hr (tM I) n σ1 = 38
      · have hT : opT (hr (tM I) n σ1) opB = some 20001 := by rw [hc]; rfl
        have hne : ¬ hr (tM I) n σ1 = -1 := by rw [hc]; decide
        rw [lop, hT] at he
        have hl := hr_lt hne
        obtain ⟨b1, b2⟩ := hg.Bs hne (o := 20001) (by decide) (by decide) hb
        have hb3 := hg.B (hb.adv hl.2)
        refine E_aload_n (i := 0) dX12_both_4 rfl rfl ?_
        refine E_bipush (v := 38) dX12_both_5 (by decide) ?_
        refine k_X12_both_7 (mc' := 0) (ms' := 0) (rc := 0) (rs := 0) (by omega) (Nat.le_of_ble_eq_true rfl) (by assumption) (c_takesM (by omega) hX hK hb.1 (fun _ J2 r2 => ?_) (fun h => absurd hc h))
        refine E_if_eq (tgt := 27) dX12_both_10 (by decide) (fun c_10 => absurd c_10 (by decide)) (fun c_10 => ?_)
        refine E_aload_n (i := 0) dX12_both_13 rfl rfl ?_
        refine k_X12_both_14 (mc' := 0) (ms' := 0) (rc := 0) (rs := 0) (by omega) (Nat.le_of_ble_eq_true rfl) (by assumption) (hp _ _ _ _ (by omega) r2 (hb.adv hl.2) (fun J3 r3 => ?_))
        refine E_aload_n (i := 0) dX12_both_17 rfl rfl ?_
        refine E_sipush (v := 20001) dX12_both_18 (by decide) ?_
        refine k_X12_both_21 (mc' := 0) (ms' := 0) (rc := 0) (rs := 0) (by omega) (Nat.le_of_ble_eq_true rfl) (by assumption) (c_codes hX r3 (by have := hb3.1; have := hb3.2; omega) (fun J4 r4 => ?_))
        refine E_goto (tgt := 4) dX12_both_24 (by decide) ?_
        exact ih _ _ (by omega) b1 r4 he
      · have hT : opT (hr (tM I) n σ1) opB = none := by unfold opB opT; rw [if_neg hc]; rfl
        rw [lop, hT] at he
        have he : σ1 = bth (tM I) n s σ := he
        refine E_aload_n (i := 0) dX12_both_4 rfl rfl ?_
        refine E_bipush (v := 38) dX12_both_5 (by decide) ?_
        refine k_X12_both_7 (mc' := 0) (ms' := 0) (rc := 0) (rs := 0) (by omega) (Nat.le_of_ble_eq_true rfl) (by assumption) (c_takesM (by omega) hX hK hb.1 (fun h => absurd h hc) (fun _ J2 r2 => ?_))
        refine E_if_eq (tgt := 27) dX12_both_10 (by decide) (fun c_10 => ?_) (fun c_10 => absurd (rfl) c_10)
        refine E_vret dX12_both_27 rfl ?_
        exact hΦ _ (MS_id r2 he)
  refine E_aload_n (i := 0) dX12_both_0 rfl rfl ?_
  refine k_X12_both_1 (mc' := 0) (ms' := 0) (rc := 0) (rs := 0) (by omega) (Nat.le_of_ble_eq_true rfl) (by assumption) (hp _ _ _ _ (by omega) hJ hB (fun J1 r1 => ?_))
  exact loop 50 _ _ (by omega) (hg.B hB) r1 rfl
theorem m_either (hX : MX g P I n u) (hg : Gd n (bth (tM I) n s)) (hp : CM Γ g P I n mX12_both op (need + 1) (bth (tM I) n s)) : CM Γ g P I n mX12_either op (need + 2) (eth (tM I) n s) := by
  intro d J σ Φ hd hJ hB hΦ
  refine MM_entry [some _] (by decide) (Nat.le_of_ble_eq_true rfl) rfl ?_
  have h0 := hX.1.1
  have n50 := hX.2.2.1
  have loop : ∀ (k : Nat) (K : HI) (σ1 : PS), n ≤ k + σ1.1 → BN n σ1 → MS I K op σ1 → lop (tM I) n opE (bth (tM I) n s) k σ1 = eth (tM I) n s σ → E Γ mX12_either d 0 0 (QM Γ 0 0 Φ) 0 0 4 [some (.ref 109)] [] g P K := by
    intro k
    induction k with
    | zero =>
      intro K σ1 hk hb hK he
      have he : σ1 = eth (tM I) n s σ := he
      have hno : ¬ hr (tM I) n σ1 = 124 := by rw [show hr (tM I) n σ1 = -1 from if_neg (fun q => by omega)]; decide
      refine E_aload_n (i := 0) dX12_either_4 rfl rfl ?_
      refine E_bipush (v := 124) dX12_either_5 (by decide) ?_
      refine k_X12_either_7 (mc' := 0) (ms' := 0) (rc := 0) (rs := 0) (by omega) (Nat.le_of_ble_eq_true rfl) (by assumption) (c_takesM (by omega) hX hK hb.1 (fun h => absurd h hno) (fun _ J2 r2 => ?_))
      refine E_if_eq (tgt := 27) dX12_either_10 (by decide) (fun c_10 => ?_) (fun c_10 => absurd (rfl) c_10)
      refine E_vret dX12_either_27 rfl ?_
      exact hΦ _ (MS_id r2 he)
    | succ k ih =>
      intro K σ1 hk hb hK he
      by_cases hc : hr (tM I) n σ1 = 124
      · have hT : opT (hr (tM I) n σ1) opE = some 20000 := by rw [hc]; rfl
        have hne : ¬ hr (tM I) n σ1 = -1 := by rw [hc]; decide
        rw [lop, hT] at he
        have hl := hr_lt hne
        obtain ⟨b1, b2⟩ := hg.Bs hne (o := 20000) (by decide) (by decide) hb
        have hb3 := hg.B (hb.adv hl.2)
        refine E_aload_n (i := 0) dX12_either_4 rfl rfl ?_
        refine E_bipush (v := 124) dX12_either_5 (by decide) ?_
        refine k_X12_either_7 (mc' := 0) (ms' := 0) (rc := 0) (rs := 0) (by omega) (Nat.le_of_ble_eq_true rfl) (by assumption) (c_takesM (by omega) hX hK hb.1 (fun _ J2 r2 => ?_) (fun h => absurd hc h))
        refine E_if_eq (tgt := 27) dX12_either_10 (by decide) (fun c_10 => absurd c_10 (by decide)) (fun c_10 => ?_)
        refine E_aload_n (i := 0) dX12_either_13 rfl rfl ?_
        refine k_X12_either_14 (mc' := 0) (ms' := 0) (rc := 0) (rs := 0) (by omega) (Nat.le_of_ble_eq_true rfl) (by assumption) (hp _ _ _ _ (by omega) r2 (hb.adv hl.2) (fun J3 r3 => ?_))
        refine E_aload_n (i := 0) dX12_either_17 rfl rfl ?_
        refine E_sipush (v := 20000) dX12_either_18 (by decide) ?_
        refine k_X12_either_21 (mc' := 0) (ms' := 0) (rc := 0) (rs := 0) (by omega) (Nat.le_of_ble_eq_true rfl) (by assumption) (c_codes hX r3 (by have := hb3.1; have := hb3.2; omega) (fun J4 r4 => ?_))
        refine E_goto (tgt := 4) dX12_either_24 (by decide) ?_
        exact ih _ _ (by omega) b1 r4 he
      · have hT : opT (hr (tM I) n σ1) opE = none := by unfold opE opT; rw [if_neg hc]; rfl
        rw [lop, hT] at he
        have he : σ1 = eth (tM I) n s σ := he
        refine E_aload_n (i := 0) dX12_either_4 rfl rfl ?_
        refine E_bipush (v := 124) dX12_either_5 (by decide) ?_
        refine k_X12_either_7 (mc' := 0) (ms' := 0) (rc := 0) (rs := 0) (by omega) (Nat.le_of_ble_eq_true rfl) (by assumption) (c_takesM (by omega) hX hK hb.1 (fun h => absurd h hc) (fun _ J2 r2 => ?_))
        refine E_if_eq (tgt := 27) dX12_either_10 (by decide) (fun c_10 => ?_) (fun c_10 => absurd (rfl) c_10)
        refine E_vret dX12_either_27 rfl ?_
        exact hΦ _ (MS_id r2 he)
  refine E_aload_n (i := 0) dX12_either_0 rfl rfl ?_
  refine k_X12_either_1 (mc' := 0) (ms' := 0) (rc := 0) (rs := 0) (by omega) (Nat.le_of_ble_eq_true rfl) (by assumption) (hp _ _ _ _ (by omega) hJ hB (fun J1 r1 => ?_))
  exact loop 50 _ _ (by omega) (hg.B hB) r1 rfl
/-- what isn't opened -/
theorem m_plain {rc : Option ((PS → PS) × (PS → PS))} (hX : MX g P I n u) (d : Nat) (J : HI) (σ : PS) (Φ : Option Value → Sh → HP → HI → Prop) (hd : 8 ≤ d) (hJ : MS I J op σ) (hB : BN n σ) (hc : ¬ (hr (tM I) n σ = 33 ∨ hr (tM I) n σ = 40)) (hΦ : ∀ J', MS I J' op (sng (tM I) n u rc σ) → Φ none g P J') : MM Γ mX12_one d 0 0 [.ref 109] g P J Φ := by
  refine MM_entry [some _, none, none, none] (by decide) (Nat.le_of_ble_eq_true rfl) rfl ?_
  have h0 := hX.1.1
  have hM := hX.1
  have n50 := hX.2.2.1
  have hu := hX.2.2.2.2.1
  have g33 : ¬ hr (tM I) n σ = 33 := fun h => hc (Or.inl h)
  have g40 : ¬ hr (tM I) n σ = 40 := fun h => hc (Or.inr h)
  have q1 := hB.1
  have q2 := hB.2
  unfold sng at hΦ
  rw [if_neg hc] at hΦ
  by_cases hg : 48 ≤ hr (tM I) n σ ∧ hr (tM I) n σ ≤ 57
  · rw [if_pos hg] at hΦ
    have loop : ∀ (k i : Nat) (x v : Int32) (K : HI) (σ1 : PS), k + i = 4 → x = nI i → MS I K op σ1 → BN n σ1 → dig (tM I) n 4 0 σ = dig (tM I) n k v σ1 → E Γ mX12_one d 0 0 (QM Γ 0 0 Φ) 0 0 131 [some (.ref 109), some (.int (hr (tM I) n σ)), some (.int v), some (.int x)] [] g P K := by
      intro k
      induction k with
      | zero =>
        intro i x v K σ1 hk hx hK hb he
        have p1 := hb.1
        have p2 := hb.2
        rw [he] at hΦ
        refine E_iload_n (i := 3) dX12_one_131 rfl rfl ?_
        refine E_iconst (v := 4) dX12_one_132 (by decide) ?_
        refine E_icmp_ge (tgt := 179) dX12_one_133 (by decide) (fun c_133 => ?_) (fun c_133 => absurd (by rw [hx, show i = 4 by omega]; decide) c_133)
        refine E_aload_n (i := 0) dX12_one_179 rfl rfl ?_
        refine E_iload_n (i := 2) dX12_one_180 rfl rfl ?_
        refine k_X12_one_181 (mc' := 0) (ms' := 0) (rc := 0) (rs := 0) (by omega) (Nat.le_of_ble_eq_true rfl) (by assumption) (c_codes hX hK (by omega) (fun J6 r6 => ?_))
        refine E_goto (tgt := 247) dX12_one_184 (by decide) ?_
        refine E_vret dX12_one_247 rfl ?_
        exact hΦ _ r6
      | succ k ih =>
        intro i x v K σ1 hk hx hK hb he
        have p1 := hb.1
        have p2 := hb.2
        by_cases hcc : 48 ≤ hr (tM I) n σ1 ∧ hr (tM I) n σ1 ≤ 57
        · rw [dig_go hcc] at he
          have hl := hr_lt (dgt_ne hcc)
          refine E_iload_n (i := 3) dX12_one_131 rfl rfl ?_
          refine E_iconst (v := 4) dX12_one_132 (by decide) ?_
          refine E_icmp_ge (tgt := 179) dX12_one_133 (by decide) (fun c_133 => absurd c_133 (by rw [hx]; exact nI_ge (b := 4) (by omega) (by omega))) (fun c_133 => ?_)
          refine E_aload_n (i := 0) dX12_one_136 rfl rfl ?_
          refine k_X12_one_137 (mc' := 0) (ms' := 0) (rc := 0) (rs := 0) (by omega) (Nat.le_of_ble_eq_true rfl) (by assumption) (c_here hX hK p1 ?_)
          refine E_bipush (v := 48) dX12_one_140 (by decide) ?_
          refine E_bipush (v := 57) dX12_one_142 (by decide) ?_
          refine k_X12_one_144 (mc' := 0) (ms' := 0) (rc := 0) (rs := 0) (by omega) (Nat.le_of_ble_eq_true rfl) (c_X12_within ?_)
          rw [bz_t hcc]
          refine E_if_eq (tgt := 179) dX12_one_147 (by decide) (fun c_147 => absurd c_147 (by decide)) (fun c_147 => ?_)
          refine E_bipush (v := 10) dX12_one_150 (by decide) ?_
          refine E_iload_n (i := 2) dX12_one_152 rfl rfl ?_
          refine E_imul dX12_one_153 ?_
          refine E_aload_n (i := 0) dX12_one_154 rfl rfl ?_
          refine k_X12_one_155 (mc' := 0) (ms' := 0) (rc := 0) (rs := 0) (by omega) (Nat.le_of_ble_eq_true rfl) (by assumption) (c_here hX hK p1 ?_)
          refine E_iadd dX12_one_158 ?_
          refine E_bipush (v := 48) dX12_one_159 (by decide) ?_
          refine E_isub dX12_one_161 ?_
          refine E_istore_nC (i := 2) dX12_one_162 rfl (by decide) rfl ?_
          refine E_lv (lv' := [_, _, _, _]) rfl ?_
          refine E_aload_n (i := 0) dX12_one_163 rfl rfl ?_
          refine E_dup dX12_one_164 rfl ?_
          refine E_gi dX12_one_165 gf_X12_164_12 rfl (by assumption) ?_
          refine E_iconst (v := 1) dX12_one_168 (by decide) ?_
          refine E_iadd dX12_one_169 ?_
          refine E_pi dX12_one_170 gf_X12_164_12 rfl (by assumption) ?_
          refine E_incC (c := 1) dX12_one_173 rfl (by decide) (by decide) rfl ?_
          refine E_lv (lv' := [_, _, _, _]) rfl ?_
          refine E_goto (tgt := 131) dX12_one_176 (by decide) ?_
          exact ih (i + 1) _ _ _ _ (by omega) (by rw [hx, nI_1]) (MS_adv hK) (hb.adv hl.2) he
        · rw [dig_no hcc] at he
          rw [he] at hΦ
          refine E_iload_n (i := 3) dX12_one_131 rfl rfl ?_
          refine E_iconst (v := 4) dX12_one_132 (by decide) ?_
          refine E_icmp_ge (tgt := 179) dX12_one_133 (by decide) (fun c_133 => absurd c_133 (by rw [hx]; exact nI_ge (b := 4) (by omega) (by omega))) (fun c_133 => ?_)
          refine E_aload_n (i := 0) dX12_one_136 rfl rfl ?_
          refine k_X12_one_137 (mc' := 0) (ms' := 0) (rc := 0) (rs := 0) (by omega) (Nat.le_of_ble_eq_true rfl) (by assumption) (c_here hX hK p1 ?_)
          refine E_bipush (v := 48) dX12_one_140 (by decide) ?_
          refine E_bipush (v := 57) dX12_one_142 (by decide) ?_
          refine k_X12_one_144 (mc' := 0) (ms' := 0) (rc := 0) (rs := 0) (by omega) (Nat.le_of_ble_eq_true rfl) (c_X12_within ?_)
          rw [bz_f hcc]
          refine E_if_eq (tgt := 179) dX12_one_147 (by decide) (fun c_147 => ?_) (fun c_147 => absurd (rfl) c_147)
          refine E_aload_n (i := 0) dX12_one_179 rfl rfl ?_
          refine E_iload_n (i := 2) dX12_one_180 rfl rfl ?_
          refine k_X12_one_181 (mc' := 0) (ms' := 0) (rc := 0) (rs := 0) (by omega) (Nat.le_of_ble_eq_true rfl) (by assumption) (c_codes hX hK (by omega) (fun J6 r6 => ?_))
          refine E_goto (tgt := 247) dX12_one_184 (by decide) ?_
          refine E_vret dX12_one_247 rfl ?_
          exact hΦ _ r6
    refine E_aload_n (i := 0) dX12_one_0 rfl rfl ?_
    refine k_X12_one_1 (mc' := 0) (ms' := 0) (rc := 0) (rs := 0) (by omega) (Nat.le_of_ble_eq_true rfl) (by assumption) (c_here hX hJ q1 ?_)
    refine E_istore_nC (i := 1) dX12_one_4 rfl (by decide) rfl ?_
    refine E_lv (lv' := [_, _, _, _]) rfl ?_
    refine E_iload_n (i := 1) dX12_one_5 rfl rfl ?_
    refine E_bipush (v := 33) dX12_one_6 (by decide) ?_
    refine E_icmp_eq (tgt := 17) dX12_one_8 (by decide) (fun c_8 => absurd c_8 (g33)) (fun c_8 => ?_)
    refine E_iload_n (i := 1) dX12_one_11 rfl rfl ?_
    refine E_bipush (v := 40) dX12_one_12 (by decide) ?_
    refine E_icmp_ne (tgt := 116) dX12_one_14 (by decide) (fun c_14 => ?_) (fun c_14 => absurd c_14 (g40))
    refine E_iload_n (i := 1) dX12_one_116 rfl rfl ?_
    refine E_bipush (v := 48) dX12_one_117 (by decide) ?_
    refine E_bipush (v := 57) dX12_one_119 (by decide) ?_
    refine k_X12_one_121 (mc' := 0) (ms' := 0) (rc := 0) (rs := 0) (by omega) (Nat.le_of_ble_eq_true rfl) (c_X12_within ?_)
    rw [bz_t hg]
    refine E_if_eq (tgt := 187) dX12_one_124 (by decide) (fun c_124 => absurd c_124 (by decide)) (fun c_124 => ?_)
    refine E_iconst (v := 0) dX12_one_127 (by decide) ?_
    refine E_istore_nC (i := 2) dX12_one_128 rfl (by decide) rfl ?_
    refine E_lv (lv' := [_, _, _, _]) rfl ?_
    refine E_iconst (v := 0) dX12_one_129 (by decide) ?_
    refine E_istore_nC (i := 3) dX12_one_130 rfl (by decide) rfl ?_
    refine E_lv (lv' := [_, _, _, _]) rfl ?_
    exact loop 4 0 _ _ _ _ rfl rfl hJ hB rfl
  · rw [if_neg hg] at hΦ
    have j5 := hJ.2.2.2.2.1
    by_cases hend : hr (tM I) n σ = -1
    · have hm : nmo u (hr (tM I) n σ) = none := by rw [hend]; exact nmo_end hu
      rw [hm] at hΦ
      have hΦ := hΦ _ (MS_wr hJ)
      cases hw : σ.2.1 with
      | true =>
        rw [hw, if_pos rfl] at j5
        refine E_aload_n (i := 0) dX12_one_0 rfl rfl ?_
        refine k_X12_one_1 (mc' := 0) (ms' := 0) (rc := 0) (rs := 0) (by omega) (Nat.le_of_ble_eq_true rfl) (by assumption) (c_here hX hJ q1 ?_)
        refine E_istore_nC (i := 1) dX12_one_4 rfl (by decide) rfl ?_
        refine E_lv (lv' := [_, _, _, _]) rfl ?_
        refine E_iload_n (i := 1) dX12_one_5 rfl rfl ?_
        refine E_bipush (v := 33) dX12_one_6 (by decide) ?_
        refine E_icmp_eq (tgt := 17) dX12_one_8 (by decide) (fun c_8 => absurd c_8 (g33)) (fun c_8 => ?_)
        refine E_iload_n (i := 1) dX12_one_11 rfl rfl ?_
        refine E_bipush (v := 40) dX12_one_12 (by decide) ?_
        refine E_icmp_ne (tgt := 116) dX12_one_14 (by decide) (fun c_14 => ?_) (fun c_14 => absurd c_14 (g40))
        refine E_iload_n (i := 1) dX12_one_116 rfl rfl ?_
        refine E_bipush (v := 48) dX12_one_117 (by decide) ?_
        refine E_bipush (v := 57) dX12_one_119 (by decide) ?_
        refine k_X12_one_121 (mc' := 0) (ms' := 0) (rc := 0) (rs := 0) (by omega) (Nat.le_of_ble_eq_true rfl) (c_X12_within ?_)
        rw [bz_f hg]
        refine E_if_eq (tgt := 187) dX12_one_124 (by decide) (fun c_124 => ?_) (fun c_124 => absurd (rfl) c_124)
        refine E_iload_n (i := 1) dX12_one_187 rfl rfl ?_
        refine E_if_ge (tgt := 195) dX12_one_188 (by decide) (fun c_188 => absurd c_188 (by rw [hend]; decide)) (fun c_188 => ?_)
        refine E_iconst (v := -1) dX12_one_191 (by decide) ?_
        refine E_goto (tgt := 200) dX12_one_192 (by decide) ?_
        refine E_istore_nC (i := 2) dX12_one_200 rfl (by decide) rfl ?_
        refine E_lv (lv' := [_, _, _, _]) rfl ?_
        refine E_aload_n (i := 0) dX12_one_201 rfl rfl ?_
        refine E_aload_n (i := 0) dX12_one_202 rfl rfl ?_
        refine E_gi dX12_one_203 gf_X12_160_12 rfl (by assumption) ?_
        refine E_if_ne (tgt := 213) dX12_one_206 (by decide) (fun c_206 => ?_) (fun c_206 => absurd c_206 (by rw [j5]; decide))
        refine E_iconst (v := 1) dX12_one_213 (by decide) ?_
        refine E_goto (tgt := 218) dX12_one_214 (by decide) ?_
        refine E_pz dX12_one_218 gf_X12_160_12 rfl (by first | exact Or.inl rfl | exact Or.inr rfl | assumption) (by assumption) ?_
        refine E_aload_n (i := 0) dX12_one_221 rfl rfl ?_
        refine E_gi dX12_one_222 gf_X12_160_12 rfl (by assumption) ?_
        rw [u2_s]
        refine E_if_ne (tgt := 247) dX12_one_225 (by decide) (fun c_225 => ?_) (fun c_225 => absurd c_225 (by decide))
        refine E_vret dX12_one_247 rfl ?_
        exact hΦ
      | false =>
        rw [hw, if_neg (by decide)] at j5
        refine E_aload_n (i := 0) dX12_one_0 rfl rfl ?_
        refine k_X12_one_1 (mc' := 0) (ms' := 0) (rc := 0) (rs := 0) (by omega) (Nat.le_of_ble_eq_true rfl) (by assumption) (c_here hX hJ q1 ?_)
        refine E_istore_nC (i := 1) dX12_one_4 rfl (by decide) rfl ?_
        refine E_lv (lv' := [_, _, _, _]) rfl ?_
        refine E_iload_n (i := 1) dX12_one_5 rfl rfl ?_
        refine E_bipush (v := 33) dX12_one_6 (by decide) ?_
        refine E_icmp_eq (tgt := 17) dX12_one_8 (by decide) (fun c_8 => absurd c_8 (g33)) (fun c_8 => ?_)
        refine E_iload_n (i := 1) dX12_one_11 rfl rfl ?_
        refine E_bipush (v := 40) dX12_one_12 (by decide) ?_
        refine E_icmp_ne (tgt := 116) dX12_one_14 (by decide) (fun c_14 => ?_) (fun c_14 => absurd c_14 (g40))
        refine E_iload_n (i := 1) dX12_one_116 rfl rfl ?_
        refine E_bipush (v := 48) dX12_one_117 (by decide) ?_
        refine E_bipush (v := 57) dX12_one_119 (by decide) ?_
        refine k_X12_one_121 (mc' := 0) (ms' := 0) (rc := 0) (rs := 0) (by omega) (Nat.le_of_ble_eq_true rfl) (c_X12_within ?_)
        rw [bz_f hg]
        refine E_if_eq (tgt := 187) dX12_one_124 (by decide) (fun c_124 => ?_) (fun c_124 => absurd (rfl) c_124)
        refine E_iload_n (i := 1) dX12_one_187 rfl rfl ?_
        refine E_if_ge (tgt := 195) dX12_one_188 (by decide) (fun c_188 => absurd c_188 (by rw [hend]; decide)) (fun c_188 => ?_)
        refine E_iconst (v := -1) dX12_one_191 (by decide) ?_
        refine E_goto (tgt := 200) dX12_one_192 (by decide) ?_
        refine E_istore_nC (i := 2) dX12_one_200 rfl (by decide) rfl ?_
        refine E_lv (lv' := [_, _, _, _]) rfl ?_
        refine E_aload_n (i := 0) dX12_one_201 rfl rfl ?_
        refine E_aload_n (i := 0) dX12_one_202 rfl rfl ?_
        refine E_gi dX12_one_203 gf_X12_160_12 rfl (by assumption) ?_
        refine E_if_ne (tgt := 213) dX12_one_206 (by decide) (fun c_206 => absurd (j5) c_206) (fun c_206 => ?_)
        refine E_iload_n (i := 2) dX12_one_209 rfl rfl ?_
        refine E_if_ge (tgt := 217) dX12_one_210 (by decide) (fun c_210 => absurd c_210 (by decide)) (fun c_210 => ?_)
        refine E_iconst (v := 1) dX12_one_213 (by decide) ?_
        refine E_goto (tgt := 218) dX12_one_214 (by decide) ?_
        refine E_pz dX12_one_218 gf_X12_160_12 rfl (by first | exact Or.inl rfl | exact Or.inr rfl | assumption) (by assumption) ?_
        refine E_aload_n (i := 0) dX12_one_221 rfl rfl ?_
        refine E_gi dX12_one_222 gf_X12_160_12 rfl (by assumption) ?_
        rw [u2_s]
        refine E_if_ne (tgt := 247) dX12_one_225 (by decide) (fun c_225 => ?_) (fun c_225 => absurd c_225 (by decide))
        refine E_vret dX12_one_247 rfl ?_
        exact hΦ
    · have hl := hr_lt hend
      rw [hl.1, if_neg (by decide)] at j5
      obtain ⟨b, hb, hb2⟩ := hX.2.2.2.2.2 σ.1 hl.2
      have hs : hr (tM I) n σ = nI b := by
        unfold hr
        rw [if_pos hl]
        exact hb2
      have hge : 0 ≤ hr (tM I) n σ := by rw [hs]; exact nI_pos' (by omega)
      have e10 : J 109 10 = nI u := by rw [hJ.2.1 10 (by decide) (by decide) (by decide) (by decide)]; exact hX.2.2.2.1
      cases hm : nmo u (hr (tM I) n σ) with
      | none =>
        rw [hm] at hΦ
        have hΦ := hΦ _ (MS_wr hJ)
        have hix : nmI u (hr (tM I) n σ) = -1 := by unfold nmI; rw [hm]
        refine E_aload_n (i := 0) dX12_one_0 rfl rfl ?_
        refine k_X12_one_1 (mc' := 0) (ms' := 0) (rc := 0) (rs := 0) (by omega) (Nat.le_of_ble_eq_true rfl) (by assumption) (c_here hX hJ q1 ?_)
        refine E_istore_nC (i := 1) dX12_one_4 rfl (by decide) rfl ?_
        refine E_lv (lv' := [_, _, _, _]) rfl ?_
        refine E_iload_n (i := 1) dX12_one_5 rfl rfl ?_
        refine E_bipush (v := 33) dX12_one_6 (by decide) ?_
        refine E_icmp_eq (tgt := 17) dX12_one_8 (by decide) (fun c_8 => absurd c_8 (g33)) (fun c_8 => ?_)
        refine E_iload_n (i := 1) dX12_one_11 rfl rfl ?_
        refine E_bipush (v := 40) dX12_one_12 (by decide) ?_
        refine E_icmp_ne (tgt := 116) dX12_one_14 (by decide) (fun c_14 => ?_) (fun c_14 => absurd c_14 (g40))
        refine E_iload_n (i := 1) dX12_one_116 rfl rfl ?_
        refine E_bipush (v := 48) dX12_one_117 (by decide) ?_
        refine E_bipush (v := 57) dX12_one_119 (by decide) ?_
        refine k_X12_one_121 (mc' := 0) (ms' := 0) (rc := 0) (rs := 0) (by omega) (Nat.le_of_ble_eq_true rfl) (c_X12_within ?_)
        rw [bz_f hg]
        refine E_if_eq (tgt := 187) dX12_one_124 (by decide) (fun c_124 => ?_) (fun c_124 => absurd (rfl) c_124)
        refine E_iload_n (i := 1) dX12_one_187 rfl rfl ?_
        refine E_if_ge (tgt := 195) dX12_one_188 (by decide) (fun c_188 => ?_) (fun c_188 => absurd (hge) c_188)
        refine E_aload_n (i := 0) dX12_one_195 rfl rfl ?_
        refine E_iload_n (i := 1) dX12_one_196 rfl rfl ?_
        refine k_X12_one_197 (mc' := 0) (ms' := 0) (rc := 0) (rs := 0) (by omega) (Nat.le_of_ble_eq_true rfl) (by assumption) (c_nameOf (by omega) hM e10 hu ?_)
        rw [hix]
        refine E_istore_nC (i := 2) dX12_one_200 rfl (by decide) rfl ?_
        refine E_lv (lv' := [_, _, _, _]) rfl ?_
        refine E_aload_n (i := 0) dX12_one_201 rfl rfl ?_
        refine E_aload_n (i := 0) dX12_one_202 rfl rfl ?_
        refine E_gi dX12_one_203 gf_X12_160_12 rfl (by assumption) ?_
        refine E_if_ne (tgt := 213) dX12_one_206 (by decide) (fun c_206 => absurd (j5) c_206) (fun c_206 => ?_)
        refine E_iload_n (i := 2) dX12_one_209 rfl rfl ?_
        refine E_if_ge (tgt := 217) dX12_one_210 (by decide) (fun c_210 => absurd c_210 (by decide)) (fun c_210 => ?_)
        refine E_iconst (v := 1) dX12_one_213 (by decide) ?_
        refine E_goto (tgt := 218) dX12_one_214 (by decide) ?_
        refine E_pz dX12_one_218 gf_X12_160_12 rfl (by first | exact Or.inl rfl | exact Or.inr rfl | assumption) (by assumption) ?_
        refine E_aload_n (i := 0) dX12_one_221 rfl rfl ?_
        refine E_gi dX12_one_222 gf_X12_160_12 rfl (by assumption) ?_
        rw [u2_s]
        refine E_if_ne (tgt := 247) dX12_one_225 (by decide) (fun c_225 => ?_) (fun c_225 => absurd c_225 (by decide))
        refine E_vret dX12_one_247 rfl ?_
        exact hΦ
      | some i =>
        rw [hm] at hΦ
        obtain ⟨m1, m2, m3⟩ := nmo_lt hu hm
        have hix : nmI u (hr (tM I) n σ) = nI i := by unfold nmI; rw [hm]
        refine E_aload_n (i := 0) dX12_one_0 rfl rfl ?_
        refine k_X12_one_1 (mc' := 0) (ms' := 0) (rc := 0) (rs := 0) (by omega) (Nat.le_of_ble_eq_true rfl) (by assumption) (c_here hX hJ q1 ?_)
        refine E_istore_nC (i := 1) dX12_one_4 rfl (by decide) rfl ?_
        refine E_lv (lv' := [_, _, _, _]) rfl ?_
        refine E_iload_n (i := 1) dX12_one_5 rfl rfl ?_
        refine E_bipush (v := 33) dX12_one_6 (by decide) ?_
        refine E_icmp_eq (tgt := 17) dX12_one_8 (by decide) (fun c_8 => absurd c_8 (g33)) (fun c_8 => ?_)
        refine E_iload_n (i := 1) dX12_one_11 rfl rfl ?_
        refine E_bipush (v := 40) dX12_one_12 (by decide) ?_
        refine E_icmp_ne (tgt := 116) dX12_one_14 (by decide) (fun c_14 => ?_) (fun c_14 => absurd c_14 (g40))
        refine E_iload_n (i := 1) dX12_one_116 rfl rfl ?_
        refine E_bipush (v := 48) dX12_one_117 (by decide) ?_
        refine E_bipush (v := 57) dX12_one_119 (by decide) ?_
        refine k_X12_one_121 (mc' := 0) (ms' := 0) (rc := 0) (rs := 0) (by omega) (Nat.le_of_ble_eq_true rfl) (c_X12_within ?_)
        rw [bz_f hg]
        refine E_if_eq (tgt := 187) dX12_one_124 (by decide) (fun c_124 => ?_) (fun c_124 => absurd (rfl) c_124)
        refine E_iload_n (i := 1) dX12_one_187 rfl rfl ?_
        refine E_if_ge (tgt := 195) dX12_one_188 (by decide) (fun c_188 => ?_) (fun c_188 => absurd (hge) c_188)
        refine E_aload_n (i := 0) dX12_one_195 rfl rfl ?_
        refine E_iload_n (i := 1) dX12_one_196 rfl rfl ?_
        refine k_X12_one_197 (mc' := 0) (ms' := 0) (rc := 0) (rs := 0) (by omega) (Nat.le_of_ble_eq_true rfl) (by assumption) (c_nameOf (by omega) hM e10 hu ?_)
        rw [hix]
        refine E_istore_nC (i := 2) dX12_one_200 rfl (by decide) rfl ?_
        refine E_lv (lv' := [_, _, _, _]) rfl ?_
        refine E_aload_n (i := 0) dX12_one_201 rfl rfl ?_
        refine E_aload_n (i := 0) dX12_one_202 rfl rfl ?_
        refine E_gi dX12_one_203 gf_X12_160_12 rfl (by assumption) ?_
        refine E_if_ne (tgt := 213) dX12_one_206 (by decide) (fun c_206 => absurd (j5) c_206) (fun c_206 => ?_)
        refine E_iload_n (i := 2) dX12_one_209 rfl rfl ?_
        refine E_if_ge (tgt := 217) dX12_one_210 (by decide) (fun c_210 => ?_) (fun c_210 => absurd (nI_pos' (by omega)) c_210)
        refine E_iconst (v := 0) dX12_one_217 (by decide) ?_
        refine E_pz dX12_one_218 gf_X12_160_12 rfl (by first | exact Or.inl rfl | exact Or.inr rfl | assumption) (by assumption) ?_
        refine E_aload_n (i := 0) dX12_one_221 rfl rfl ?_
        refine E_gi dX12_one_222 gf_X12_160_12 rfl (by assumption) ?_
        rw [u2_s]
        refine E_if_ne (tgt := 247) dX12_one_225 (by decide) (fun c_225 => absurd (rfl) c_225) (fun c_225 => ?_)
        refine E_aload_n (i := 0) dX12_one_228 rfl rfl ?_
        refine E_sipush (v := 10000) dX12_one_229 (by decide) ?_
        refine E_iload_n (i := 2) dX12_one_232 rfl rfl ?_
        refine E_iadd dX12_one_233 ?_
        refine k_X12_one_234 (mc' := 0) (ms' := 0) (rc := 0) (rs := 0) (by omega) (Nat.le_of_ble_eq_true rfl) (by assumption) (c_codes hX (MS_ok hJ hl.1) (by omega) (fun J6 r6 => ?_))
        refine E_aload_n (i := 0) dX12_one_237 rfl rfl ?_
        refine E_dup dX12_one_238 rfl ?_
        refine E_gi dX12_one_239 gf_X12_164_12 rfl (by assumption) ?_
        refine E_iconst (v := 1) dX12_one_242 (by decide) ?_
        refine E_iadd dX12_one_243 ?_
        refine E_pi dX12_one_244 gf_X12_164_12 rfl (by assumption) ?_
        refine E_vret dX12_one_247 rfl ?_
        exact hΦ _ (MS_adv r6)
theorem m_one0 (hX : MX g P I n u) : CM Γ g P I n mX12_one 5 8 (pS (tM I) n u 0) := by
  intro d J σ Φ hd hJ hB hΦ
  by_cases hc : hr (tM I) n σ = 33 ∨ hr (tM I) n σ = 40
  · have e : pS (tM I) n u 0 σ = wrg σ := by
      show sng (tM I) n u none σ = _
      unfold sng
      exact if_pos hc
    rw [e] at hΦ
    have hΦ := hΦ _ (MS_wr hJ)
    refine MM_entry [some _, none, none, none] (by decide) (Nat.le_of_ble_eq_true rfl) rfl ?_
    have h0 := hX.1.1
    have j4 := hJ.2.2.2.1
    by_cases h33 : hr (tM I) n σ = 33
    · refine E_aload_n (i := 0) dX12_one_0 rfl rfl ?_
      refine k_X12_one_1 (mc' := 0) (ms' := 0) (rc := 0) (rs := 0) (by omega) (Nat.le_of_ble_eq_true rfl) (by assumption) (c_here hX hJ hB.1 ?_)
      refine E_istore_nC (i := 1) dX12_one_4 rfl (by decide) rfl ?_
      refine E_lv (lv' := [_, _, _, _]) rfl ?_
      refine E_iload_n (i := 1) dX12_one_5 rfl rfl ?_
      refine E_bipush (v := 33) dX12_one_6 (by decide) ?_
      refine E_icmp_eq (tgt := 17) dX12_one_8 (by decide) (fun c_8 => ?_) (fun c_8 => absurd (h33) c_8)
      refine E_aload_n (i := 0) dX12_one_17 rfl rfl ?_
      refine E_aload_n (i := 0) dX12_one_18 rfl rfl ?_
      refine E_gi dX12_one_19 gf_X12_206_12 rfl (by assumption) ?_
      refine E_iconst (v := 5) dX12_one_22 (by decide) ?_
      refine E_icmp_ne (tgt := 30) dX12_one_23 (by decide) (fun c_23 => absurd (j4) c_23) (fun c_23 => ?_)
      refine E_iconst (v := 1) dX12_one_26 (by decide) ?_
      refine E_goto (tgt := 31) dX12_one_27 (by decide) ?_
      refine E_pz dX12_one_31 gf_X12_160_12 rfl (by first | exact Or.inl rfl | exact Or.inr rfl | assumption) (by assumption) ?_
      refine E_aload_n (i := 0) dX12_one_34 rfl rfl ?_
      refine E_gi dX12_one_35 gf_X12_160_12 rfl (by assumption) ?_
      rw [u2_s]
      refine E_if_ne (tgt := 247) dX12_one_38 (by decide) (fun c_38 => ?_) (fun c_38 => absurd c_38 (by decide))
      refine E_vret dX12_one_247 rfl ?_
      exact hΦ
    · refine E_aload_n (i := 0) dX12_one_0 rfl rfl ?_
      refine k_X12_one_1 (mc' := 0) (ms' := 0) (rc := 0) (rs := 0) (by omega) (Nat.le_of_ble_eq_true rfl) (by assumption) (c_here hX hJ hB.1 ?_)
      refine E_istore_nC (i := 1) dX12_one_4 rfl (by decide) rfl ?_
      refine E_lv (lv' := [_, _, _, _]) rfl ?_
      refine E_iload_n (i := 1) dX12_one_5 rfl rfl ?_
      refine E_bipush (v := 33) dX12_one_6 (by decide) ?_
      refine E_icmp_eq (tgt := 17) dX12_one_8 (by decide) (fun c_8 => absurd c_8 (h33)) (fun c_8 => ?_)
      refine E_iload_n (i := 1) dX12_one_11 rfl rfl ?_
      refine E_bipush (v := 40) dX12_one_12 (by decide) ?_
      refine E_icmp_ne (tgt := 116) dX12_one_14 (by decide) (fun c_14 => absurd (hc.resolve_left h33) c_14) (fun c_14 => ?_)
      refine E_aload_n (i := 0) dX12_one_17 rfl rfl ?_
      refine E_aload_n (i := 0) dX12_one_18 rfl rfl ?_
      refine E_gi dX12_one_19 gf_X12_206_12 rfl (by assumption) ?_
      refine E_iconst (v := 5) dX12_one_22 (by decide) ?_
      refine E_icmp_ne (tgt := 30) dX12_one_23 (by decide) (fun c_23 => absurd (j4) c_23) (fun c_23 => ?_)
      refine E_iconst (v := 1) dX12_one_26 (by decide) ?_
      refine E_goto (tgt := 31) dX12_one_27 (by decide) ?_
      refine E_pz dX12_one_31 gf_X12_160_12 rfl (by first | exact Or.inl rfl | exact Or.inr rfl | assumption) (by assumption) ?_
      refine E_aload_n (i := 0) dX12_one_34 rfl rfl ?_
      refine E_gi dX12_one_35 gf_X12_160_12 rfl (by assumption) ?_
      rw [u2_s]
      refine E_if_ne (tgt := 247) dX12_one_38 (by decide) (fun c_38 => ?_) (fun c_38 => absurd c_38 (by decide))
      refine E_vret dX12_one_247 rfl ?_
      exact hΦ
  · exact m_plain (rc := none) hX d J σ Φ hd hJ hB hc hΦ
theorem m_opA (hX : MX g P I n u) (ho : op < 5) {J : HI} {σ : PS} (hJ : MS I J op σ) (hw : σ.2.1 = false) : MS I (u2 (u2 (u2 J 109 11 0) 109 9 ((u2 J 109 11 0) 109 9 + 1)) 109 8 ((u2 (u2 J 109 11 0) 109 9 ((u2 J 109 11 0) 109 9 + 1)) 109 8 + 1)) (op + 1) (adv σ) := MS_adv (MS_op (MS_ok hJ hw) (by rw [u2_o (by decide), hJ.2.2.2.1, nI_1]))
theorem m_op33 (hX : MX g P I n u) (ho : op < 5) (g1 : Gd n s) (h1 : CM Γ g P I n mX12_one (op + 1) need s) (d : Nat) (J : HI) (σ : PS) (Φ : Option Value → Sh → HP → HI → Prop) (hd : need + 2 ≤ d) (hJ : MS I J op σ) (hB : BN n σ) (h33 : hr (tM I) n σ = 33) (hΦ : ∀ J', MS I J' op (emt 20010 (s (adv σ))) → Φ none g P J') : MM Γ mX12_one d 0 0 [.ref 109] g P J Φ := by
  have n50 := hX.2.2.1
  have hl := hr_lt (show ¬ hr (tM I) n σ = -1 by rw [h33]; decide)
  refine MM_entry [some _, none, none, none] (by decide) (Nat.le_of_ble_eq_true rfl) rfl ?_
  have h0 := hX.1.1
  have j4 := hJ.2.2.2.1
  have o5 : ¬ nI op = 5 := nI_ne (a := op) (b := 5) (by omega) (by omega) (by omega)
  have hB2 := hB.adv hl.2
  have b1 := g1.B hB2
  refine E_aload_n (i := 0) dX12_one_0 rfl rfl ?_
  refine k_X12_one_1 (mc' := 0) (ms' := 0) (rc := 0) (rs := 0) (by omega) (Nat.le_of_ble_eq_true rfl) (by assumption) (c_here hX hJ hB.1 ?_)
  refine E_istore_nC (i := 1) dX12_one_4 rfl (by decide) rfl ?_
  refine E_lv (lv' := [_, _, _, _]) rfl ?_
  refine E_iload_n (i := 1) dX12_one_5 rfl rfl ?_
  refine E_bipush (v := 33) dX12_one_6 (by decide) ?_
  refine E_icmp_eq (tgt := 17) dX12_one_8 (by decide) (fun c_8 => ?_) (fun c_8 => absurd (h33) c_8)
  refine E_aload_n (i := 0) dX12_one_17 rfl rfl ?_
  refine E_aload_n (i := 0) dX12_one_18 rfl rfl ?_
  refine E_gi dX12_one_19 gf_X12_206_12 rfl (by assumption) ?_
  refine E_iconst (v := 5) dX12_one_22 (by decide) ?_
  refine E_icmp_ne (tgt := 30) dX12_one_23 (by decide) (fun c_23 => ?_) (fun c_23 => absurd c_23 (by rw [j4]; exact o5))
  refine E_iconst (v := 0) dX12_one_30 (by decide) ?_
  refine E_pz dX12_one_31 gf_X12_160_12 rfl (by first | exact Or.inl rfl | exact Or.inr rfl | assumption) (by assumption) ?_
  refine E_aload_n (i := 0) dX12_one_34 rfl rfl ?_
  refine E_gi dX12_one_35 gf_X12_160_12 rfl (by assumption) ?_
  rw [u2_s]
  refine E_if_ne (tgt := 247) dX12_one_38 (by decide) (fun c_38 => absurd (rfl) c_38) (fun c_38 => ?_)
  refine E_aload_n (i := 0) dX12_one_41 rfl rfl ?_
  refine E_dup dX12_one_42 rfl ?_
  refine E_gi dX12_one_43 gf_X12_206_12 rfl (by assumption) ?_
  refine E_iconst (v := 1) dX12_one_46 (by decide) ?_
  refine E_iadd dX12_one_47 ?_
  refine E_pi dX12_one_48 gf_X12_206_12 rfl (by assumption) ?_
  refine E_aload_n (i := 0) dX12_one_51 rfl rfl ?_
  refine E_dup dX12_one_52 rfl ?_
  refine E_gi dX12_one_53 gf_X12_164_12 rfl (by assumption) ?_
  refine E_iconst (v := 1) dX12_one_56 (by decide) ?_
  refine E_iadd dX12_one_57 ?_
  refine E_pi dX12_one_58 gf_X12_164_12 rfl (by assumption) ?_
  refine E_iload_n (i := 1) dX12_one_61 rfl rfl ?_
  refine E_bipush (v := 33) dX12_one_62 (by decide) ?_
  refine E_icmp_ne (tgt := 81) dX12_one_64 (by decide) (fun c_64 => absurd (h33) c_64) (fun c_64 => ?_)
  refine E_aload_n (i := 0) dX12_one_67 rfl rfl ?_
  refine k_X12_one_68 (mc' := 0) (ms' := 0) (rc := 0) (rs := 0) (by omega) (Nat.le_of_ble_eq_true rfl) (by assumption) (h1 _ _ _ _ (by omega) (m_opA hX ho hJ hl.1) hB2 (fun J5 r5 => ?_))
  refine E_aload_n (i := 0) dX12_one_71 rfl rfl ?_
  refine E_sipush (v := 20010) dX12_one_72 (by decide) ?_
  refine k_X12_one_75 (mc' := 0) (ms' := 0) (rc := 0) (rs := 0) (by omega) (Nat.le_of_ble_eq_true rfl) (by assumption) (c_codes hX r5 (by have := b1.1; have := b1.2; omega) (fun J6 r6 => ?_))
  refine E_goto (tgt := 103) dX12_one_78 (by decide) ?_
  refine E_aload_n (i := 0) dX12_one_103 rfl rfl ?_
  refine E_dup dX12_one_104 rfl ?_
  refine E_gi dX12_one_105 gf_X12_206_12 rfl (by assumption) ?_
  refine E_iconst (v := 1) dX12_one_108 (by decide) ?_
  refine E_isub dX12_one_109 ?_
  refine E_pi dX12_one_110 gf_X12_206_12 rfl (by assumption) ?_
  refine E_goto (tgt := 247) dX12_one_113 (by decide) ?_
  refine E_vret dX12_one_247 rfl ?_
  exact hΦ _ (MS_op r6 (by rw [r6.2.2.2.1, nI_s1]))
theorem m_op41 (hX : MX g P I n u) (ho : op < 5) (g1 : Gd n s) (h1 : CM Γ g P I n mX12_either (op + 1) need s) (d : Nat) (J : HI) (σ : PS) (Φ : Option Value → Sh → HP → HI → Prop) (hd : need + 2 ≤ d) (hJ : MS I J op σ) (hB : BN n σ) (h40 : hr (tM I) n σ = 40) (h41 : hr (tM I) n (s (adv σ)) = 41) (hΦ : ∀ J', MS I J' op (adv (s (adv σ))) → Φ none g P J') : MM Γ mX12_one d 0 0 [.ref 109] g P J Φ := by
  have n50 := hX.2.2.1
  have hl := hr_lt (show ¬ hr (tM I) n σ = -1 by rw [h40]; decide)
  have h33 : ¬ hr (tM I) n σ = 33 := by rw [h40]; decide
  refine MM_entry [some _, none, none, none] (by decide) (Nat.le_of_ble_eq_true rfl) rfl ?_
  have h0 := hX.1.1
  have j4 := hJ.2.2.2.1
  have o5 : ¬ nI op = 5 := nI_ne (a := op) (b := 5) (by omega) (by omega) (by omega)
  have hB2 := hB.adv hl.2
  have b2 := g1.B hB2
  have hl2 := hr_lt (show ¬ hr (tM I) n (s (adv σ)) = -1 by rw [h41]; decide)
  refine E_aload_n (i := 0) dX12_one_0 rfl rfl ?_
  refine k_X12_one_1 (mc' := 0) (ms' := 0) (rc := 0) (rs := 0) (by omega) (Nat.le_of_ble_eq_true rfl) (by assumption) (c_here hX hJ hB.1 ?_)
  refine E_istore_nC (i := 1) dX12_one_4 rfl (by decide) rfl ?_
  refine E_lv (lv' := [_, _, _, _]) rfl ?_
  refine E_iload_n (i := 1) dX12_one_5 rfl rfl ?_
  refine E_bipush (v := 33) dX12_one_6 (by decide) ?_
  refine E_icmp_eq (tgt := 17) dX12_one_8 (by decide) (fun c_8 => absurd c_8 (h33)) (fun c_8 => ?_)
  refine E_iload_n (i := 1) dX12_one_11 rfl rfl ?_
  refine E_bipush (v := 40) dX12_one_12 (by decide) ?_
  refine E_icmp_ne (tgt := 116) dX12_one_14 (by decide) (fun c_14 => absurd (h40) c_14) (fun c_14 => ?_)
  refine E_aload_n (i := 0) dX12_one_17 rfl rfl ?_
  refine E_aload_n (i := 0) dX12_one_18 rfl rfl ?_
  refine E_gi dX12_one_19 gf_X12_206_12 rfl (by assumption) ?_
  refine E_iconst (v := 5) dX12_one_22 (by decide) ?_
  refine E_icmp_ne (tgt := 30) dX12_one_23 (by decide) (fun c_23 => ?_) (fun c_23 => absurd c_23 (by rw [j4]; exact o5))
  refine E_iconst (v := 0) dX12_one_30 (by decide) ?_
  refine E_pz dX12_one_31 gf_X12_160_12 rfl (by first | exact Or.inl rfl | exact Or.inr rfl | assumption) (by assumption) ?_
  refine E_aload_n (i := 0) dX12_one_34 rfl rfl ?_
  refine E_gi dX12_one_35 gf_X12_160_12 rfl (by assumption) ?_
  rw [u2_s]
  refine E_if_ne (tgt := 247) dX12_one_38 (by decide) (fun c_38 => absurd (rfl) c_38) (fun c_38 => ?_)
  refine E_aload_n (i := 0) dX12_one_41 rfl rfl ?_
  refine E_dup dX12_one_42 rfl ?_
  refine E_gi dX12_one_43 gf_X12_206_12 rfl (by assumption) ?_
  refine E_iconst (v := 1) dX12_one_46 (by decide) ?_
  refine E_iadd dX12_one_47 ?_
  refine E_pi dX12_one_48 gf_X12_206_12 rfl (by assumption) ?_
  refine E_aload_n (i := 0) dX12_one_51 rfl rfl ?_
  refine E_dup dX12_one_52 rfl ?_
  refine E_gi dX12_one_53 gf_X12_164_12 rfl (by assumption) ?_
  refine E_iconst (v := 1) dX12_one_56 (by decide) ?_
  refine E_iadd dX12_one_57 ?_
  refine E_pi dX12_one_58 gf_X12_164_12 rfl (by assumption) ?_
  refine E_iload_n (i := 1) dX12_one_61 rfl rfl ?_
  refine E_bipush (v := 33) dX12_one_62 (by decide) ?_
  refine E_icmp_ne (tgt := 81) dX12_one_64 (by decide) (fun c_64 => ?_) (fun c_64 => absurd c_64 (h33))
  refine E_aload_n (i := 0) dX12_one_81 rfl rfl ?_
  refine k_X12_one_82 (mc' := 0) (ms' := 0) (rc := 0) (rs := 0) (by omega) (Nat.le_of_ble_eq_true rfl) (by assumption) (h1 _ _ _ _ (by omega) (m_opA hX ho hJ hl.1) hB2 (fun J5 r5 => ?_))
  refine E_aload_n (i := 0) dX12_one_85 rfl rfl ?_
  refine E_aload_n (i := 0) dX12_one_86 rfl rfl ?_
  refine E_bipush (v := 41) dX12_one_87 (by decide) ?_
  refine k_X12_one_89 (mc' := 0) (ms' := 0) (rc := 0) (rs := 0) (by omega) (Nat.le_of_ble_eq_true rfl) (by assumption) (c_takesM (by omega) hX r5 b2.1 (fun _ J6 r6 => ?_) (fun h => absurd h41 h))
  refine E_if_ne (tgt := 99) dX12_one_92 (by decide) (fun c_92 => ?_) (fun c_92 => absurd c_92 (by decide))
  refine E_iconst (v := 0) dX12_one_99 (by decide) ?_
  refine E_pz dX12_one_100 gf_X12_160_12 rfl (by first | exact Or.inl rfl | exact Or.inr rfl | assumption) (by assumption) ?_
  refine E_aload_n (i := 0) dX12_one_103 rfl rfl ?_
  refine E_dup dX12_one_104 rfl ?_
  refine E_gi dX12_one_105 gf_X12_206_12 rfl (by assumption) ?_
  refine E_iconst (v := 1) dX12_one_108 (by decide) ?_
  refine E_isub dX12_one_109 ?_
  refine E_pi dX12_one_110 gf_X12_206_12 rfl (by assumption) ?_
  refine E_goto (tgt := 247) dX12_one_113 (by decide) ?_
  refine E_vret dX12_one_247 rfl ?_
  exact hΦ _ (MS_op (MS_ok r6 hl2.1) (by rw [u2_o (by decide), r6.2.2.2.1, nI_s1]))
theorem m_opno (hX : MX g P I n u) (ho : op < 5) (g1 : Gd n s) (h1 : CM Γ g P I n mX12_either (op + 1) need s) (d : Nat) (J : HI) (σ : PS) (Φ : Option Value → Sh → HP → HI → Prop) (hd : need + 2 ≤ d) (hJ : MS I J op σ) (hB : BN n σ) (h40 : hr (tM I) n σ = 40) (h41 : ¬ hr (tM I) n (s (adv σ)) = 41) (hΦ : ∀ J', MS I J' op (wrg (s (adv σ))) → Φ none g P J') : MM Γ mX12_one d 0 0 [.ref 109] g P J Φ := by
  have n50 := hX.2.2.1
  have hl := hr_lt (show ¬ hr (tM I) n σ = -1 by rw [h40]; decide)
  have h33 : ¬ hr (tM I) n σ = 33 := by rw [h40]; decide
  refine MM_entry [some _, none, none, none] (by decide) (Nat.le_of_ble_eq_true rfl) rfl ?_
  have h0 := hX.1.1
  have j4 := hJ.2.2.2.1
  have o5 : ¬ nI op = 5 := nI_ne (a := op) (b := 5) (by omega) (by omega) (by omega)
  have hB2 := hB.adv hl.2
  have b2 := g1.B hB2
  refine E_aload_n (i := 0) dX12_one_0 rfl rfl ?_
  refine k_X12_one_1 (mc' := 0) (ms' := 0) (rc := 0) (rs := 0) (by omega) (Nat.le_of_ble_eq_true rfl) (by assumption) (c_here hX hJ hB.1 ?_)
  refine E_istore_nC (i := 1) dX12_one_4 rfl (by decide) rfl ?_
  refine E_lv (lv' := [_, _, _, _]) rfl ?_
  refine E_iload_n (i := 1) dX12_one_5 rfl rfl ?_
  refine E_bipush (v := 33) dX12_one_6 (by decide) ?_
  refine E_icmp_eq (tgt := 17) dX12_one_8 (by decide) (fun c_8 => absurd c_8 (h33)) (fun c_8 => ?_)
  refine E_iload_n (i := 1) dX12_one_11 rfl rfl ?_
  refine E_bipush (v := 40) dX12_one_12 (by decide) ?_
  refine E_icmp_ne (tgt := 116) dX12_one_14 (by decide) (fun c_14 => absurd (h40) c_14) (fun c_14 => ?_)
  refine E_aload_n (i := 0) dX12_one_17 rfl rfl ?_
  refine E_aload_n (i := 0) dX12_one_18 rfl rfl ?_
  refine E_gi dX12_one_19 gf_X12_206_12 rfl (by assumption) ?_
  refine E_iconst (v := 5) dX12_one_22 (by decide) ?_
  refine E_icmp_ne (tgt := 30) dX12_one_23 (by decide) (fun c_23 => ?_) (fun c_23 => absurd c_23 (by rw [j4]; exact o5))
  refine E_iconst (v := 0) dX12_one_30 (by decide) ?_
  refine E_pz dX12_one_31 gf_X12_160_12 rfl (by first | exact Or.inl rfl | exact Or.inr rfl | assumption) (by assumption) ?_
  refine E_aload_n (i := 0) dX12_one_34 rfl rfl ?_
  refine E_gi dX12_one_35 gf_X12_160_12 rfl (by assumption) ?_
  rw [u2_s]
  refine E_if_ne (tgt := 247) dX12_one_38 (by decide) (fun c_38 => absurd (rfl) c_38) (fun c_38 => ?_)
  refine E_aload_n (i := 0) dX12_one_41 rfl rfl ?_
  refine E_dup dX12_one_42 rfl ?_
  refine E_gi dX12_one_43 gf_X12_206_12 rfl (by assumption) ?_
  refine E_iconst (v := 1) dX12_one_46 (by decide) ?_
  refine E_iadd dX12_one_47 ?_
  refine E_pi dX12_one_48 gf_X12_206_12 rfl (by assumption) ?_
  refine E_aload_n (i := 0) dX12_one_51 rfl rfl ?_
  refine E_dup dX12_one_52 rfl ?_
  refine E_gi dX12_one_53 gf_X12_164_12 rfl (by assumption) ?_
  refine E_iconst (v := 1) dX12_one_56 (by decide) ?_
  refine E_iadd dX12_one_57 ?_
  refine E_pi dX12_one_58 gf_X12_164_12 rfl (by assumption) ?_
  refine E_iload_n (i := 1) dX12_one_61 rfl rfl ?_
  refine E_bipush (v := 33) dX12_one_62 (by decide) ?_
  refine E_icmp_ne (tgt := 81) dX12_one_64 (by decide) (fun c_64 => ?_) (fun c_64 => absurd c_64 (h33))
  refine E_aload_n (i := 0) dX12_one_81 rfl rfl ?_
  refine k_X12_one_82 (mc' := 0) (ms' := 0) (rc := 0) (rs := 0) (by omega) (Nat.le_of_ble_eq_true rfl) (by assumption) (h1 _ _ _ _ (by omega) (m_opA hX ho hJ hl.1) hB2 (fun J5 r5 => ?_))
  refine E_aload_n (i := 0) dX12_one_85 rfl rfl ?_
  refine E_aload_n (i := 0) dX12_one_86 rfl rfl ?_
  refine E_bipush (v := 41) dX12_one_87 (by decide) ?_
  refine k_X12_one_89 (mc' := 0) (ms' := 0) (rc := 0) (rs := 0) (by omega) (Nat.le_of_ble_eq_true rfl) (by assumption) (c_takesM (by omega) hX r5 b2.1 (fun h => absurd h h41) (fun _ J6 r6 => ?_))
  refine E_if_ne (tgt := 99) dX12_one_92 (by decide) (fun c_92 => absurd (rfl) c_92) (fun c_92 => ?_)
  refine E_iconst (v := 1) dX12_one_95 (by decide) ?_
  refine E_goto (tgt := 100) dX12_one_96 (by decide) ?_
  refine E_pz dX12_one_100 gf_X12_160_12 rfl (by first | exact Or.inl rfl | exact Or.inr rfl | assumption) (by assumption) ?_
  refine E_aload_n (i := 0) dX12_one_103 rfl rfl ?_
  refine E_dup dX12_one_104 rfl ?_
  refine E_gi dX12_one_105 gf_X12_206_12 rfl (by assumption) ?_
  refine E_iconst (v := 1) dX12_one_108 (by decide) ?_
  refine E_isub dX12_one_109 ?_
  refine E_pi dX12_one_110 gf_X12_206_12 rfl (by assumption) ?_
  refine E_goto (tgt := 247) dX12_one_113 (by decide) ?_
  refine E_vret dX12_one_247 rfl ?_
  exact hΦ _ (MS_op (MS_wr r6) (by rw [u2_o (by decide), r6.2.2.2.1, nI_s1]))
theorem m_oneS {k : Nat} (hX : MX g P I n u) (ho : op < 5) (hn8 : 8 ≤ need) (g1 : Gd n (pS (tM I) n u k)) (g2 : Gd n (eth (tM I) n (pS (tM I) n u k))) (h1 : CM Γ g P I n mX12_one (op + 1) need (pS (tM I) n u k)) (h2 : CM Γ g P I n mX12_either (op + 1) need (eth (tM I) n (pS (tM I) n u k))) : CM Γ g P I n mX12_one op (need + 2) (pS (tM I) n u (k + 1)) := by
  intro d J σ Φ hd hJ hB hΦ
  by_cases hc : hr (tM I) n σ = 33 ∨ hr (tM I) n σ = 40
  · have e : pS (tM I) n u (k + 1) σ = opd (tM I) n (pS (tM I) n u k) (eth (tM I) n (pS (tM I) n u k)) σ := by
      show sng (tM I) n u (some _) σ = _
      unfold sng opd
      exact if_pos hc
    rw [e] at hΦ
    unfold opd at hΦ
    by_cases h33 : hr (tM I) n σ = 33
    · rw [if_pos h33] at hΦ
      exact m_op33 hX ho g1 h1 d J σ Φ hd hJ hB h33 hΦ
    · rw [if_neg h33] at hΦ
      have h40 := hc.resolve_left h33
      by_cases h41 : hr (tM I) n (eth (tM I) n (pS (tM I) n u k) (adv σ)) = 41
      · rw [if_pos h41] at hΦ
        exact m_op41 hX ho g2 h2 d J σ Φ hd hJ hB h40 h41 hΦ
      · rw [if_neg h41] at hΦ
        exact m_opno hX ho g2 h2 d J σ Φ hd hJ hB h40 h41 hΦ
  · exact m_plain (rc := some (pS (tM I) n u k, eth (tM I) n (pS (tM I) n u k))) hX d J σ Φ (by omega) hJ hB hc hΦ
theorem CM.more {μ : MD} {f : PS → PS} {need' : Nat} (h : CM Γ g P I n μ op need f) (hle : need ≤ need') : CM Γ g P I n μ op need' f := fun d J σ Φ hd => h d J σ Φ (by omega)
theorem m_up {k : Nat} (hX : MX g P I n u) (hg : Gd n (pS (tM I) n u k)) (h : CM Γ g P I n mX12_one op (need + 1) (pS (tM I) n u k)) : CM Γ g P I n mX12_either op (need + 6) (eth (tM I) n (pS (tM I) n u k)) := m_either hX (gd_bth hg) (m_both hX (gd_cmd hg) (m_compared hX (gd_smm hg) (m_sum hX (gd_prd hg) (m_product hX hg h))))
theorem m_all (hX : MX g P I n u) : ∀ k op, k + op = 5 → CM Γ g P I n mX12_one op (8 + 8 * k) (pS (tM I) n u k)
  | 0, op, h => by
    have : op = 5 := by omega
    subst this
    exact m_one0 hX
  | k + 1, op, h => by
    have h1 := m_all hX k (op + 1) (by omega)
    have hg := pS_Gd (tM I) n hX.2.2.2.2.1 k
    have h2 := m_up (need := 7 + 8 * k) hX hg (h1.more (by omega))
    exact (m_oneS (need := 13 + 8 * k) hX (by omega) (by omega) hg (gd_eth hg) (h1.more (by omega)) (h2.more (by omega))).more (by omega)
end
