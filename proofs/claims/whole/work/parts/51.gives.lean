/-! what a text gives -/
/-- the whole of a text, read -/
def rdT (t : Nat → Int32) (n u : Nat) : PS := eth t n (pS t n u 5) (0, false, [])
def vof (nm : Nat → Int32) (δ : List Int32) : Int32 := (xec nm δ []).headD 0
def nm4 (a b c d : Int32) : Nat → Int32 := fun i => if i = 0 then a else if i = 1 then b else if i = 2 then c else d
def gvl (u : Nat) (δ : List Int32) (a b c d : Int32) : Int32 := if u = 0 then hel (vof (nm4 a b c d) δ) 0 99 else vof (nm4 a b c d) δ
def flt (σ : PS) (n : Nat) : Int32 := if σ.2.1 = true ∨ σ.1 < n then nI σ.1 else -1
/-- a value under a name that nothing looks through -/
theorem hid {α : Type} (a : α) : ∃ x, Unit → a = x := ⟨a, fun _ => rfl⟩
/-- pointers are the same but for what the reader reads -/
def PF (P P' : HP) : Prop := (∀ a, a ≠ 17 → P' a = P a) ∧ P' 17 0 = P 17 0
theorem PF.refl (P : HP) : PF P P := ⟨fun _ _ => rfl, rfl⟩
theorem PF.trans {P P' P'' : HP} (h : PF P P') (h2 : PF P' P'') : PF P P'' := ⟨fun a ha => (h2.1 a ha).trans (h.1 a ha), h2.2.trans h.2⟩
theorem RS.pf {g : Sh} {P P' : HP} (hp : PF P P') {r q n : Nat} (hr : r ≠ 17) (h : RS g P r q n) : RS g P' r q n := ⟨h.1, by rw [hp.1 r hr]; exact h.2.1, h.2.2.1, h.2.2.2⟩
theorem St.pf {g : Sh} {P P' : HP} (hp : PF P P') {B : Nat} (hB : 17 < B) (h : St g P B) : St g P' B := by
  obtain ⟨h1, h2, h3, ⟨w1, w2, w3, w4⟩, h5, h6, h7, h8, h9, h10⟩ := h
  have e0 : P' B = P B := hp.1 B (by omega)
  have e1 : P' (B + 1) = P (B + 1) := hp.1 (B + 1) (by omega)
  refine ⟨h1, by rw [e0]; exact h2, by rw [e0]; exact h3, ⟨w1, by rw [e1]; exact w2, w3, w4⟩, by rw [e0]; exact h5, by rw [e0]; exact h6, by rw [e0]; exact h7, by rw [e0]; exact h8, by rw [e0]; exact h9, fun q hq => ⟨by rw [e0]; exact (h10 q hq).1, RS.pf hp (by omega) (h10 q hq).2⟩⟩
theorem Ly.pf {g : Sh} {P P' : HP} (hp : PF P P') (h : Ly g P) : Ly g P' := by
  obtain ⟨⟨a1, a2, a3, a4, a5⟩, ⟨b1, b2, b3⟩, c, ⟨d1, d2⟩, e, f, i, j, k, l, ⟨m1, m2, m3⟩, n⟩ := h
  have e16 : P' 16 = P 16 := hp.1 16 (by decide)
  have e96 : P' 96 = P 96 := hp.1 96 (by decide)
  refine ⟨⟨a1, by rw [e16]; exact a2, by rw [e16]; exact a3, by rw [e16]; exact a4, by rw [e16]; exact a5⟩, ⟨b1.pf hp (by decide), b2.pf hp (by decide), b3.pf hp (by decide)⟩, by rw [e16]; exact c, ⟨by rw [e16]; exact d1, RS.pf hp (by decide) d2⟩, by rw [e16]; exact e, by rw [e16]; exact f, by rw [e16]; exact i, by rw [e16]; exact j, by rw [e16]; exact k, fun q hq => ⟨by rw [e96]; exact (l q hq).1, RS.pf hp (by omega) (l q hq).2⟩, ⟨m1, by rw [hp.2]; exact m2, m3⟩, n⟩
theorem Mo.pf {g : Sh} {P P' : HP} (hp : PF P P') (h : Mo g P) : Mo g P' := by
  obtain ⟨a, b, c1, c2, c3, c4, c5⟩ := h
  have e9 : P' 109 = P 109 := hp.1 109 (by decide)
  have e6 : P' 116 = P 116 := hp.1 116 (by decide)
  exact ⟨a, fun q hq => by rw [e9]; exact b q hq, by rw [e9]; exact c1, c2, c3, by rw [e6]; exact c4, by rw [e6]; exact c5⟩
section
variable {Γ : GE} {d : Nat} {g : Sh} {P : HP} {I : HI} {Φ : Option Value → Sh → HP → HI → Prop}
theorem hr_end {t : Nat → Int32} {n : Nat} {σ : PS} (hB : ∀ i, i < n → ∃ b, b < 256 ∧ t i = nI b) (h : hr t n σ = -1) : σ.2.1 = true ∨ ¬ σ.1 < n := by
  cases hw : σ.2.1 with
  | true => exact Or.inl rfl
  | false =>
    refine Or.inr (fun hp => ?_)
    obtain ⟨b, b1, b2⟩ := hB σ.1 hp
    unfold hr at h
    rw [if_pos ⟨hw, hp⟩, b2] at h
    have := congrArg Int32.toInt h
    rw [nI_toInt (by omega)] at this
    have e : (-1 : Int32).toInt = -1 := rfl
    omega
theorem c_gives {r q n u : Nat} {x a b c e : Int32} (hd : 54 ≤ d) (hL : Ly g P) (hR : Rw g P I r q 50 n) (hq : q ≠ 18) (hB : ∀ i, i < n → ∃ b, b < 256 ∧ I q i = nI b) (hx : x = nI u) (hu : u ≤ 1)
    (hΦ : ∀ v P' J, PF P P' → (∀ a, a ≠ 17 → a ≠ 18 → J a = I a) → J 17 4 = flt (rdT (I q) n u) n → ((rdT (I q) n u).2.1 = false → (rdT (I q) n u).1 = n → v = gvl u (rdT (I q) n u).2.2 a b c e) → Φ (some (.int v)) g P' J) : MM Γ mX4_gives d 0 0 [.ref 17, .ref r, .int x, .int a, .int b, .int c, .int e] g P I Φ := by
  obtain ⟨σ, hσ⟩ := hid (rdT (I q) n u)
  rw [hσ ()] at hΦ
  obtain ⟨z1, z2, z3, z4⟩ := hL.rea
  obtain ⟨y1, y2, y3, y4, y5, y6, y7⟩ := hR
  have nr17 : r ≠ 17 := fun h => by have q := y1.1; rw [h, z1.1] at q; exact absurd q (by decide)
  have nq17 : q ≠ 17 := fun h => by have q := y3.1; rw [h, z1.1] at q; exact absurd q (by decide)
  have nr18 : r ≠ 18 := fun h => by have q := y1.1; rw [h, z3.1] at q; exact absurd q (by decide)
  generalize hP2 : u2 (u2 P 17 1 (some r)) 17 2 (some (1 + u)) = P2
  generalize hI1 : u2 (u2 (u2 (u2 I 18 0 a) 18 1 b) 18 2 c) 18 3 e = I1
  have p0 : P2 17 0 = some 18 := by rw [← hP2, u2_o (by decide), u2_o (by decide)]; exact z2
  have p1 : P2 17 1 = some r := by rw [← hP2, u2_o (by decide), u2_s]
  have p2 : P2 17 2 = some (1 + u) := by rw [← hP2, u2_s]
  have pf : PF P P2 := ⟨fun k hk => by rw [← hP2, u2_oth _ hk, u2_oth _ hk], by rw [p0, z2]⟩
  have i1 : ∀ k, k ≠ 18 → I1 k = I k := fun k hk => by rw [← hI1, u2_oth _ hk, u2_oth _ hk, u2_oth _ hk, u2_oth _ hk]
  have hX : RX g P2 I1 r q n u := ⟨z1, p0, ⟨z3, z4⟩, p1, ⟨y1, by rw [pf.1 r nr17]; exact y2, y3, y4, by rw [i1 r nr18]; exact y5, y6, y7⟩, p2, hu, by rw [i1 q hq]; exact hB⟩
  have hnm : ∀ i, i < 4 → I1 18 i = nm4 a b c e i := by
    intro i hi
    rw [← hI1]
    match i, hi with
    | 0, _ => rw [u2_o (by decide), u2_o (by decide), u2_o (by decide), u2_s]; rfl
    | 1, _ => rw [u2_o (by decide), u2_o (by decide), u2_s]; rfl
    | 2, _ => rw [u2_o (by decide), u2_s]; rfl
    | 3, _ => rw [u2_s]; rfl
  have hE : CK Γ g P2 I1 n (nm4 a b c e) mX4_either 0 53 (eth (I1 q) n (pS (I1 q) n u 5)) := r_up (need := 47) hX (r_all hX hnm 5 0 rfl)
  have hE2 : ∀ (J : HI) (Φ : Option Value → Sh → HP → HI → Prop), RC I1 J n (0, false, []) → (∀ v J', RC I1 J' n σ → RV (nm4 a b c e) (0, false, []) σ v → Φ (some (.int v)) g P2 J') → MM Γ mX4_either (d - 1) 0 0 [.ref 17, .int 0] g P2 J Φ := by
    intro J Φ h1 h2
    have h3 := hE (d - 1) J (0, false, []) Φ (by omega) h1
    have hs : eth (I q) n (pS (I q) n u 5) (0, false, []) = σ := hσ ()
    rw [i1 q hq, hs] at h3
    exact h3 h2
  have tail : ∀ (v : Int32) (J : HI), RC I1 J n σ → RV (nm4 a b c e) (0, false, []) σ v → E Γ mX4_gives d 0 0 (QM Γ 0 0 Φ) 0 0 66 [some (.ref 17), some (.ref r), some (.int x), some (.int a), some (.int b), some (.int c), some (.int e), none] [.int v] g P2 J := by
    intro v J hJ hv
    have eh : hr (I1 q) n σ = hr (I q) n σ := by rw [i1 q hq]
    have fin : ∀ (J3 : HI) (w : Int32), (∀ k, k ≠ 17 → J3 k = I1 k) → J3 17 4 = flt σ n → (σ.2.1 = false → σ.1 = n → w = gvl u σ.2.2 a b c e) → Φ (some (.int w)) g P2 J3 := fun J3 w k1 k2 k3 => hΦ w P2 J3 pf (fun k h1 h2 => by rw [k1 k h1, i1 k h2]) k2 k3
    have hval : σ.2.1 = false → vof (nm4 a b c e) σ.2.2 = v := by
      intro hw
      obtain ⟨δ, d1, d2⟩ := hv hw
      rw [d1]
      show (xec (nm4 a b c e) ([] ++ δ) []).headD 0 = v
      rw [List.nil_append, d2]
      rfl
    have hv0 : u = 0 → σ.2.1 = false → σ.1 = n → hel v 0 99 = gvl u σ.2.2 a b c e := fun h0 hw _ => by unfold gvl; rw [if_pos h0, hval hw]
    have hv1 : ¬ u = 0 → σ.2.1 = false → σ.1 = n → v = gvl u σ.2.2 a b c e := fun h0 hw _ => by unfold gvl; rw [if_neg h0, hval hw]
    have hx0 : x = 0 ↔ u = 0 := by rw [hx]; exact nI_eq (b := 0) (by omega) (by omega)
    by_cases hend : hr (I1 q) n σ = -1
    · have hf : J 17 4 = flt σ n := by
        rw [hJ.2.2.1]
        unfold flt
        rw [eh] at hend
        rcases hr_end hB hend with h | h
        · rw [if_pos h, if_pos (Or.inl h)]
        · by_cases hw : σ.2.1 = true
          · rw [if_pos hw, if_pos (Or.inl hw)]
          · rw [if_neg hw, if_neg (fun k => k.elim hw h)]
      by_cases h0 : u = 0
      · refine E_istoreC dX4_gives_66 (by decide) rfl ?_
        refine E_lv (lv' := [_, _, _, _, _, _, _, _]) rfl ?_
        refine E_aload_n (i := 0) dX4_gives_68 rfl rfl ?_
        refine k_X4_gives_69 (mc' := 0) (ms' := 0) (rc := 0) (rs := 0) (by omega) (Nat.le_of_ble_eq_true rfl) (by assumption) (c_next hX hJ ?_)
        refine E_iconst (v := -1) dX4_gives_72 (by decide) ?_
        refine E_icmp_eq (tgt := 81) dX4_gives_73 (by decide) (fun c_73 => ?_) (fun c_73 => absurd (hend) c_73)
        refine E_iload_n (i := 2) dX4_gives_81 rfl rfl ?_
        refine E_if_ne (tgt := 96) dX4_gives_82 (by decide) (fun c_82 => absurd (hx0.mpr h0) c_82) (fun c_82 => ?_)
        refine E_iload dX4_gives_85 rfl ?_
        refine E_iconst (v := 0) dX4_gives_87 (by decide) ?_
        refine E_bipush (v := 99) dX4_gives_88 (by decide) ?_
        refine k_X4_gives_90 (mc' := 0) (ms' := 0) (rc := 0) (rs := 0) (by omega) (Nat.le_of_ble_eq_true rfl) (c_X11_held (by omega) ?_)
        refine E_goto (tgt := 98) dX4_gives_93 (by decide) ?_
        refine E_iret dX4_gives_98 rfl ?_
        exact fin _ _ hJ.1 hf (hv0 h0)
      · refine E_istoreC dX4_gives_66 (by decide) rfl ?_
        refine E_lv (lv' := [_, _, _, _, _, _, _, _]) rfl ?_
        refine E_aload_n (i := 0) dX4_gives_68 rfl rfl ?_
        refine k_X4_gives_69 (mc' := 0) (ms' := 0) (rc := 0) (rs := 0) (by omega) (Nat.le_of_ble_eq_true rfl) (by assumption) (c_next hX hJ ?_)
        refine E_iconst (v := -1) dX4_gives_72 (by decide) ?_
        refine E_icmp_eq (tgt := 81) dX4_gives_73 (by decide) (fun c_73 => ?_) (fun c_73 => absurd (hend) c_73)
        refine E_iload_n (i := 2) dX4_gives_81 rfl rfl ?_
        refine E_if_ne (tgt := 96) dX4_gives_82 (by decide) (fun c_82 => ?_) (fun c_82 => absurd c_82 (fun h => h0 (hx0.mp h)))
        refine E_iload dX4_gives_96 rfl ?_
        refine E_iret dX4_gives_98 rfl ?_
        exact fin _ _ hJ.1 hf (hv1 h0)
    · have hl := hr_lt hend
      have hf : ∀ J3, RC I1 J3 n (wrg σ) → J3 17 4 = flt σ n := by
        intro J3 h3
        rw [h3.2.2.1]
        unfold flt
        rw [if_pos (Or.inr hl.2)]
        exact if_pos rfl
      by_cases h0 : u = 0
      · refine E_istoreC dX4_gives_66 (by decide) rfl ?_
        refine E_lv (lv' := [_, _, _, _, _, _, _, _]) rfl ?_
        refine E_aload_n (i := 0) dX4_gives_68 rfl rfl ?_
        refine k_X4_gives_69 (mc' := 0) (ms' := 0) (rc := 0) (rs := 0) (by omega) (Nat.le_of_ble_eq_true rfl) (by assumption) (c_next hX hJ ?_)
        refine E_iconst (v := -1) dX4_gives_72 (by decide) ?_
        refine E_icmp_eq (tgt := 81) dX4_gives_73 (by decide) (fun c_73 => absurd c_73 (hend)) (fun c_73 => ?_)
        refine E_aload_n (i := 0) dX4_gives_76 rfl rfl ?_
        refine k_X4_gives_77 (mc' := 0) (ms' := 0) (rc := 0) (rs := 0) (by omega) (Nat.le_of_ble_eq_true rfl) (by assumption) (c_stopHere hX hJ (fun J3 r3 => ?_))
        refine E_pop dX4_gives_80 rfl ?_
        refine E_iload_n (i := 2) dX4_gives_81 rfl rfl ?_
        refine E_if_ne (tgt := 96) dX4_gives_82 (by decide) (fun c_82 => absurd (hx0.mpr h0) c_82) (fun c_82 => ?_)
        refine E_iload dX4_gives_85 rfl ?_
        refine E_iconst (v := 0) dX4_gives_87 (by decide) ?_
        refine E_bipush (v := 99) dX4_gives_88 (by decide) ?_
        refine k_X4_gives_90 (mc' := 0) (ms' := 0) (rc := 0) (rs := 0) (by omega) (Nat.le_of_ble_eq_true rfl) (c_X11_held (by omega) ?_)
        refine E_goto (tgt := 98) dX4_gives_93 (by decide) ?_
        refine E_iret dX4_gives_98 rfl ?_
        exact fin _ _ r3.1 (hf _ r3) (hv0 h0)
      · refine E_istoreC dX4_gives_66 (by decide) rfl ?_
        refine E_lv (lv' := [_, _, _, _, _, _, _, _]) rfl ?_
        refine E_aload_n (i := 0) dX4_gives_68 rfl rfl ?_
        refine k_X4_gives_69 (mc' := 0) (ms' := 0) (rc := 0) (rs := 0) (by omega) (Nat.le_of_ble_eq_true rfl) (by assumption) (c_next hX hJ ?_)
        refine E_iconst (v := -1) dX4_gives_72 (by decide) ?_
        refine E_icmp_eq (tgt := 81) dX4_gives_73 (by decide) (fun c_73 => absurd c_73 (hend)) (fun c_73 => ?_)
        refine E_aload_n (i := 0) dX4_gives_76 rfl rfl ?_
        refine k_X4_gives_77 (mc' := 0) (ms' := 0) (rc := 0) (rs := 0) (by omega) (Nat.le_of_ble_eq_true rfl) (by assumption) (c_stopHere hX hJ (fun J3 r3 => ?_))
        refine E_pop dX4_gives_80 rfl ?_
        refine E_iload_n (i := 2) dX4_gives_81 rfl rfl ?_
        refine E_if_ne (tgt := 96) dX4_gives_82 (by decide) (fun c_82 => ?_) (fun c_82 => absurd c_82 (fun h => h0 (hx0.mp h)))
        refine E_iload dX4_gives_96 rfl ?_
        refine E_iret dX4_gives_98 rfl ?_
        exact fin _ _ r3.1 (hf _ r3) (hv1 h0)
  have hRC : RC I1 (u2 (u2 I1 17 3 0) 17 4 (-1)) n (0, false, []) := ⟨fun k hk => by rw [u2_oth _ hk, u2_oth _ hk], by rw [u2_o (by decide), u2_s]; rfl, by rw [u2_s]; rfl, Nat.zero_le _⟩
  refine MM_entry [some _, some _, some _, some _, some _, some _, some _, none] (by decide) (Nat.le_of_ble_eq_true rfl) rfl ?_
  have q0 : ∀ v w, (u2 (u2 P 17 1 v) 17 2 w) 17 0 = some 18 := fun v w => by rw [u2_o (by decide), u2_o (by decide)]; exact z2
  by_cases h0 : u = 0
  · subst h0
    refine E_aload_n (i := 0) dX4_gives_0 rfl rfl ?_
    refine E_aload_n (i := 1) dX4_gives_1 rfl rfl ?_
    refine E_pr dX4_gives_2 gf_X4_20_4 rfl (by assumption) ?_
    refine E_aload_n (i := 0) dX4_gives_5 rfl rfl ?_
    refine E_iload_n (i := 2) dX4_gives_6 rfl rfl ?_
    refine E_if_ne (tgt := 15) dX4_gives_7 (by decide) (fun c_7 => absurd (by rw [hx]; rfl) c_7) (fun c_7 => ?_)
    refine E_ldcS (j := 1) (tx := "wps") dX4_gives_10 (by decide) (by decide) ?_
    refine E_goto (tgt := 17) dX4_gives_12 (by decide) ?_
    refine E_pr dX4_gives_17 gf_X4_26_4 rfl (by assumption) ?_
    refine E_aload_n (i := 0) dX4_gives_20 rfl rfl ?_
    refine E_gr dX4_gives_21 gf_X4_9_4 rfl (by assumption) (q0 _ _) ?_
    refine E_iconst (v := 0) dX4_gives_24 (by decide) ?_
    refine E_iload_n (i := 3) dX4_gives_25 rfl rfl ?_
    refine E_isj 0 dX4_gives_26 (by assumption) rfl (by first | decide | omega) (by rw [z4]; decide) ?_
    refine E_aload_n (i := 0) dX4_gives_27 rfl rfl ?_
    refine E_gr dX4_gives_28 gf_X4_9_4 rfl (by assumption) (q0 _ _) ?_
    refine E_iconst (v := 1) dX4_gives_31 (by decide) ?_
    refine E_iload dX4_gives_32 rfl ?_
    refine E_isj 1 dX4_gives_34 (by assumption) rfl (by first | decide | omega) (by rw [z4]; decide) ?_
    refine E_aload_n (i := 0) dX4_gives_35 rfl rfl ?_
    refine E_gr dX4_gives_36 gf_X4_9_4 rfl (by assumption) (q0 _ _) ?_
    refine E_iconst (v := 2) dX4_gives_39 (by decide) ?_
    refine E_iload dX4_gives_40 rfl ?_
    refine E_isj 2 dX4_gives_42 (by assumption) rfl (by first | decide | omega) (by rw [z4]; decide) ?_
    refine E_aload_n (i := 0) dX4_gives_43 rfl rfl ?_
    refine E_gr dX4_gives_44 gf_X4_9_4 rfl (by assumption) (q0 _ _) ?_
    refine E_iconst (v := 3) dX4_gives_47 (by decide) ?_
    refine E_iload dX4_gives_48 rfl ?_
    refine E_isj 3 dX4_gives_50 (by assumption) rfl (by first | decide | omega) (by rw [z4]; decide) ?_
    rw [hI1, show u2 (u2 P 17 1 (some r)) 17 2 (some 1) = P2 from hP2]
    refine E_aload_n (i := 0) dX4_gives_51 rfl rfl ?_
    refine E_iconst (v := 0) dX4_gives_52 (by decide) ?_
    refine E_pi dX4_gives_53 gf_X4_30_4 rfl (by assumption) ?_
    refine E_aload_n (i := 0) dX4_gives_56 rfl rfl ?_
    refine E_iconst (v := -1) dX4_gives_57 (by decide) ?_
    refine E_pi dX4_gives_58 gf_X4_34_4 rfl (by assumption) ?_
    refine E_aload_n (i := 0) dX4_gives_61 rfl rfl ?_
    refine E_iconst (v := 0) dX4_gives_62 (by decide) ?_
    refine k_X4_gives_63 (mc' := 0) (ms' := 0) (rc := 0) (rs := 0) (by omega) (Nat.le_of_ble_eq_true rfl) (by assumption) (hE2 _ _ hRC (fun v J r1 r2 => ?_))
    exact tail v J r1 r2
  · have h1 : u = 1 := by omega
    subst h1
    refine E_aload_n (i := 0) dX4_gives_0 rfl rfl ?_
    refine E_aload_n (i := 1) dX4_gives_1 rfl rfl ?_
    refine E_pr dX4_gives_2 gf_X4_20_4 rfl (by assumption) ?_
    refine E_aload_n (i := 0) dX4_gives_5 rfl rfl ?_
    refine E_iload_n (i := 2) dX4_gives_6 rfl rfl ?_
    refine E_if_ne (tgt := 15) dX4_gives_7 (by decide) (fun c_7 => ?_) (fun c_7 => absurd c_7 (by rw [hx]; decide))
    refine E_ldcS (j := 2) (tx := "wvst") dX4_gives_15 (by decide) (by decide) ?_
    refine E_pr dX4_gives_17 gf_X4_26_4 rfl (by assumption) ?_
    refine E_aload_n (i := 0) dX4_gives_20 rfl rfl ?_
    refine E_gr dX4_gives_21 gf_X4_9_4 rfl (by assumption) (q0 _ _) ?_
    refine E_iconst (v := 0) dX4_gives_24 (by decide) ?_
    refine E_iload_n (i := 3) dX4_gives_25 rfl rfl ?_
    refine E_isj 0 dX4_gives_26 (by assumption) rfl (by first | decide | omega) (by rw [z4]; decide) ?_
    refine E_aload_n (i := 0) dX4_gives_27 rfl rfl ?_
    refine E_gr dX4_gives_28 gf_X4_9_4 rfl (by assumption) (q0 _ _) ?_
    refine E_iconst (v := 1) dX4_gives_31 (by decide) ?_
    refine E_iload dX4_gives_32 rfl ?_
    refine E_isj 1 dX4_gives_34 (by assumption) rfl (by first | decide | omega) (by rw [z4]; decide) ?_
    refine E_aload_n (i := 0) dX4_gives_35 rfl rfl ?_
    refine E_gr dX4_gives_36 gf_X4_9_4 rfl (by assumption) (q0 _ _) ?_
    refine E_iconst (v := 2) dX4_gives_39 (by decide) ?_
    refine E_iload dX4_gives_40 rfl ?_
    refine E_isj 2 dX4_gives_42 (by assumption) rfl (by first | decide | omega) (by rw [z4]; decide) ?_
    refine E_aload_n (i := 0) dX4_gives_43 rfl rfl ?_
    refine E_gr dX4_gives_44 gf_X4_9_4 rfl (by assumption) (q0 _ _) ?_
    refine E_iconst (v := 3) dX4_gives_47 (by decide) ?_
    refine E_iload dX4_gives_48 rfl ?_
    refine E_isj 3 dX4_gives_50 (by assumption) rfl (by first | decide | omega) (by rw [z4]; decide) ?_
    rw [hI1, show u2 (u2 P 17 1 (some r)) 17 2 (some 2) = P2 from hP2]
    refine E_aload_n (i := 0) dX4_gives_51 rfl rfl ?_
    refine E_iconst (v := 0) dX4_gives_52 (by decide) ?_
    refine E_pi dX4_gives_53 gf_X4_30_4 rfl (by assumption) ?_
    refine E_aload_n (i := 0) dX4_gives_56 rfl rfl ?_
    refine E_iconst (v := -1) dX4_gives_57 (by decide) ?_
    refine E_pi dX4_gives_58 gf_X4_34_4 rfl (by assumption) ?_
    refine E_aload_n (i := 0) dX4_gives_61 rfl rfl ?_
    refine E_iconst (v := 0) dX4_gives_62 (by decide) ?_
    refine k_X4_gives_63 (mc' := 0) (ms' := 0) (rc := 0) (rs := 0) (by omega) (Nat.le_of_ble_eq_true rfl) (by assumption) (hE2 _ _ hRC (fun v J r1 r2 => ?_))
    exact tail v J r1 r2
theorem c_faultOf {r q n u : Nat} {x : Int32} (hd : 55 ≤ d) (hL : Ly g P) (hR : Rw g P I r q 50 n) (hq : q ≠ 18) (hB : ∀ i, i < n → ∃ b, b < 256 ∧ I q i = nI b) (hx : x = nI u) (hu : u ≤ 1)
    (hΦ : ∀ P' J, PF P P' → (∀ a, a ≠ 17 → a ≠ 18 → J a = I a) → Φ (some (.int (flt (rdT (I q) n u) n))) g P' J) : MM Γ mX4_faultOf d 0 0 [.ref 17, .ref r, .int x] g P I Φ := by
  refine MM_entry [some _, some _, some _] (by decide) (Nat.le_of_ble_eq_true rfl) rfl ?_
  have z1 := hL.rea.1
  refine E_aload_n (i := 0) dX4_faultOf_0 rfl rfl ?_
  refine E_aload_n (i := 1) dX4_faultOf_1 rfl rfl ?_
  refine E_iload_n (i := 2) dX4_faultOf_2 rfl rfl ?_
  refine E_iconst (v := 0) dX4_faultOf_3 (by decide) ?_
  refine E_iconst (v := 0) dX4_faultOf_4 (by decide) ?_
  refine E_iconst (v := 0) dX4_faultOf_5 (by decide) ?_
  refine E_iconst (v := 0) dX4_faultOf_6 (by decide) ?_
  refine k_X4_faultOf_7 (mc' := 0) (ms' := 0) (rc := 0) (rs := 0) (by omega) (Nat.le_of_ble_eq_true rfl) (by assumption) (c_gives (by omega) hL hR hq hB hx hu (fun v P' J f1 f2 f3 f4 => ?_))
  refine E_pop dX4_faultOf_10 rfl ?_
  refine E_aload_n (i := 0) dX4_faultOf_11 rfl rfl ?_
  refine E_gi dX4_faultOf_12 gf_X4_34_4 rfl (by assumption) ?_
  rw [f3]
  refine E_iret dX4_faultOf_15 rfl ?_
  exact hΦ P' J f1 f2
theorem flt_ok {σ : PS} {n : Nat} (h : σ.2.1 = false ∧ ¬ σ.1 < n) : flt σ n = -1 := if_neg (fun k => k.elim (fun q => by rw [h.1] at q; cases q) h.2)
theorem flt_no {σ : PS} {n : Nat} (h : ¬ (σ.2.1 = false ∧ ¬ σ.1 < n)) : flt σ n = nI σ.1 := if_pos (by
  cases hw : σ.2.1 with
  | true => exact Or.inl rfl
  | false => exact Or.inr (Classical.byContradiction fun k => h ⟨hw, k⟩))
theorem rdT_le (t : Nat → Int32) (n : Nat) {u : Nat} (hu : u ≤ 1) : (rdT t n u).1 ≤ n := (gd_eth (t := t) (pS_Gd t n hu 5) (0, false, [])).2.2.1 (Nat.zero_le _)
theorem x01 {x : Int32} (h : 0 ≤ x ∧ x ≤ 1) : ∃ u, x = nI u ∧ u ≤ 1 := in_04 (n := 1) (by omega) h
theorem c_X11_text {x : Int32} {n : Nat} {nt : Nat → Nat} (hd : 57 ≤ d) (hL : Ly g P) (hn : I 29 1 = nI n) (n50 : n ≤ 50) (hB : ∀ i, i < n → ∃ b, b < 256 ∧ I 30 i = nI b) (hk : ∀ u, u ≤ 1 → I (31 + 2 * u) 1 = nI (nt u) ∧ nt u ≤ 50)
    (h1 : ∀ u, x = nI u → u ≤ 1 → ((rdT (I 30) n u).2.1 = false ∧ ¬ (rdT (I 30) n u).1 < n) → ∀ P' J, PF P P' → (∀ a, a ≠ 17 → a ≠ 18 → a ≠ 29 → a ≠ 31 + 2 * u → a ≠ 32 + 2 * u → J a = I a) → J 29 1 = 0 → J (31 + 2 * u) 1 = nI n → (∀ i, i < n → J (32 + 2 * u) i = I 30 i) → Φ (some (.int 1)) g P' J)
    (h2 : ∀ u, x = nI u → u ≤ 1 → ¬ ((rdT (I 30) n u).2.1 = false ∧ ¬ (rdT (I 30) n u).1 < n) → ∀ P' J, PF P P' → (∀ a, a ≠ 17 → a ≠ 18 → a ≠ 29 → J a = I a) → J 29 1 = 0 → Φ (some (.int (-10 - nI (rdT (I 30) n u).1))) g P' J)
    (h3 : ¬ (0 ≤ x ∧ x ≤ 1) → Φ (some (.int (er 1))) g P (fl I 1)) : MM Γ mX11_text d 0 0 [.ref 16, .int x] g P I Φ := by
  refine MM_entry [some _, some _, none] (by decide) (Nat.le_of_ble_eq_true rfl) rfl ?_
  have l0 := hL.gw
  have l1 := hL.live
  have l2 := hL.s21.c
  have l3 := hL.r16
  have l4 := hL.rea.1
  obtain ⟨t1, t2⟩ : P 21 10 = some 29 ∧ RS g P 29 30 50 := hL.s21.tape
  have hR : Rw g P I 29 30 50 n := t2.w hn n50 (by omega)
  by_cases hc : 0 ≤ x ∧ x ≤ 1
  · obtain ⟨u, hx, hu⟩ := x01 hc
    have hrow : RS g P (31 + 2 * u) (32 + 2 * u) 50 := by
      match u, hu with
      | 0, _ => exact hL.s21.wear.2
      | 1, _ => exact hL.s21.goes.2
    have e31 : (if x = 0 then 21 + 10 else 21 + 12) = 31 + 2 * u := by
      rw [hx]
      match u, hu with
      | 0, _ => rfl
      | 1, _ => rfl
    have hh1 := h1 u hx hu
    have hh2 := h2 u hx hu
    have hle := rdT_le (I 30) n hu
    obtain ⟨σ, hσ⟩ := hid (rdT (I 30) n u)
    rw [hσ ()] at hh1 hh2 hle
    clear h1 h2
    by_cases hg : σ.2.1 = false ∧ ¬ σ.1 < n
    · refine E_iload_n (i := 1) dX11_text_0 rfl rfl ?_
      refine E_iconst (v := 0) dX11_text_1 (by decide) ?_
      refine E_iconst (v := 1) dX11_text_2 (by decide) ?_
      refine k_X11_text_3 (mc' := 0) (ms' := 0) (rc := 0) (rs := 0) (by omega) (Nat.le_of_ble_eq_true rfl) (c_X11_within ?_)
      rw [bz_t hc]
      refine E_if_ne (tgt := 15) dX11_text_6 (by decide) (fun c_6 => ?_) (fun c_6 => absurd c_6 (by decide))
      refine E_aload_n (i := 0) dX11_text_15 rfl rfl ?_
      refine E_gr dX11_text_16 gf_X11_10_11 rfl (by assumption) (by assumption) ?_
      refine E_aload_n (i := 0) dX11_text_19 rfl rfl ?_
      refine E_gr dX11_text_20 gf_X11_21_11 rfl (by assumption) (by assumption) ?_
      refine E_gr dX11_text_23 gf_X11_156_8 rfl (by assumption) (by assumption) ?_
      refine E_iload_n (i := 1) dX11_text_26 rfl rfl ?_
      refine k_X11_text_27 (mc' := 0) (ms' := 0) (rc := 0) (rs := 0) (by omega) (Nat.le_of_ble_eq_true rfl) (by assumption) (c_faultOf (by omega) hL hR (by decide) hB hx hu (fun P' J f1 f2 => ?_))
      rw [hσ (), flt_ok hg]
      have hL' := hL.pf f1
      have l1' := hL'.live
      have l2' := hL'.s21.c
      obtain ⟨t1', t2'⟩ : P' 21 10 = some 29 ∧ RS g P' 29 30 50 := hL'.s21.tape
      have hrow' := RS.pf f1 (by omega) hrow
      have j29 : J 29 = I 29 := f2 29 (by decide) (by decide)
      have j30 : J 30 = I 30 := f2 30 (by decide) (by decide)
      have jr : J (31 + 2 * u) = I (31 + 2 * u) := f2 _ (by omega) (by omega)
      have jq : J (32 + 2 * u) = I (32 + 2 * u) := f2 _ (by omega) (by omega)
      have hR1 : Rw g P' J 29 30 50 n := t2'.w (by rw [j29]; exact hn) n50 (by omega)
      have hR2 : Rw g P' J (31 + 2 * u) (32 + 2 * u) 50 (nt u) := hrow'.w (by rw [jr]; exact (hk u hu).1) (hk u hu).2 (by omega)
      refine E_istore_nC (i := 2) dX11_text_30 rfl (by decide) rfl ?_
      refine E_lv (lv' := [_, _, _]) rfl ?_
      refine E_iload_n (i := 2) dX11_text_31 rfl rfl ?_
      refine E_if_ge (tgt := 53) dX11_text_32 (by decide) (fun c_32 => absurd c_32 (by decide)) (fun c_32 => ?_)
      refine E_aload_n (i := 0) dX11_text_35 rfl rfl ?_
      refine E_gr dX11_text_36 gf_X11_21_11 rfl (by assumption) (by assumption) ?_
      refine E_iload_n (i := 1) dX11_text_39 rfl rfl ?_
      refine k_X11_text_40 (mc' := 0) (ms' := 0) (rc := 0) (rs := 0) (by omega) (Nat.le_of_ble_eq_true rfl) (by assumption) (c_X8_textOf hL'.s21 ?_)
      rw [e31]
      refine E_aload_n (i := 0) dX11_text_43 rfl rfl ?_
      refine E_gr dX11_text_44 gf_X11_21_11 rfl (by assumption) (by assumption) ?_
      refine E_gr dX11_text_47 gf_X11_156_8 rfl (by assumption) (by assumption) ?_
      refine k_X11_text_50 (mc' := 0) (ms' := 0) (rc := 0) (rs := 0) (by omega) (Nat.le_of_ble_eq_true rfl) hrow'.1 (c_X7_copyFrom (by omega) hR2 hR1 n50 (by omega) ?_)
      refine E_aload_n (i := 0) dX11_text_53 rfl rfl ?_
      refine E_gr dX11_text_54 gf_X11_21_11 rfl (by assumption) (by assumption) ?_
      refine E_gr dX11_text_57 gf_X11_156_8 rfl (by assumption) (by assumption) ?_
      refine k_X11_text_60 (mc' := 0) (ms' := 0) (rc := 0) (rs := 0) (by omega) (Nat.le_of_ble_eq_true rfl) t2'.1 (c_X7_clear (q := 30) (n := 50) (k := n) (t2'.w (by rw [ur_n _ _ (by omega), u2_oth _ (by omega), j29]; exact hn) n50 (by omega)) ?_)
      refine E_iload_n (i := 2) dX11_text_63 rfl rfl ?_
      refine E_if_ge (tgt := 71) dX11_text_64 (by decide) (fun c_64 => absurd c_64 (by decide)) (fun c_64 => ?_)
      refine E_iconst (v := 1) dX11_text_67 (by decide) ?_
      refine E_goto (tgt := 75) dX11_text_68 (by decide) ?_
      refine E_iret dX11_text_75 rfl ?_
      refine hh1 hg P' _ f1 (fun k k1 k2 k3 k4 k5 => ?_) (u2_s _ _ _ _) ?_ (fun i hi => ?_)
      · rw [u2_oth _ k3, ur_n _ _ k5, u2_oth _ k4]
        exact f2 k k1 k2
      · rw [u2_oth _ (by omega), ur_n _ _ (by omega), u2_s]
      · rw [u2_oth _ (by omega), ur_s, pk_cpy_in (Nat.zero_le _) (by omega), j30]
        rw [Nat.sub_zero, Nat.zero_add]
    · have hge : 0 ≤ nI σ.1 := nI_pos' (by omega)
      refine E_iload_n (i := 1) dX11_text_0 rfl rfl ?_
      refine E_iconst (v := 0) dX11_text_1 (by decide) ?_
      refine E_iconst (v := 1) dX11_text_2 (by decide) ?_
      refine k_X11_text_3 (mc' := 0) (ms' := 0) (rc := 0) (rs := 0) (by omega) (Nat.le_of_ble_eq_true rfl) (c_X11_within ?_)
      rw [bz_t hc]
      refine E_if_ne (tgt := 15) dX11_text_6 (by decide) (fun c_6 => ?_) (fun c_6 => absurd c_6 (by decide))
      refine E_aload_n (i := 0) dX11_text_15 rfl rfl ?_
      refine E_gr dX11_text_16 gf_X11_10_11 rfl (by assumption) (by assumption) ?_
      refine E_aload_n (i := 0) dX11_text_19 rfl rfl ?_
      refine E_gr dX11_text_20 gf_X11_21_11 rfl (by assumption) (by assumption) ?_
      refine E_gr dX11_text_23 gf_X11_156_8 rfl (by assumption) (by assumption) ?_
      refine E_iload_n (i := 1) dX11_text_26 rfl rfl ?_
      refine k_X11_text_27 (mc' := 0) (ms' := 0) (rc := 0) (rs := 0) (by omega) (Nat.le_of_ble_eq_true rfl) (by assumption) (c_faultOf (by omega) hL hR (by decide) hB hx hu (fun P' J f1 f2 => ?_))
      rw [hσ (), flt_no hg]
      have hL' := hL.pf f1
      have l1' := hL'.live
      have l2' := hL'.s21.c
      obtain ⟨t1', t2'⟩ : P' 21 10 = some 29 ∧ RS g P' 29 30 50 := hL'.s21.tape
      have j29 : J 29 = I 29 := f2 29 (by decide) (by decide)
      refine E_istore_nC (i := 2) dX11_text_30 rfl (by decide) rfl ?_
      refine E_lv (lv' := [_, _, _]) rfl ?_
      refine E_iload_n (i := 2) dX11_text_31 rfl rfl ?_
      refine E_if_ge (tgt := 53) dX11_text_32 (by decide) (fun c_32 => ?_) (fun c_32 => absurd (hge) c_32)
      refine E_aload_n (i := 0) dX11_text_53 rfl rfl ?_
      refine E_gr dX11_text_54 gf_X11_21_11 rfl (by assumption) (by assumption) ?_
      refine E_gr dX11_text_57 gf_X11_156_8 rfl (by assumption) (by assumption) ?_
      refine k_X11_text_60 (mc' := 0) (ms' := 0) (rc := 0) (rs := 0) (by omega) (Nat.le_of_ble_eq_true rfl) t2'.1 (c_X7_clear (q := 30) (n := 50) (k := n) (t2'.w (by rw [j29]; exact hn) n50 (by omega)) ?_)
      refine E_iload_n (i := 2) dX11_text_63 rfl rfl ?_
      refine E_if_ge (tgt := 71) dX11_text_64 (by decide) (fun c_64 => ?_) (fun c_64 => absurd (hge) c_64)
      refine E_bipush (v := -10) dX11_text_71 (by decide) ?_
      refine E_iload_n (i := 2) dX11_text_73 rfl rfl ?_
      refine E_isub dX11_text_74 ?_
      refine E_iret dX11_text_75 rfl ?_
      refine hh2 hg P' _ f1 (fun k k1 k2 k3 => ?_) (u2_s _ _ _ _)
      rw [u2_oth _ k3]
      exact f2 k k1 k2
  · have hΦ := h3 hc
    refine E_iload_n (i := 1) dX11_text_0 rfl rfl ?_
    refine E_iconst (v := 0) dX11_text_1 (by decide) ?_
    refine E_iconst (v := 1) dX11_text_2 (by decide) ?_
    refine k_X11_text_3 (mc' := 0) (ms' := 0) (rc := 0) (rs := 0) (by omega) (Nat.le_of_ble_eq_true rfl) (c_X11_within ?_)
    rw [bz_f hc]
    refine E_if_ne (tgt := 15) dX11_text_6 (by decide) (fun c_6 => absurd (rfl) c_6) (fun c_6 => ?_)
    refine E_aload_n (i := 0) dX11_text_9 rfl rfl ?_
    refine E_iconst (v := 1) dX11_text_10 (by decide) ?_
    refine k_X11_text_11 (mc' := 0) (ms' := 0) (rc := 0) (rs := 0) (by omega) (Nat.le_of_ble_eq_true rfl) (by assumption) (c_X11_fail (k := 1) hL rfl (by decide) (by decide) ?_)
    refine E_iret dX11_text_14 rfl ?_
    exact hΦ
/-- a State's texts are good: their lengths, their bytes, what they give -/
def TG (I : HI) (B : Nat) (nt : Nat → Nat) : Prop := ∀ u, u ≤ 1 → I (B + 10 + 2 * u) 1 = nI (nt u) ∧ nt u ≤ 50 ∧ (∀ i, i < nt u → ∃ b, b < 256 ∧ I (B + 11 + 2 * u) i = nI b) ∧ (rdT (I (B + 11 + 2 * u)) (nt u) u).2.1 = false ∧ (rdT (I (B + 11 + 2 * u)) (nt u) u).1 = nt u
theorem St.txt {B u : Nat} (h : St g P B) (hu : u ≤ 1) : RS g P (B + 10 + 2 * u) (B + 11 + 2 * u) 50 := by
  match u, hu with
  | 0, _ => exact h.wear.2
  | 1, _ => exact h.goes.2
theorem TG.rw {B u : Nat} {nt : Nat → Nat} (hS : St g P B) (hT : TG I B nt) (hu : u ≤ 1) : Rw g P I (B + 10 + 2 * u) (B + 11 + 2 * u) 50 (nt u) := (hS.txt hu).w (hT u hu).1 (hT u hu).2.1 (by omega)
/-- what a State's text of a use gives -/
def gvC (I : HI) (B u : Nat) (nt : Nat → Nat) (a b c e : Int32) : Int32 := gvl u (rdT (I (B + 11 + 2 * u)) (nt u) u).2.2 a b c e
/-- gives of a State's text -/
theorem c_givesT {B u : Nat} {x a b c e : Int32} {nt : Nat → Nat} (hd : 54 ≤ d) (hL : Ly g P) (hS : St g P B) (hB : 17 < B) (hT : TG I B nt) (hx : x = nI u) (hu : u ≤ 1)
    (hΦ : ∀ P' J, PF P P' → (∀ a, a ≠ 17 → a ≠ 18 → J a = I a) → Φ (some (.int (gvC I B u nt a b c e))) g P' J) : MM Γ mX4_gives d 0 0 [.ref 17, .ref (B + 10 + 2 * u), .int x, .int a, .int b, .int c, .int e] g P I Φ := by
  obtain ⟨t1, t2, t3, t4, t5⟩ := hT u hu
  refine c_gives hd hL (hT.rw hS hu) (by omega) t3 hx hu (fun v P' J f1 f2 _ f4 => ?_)
  rw [f4 t4 t5]
  exact hΦ P' J f1 f2
theorem c_X11_law {x a b c e : Int32} {nt : Nat → Nat} (hd : 55 ≤ d) (hL : Ly g P) (hT : TG I 21 nt) (h1 : ∀ u, x = nI u → u ≤ 1 → ∀ P' J, PF P P' → (∀ a, a ≠ 17 → a ≠ 18 → J a = I a) → Φ (some (.int (gvC I 21 u nt a b c e))) g P' J) (h2 : ¬ (0 ≤ x ∧ x ≤ 1) → Φ (some (.int (er 1))) g P (fl I 1)) : MM Γ mX11_law d 0 0 [.ref 16, .int x, .int a, .int b, .int c, .int e] g P I Φ := by
  refine MM_entry [some _, some _, some _, some _, some _, some _] (by decide) (Nat.le_of_ble_eq_true rfl) rfl ?_
  have l0 := hL.gw
  have l1 := hL.live
  have l2 := hL.s21.c
  have l3 := hL.r16
  have l4 := hL.rea.1
  by_cases hc : 0 ≤ x ∧ x ≤ 1
  · obtain ⟨u, hx, hu⟩ := x01 hc
    have e31 : (if x = 0 then 21 + 10 else 21 + 12) = 21 + 10 + 2 * u := by
      rw [hx]
      match u, hu with
      | 0, _ => rfl
      | 1, _ => rfl
    have hΦ := h1 u hx hu
    refine E_iload_n (i := 1) dX11_law_0 rfl rfl ?_
    refine E_iconst (v := 0) dX11_law_1 (by decide) ?_
    refine E_iconst (v := 1) dX11_law_2 (by decide) ?_
    refine k_X11_law_3 (mc' := 0) (ms' := 0) (rc := 0) (rs := 0) (by omega) (Nat.le_of_ble_eq_true rfl) (c_X11_within ?_)
    rw [bz_t hc]
    refine E_if_eq (tgt := 34) dX11_law_6 (by decide) (fun c_6 => absurd c_6 (by decide)) (fun c_6 => ?_)
    refine E_aload_n (i := 0) dX11_law_9 rfl rfl ?_
    refine E_gr dX11_law_10 gf_X11_10_11 rfl (by assumption) (by assumption) ?_
    refine E_aload_n (i := 0) dX11_law_13 rfl rfl ?_
    refine E_gr dX11_law_14 gf_X11_21_11 rfl (by assumption) (by assumption) ?_
    refine E_iload_n (i := 1) dX11_law_17 rfl rfl ?_
    refine k_X11_law_18 (mc' := 0) (ms' := 0) (rc := 0) (rs := 0) (by omega) (Nat.le_of_ble_eq_true rfl) (by assumption) (c_X8_textOf hL.s21 ?_)
    rw [e31]
    refine E_iload_n (i := 1) dX11_law_21 rfl rfl ?_
    refine E_iload_n (i := 2) dX11_law_22 rfl rfl ?_
    refine E_iload_n (i := 3) dX11_law_23 rfl rfl ?_
    refine E_iload dX11_law_24 rfl ?_
    refine E_iload dX11_law_26 rfl ?_
    refine k_X11_law_28 (mc' := 0) (ms' := 0) (rc := 0) (rs := 0) (by omega) (Nat.le_of_ble_eq_true rfl) (by assumption) (c_givesT (by omega) hL hL.s21 (by decide) hT hx hu (fun P' J f1 f2 => ?_))
    refine E_goto (tgt := 39) dX11_law_31 (by decide) ?_
    refine E_iret dX11_law_39 rfl ?_
    exact hΦ P' J f1 f2
  · have hΦ := h2 hc
    refine E_iload_n (i := 1) dX11_law_0 rfl rfl ?_
    refine E_iconst (v := 0) dX11_law_1 (by decide) ?_
    refine E_iconst (v := 1) dX11_law_2 (by decide) ?_
    refine k_X11_law_3 (mc' := 0) (ms' := 0) (rc := 0) (rs := 0) (by omega) (Nat.le_of_ble_eq_true rfl) (c_X11_within ?_)
    rw [bz_f hc]
    refine E_if_eq (tgt := 34) dX11_law_6 (by decide) (fun c_6 => ?_) (fun c_6 => absurd (rfl) c_6)
    refine E_aload_n (i := 0) dX11_law_34 rfl rfl ?_
    refine E_iconst (v := 1) dX11_law_35 (by decide) ?_
    refine k_X11_law_36 (mc' := 0) (ms' := 0) (rc := 0) (rs := 0) (by omega) (Nat.le_of_ble_eq_true rfl) (by assumption) (c_X11_fail (k := 1) hL rfl (by decide) (by decide) ?_)
    refine E_iret dX11_law_39 rfl ?_
    exact hΦ
theorem c_X11_mayGo {w : Int32} {nt : Nat → Nat} (hd : 55 ≤ d) (hL : Ly g P) (hT : TG I 21 nt) (hΦ : ∀ P' J, PF P P' → (∀ a, a ≠ 17 → a ≠ 18 → J a = I a) → Φ (some (.int (bz (¬ gvC I 21 1 nt w (I 23 7) (I 23 8) (I 21 8) = 0)))) g P' J) : MM Γ mX11_mayGo d 0 0 [.ref 16, .int w] g P I Φ := by
  refine MM_entry [some _, some _, none] (by decide) (Nat.le_of_ble_eq_true rfl) rfl ?_
  have l0 := hL.gw
  have l1 := hL.live
  have l2 := hL.s21.c
  have l3 := hL.r16
  have l4 := hL.rea.1
  have l5 : P 21 1 = some 22 := hL.s21.wp
  have l6 : Wi g P 22 23 := hL.s21.wi
  have l7 := l6.1
  obtain ⟨v, hv⟩ := hid (gvC I 21 1 nt w (I 23 7) (I 23 8) (I 21 8))
  rw [hv ()] at hΦ
  by_cases hc : v = 0
  · rw [bz_f (fun h => h hc)] at hΦ
    refine E_aload_n (i := 0) dX11_mayGo_0 rfl rfl ?_
    refine E_gr dX11_mayGo_1 gf_X11_21_11 rfl (by assumption) (by assumption) ?_
    refine E_gr dX11_mayGo_4 gf_X11_77_8 rfl (by assumption) (by assumption) ?_
    refine E_astore_nC (i := 2) dX11_mayGo_7 rfl (by decide) rfl ?_
    refine E_lv (lv' := [_, _, _]) rfl ?_
    refine E_aload_n (i := 0) dX11_mayGo_8 rfl rfl ?_
    refine E_gr dX11_mayGo_9 gf_X11_10_11 rfl (by assumption) (by assumption) ?_
    refine E_aload_n (i := 0) dX11_mayGo_12 rfl rfl ?_
    refine E_gr dX11_mayGo_13 gf_X11_21_11 rfl (by assumption) (by assumption) ?_
    refine E_iconst (v := 1) dX11_mayGo_16 (by decide) ?_
    refine k_X11_mayGo_17 (mc' := 0) (ms' := 0) (rc := 0) (rs := 0) (by omega) (Nat.le_of_ble_eq_true rfl) (by assumption) (c_X8_textOf hL.s21 ?_)
    rw [if_neg (by decide)]
    refine E_iconst (v := 1) dX11_mayGo_20 (by decide) ?_
    refine E_iload_n (i := 1) dX11_mayGo_21 rfl rfl ?_
    refine E_aload_n (i := 2) dX11_mayGo_22 rfl rfl ?_
    refine E_bipush (v := 7) dX11_mayGo_23 (by decide) ?_
    refine k_X11_mayGo_25 (mc' := 0) (ms' := 0) (rc := 0) (rs := 0) (by omega) (Nat.le_of_ble_eq_true rfl) (by assumption) (c_X10_ofk (k := 7) rfl (by decide) l6 ?_)
    refine E_aload_n (i := 2) dX11_mayGo_28 rfl rfl ?_
    refine E_bipush (v := 8) dX11_mayGo_29 (by decide) ?_
    refine k_X11_mayGo_31 (mc' := 0) (ms' := 0) (rc := 0) (rs := 0) (by omega) (Nat.le_of_ble_eq_true rfl) (by assumption) (c_X10_ofk (k := 8) rfl (by decide) l6 ?_)
    refine E_aload_n (i := 0) dX11_mayGo_34 rfl rfl ?_
    refine E_gr dX11_mayGo_35 gf_X11_21_11 rfl (by assumption) (by assumption) ?_
    refine E_gi dX11_mayGo_38 gf_X11_184_8 rfl (by assumption) ?_
    refine k_X11_mayGo_41 (mc' := 0) (ms' := 0) (rc := 0) (rs := 0) (by omega) (Nat.le_of_ble_eq_true rfl) (by assumption) (c_givesT (B := 21) (u := 1) (by omega) hL hL.s21 (by decide) hT rfl (by decide) (fun P' J f1 f2 => ?_))
    rw [hv ()]
    refine E_if_eq (tgt := 51) dX11_mayGo_44 (by decide) (fun c_44 => ?_) (fun c_44 => absurd (hc) c_44)
    refine E_iconst (v := 0) dX11_mayGo_51 (by decide) ?_
    refine E_zret dX11_mayGo_52 rfl rfl ?_
    exact hΦ P' J f1 f2
  · rw [bz_t hc] at hΦ
    refine E_aload_n (i := 0) dX11_mayGo_0 rfl rfl ?_
    refine E_gr dX11_mayGo_1 gf_X11_21_11 rfl (by assumption) (by assumption) ?_
    refine E_gr dX11_mayGo_4 gf_X11_77_8 rfl (by assumption) (by assumption) ?_
    refine E_astore_nC (i := 2) dX11_mayGo_7 rfl (by decide) rfl ?_
    refine E_lv (lv' := [_, _, _]) rfl ?_
    refine E_aload_n (i := 0) dX11_mayGo_8 rfl rfl ?_
    refine E_gr dX11_mayGo_9 gf_X11_10_11 rfl (by assumption) (by assumption) ?_
    refine E_aload_n (i := 0) dX11_mayGo_12 rfl rfl ?_
    refine E_gr dX11_mayGo_13 gf_X11_21_11 rfl (by assumption) (by assumption) ?_
    refine E_iconst (v := 1) dX11_mayGo_16 (by decide) ?_
    refine k_X11_mayGo_17 (mc' := 0) (ms' := 0) (rc := 0) (rs := 0) (by omega) (Nat.le_of_ble_eq_true rfl) (by assumption) (c_X8_textOf hL.s21 ?_)
    rw [if_neg (by decide)]
    refine E_iconst (v := 1) dX11_mayGo_20 (by decide) ?_
    refine E_iload_n (i := 1) dX11_mayGo_21 rfl rfl ?_
    refine E_aload_n (i := 2) dX11_mayGo_22 rfl rfl ?_
    refine E_bipush (v := 7) dX11_mayGo_23 (by decide) ?_
    refine k_X11_mayGo_25 (mc' := 0) (ms' := 0) (rc := 0) (rs := 0) (by omega) (Nat.le_of_ble_eq_true rfl) (by assumption) (c_X10_ofk (k := 7) rfl (by decide) l6 ?_)
    refine E_aload_n (i := 2) dX11_mayGo_28 rfl rfl ?_
    refine E_bipush (v := 8) dX11_mayGo_29 (by decide) ?_
    refine k_X11_mayGo_31 (mc' := 0) (ms' := 0) (rc := 0) (rs := 0) (by omega) (Nat.le_of_ble_eq_true rfl) (by assumption) (c_X10_ofk (k := 8) rfl (by decide) l6 ?_)
    refine E_aload_n (i := 0) dX11_mayGo_34 rfl rfl ?_
    refine E_gr dX11_mayGo_35 gf_X11_21_11 rfl (by assumption) (by assumption) ?_
    refine E_gi dX11_mayGo_38 gf_X11_184_8 rfl (by assumption) ?_
    refine k_X11_mayGo_41 (mc' := 0) (ms' := 0) (rc := 0) (rs := 0) (by omega) (Nat.le_of_ble_eq_true rfl) (by assumption) (c_givesT (B := 21) (u := 1) (by omega) hL hL.s21 (by decide) hT rfl (by decide) (fun P' J f1 f2 => ?_))
    rw [hv ()]
    refine E_if_eq (tgt := 51) dX11_mayGo_44 (by decide) (fun c_44 => absurd c_44 (hc)) (fun c_44 => ?_)
    refine E_iconst (v := 1) dX11_mayGo_47 (by decide) ?_
    refine E_goto (tgt := 52) dX11_mayGo_48 (by decide) ?_
    refine E_zret dX11_mayGo_52 rfl rfl ?_
    exact hΦ P' J f1 f2
end
