/-! the class: passing, looking ahead -/
section
variable {Γ : GE} {d : Nat} {g : Sh} {P : HP} {I : HI} {Φ : Option Value → Sh → HP → HI → Prop}
theorem r_wear {B k i : Nat} {x : Int32} {rd : Nat → Nat} {M : Nat → Int32} {nt : Nat → Nat} {δ : Nat → List Int32} (hd : 55 ≤ d) (hL : Ly g P) (hS : St g P B) (hB : 18 < B) (hT : TG I B nt) (hδ : TD I B nt δ) (hk : I B 7 = nI k) (hV : VM M k) (h5 : M (16 + 7 * i + 5) = 0) (hD : RD I B k (goN M i)) (hR : RR g P I B k rd M) (hx : x = nI i) (hi : i < k) (hΦ : ∀ P' J, PF P P' → FS B k I J → J B = I B → RD J B k (goM (δ 0) M i) → Φ none g P' J) : MM Γ mX8_wearStrands d 0 0 [.ref B, .int x] g P I Φ := by
  obtain ⟨r1, r2, r3, r4, r5, r6, r7, r8⟩ := hR i hi
  have hkd := (hV.2.2.2 i hi).kd
  obtain ⟨-, -, a5, a6⟩ := hD.2 i hi
  rw [goN_5 h5] at a5
  refine c_X8_wearStrands hd hL hS (by omega) hT hk hV.2.1 hi hx r1 r2 (isR_kc hkd.1) r3 (fun hz => ?_) (fun hz v hv P' J f1 f2 => ?_)
  · have hc : ¬ 10 * M 7 ≤ M (16 + 7 * i + 3) + pcM M i := fun hc => by
      rw [if_pos hc, hz] at a5
      exact absurd a5 (by decide)
    refine hΦ P I (PF.refl P) (FS.refl _ _ _) rfl (hD.mv (fun y hy => ?_))
    by_cases e : y = 15
    · rw [e, goM_15, if_neg hc, goN_15]
    · exact goN_go e
  · have hc : 10 * M 7 ≤ M (16 + 7 * i + 3) + pcM M i := Classical.byContradiction fun hc => by
      rw [if_neg hc] at a5
      exact hz a5
    rw [goN_6 hc] at a6
    have e8 : I (B + 2) 8 = M 15 := by rw [hD.1 8 (by decide)]; exact goN_15
    have hv2 : v = gvl 0 (δ 0) (M (16 + 7 * i + 1)) (pcM M i) (M 15) 0 := by rw [hv (), gvC_D hδ (by decide), r7, a6, e8]
    have es : (if 0 < I (B + 2) 8 - v then I (B + 2) 8 - v else 0) = stn (δ 0) (M (16 + 7 * i + 1)) (pcM M i) (M 15) := by
      unfold stn
      rw [e8, hv2]
    rw [es]
    have hb := stn_b (δ := δ 0) (wt := M (16 + 7 * i + 1)) (p := pcM M i) hV.str.1 hV.str.2
    have ha : alw 8 (stn (δ 0) (M (16 + 7 * i + 1)) (pcM M i) (M 15)) := ⟨by decide, i32_le.mpr hb.1, i32_le.mpr hb.2⟩
    rw [if_pos ha]
    have jb : ∀ a, B ≤ a → J a = I a := fun a h => f2 a (by omega) (by omega)
    refine hΦ P' _ f1 ⟨fun a a1 a2 a3 a4 a5 => by rw [u2_oth _ a4]; exact f2 a a1 a2, fun s _ => by rw [u2_oth _ (by omega), jb B (by omega)], fun j _ => by rw [u2_oth _ (by omega), jb _ (by omega)]⟩ (by rw [u2_oth _ (by omega), jb B (by omega)]) ⟨fun j hj => ?_, fun r hr => ?_⟩
    · by_cases e : j = 8
      · subst e
        rw [u2_s, goM_15, if_pos hc]
      · rw [u2_o (fun q => e q.2), jb _ (by omega), goN_go (by omega)]
        exact hD.1 j hj
    · rw [u2_oth _ (by omega), u2_oth _ (by omega), u2_oth _ (by omega), u2_oth _ (by omega), jb _ (by omega), jb _ (by omega), jb _ (by omega), jb _ (by omega), goN_go (by omega), goN_go (by omega), goN_go (by omega), goN_go (by omega)]
      exact hD.2 r hr
theorem c_X8_pass {B k n : Nat} {x : Int32} {rd : Nat → Nat} {M : Nat → Int32} {nt : Nat → Nat} {δ : Nat → List Int32} (hd : 57 ≤ d) (hL : Ly g P) (hS : St g P B) (hB : 18 < B) (hB2 : B + 24 ≤ 128) (hT : TG I B nt) (hδ : TD I B nt δ) (hk : I B 7 = nI k) (hV : VM M k) (hD : RD I B k M) (hR : RR g P I B k rd M) (hx : x = nI n) (hn : n ≤ 200) (hΦ : ∀ P' J, PF P P' → FS B k I J → J B 8 = I B 8 + x → RD J B k (tks (δ 0) k M n) → Φ none g P' J) : MM Γ mX8_pass d 0 0 [.ref B, .int x] g P I Φ := by
  refine MM_entry [some _, some _, none, none, none] (by decide) (Nat.le_of_ble_eq_true rfl) rfl ?_
  have hk8 := hV.2.1
  have s1 := hS.c
  have tail : ∀ (gf y : Int32) (p : Option Value) (P1 : HP) (K : HI), PF P P1 → FS B k I K → K B 8 = I B 8 → RD K B k (tks (δ 0) k M n) → E Γ mX8_pass d 0 0 (QM Γ 0 0 Φ) 0 0 66 [some (.ref B), some (.int x), some (.int gf), some (.int y), p] [] g P1 K := by
    intro gf y p P1 K q1 q2 q3 q4
    have hΦ := hΦ P1 (u2 K B 8 (I B 8 + x)) q1 ⟨fun a a1 a2 a3 a4 a5 => by rw [u2_oth _ a3]; exact q2.1 a a1 a2 a3 a4 a5, fun s hs => by rw [u2_o (fun q => hs q.2)]; exact q2.2.1 s hs, fun j hj => by rw [u2_oth _ (by omega)]; exact q2.2.2 j hj⟩ (u2_s _ _ _ _) ⟨fun j hj => by rw [u2_oth _ (by omega)]; exact q4.1 j hj, fun i hi => by rw [u2_oth _ (by omega), u2_oth _ (by omega), u2_oth _ (by omega), u2_oth _ (by omega)]; exact q4.2 i hi⟩
    rw [← q3] at hΦ
    refine E_aload_n (i := 0) dX8_pass_66 rfl rfl ?_
    refine E_dup dX8_pass_67 rfl ?_
    refine E_gi dX8_pass_68 gf_X8_42_8 rfl (by assumption) ?_
    refine E_iload_n (i := 1) dX8_pass_71 rfl rfl ?_
    refine E_iadd dX8_pass_72 ?_
    refine E_pi dX8_pass_73 gf_X8_42_8 rfl (by assumption) ?_
    refine E_vret dX8_pass_76 rfl ?_
    exact hΦ
  have outer : ∀ (N t : Nat) (gf y : Int32) (p : Option Value) (P1 : HP) (K : HI), n - t ≤ N → t ≤ n → y = nI t → PF P P1 → FS B k I K → K B 8 = I B 8 → RD K B k (tks (δ 0) k M t) → (gf = 1 ∨ (gf = 0 ∧ (Unit → tkr (δ 0) (tks (δ 0) k M t) k = tks (δ 0) k M t))) → E Γ mX8_pass d 0 0 (QM Γ 0 0 Φ) 0 0 4 [some (.ref B), some (.int x), some (.int gf), some (.int y), p] [] g P1 K := by
    intro N
    induction N with
    | zero =>
      intro t gf y p P1 K hN ht hy q1 q2 q3 q4 q5
      have htn : t = n := by omega
      have ht2 := tail gf y p P1 K q1 q2 q3 (by rw [← htn]; exact q4)
      refine E_iload_n (i := 3) dX8_pass_4 rfl rfl ?_
      refine E_iload_n (i := 1) dX8_pass_5 rfl rfl ?_
      refine E_icmp_ge (tgt := 66) dX8_pass_6 (by decide) (fun c_6 => ?_) (fun c_6 => absurd (by rw [hx, hy, htn]; exact Int32.le_refl _) c_6)
      exact ht2
    | succ N ih =>
      intro t gf y p P1 K hN ht hy q1 q2 q3 q4 q5
      by_cases htn : t = n
      · have ht2 := tail gf y p P1 K q1 q2 q3 (by rw [← htn]; exact q4)
        refine E_iload_n (i := 3) dX8_pass_4 rfl rfl ?_
        refine E_iload_n (i := 1) dX8_pass_5 rfl rfl ?_
        refine E_icmp_ge (tgt := 66) dX8_pass_6 (by decide) (fun c_6 => ?_) (fun c_6 => absurd (by rw [hx, hy, htn]; exact Int32.le_refl _) c_6)
        exact ht2
      · have hlt : ¬ x ≤ y := by rw [hx, hy]; exact nI_ge (by omega) (by omega)
        rcases q5 with rfl | ⟨rfl, hq⟩
        · obtain ⟨Mt, hMt⟩ := hid (tks (δ 0) k M t)
          have hVt : VM Mt k := by rw [← hMt ()]; exact VM_tks hV t
          have kt : ∀ i, ∀ f, f < 3 → Mt (16 + 7 * i + f) = M (16 + 7 * i + f) := fun i f hf => by rw [← hMt ()]; exact tks_k hf t
          have nx : Unit → tks (δ 0) k M (t + 1) = ur (tkr (δ 0) Mt k) 0 (tkr (δ 0) Mt k 0 + 1) := fun _ => by rw [← hMt ()]; rfl
          rw [hMt ()] at q4
          have inner : ∀ (N2 i : Nat) (gf z : Int32) (P2 : HP) (K : HI), k - i ≤ N2 → i ≤ k → z = nI i → PF P P2 → FS B k I K → K B 8 = I B 8 → RD K B k (tkr (δ 0) Mt i) → (gf = 1 ∨ (gf = 0 ∧ (Unit → tkr (δ 0) Mt i = Mt))) → E Γ mX8_pass d 0 0 (QM Γ 0 0 Φ) 0 0 18 [some (.ref B), some (.int x), some (.int gf), some (.int y), some (.int z)] [] g P2 K := by
            have fin : ∀ (gf z : Int32) (P2 : HP) (K : HI), z = nI k → PF P P2 → FS B k I K → K B 8 = I B 8 → RD K B k (tkr (δ 0) Mt k) → (gf = 1 ∨ (gf = 0 ∧ (Unit → tkr (δ 0) Mt k = Mt))) → E Γ mX8_pass d 0 0 (QM Γ 0 0 Φ) 0 0 18 [some (.ref B), some (.int x), some (.int gf), some (.int y), some (.int z)] [] g P2 K := by
              intro gf z P2 K hz p1 p2 p3 p4 p5
              have k7 : K B 7 = nI k := by rw [p2.2.1 7 (by decide)]; exact hk
              have p4' : RD K B k (tks (δ 0) k M (t + 1)) := by rw [nx ()]; exact p4.mv (fun y hy => ur_n _ _ (by omega))
              have p5' : gf = 1 ∨ (gf = 0 ∧ (Unit → tkr (δ 0) (tks (δ 0) k M (t + 1)) k = tks (δ 0) k M (t + 1))) := by
                rcases p5 with h | ⟨h, h2⟩
                · exact Or.inl h
                · refine Or.inr ⟨h, fun _ => ?_⟩
                  rw [nx (), h2 (), tkr_0, h2 ()]
              refine E_iload dX8_pass_18 rfl ?_
              refine E_aload_n (i := 0) dX8_pass_20 rfl rfl ?_
              refine E_gi dX8_pass_21 gf_X8_38_8 rfl (by assumption) ?_
              refine E_icmp_ge (tgt := 60) dX8_pass_24 (by decide) (fun c_24 => ?_) (fun c_24 => absurd (by rw [hz, k7]; exact Int32.le_refl _) c_24)
              refine E_incC (c := 1) dX8_pass_60 rfl (by decide) (by decide) rfl ?_
              refine E_lv (lv' := [_, _, _, _, _]) rfl ?_
              refine E_goto (tgt := 4) dX8_pass_63 (by decide) ?_
              exact ih (t + 1) _ _ _ _ _ (by omega) (by omega) (by rw [hy, nI_1]) p1 p2 p3 p4' p5'
            intro N2
            induction N2 with
            | zero =>
              intro i gf z P2 K hN2 hi hz p1 p2 p3 p4 p5
              have hik : i = k := by omega
              subst hik
              exact fin gf z P2 K hz p1 p2 p3 p4 p5
            | succ N2 ih2 =>
              intro i gf z P2 K hN2 hi hz p1 p2 p3 p4 p5
              by_cases hik : i = k
              · subst hik
                exact fin gf z P2 K hz p1 p2 p3 p4 p5
              · have hi2 : i < k := by omega
                have hL2 := hL.pf p1
                have hS2 := hS.pf p1 (by omega)
                obtain ⟨u1, v2, u3⟩ := hS2.in
                have k7 : K B 7 = nI k := by rw [p2.2.1 7 (by decide)]; exact hk
                obtain ⟨Mi, hMi⟩ := hid (tkr (δ 0) Mt i)
                have hVi : VM Mi k := by rw [← hMi ()]; exact VM_tkr hVt i hi
                have ki : ∀ r, r < k → ∀ f, f < 3 → Mi (16 + 7 * r + f) = M (16 + 7 * r + f) := fun r _ f hf => by rw [← hMi (), tkr_k hf]; exact kt r f hf
                have nx2 : Unit → tkr (δ 0) Mt (i + 1) = st1 (δ 0) Mi i := fun _ => by rw [← hMi ()]; rfl
                rw [hMi ()] at p4 p5
                have hR2 : RR g P2 K B k rd Mi := (RR.pf p1 (by omega) hR).mv (fun a ha => p2.1 a (by omega) (by omega) (by omega) (by omega) (by omega)) ki
                have hT2 : TG K B nt := hT.mv (fun a a1 a2 => p2.1 a (by omega) (by omega) (by omega) (by omega) (by omega))
                have hδ2 : TD K B nt δ := hδ.mv (fun a a1 a2 => p2.1 a (by omega) (by omega) (by omega) (by omega) (by omega))
                obtain ⟨a3, a4, a5, a6⟩ := p4.2 i hi2
                by_cases hin : Mi (16 + 7 * i + 5) = 1
                · have es : Unit → st1 (δ 0) Mi i = Mi := fun _ => if_pos hin
                  have hne : ¬ K (B + 7) i = 0 := by rw [a5, hin]; decide
                  clear a3 a4 a5 a6 hin
                  refine E_iload dX8_pass_18 rfl ?_
                  refine E_aload_n (i := 0) dX8_pass_20 rfl rfl ?_
                  refine E_gi dX8_pass_21 gf_X8_38_8 rfl (by assumption) ?_
                  refine E_icmp_ge (tgt := 60) dX8_pass_24 (by decide) (fun c_24 => absurd c_24 (by rw [hz, k7]; exact nI_ge hi2 (by omega))) (fun c_24 => ?_)
                  refine E_aload_n (i := 0) dX8_pass_27 rfl rfl ?_
                  refine E_gr dX8_pass_28 gf_X8_34_8 rfl (by assumption) (by assumption) ?_
                  refine E_iload dX8_pass_31 rfl ?_
                  refine E_zaj i dX8_pass_33 (by assumption) hz (by omega) (by rw [u3]; omega) ?_
                  refine E_if_ne (tgt := 54) dX8_pass_34 (by decide) (fun c_34 => ?_) (fun c_34 => absurd c_34 (hne))
                  refine E_incC (c := 1) dX8_pass_54 rfl (by decide) (by decide) rfl ?_
                  refine E_lv (lv' := [_, _, _, _, _]) rfl ?_
                  refine E_goto (tgt := 18) dX8_pass_57 (by decide) ?_
                  exact ih2 (i + 1) _ _ _ _ (by omega) (by omega) (by rw [hz, nI_1]) p1 p2 p3 (by rw [nx2 (), es ()]; exact p4) (p5.imp id (fun h => ⟨h.1, fun _ => by rw [nx2 (), es ()]; exact h.2 ()⟩))
                · have h0 : Mi (16 + 7 * i + 5) = 0 := (hVi.2.2.2 i hi2).2.2.2.2.2.resolve_right hin
                  have es : Unit → st1 (δ 0) Mi i = goM (δ 0) Mi i := fun _ => if_neg hin
                  have hz0 : K (B + 7) i = 0 := by rw [a5]; exact h0
                  clear a3 a4 a5 a6 hin
                  have key : E Γ mX8_pass d 0 0 (QM Γ 0 0 Φ) 0 0 37 [some (.ref B), some (.int x), some (.int gf), some (.int y), some (.int z)] [] g P2 K := by
                    refine E_aload_n (i := 0) dX8_pass_37 rfl rfl ?_
                    refine E_iload dX8_pass_38 rfl ?_
                    refine k_X8_pass_40 (mc' := 0) (ms' := 0) (rc := 0) (rs := 0) (by omega) (Nat.le_of_ble_eq_true rfl) (by assumption) (r_goesOn (rd := rd) (M := Mi) (by omega) hS2 k7 hVi p4 hR2 hz hi2 (fun J v w1 w2 w3 w4 w5 => ?_))
                    by_cases hgo : goB J B i (Mi (16 + 7 * i + 3)) (Mi (16 + 7 * i + 4))
                    · rw [bz_t hgo] at w5
                      subst w5
                      have w2' := p2.trans w2
                      have j7 : J B 7 = nI k := by rw [w4]; exact k7
                      refine E_if_eq (tgt := 54) dX8_pass_43 (by decide) (fun c_43 => absurd c_43 (by decide)) (fun c_43 => ?_)
                      refine E_iconst (v := 1) dX8_pass_46 (by decide) ?_
                      refine E_istore_nC (i := 2) dX8_pass_47 rfl (by decide) rfl ?_
                      refine E_lv (lv' := [_, _, _, _, _]) rfl ?_
                      refine E_aload_n (i := 0) dX8_pass_48 rfl rfl ?_
                      refine E_iload dX8_pass_49 rfl ?_
                      refine k_X8_pass_51 (mc' := 0) (ms' := 0) (rc := 0) (rs := 0) (by omega) (Nat.le_of_ble_eq_true rfl) (by assumption) (r_wear (rd := rd) (M := Mi) (nt := nt) (δ := δ) (by omega) hL2 hS2 hB (hT2.mv (fun a a1 a2 => w2.1 a (by omega) (by omega) (by omega) (by omega) (by omega))) (hδ2.mv (fun a a1 a2 => w2.1 a (by omega) (by omega) (by omega) (by omega) (by omega))) j7 hVi h0 w1 (hR2.mv (fun a ha => w2.1 a (by omega) (by omega) (by omega) (by omega) (by omega)) (fun _ _ _ _ => rfl)) hz hi2 (fun P3 L x1 x2 x3 x4 => ?_))
                      refine E_incC (c := 1) dX8_pass_54 rfl (by decide) (by decide) rfl ?_
                      refine E_lv (lv' := [_, _, _, _, _]) rfl ?_
                      refine E_goto (tgt := 18) dX8_pass_57 (by decide) ?_
                      exact ih2 (i + 1) _ _ _ _ (by omega) (by omega) (by rw [hz, nI_1]) (p1.trans x1) (w2'.trans x2) (by rw [x3, w4]; exact p3) (by rw [nx2 (), es ()]; exact x4) (Or.inl rfl)
                    · rw [bz_f hgo] at w5
                      subst w5
                      obtain ⟨b3, b4, b5, b6⟩ := w1.2 i hi2
                      have c5 : J (B + 7) i = 0 := Classical.byContradiction fun h => hgo (Or.inl h)
                      have c3 : J (B + 4) i = Mi (16 + 7 * i + 3) := Classical.byContradiction fun h => hgo (Or.inr (Or.inl h))
                      have c4 : J (B + 5) i = Mi (16 + 7 * i + 4) := Classical.byContradiction fun h => hgo (Or.inr (Or.inr h))
                      have eq : Unit → goM (δ 0) Mi i = Mi := fun _ => goM_q (by rw [goN_go (by omega), ← b5, c5]; decide) (by rw [goN_go (by omega), ← b3, c3]) (by rw [goN_go (by omega), ← b4, c4])
                      have hDJ : RD J B k Mi := w1.mv (fun y hy => by
                        by_cases e : y = 15
                        · rw [e, goN_15]
                        · rw [← goN_go (δ := δ 0) e, eq ()])
                      clear b3 b4 b5 b6 c5 c3 c4 hgo
                      refine E_if_eq (tgt := 54) dX8_pass_43 (by decide) (fun c_43 => ?_) (fun c_43 => absurd (rfl) c_43)
                      refine E_incC (c := 1) dX8_pass_54 rfl (by decide) (by decide) rfl ?_
                      refine E_lv (lv' := [_, _, _, _, _]) rfl ?_
                      refine E_goto (tgt := 18) dX8_pass_57 (by decide) ?_
                      exact ih2 (i + 1) _ _ _ _ (by omega) (by omega) (by rw [hz, nI_1]) p1 (p2.trans w2) (by rw [w4]; exact p3) (by rw [nx2 (), es (), eq ()]; exact hDJ) (p5.imp id (fun h => ⟨h.1, fun _ => by rw [nx2 (), es (), eq ()]; exact h.2 ()⟩))
                  refine E_iload dX8_pass_18 rfl ?_
                  refine E_aload_n (i := 0) dX8_pass_20 rfl rfl ?_
                  refine E_gi dX8_pass_21 gf_X8_38_8 rfl (by assumption) ?_
                  refine E_icmp_ge (tgt := 60) dX8_pass_24 (by decide) (fun c_24 => absurd c_24 (by rw [hz, k7]; exact nI_ge hi2 (by omega))) (fun c_24 => ?_)
                  refine E_aload_n (i := 0) dX8_pass_27 rfl rfl ?_
                  refine E_gr dX8_pass_28 gf_X8_34_8 rfl (by assumption) (by assumption) ?_
                  refine E_iload dX8_pass_31 rfl ?_
                  refine E_zaj i dX8_pass_33 (by assumption) hz (by omega) (by rw [u3]; omega) ?_
                  refine E_if_ne (tgt := 54) dX8_pass_34 (by decide) (fun c_34 => absurd (hz0) c_34) (fun c_34 => ?_)
                  exact key
          refine E_iload_n (i := 3) dX8_pass_4 rfl rfl ?_
          refine E_iload_n (i := 1) dX8_pass_5 rfl rfl ?_
          refine E_icmp_ge (tgt := 66) dX8_pass_6 (by decide) (fun c_6 => absurd c_6 (hlt)) (fun c_6 => ?_)
          refine E_iload_n (i := 2) dX8_pass_9 rfl rfl ?_
          refine E_if_eq (tgt := 66) dX8_pass_10 (by decide) (fun c_10 => absurd c_10 (by decide)) (fun c_10 => ?_)
          refine E_iconst (v := 0) dX8_pass_13 (by decide) ?_
          refine E_istore_nC (i := 2) dX8_pass_14 rfl (by decide) rfl ?_
          refine E_lv (lv' := [_, _, _, _, _]) rfl ?_
          refine E_iconst (v := 0) dX8_pass_15 (by decide) ?_
          refine E_istoreC dX8_pass_16 (by decide) rfl ?_
          refine E_lv (lv' := [_, _, _, _, _]) rfl ?_
          exact inner k 0 _ _ _ _ (by omega) (by omega) rfl q1 q2 q3 q4 (Or.inr ⟨rfl, fun _ => rfl⟩)
        · have q4' : RD K B k (tks (δ 0) k M n) := by
            have e : tks (δ 0) k M n = ur (tks (δ 0) k M t) 0 (tks (δ 0) k M t 0 + nI (n - t)) := by
              rw [show n = t + (n - t) by omega, tks_add, tks_q (hq ()), show t + (n - t) - t = n - t by omega]
            rw [e]
            exact q4.mv (fun y hy => ur_n _ _ (by omega))
          have ht2 := tail 0 y p P1 K q1 q2 q3 q4'
          refine E_iload_n (i := 3) dX8_pass_4 rfl rfl ?_
          refine E_iload_n (i := 1) dX8_pass_5 rfl rfl ?_
          refine E_icmp_ge (tgt := 66) dX8_pass_6 (by decide) (fun c_6 => absurd c_6 (hlt)) (fun c_6 => ?_)
          refine E_iload_n (i := 2) dX8_pass_9 rfl rfl ?_
          refine E_if_eq (tgt := 66) dX8_pass_10 (by decide) (fun c_10 => ?_) (fun c_10 => absurd (rfl) c_10)
          exact ht2
  refine E_iconst (v := 1) dX8_pass_0 (by decide) ?_
  refine E_istore_nC (i := 2) dX8_pass_1 rfl (by decide) rfl ?_
  refine E_lv (lv' := [_, _, _, _, _]) rfl ?_
  refine E_iconst (v := 0) dX8_pass_2 (by decide) ?_
  refine E_istore_nC (i := 3) dX8_pass_3 rfl (by decide) rfl ?_
  refine E_lv (lv' := [_, _, _, _, _]) rfl ?_
  exact outer n 0 _ _ _ _ _ (by omega) (by omega) rfl (PF.refl P) (FS.refl _ _ _) rfl hD (Or.inl rfl)
end
