/-! the class: snug, lower, gusts, check, feed -/
theorem u2_id {α : Type} {f : Nat → Nat → α} {a k : Nat} {v : α} (h : f a k = v) : u2 f a k v = f := by
  funext b j
  rw [u2_at]
  by_cases e : b = a ∧ j = k
  · rw [if_pos e, e.1, e.2, h]
  · rw [if_neg e]
/-- the heap is the same but for a number of the wire ahead and a ride's moving numbers -/
def FK (j r : Nat) (L K : HI) : Prop := (∀ a, a ≠ 47 → (a < 49 ∨ 52 < a) → K a = L a) ∧ (∀ i, i ≠ j → K 47 i = L 47 i) ∧ ∀ a i, i ≠ r → 49 ≤ a → a ≤ 52 → K a i = L a i
theorem FK.refl (j r : Nat) (L : HI) : FK j r L L := ⟨fun _ _ _ => rfl, fun _ _ => rfl, fun _ _ _ _ _ => rfl⟩
theorem AH.fk {P P' : HP} {I L K : HI} {j r : Nat} (h : AH P I P' L) (h2 : FK j r L K) : AH P I P' K := by
  obtain ⟨a1, a2, a3, a4, a5⟩ := h
  refine ⟨a1, a2, a3, fun a b1 b2 b3 => by rw [h2.1 a (by omega) (by omega)]; exact a4 a b1 b2 b3, ?_⟩
  obtain ⟨⟨k, c1, c2⟩, c3⟩ := a5
  refine ⟨⟨k, by rw [h2.1 45 (by decide) (by decide)]; exact c1, c2⟩, fun q hq => ?_⟩
  have hf := sRow_fact q hq
  rw [h2.1 _ (by omega) (by omega)]
  exact c3 q hq
section
variable {Γ : GE} {d : Nat} {g : Sh} {P : HP} {I : HI} {Φ : Option Value → Sh → HP → HI → Prop} {k : Nat} {rd : Nat → Nat} {M : Nat → Int32} {nt : Nat → Nat} {δ : Nat → List Int32}
theorem c_X11_leastBy {r n j cnt : Nat} {x a b s y z q : Int32} (v : Nat → Int32) (hd : 60 ≤ d) (hL : Ly g P) (hA : LA g P I k rd M nt δ) (hx : x = nI j) (hj1 : 1 ≤ j) (hj8 : j ≤ 8) (hv0 : a = v 0) (hvs : ∀ i, v (i + 1) = v i + s) (hvt : ∀ i, i < cnt → v i ≤ b) (hve : ¬ v cnt ≤ b) (hvw : ∀ i, i < cnt → lst j ≤ v i ∧ v i ≤ grt j) (hy : y = nI r) (hr2 : r < k) (hz : z = nI n) (hn : n ≤ 200)
    (h1 : ¬ M (16 + 7 * r + 5) = 1 → ∀ i, (Unit → lsf M j r n q v cnt 0 = some i) → ∀ P' J, AH P I P' J → Φ (some (.int (v i))) g P' J) (h2 : ¬ M (16 + 7 * r + 5) = 1 → (Unit → lsf M j r n q v cnt 0 = none) → ∀ P' J, AH P I P' J → Φ (some (.int (er 2))) g P' (fl J 2)) (h3 : M (16 + 7 * r + 5) = 1 → Φ (some (.int (er 3))) g P (fl I 3)) : MM Γ mX11_leastBy d 0 0 [.ref 16, .int x, .int a, .int b, .int s, .int y, .int z, .int q] g P I Φ := by
  refine MM_entry [some _, some _, some _, some _, some _, some _, some _, some _, none] (by decide) (Nat.le_of_ble_eq_true rfl) rfl ?_
  have l0 := hL.gw
  have la := hL.ahead
  have lc := hL.s45.c
  have l1 := hL.live
  have l2 := hL.s21.c
  obtain ⟨y1, y2, y3⟩ : P 21 6 = some 28 ∧ AS g 28 14 8 := hL.s21.in
  have hA0 := hA
  obtain ⟨-, -, hin28, -, -, hk, hV, hD, hR⟩ := hA
  have hk8 := hV.2.1
  have e28 : I 28 r = M (16 + 7 * r + 5) := (hD.2 r hr2).2.2.1
  by_cases hi : M (16 + 7 * r + 5) = 1
  · have hΦ := h3 hi
    have hne : ¬ I 28 r = 0 := by rw [e28, hi]; decide
    refine E_aload_n (i := 0) dX11_leastBy_0 rfl rfl ?_
    refine E_gr dX11_leastBy_1 gf_X11_21_11 rfl (by assumption) (by assumption) ?_
    refine E_gr dX11_leastBy_4 gf_X11_152_8 rfl (by assumption) (by assumption) ?_
    refine E_iload dX11_leastBy_7 rfl ?_
    refine E_zaj r dX11_leastBy_9 (by assumption) hy (by omega) (by rw [y3]; omega) ?_
    refine E_if_eq (tgt := 19) dX11_leastBy_10 (by decide) (fun c_10 => absurd c_10 (hne)) (fun c_10 => ?_)
    refine E_aload_n (i := 0) dX11_leastBy_13 rfl rfl ?_
    refine E_iconst (v := 3) dX11_leastBy_14 (by decide) ?_
    refine k_X11_leastBy_15 (mc' := 0) (ms' := 0) (rc := 0) (rs := 0) (by omega) (Nat.le_of_ble_eq_true rfl) (by assumption) (fail_45 (j := 3) hL rfl (by decide) (by decide) ?_)
    refine E_iret dX11_leastBy_18 rfl ?_
    exact hΦ
  · have h0 : M (16 + 7 * r + 5) = 0 := (hV.2.2.2 r hr2).2.2.2.2.2.resolve_right hi
    have hz0 : I 28 r = 0 := by rw [e28]; exact h0
    have hh1 := h1 hi
    have hh2 := h2 hi
    clear h1 h2 h3
    have hkd := (hV.2.2.2 r hr2).kd
    have rest : ∀ (P' : HP) (L : HI), AH P I P' L → Ly g P' → L 45 7 = nI k → RD L 45 k M → RR g P' L 45 k rd M → E Γ mX11_leastBy d 0 0 (QM Γ 0 0 Φ) 0 0 30 [some (.ref 16), some (.int x), some (.int a), some (.int b), some (.int s), some (.int y), some (.int z), some (.int q), none] [] g P' L := by
      intro P' L a1 hL' a3 a4 a5
      have m0 := hL'.gw
      have m1 := hL'.ahead
      have m2 := hL'.s45.c
      have m3 := hL'.live
      have m4 := hL'.s21.c
      have m5 : P' 45 1 = some 46 := hL'.s45.wp
      have m6 : Wi g P' 46 47 := hL'.s45.wi
      have m7 := m6.1
      obtain ⟨w1, w2, w3⟩ : P' 45 5 = some 51 ∧ AS g 51 13 8 := hL'.s45.ca
      obtain ⟨p1, p2, p3, p4⟩ := a5 r hr2
      have p24 : P' 24 r = some (rd r) := by rw [a1.2.1]; exact (hR r hr2).1
      have pid : Unit → u2 P' 48 r (P' 24 r) = P' := fun _ => u2_id (by rw [p24]; exact p1)
      have li : ∀ f, f < 4 → L (25 + f) = I (25 + f) := fun f hf => a1.2.2.2.1 _ (by omega) (by omega) (by omega)
      obtain ⟨d3, d4, d5, d6⟩ := hD.2 r hr2
      have loop : ∀ (N i : Nat) (w : Int32) (K : HI), cnt - i ≤ N → i ≤ cnt → w = v i → (Unit → lsf M j r n q v cnt 0 = lsf M j r n q v (cnt - i) i) → FK j r L K → E Γ mX11_leastBy d 0 0 (QM Γ 0 0 Φ) 0 0 33 [some (.ref 16), some (.int x), some (.int a), some (.int b), some (.int s), some (.int y), some (.int z), some (.int q), some (.int w)] [] g P' K := by
        intro N
        induction N with
        | zero =>
          intro i w K hN hi hw hf hK
          have hic : i = cnt := by omega
          have hΦ := hh2 (fun _ => by rw [hf (), hic, Nat.sub_self]; rfl) P' K (a1.fk hK)
          refine E_iload dX11_leastBy_33 rfl ?_
          refine E_iload_n (i := 3) dX11_leastBy_35 rfl rfl ?_
          refine E_icmp_gt (tgt := 107) dX11_leastBy_36 (by decide) (fun c_36 => ?_) (fun c_36 => absurd (by rw [hw, hic]; exact Int32.not_le.mp hve) c_36)
          refine E_aload_n (i := 0) dX11_leastBy_107 rfl rfl ?_
          refine E_iconst (v := 2) dX11_leastBy_108 (by decide) ?_
          refine k_X11_leastBy_109 (mc' := 0) (ms' := 0) (rc := 0) (rs := 0) (by omega) (Nat.le_of_ble_eq_true rfl) (by assumption) (fail_45 (j := 2) hL' rfl (by decide) (by decide) ?_)
          refine E_iret dX11_leastBy_112 rfl ?_
          exact hΦ
        | succ N ih =>
          intro i w K hN hi hw hf hK
          by_cases hic : i = cnt
          · have hΦ := hh2 (fun _ => by rw [hf (), hic, Nat.sub_self]; rfl) P' K (a1.fk hK)
            refine E_iload dX11_leastBy_33 rfl ?_
            refine E_iload_n (i := 3) dX11_leastBy_35 rfl rfl ?_
            refine E_icmp_gt (tgt := 107) dX11_leastBy_36 (by decide) (fun c_36 => ?_) (fun c_36 => absurd (by rw [hw, hic]; exact Int32.not_le.mp hve) c_36)
            refine E_aload_n (i := 0) dX11_leastBy_107 rfl rfl ?_
            refine E_iconst (v := 2) dX11_leastBy_108 (by decide) ?_
            refine k_X11_leastBy_109 (mc' := 0) (ms' := 0) (rc := 0) (rs := 0) (by omega) (Nat.le_of_ble_eq_true rfl) (by assumption) (fail_45 (j := 2) hL' rfl (by decide) (by decide) ?_)
            refine E_iret dX11_leastBy_112 rfl ?_
            exact hΦ
          · subst hw
            have ec : cnt - i = (cnt - (i + 1)) + 1 := by omega
            have hvw' := hvw i (by omega)
            have ha : Unit → alw x (v i) := fun _ => by
              rw [hx]
              refine ⟨⟨nI_pos' (by omega), nI_le (b := 8) hj8 (by omega)⟩, ?_⟩
              rw [nI_clamp (by omega)]
              exact hvw'
            have hxc : x.toNatClampNeg = j := by rw [hx, nI_clamp (by omega)]
            have k25 : K 25 r = M (16 + 7 * r + 3) := by rw [hK.1 25 (by decide) (by decide), li 0 (by decide)]; exact d3
            have k26 : K 26 r = M (16 + 7 * r + 4) := by rw [hK.1 26 (by decide) (by decide), li 1 (by decide)]; exact d4
            have k27 : K 27 r = M (16 + 7 * r + 6) := by rw [hK.1 27 (by decide) (by decide), li 2 (by decide)]; exact d6
            have k28 : K 28 r = M (16 + 7 * r + 5) := by rw [hK.1 28 (by decide) (by decide), li 3 (by decide)]; exact d5
            obtain ⟨K2, hK2⟩ := hid (u2 (u2 (u2 (u2 (u2 K 49 r (K 25 r)) 50 r (K 26 r)) 51 r (K 27 r)) 52 r (K 28 r)) 47 j (v i))
            have fk2 : FK j r L K2 := by
              rw [← hK2 ()]
              refine ⟨fun e e1 e2 => ?_, fun e e1 => ?_, fun e f e1 e2 e3 => ?_⟩
              · rw [u2_oth _ e1, u2_oth _ (by omega), u2_oth _ (by omega), u2_oth _ (by omega), u2_oth _ (by omega)]
                exact hK.1 e e1 e2
              · rw [u2_o (fun h => e1 h.2), u2_oth _ (by decide), u2_oth _ (by decide), u2_oth _ (by decide), u2_oth _ (by decide)]
                exact hK.2.1 e e1
              · rw [u2_oth _ (by omega), u2_o (fun h => e1 h.2), u2_o (fun h => e1 h.2), u2_o (fun h => e1 h.2), u2_o (fun h => e1 h.2)]
                exact hK.2.2 e f e1 e2 e3
            have g4 : K2 49 r = M (16 + 7 * r + 3) := by rw [← hK2 (), u2_oth _ (by decide), u2_oth _ (by decide), u2_oth _ (by decide), u2_oth _ (by decide), u2_s]; exact k25
            have g5 : K2 50 r = M (16 + 7 * r + 4) := by rw [← hK2 (), u2_oth _ (by decide), u2_oth _ (by decide), u2_oth _ (by decide), u2_s]; exact k26
            have g6 : K2 51 r = M (16 + 7 * r + 6) := by rw [← hK2 (), u2_oth _ (by decide), u2_oth _ (by decide), u2_s]; exact k27
            have g7 : K2 52 r = M (16 + 7 * r + 5) := by rw [← hK2 (), u2_oth _ (by decide), u2_s]; exact k28
            have gw : K2 47 j = v i := by rw [← hK2 (), u2_s]
            obtain ⟨Mv, hMv⟩ := hid (ur M (7 + j) (v i))
            have mo : ∀ e, e ≠ 7 + j → Mv e = M e := fun e he => by rw [← hMv ()]; exact ur_n _ _ he
            have mj : Mv (7 + j) = v i := by rw [← hMv ()]; exact ur_s _ _ _
            have hVv : VM Mv k := by rw [← hMv ()]; exact VM_w hV hj1 hj8 hvw'.1 hvw'.2
            have hDv : RD K2 45 k Mv := by
              refine ⟨fun e he => ?_, fun f hf2 => ?_⟩
              · by_cases ee : e = j
                · subst ee
                  rw [mj]
                  exact gw
                · rw [mo _ (by omega), show K2 (45 + 2) e = L 47 e from fk2.2.1 e ee]
                  exact a4.1 e he
              · rw [mo _ (by omega), mo _ (by omega), mo _ (by omega), mo _ (by omega)]
                by_cases ee : f = r
                · subst ee
                  exact ⟨g4, g5, g7, g6⟩
                · rw [show K2 (45 + 4) f = L (45 + 4) f from fk2.2.2 _ f ee (by decide) (by decide), show K2 (45 + 5) f = L (45 + 5) f from fk2.2.2 _ f ee (by decide) (by decide), show K2 (45 + 7) f = L (45 + 7) f from fk2.2.2 _ f ee (by decide) (by decide), show K2 (45 + 6) f = L (45 + 6) f from fk2.2.2 _ f ee (by decide) (by decide)]
                  exact a4.2 f hf2
            have hRv : RR g P' K2 45 k rd Mv := a5.mv (fun e he => fk2.1 e (by omega) (by omega)) (fun f _ e he => mo _ (by omega))
            have q7 : K2 45 7 = nI k := by rw [fk2.1 45 (by decide) (by decide)]; exact a3
            have hin2 : K2 52 r = 0 := by rw [g7]; exact h0
            have ek : kdo Mv r = kdo M r := by unfold kdo; rw [mo _ (by omega)]
            have hsq : Unit → sq Mv r = r1n (c8 (K2 47)) (kc (kdo M r)) (K2 (rd r) 2) (K2 (rd r) 3) (cR K2 45 r) := fun _ => by rw [← ek]; exact (sq_CM hDv hRv hr2).symm
            have okv : Unit → (okq (sq Mv r) n q ↔ okq (sq (ur M (7 + j) (v i)) r) n q) := fun _ => by rw [hMv ()]
            clear g4 g5 g6 g7 gw k25 k26 k27 k28
            have key : E Γ mX11_leastBy d 0 0 (QM Γ 0 0 Φ) 0 0 65 [some (.ref 16), some (.int x), some (.int a), some (.int b), some (.int s), some (.int y), some (.int z), some (.int q), some (.int (v i))] [] g P' K2 := by
              refine E_aload_n (i := 0) dX11_leastBy_65 rfl rfl ?_
              refine E_gr dX11_leastBy_66 gf_X11_25_11 rfl (by assumption) (by assumption) ?_
              refine E_iload dX11_leastBy_69 rfl ?_
              refine E_iload dX11_leastBy_71 rfl ?_
              refine k_X11_leastBy_73 (mc' := 0) (ms' := 0) (rc := 0) (rs := 0) (by omega) (Nat.le_of_ble_eq_true rfl) (by assumption) (c_X8_comesWithin (B := 45) (n := n) (s := sq Mv r) (by omega) hL'.s45 (by decide) (hDv.wok hVv) q7 hk8 hr2 hy hz hn p1 p2 (isR_kc hkd.1) p3 hin2 hsq (fun t t1 t2 q1 J f1 f2 => ?_) (fun q1 J f1 => ?_))
              · have fkJ : FK j r L J := ⟨fun e e1 e2 => by rw [f1.1 e (by omega)]; exact fk2.1 e e1 e2, fun e e1 => by rw [f1.1 47 (by decide)]; exact fk2.2.1 e e1, fun e f e1 e2 e3 => by rw [f1.2 e f e1]; exact fk2.2.2 e f e1 e2 e3⟩
                have c6 : Unit → J 51 r = (sq Mv r t).2.2.2 := fun _ => congrArg (fun u : R4 => u.2.2.2) (f2 ())
                have hiff := okq_y (q := q) (q1 ())
                by_cases hq : (sq Mv r t).2.2.2 ≤ q
                · have hΦ := hh1 i (fun _ => by rw [hf (), ec, lsf_y ((okv ()).mp (hiff.mpr hq))]) P' J (a1.fk fkJ)
                  have hq' : Unit → ¬ q < J 51 r := fun _ => by rw [c6 ()]; exact Int32.not_lt.mpr hq
                  clear hq hiff
                  refine E_if_le (tgt := 97) dX11_leastBy_76 (by decide) (fun c_76 => absurd c_76 (nI_nle (by omega) (by omega))) (fun c_76 => ?_)
                  refine E_aload_n (i := 0) dX11_leastBy_79 rfl rfl ?_
                  refine E_gr dX11_leastBy_80 gf_X11_25_11 rfl (by assumption) (by assumption) ?_
                  refine E_gr dX11_leastBy_83 gf_X11_317_8 rfl (by assumption) (by assumption) ?_
                  refine E_iload dX11_leastBy_86 rfl ?_
                  refine E_iaj r dX11_leastBy_88 (by assumption) hy (by omega) (by rw [w3]; omega) ?_
                  refine E_iload dX11_leastBy_89 rfl ?_
                  refine E_icmp_gt (tgt := 97) dX11_leastBy_91 (by decide) (fun c_91 => absurd c_91 (hq' ())) (fun c_91 => ?_)
                  refine E_iload dX11_leastBy_94 rfl ?_
                  refine E_iret dX11_leastBy_96 rfl ?_
                  exact hΦ
                · have hff : Unit → lsf M j r n q v cnt 0 = lsf M j r n q v (cnt - (i + 1)) (i + 1) := fun _ => by rw [hf (), ec, lsf_n (fun h => hq (hiff.mp ((okv ()).mpr h)))]
                  have hq' : Unit → q < J 51 r := fun _ => by rw [c6 ()]; exact Int32.not_le.mp hq
                  clear hq hiff
                  refine E_if_le (tgt := 97) dX11_leastBy_76 (by decide) (fun c_76 => absurd c_76 (nI_nle (by omega) (by omega))) (fun c_76 => ?_)
                  refine E_aload_n (i := 0) dX11_leastBy_79 rfl rfl ?_
                  refine E_gr dX11_leastBy_80 gf_X11_25_11 rfl (by assumption) (by assumption) ?_
                  refine E_gr dX11_leastBy_83 gf_X11_317_8 rfl (by assumption) (by assumption) ?_
                  refine E_iload dX11_leastBy_86 rfl ?_
                  refine E_iaj r dX11_leastBy_88 (by assumption) hy (by omega) (by rw [w3]; omega) ?_
                  refine E_iload dX11_leastBy_89 rfl ?_
                  refine E_icmp_gt (tgt := 97) dX11_leastBy_91 (by decide) (fun c_91 => ?_) (fun c_91 => absurd (hq' ()) c_91)
                  refine E_iload dX11_leastBy_97 rfl ?_
                  refine E_iload dX11_leastBy_99 rfl ?_
                  refine E_iadd dX11_leastBy_101 ?_
                  refine E_istoreC dX11_leastBy_102 (by decide) rfl ?_
                  refine E_lv (lv' := [_, _, _, _, _, _, _, _, _]) rfl ?_
                  refine E_goto (tgt := 33) dX11_leastBy_104 (by decide) ?_
                  exact ih (i + 1) _ _ (by omega) (by omega) (by rw [hvs]) hff fkJ
              · have fkJ : FK j r L J := ⟨fun e e1 e2 => by rw [f1.1 e (by omega)]; exact fk2.1 e e1 e2, fun e e1 => by rw [f1.1 47 (by decide)]; exact fk2.2.1 e e1, fun e f e1 e2 e3 => by rw [f1.2 e f e1]; exact fk2.2.2 e f e1 e2 e3⟩
                have hff : Unit → lsf M j r n q v cnt 0 = lsf M j r n q v (cnt - (i + 1)) (i + 1) := fun _ => by rw [hf (), ec, lsf_n (fun h => okq_n (q1 ()) ((okv ()).mpr h))]
                refine E_if_le (tgt := 97) dX11_leastBy_76 (by decide) (fun c_76 => ?_) (fun c_76 => absurd (Int32.le_refl _) c_76)
                refine E_iload dX11_leastBy_97 rfl ?_
                refine E_iload dX11_leastBy_99 rfl ?_
                refine E_iadd dX11_leastBy_101 ?_
                refine E_istoreC dX11_leastBy_102 (by decide) rfl ?_
                refine E_lv (lv' := [_, _, _, _, _, _, _, _, _]) rfl ?_
                refine E_goto (tgt := 33) dX11_leastBy_104 (by decide) ?_
                exact ih (i + 1) _ _ (by omega) (by omega) (by rw [hvs]) hff fkJ
            have hin28' : K 28 r = 0 ∨ K 28 r = 1 := by rw [hK.1 28 (by decide) (by decide), li 3 (by decide)]; exact hin28 r (by omega)
            refine E_iload dX11_leastBy_33 rfl ?_
            refine E_iload_n (i := 3) dX11_leastBy_35 rfl rfl ?_
            refine E_icmp_gt (tgt := 107) dX11_leastBy_36 (by decide) (fun c_36 => absurd c_36 (Int32.not_lt.mpr (hvt i (by omega)))) (fun c_36 => ?_)
            refine E_aload_n (i := 0) dX11_leastBy_39 rfl rfl ?_
            refine E_gr dX11_leastBy_40 gf_X11_25_11 rfl (by assumption) (by assumption) ?_
            refine E_aload_n (i := 0) dX11_leastBy_43 rfl rfl ?_
            refine E_gr dX11_leastBy_44 gf_X11_21_11 rfl (by assumption) (by assumption) ?_
            refine E_iload dX11_leastBy_47 rfl ?_
            refine k_X11_leastBy_49 (mc' := 0) (ms' := 0) (rc := 0) (rs := 0) (by omega) (Nat.le_of_ble_eq_true rfl) (by assumption) (c_X8_copyRide (B := 45) (C := 21) (j := r) hL'.s45 hL'.s21 hy (by omega) (Or.inr ⟨rd r, p24, any_ride p2 (isR_kc hkd.1)⟩) hin28' (fun e f _ _ => by omega) ?_)
            rw [show u2 P' (45 + 3) r (P' (21 + 3) r) = P' from pid ()]
            refine E_aload_n (i := 0) dX11_leastBy_52 rfl rfl ?_
            refine E_gr dX11_leastBy_53 gf_X11_25_11 rfl (by assumption) (by assumption) ?_
            refine E_gr dX11_leastBy_56 gf_X11_77_8 rfl (by assumption) (by assumption) ?_
            refine E_iload_n (i := 1) dX11_leastBy_59 rfl rfl ?_
            refine E_iload dX11_leastBy_60 rfl ?_
            refine k_X11_leastBy_62 (mc' := 0) (ms' := 0) (rc := 0) (rs := 0) (by omega) (Nat.le_of_ble_eq_true rfl) (by assumption) (c_X10_becomes (by omega) m6 ?_)
            have hkk : u2 (u2 (u2 (u2 (u2 K (45 + 4) r (K (21 + 4) r)) (45 + 5) r (K (21 + 5) r)) (45 + 6) r (K (21 + 6) r)) (45 + 7) r (K (21 + 7) r)) 47 j (v i) = K2 := hK2 ()
            rw [if_pos (ha ()), hxc, hkk]
            exact key
      refine E_iload_n (i := 2) dX11_leastBy_30 rfl rfl ?_
      refine E_istoreC dX11_leastBy_31 (by decide) rfl ?_
      refine E_lv (lv' := [_, _, _, _, _, _, _, _, _]) rfl ?_
      exact loop cnt 0 _ _ (by omega) (by omega) hv0 (fun _ => rfl) (FK.refl _ _ _)
    refine E_aload_n (i := 0) dX11_leastBy_0 rfl rfl ?_
    refine E_gr dX11_leastBy_1 gf_X11_21_11 rfl (by assumption) (by assumption) ?_
    refine E_gr dX11_leastBy_4 gf_X11_152_8 rfl (by assumption) (by assumption) ?_
    refine E_iload dX11_leastBy_7 rfl ?_
    refine E_zaj r dX11_leastBy_9 (by assumption) hy (by omega) (by rw [y3]; omega) ?_
    refine E_if_eq (tgt := 19) dX11_leastBy_10 (by decide) (fun c_10 => ?_) (fun c_10 => absurd (hz0) c_10)
    refine E_aload_n (i := 0) dX11_leastBy_19 rfl rfl ?_
    refine E_gr dX11_leastBy_20 gf_X11_25_11 rfl (by assumption) (by assumption) ?_
    refine E_aload_n (i := 0) dX11_leastBy_23 rfl rfl ?_
    refine E_gr dX11_leastBy_24 gf_X11_21_11 rfl (by assumption) (by assumption) ?_
    refine k_X11_leastBy_27 (mc' := 0) (ms' := 0) (rc := 0) (rs := 0) (by omega) (Nat.le_of_ble_eq_true rfl) (by assumption) (c_copyAhead (by omega) hL hA0 (fun P' L f1 f2 f3 f4 f5 => ?_))
    exact rest P' L f1 f2 f3 f4 f5
theorem c_X11_snug {x y q : Int32} (hd : 61 ≤ d) (hL : Ly g P) (hA : LA g P I k rd M nt δ) (h1 : ∀ r n i, x = nI r → r < k → y = nI n → (ok60 y ∧ n ≤ 60) → (1 ≤ q ∧ q ≤ 300) → ¬ M (16 + 7 * r + 5) = 1 → (Unit → lsf M 2 r n q vPu 99 0 = some i) → ∀ P' J, AH P I P' J → Φ (some (.int (vPu i))) g P' J) (h2 : ∀ r n, x = nI r → r < k → y = nI n → (ok60 y ∧ n ≤ 60) → (1 ≤ q ∧ q ≤ 300) → ¬ M (16 + 7 * r + 5) = 1 → (Unit → lsf M 2 r n q vPu 99 0 = none) → ∀ P' J, AH P I P' J → Φ (some (.int (er 2))) g P' (fl J 2)) (h3 : ¬ ((0 ≤ x ∧ x ≤ nI k - 1) ∧ ok60 y ∧ (1 ≤ q ∧ q ≤ 300)) → Φ (some (.int (er 1))) g P (fl I 1)) (h4 : ∀ r, x = nI r → r < k → ok60 y → (1 ≤ q ∧ q ≤ 300) → M (16 + 7 * r + 5) = 1 → Φ (some (.int (er 3))) g P (fl I 3)) : MM Γ mX11_snug d 0 0 [.ref 16, .int x, .int y, .int q] g P I Φ := by
  refine MM_entry [some _, some _, some _, some _] (by decide) (Nat.le_of_ble_eq_true rfl) rfl ?_
  have l0 := hL.gw
  have l1 := hL.live
  have l2 := hL.s21.c
  have hA0 := hA
  obtain ⟨-, -, -, -, -, hk, hV, -, hR⟩ := hA
  have hk8 := hV.2.1
  by_cases hc : 0 ≤ x ∧ x ≤ nI k - 1
  · obtain ⟨r, hr, hr2⟩ := in_nat (by omega) hc
    have hp := (hR r hr2).1
    by_cases hc2 : ok60 y
    · by_cases hc3 : 1 ≤ q ∧ q ≤ 300
      · obtain ⟨n, hn, hn2⟩ := ok60_n hc2
        have hh1 := fun hi i => h1 r n i hr hr2 hn ⟨hc2, hn2⟩ hc3 hi
        have hh2 := h2 r n hr hr2 hn ⟨hc2, hn2⟩ hc3
        have hh4 := h4 r hr hr2 hc2 hc3
        clear h1 h2 h3 h4
        refine E_aload_n (i := 0) dX11_snug_0 rfl rfl ?_
        refine E_gr dX11_snug_1 gf_X11_21_11 rfl (by assumption) (by assumption) ?_
        refine E_iload_n (i := 1) dX11_snug_4 rfl rfl ?_
        refine k_X11_snug_5 (mc' := 0) (ms' := 0) (rc := 0) (rs := 0) (by omega) (Nat.le_of_ble_eq_true rfl) (by assumption) (c_rideAt_in (by omega) hL.s21 hk hk8 hr2 hr hp ?_)
        refine E_ifnull dX11_snug_8 ?_
        refine E_iload_n (i := 2) dX11_snug_11 rfl rfl ?_
        refine E_iconst (v := 1) dX11_snug_12 (by decide) ?_
        refine E_bipush (v := 60) dX11_snug_13 (by decide) ?_
        refine k_X11_snug_15 (mc' := 0) (ms' := 0) (rc := 0) (rs := 0) (by omega) (Nat.le_of_ble_eq_true rfl) (c_X11_within ?_)
        rw [bz_t hc2]
        refine E_if_eq (tgt := 32) dX11_snug_18 (by decide) (fun c_18 => absurd c_18 (by decide)) (fun c_18 => ?_)
        refine E_iload_n (i := 3) dX11_snug_21 rfl rfl ?_
        refine E_iconst (v := 1) dX11_snug_22 (by decide) ?_
        refine E_sipush (v := 300) dX11_snug_23 (by decide) ?_
        refine k_X11_snug_26 (mc' := 0) (ms' := 0) (rc := 0) (rs := 0) (by omega) (Nat.le_of_ble_eq_true rfl) (c_X11_within ?_)
        rw [bz_t hc3]
        refine E_if_ne (tgt := 38) dX11_snug_29 (by decide) (fun c_29 => ?_) (fun c_29 => absurd c_29 (by decide))
        refine E_aload_n (i := 0) dX11_snug_38 rfl rfl ?_
        refine E_iconst (v := 2) dX11_snug_39 (by decide) ?_
        refine E_bipush (v := 100) dX11_snug_40 (by decide) ?_
        refine E_sipush (v := 9900) dX11_snug_42 (by decide) ?_
        refine E_bipush (v := 100) dX11_snug_45 (by decide) ?_
        refine E_iload_n (i := 1) dX11_snug_47 rfl rfl ?_
        refine E_iload_n (i := 2) dX11_snug_48 rfl rfl ?_
        refine E_iload_n (i := 3) dX11_snug_49 rfl rfl ?_
        refine k_X11_snug_50 (mc' := 0) (ms' := 0) (rc := 0) (rs := 0) (by omega) (Nat.le_of_ble_eq_true rfl) (by assumption) (c_X11_leastBy (j := 2) (cnt := 99) vPu (by omega) hL hA0 rfl (by decide) (by decide) rfl vPu_s (fun i h => vPu_t h) vPu_e (fun i h => vPu_w h) hr hr2 hn (by omega) (fun hi i q1 P' J f1 => E_iret dX11_snug_53 rfl (hh1 hi i q1 P' J f1)) (fun hi q1 P' J f1 => E_iret dX11_snug_53 rfl (hh2 hi q1 P' J f1)) (fun hi => E_iret dX11_snug_53 rfl (hh4 hi)))
        done
      · have hΦ := h3 (fun h => hc3 h.2.2)
        refine E_aload_n (i := 0) dX11_snug_0 rfl rfl ?_
        refine E_gr dX11_snug_1 gf_X11_21_11 rfl (by assumption) (by assumption) ?_
        refine E_iload_n (i := 1) dX11_snug_4 rfl rfl ?_
        refine k_X11_snug_5 (mc' := 0) (ms' := 0) (rc := 0) (rs := 0) (by omega) (Nat.le_of_ble_eq_true rfl) (by assumption) (c_rideAt_in (by omega) hL.s21 hk hk8 hr2 hr hp ?_)
        refine E_ifnull dX11_snug_8 ?_
        refine E_iload_n (i := 2) dX11_snug_11 rfl rfl ?_
        refine E_iconst (v := 1) dX11_snug_12 (by decide) ?_
        refine E_bipush (v := 60) dX11_snug_13 (by decide) ?_
        refine k_X11_snug_15 (mc' := 0) (ms' := 0) (rc := 0) (rs := 0) (by omega) (Nat.le_of_ble_eq_true rfl) (c_X11_within ?_)
        rw [bz_t hc2]
        refine E_if_eq (tgt := 32) dX11_snug_18 (by decide) (fun c_18 => absurd c_18 (by decide)) (fun c_18 => ?_)
        refine E_iload_n (i := 3) dX11_snug_21 rfl rfl ?_
        refine E_iconst (v := 1) dX11_snug_22 (by decide) ?_
        refine E_sipush (v := 300) dX11_snug_23 (by decide) ?_
        refine k_X11_snug_26 (mc' := 0) (ms' := 0) (rc := 0) (rs := 0) (by omega) (Nat.le_of_ble_eq_true rfl) (c_X11_within ?_)
        rw [bz_f hc3]
        refine E_if_ne (tgt := 38) dX11_snug_29 (by decide) (fun c_29 => absurd (rfl) c_29) (fun c_29 => ?_)
        refine E_aload_n (i := 0) dX11_snug_32 rfl rfl ?_
        refine E_iconst (v := 1) dX11_snug_33 (by decide) ?_
        refine k_X11_snug_34 (mc' := 0) (ms' := 0) (rc := 0) (rs := 0) (by omega) (Nat.le_of_ble_eq_true rfl) (by assumption) (c_X11_fail (k := 1) hL rfl (by decide) (by decide) ?_)
        refine E_iret dX11_snug_37 rfl ?_
        exact hΦ
    · have hΦ := h3 (fun h => hc2 h.2.1)
      refine E_aload_n (i := 0) dX11_snug_0 rfl rfl ?_
      refine E_gr dX11_snug_1 gf_X11_21_11 rfl (by assumption) (by assumption) ?_
      refine E_iload_n (i := 1) dX11_snug_4 rfl rfl ?_
      refine k_X11_snug_5 (mc' := 0) (ms' := 0) (rc := 0) (rs := 0) (by omega) (Nat.le_of_ble_eq_true rfl) (by assumption) (c_rideAt_in (by omega) hL.s21 hk hk8 hr2 hr hp ?_)
      refine E_ifnull dX11_snug_8 ?_
      refine E_iload_n (i := 2) dX11_snug_11 rfl rfl ?_
      refine E_iconst (v := 1) dX11_snug_12 (by decide) ?_
      refine E_bipush (v := 60) dX11_snug_13 (by decide) ?_
      refine k_X11_snug_15 (mc' := 0) (ms' := 0) (rc := 0) (rs := 0) (by omega) (Nat.le_of_ble_eq_true rfl) (c_X11_within ?_)
      rw [bz_f hc2]
      refine E_if_eq (tgt := 32) dX11_snug_18 (by decide) (fun c_18 => ?_) (fun c_18 => absurd (rfl) c_18)
      refine E_aload_n (i := 0) dX11_snug_32 rfl rfl ?_
      refine E_iconst (v := 1) dX11_snug_33 (by decide) ?_
      refine k_X11_snug_34 (mc' := 0) (ms' := 0) (rc := 0) (rs := 0) (by omega) (Nat.le_of_ble_eq_true rfl) (by assumption) (c_X11_fail (k := 1) hL rfl (by decide) (by decide) ?_)
      refine E_iret dX11_snug_37 rfl ?_
      exact hΦ
  · have hΦ := h3 (fun h => hc h.1)
    refine E_aload_n (i := 0) dX11_snug_0 rfl rfl ?_
    refine E_gr dX11_snug_1 gf_X11_21_11 rfl (by assumption) (by assumption) ?_
    refine E_iload_n (i := 1) dX11_snug_4 rfl rfl ?_
    refine k_X11_snug_5 (mc' := 0) (ms' := 0) (rc := 0) (rs := 0) (by omega) (Nat.le_of_ble_eq_true rfl) (by assumption) (c_rideAt_out (by omega) hL.s21 (by rw [hk]; exact hc) ?_)
    refine E_ifnullN (tgt := 32) dX11_snug_8 (by decide) ?_
    refine E_aload_n (i := 0) dX11_snug_32 rfl rfl ?_
    refine E_iconst (v := 1) dX11_snug_33 (by decide) ?_
    refine k_X11_snug_34 (mc' := 0) (ms' := 0) (rc := 0) (rs := 0) (by omega) (Nat.le_of_ble_eq_true rfl) (by assumption) (c_X11_fail (k := 1) hL rfl (by decide) (by decide) ?_)
    refine E_iret dX11_snug_37 rfl ?_
    exact hΦ
theorem c_X11_lower {x y : Int32} (hd : 61 ≤ d) (hL : Ly g P) (hA : LA g P I k rd M nt δ) (h1 : ∀ r n i, x = nI r → r < k → y = nI n → (ok60 y ∧ n ≤ 60) → ¬ M (16 + 7 * r + 5) = 1 → (Unit → lsf M 1 r n 300 vDr 199 0 = some i) → ∀ P' J, AH P I P' J → Φ (some (.int (vDr i))) g P' J) (h2 : ∀ r n, x = nI r → r < k → y = nI n → (ok60 y ∧ n ≤ 60) → ¬ M (16 + 7 * r + 5) = 1 → (Unit → lsf M 1 r n 300 vDr 199 0 = none) → ∀ P' J, AH P I P' J → Φ (some (.int (er 2))) g P' (fl J 2)) (h3 : ¬ ((0 ≤ x ∧ x ≤ nI k - 1) ∧ ok60 y) → Φ (some (.int (er 1))) g P (fl I 1)) (h4 : ∀ r, x = nI r → r < k → ok60 y → M (16 + 7 * r + 5) = 1 → Φ (some (.int (er 3))) g P (fl I 3)) : MM Γ mX11_lower d 0 0 [.ref 16, .int x, .int y] g P I Φ := by
  refine MM_entry [some _, some _, some _] (by decide) (Nat.le_of_ble_eq_true rfl) rfl ?_
  have l0 := hL.gw
  have l1 := hL.live
  have l2 := hL.s21.c
  have hA0 := hA
  obtain ⟨-, -, -, -, -, hk, hV, -, hR⟩ := hA
  have hk8 := hV.2.1
  by_cases hc : 0 ≤ x ∧ x ≤ nI k - 1
  · obtain ⟨r, hr, hr2⟩ := in_nat (by omega) hc
    have hp := (hR r hr2).1
    by_cases hc2 : ok60 y
    · obtain ⟨n, hn, hn2⟩ := ok60_n hc2
      have hh1 := fun hi i => h1 r n i hr hr2 hn ⟨hc2, hn2⟩ hi
      have hh2 := h2 r n hr hr2 hn ⟨hc2, hn2⟩
      have hh4 := h4 r hr hr2 hc2
      clear h1 h2 h3 h4
      refine E_aload_n (i := 0) dX11_lower_0 rfl rfl ?_
      refine E_gr dX11_lower_1 gf_X11_21_11 rfl (by assumption) (by assumption) ?_
      refine E_iload_n (i := 1) dX11_lower_4 rfl rfl ?_
      refine k_X11_lower_5 (mc' := 0) (ms' := 0) (rc := 0) (rs := 0) (by omega) (Nat.le_of_ble_eq_true rfl) (by assumption) (c_rideAt_in (by omega) hL.s21 hk hk8 hr2 hr hp ?_)
      refine E_ifnull dX11_lower_8 ?_
      refine E_iload_n (i := 2) dX11_lower_11 rfl rfl ?_
      refine E_iconst (v := 1) dX11_lower_12 (by decide) ?_
      refine E_bipush (v := 60) dX11_lower_13 (by decide) ?_
      refine k_X11_lower_15 (mc' := 0) (ms' := 0) (rc := 0) (rs := 0) (by omega) (Nat.le_of_ble_eq_true rfl) (c_X11_within ?_)
      rw [bz_t hc2]
      refine E_if_ne (tgt := 27) dX11_lower_18 (by decide) (fun c_18 => ?_) (fun c_18 => absurd c_18 (by decide))
      refine E_aload_n (i := 0) dX11_lower_27 rfl rfl ?_
      refine E_iconst (v := 1) dX11_lower_28 (by decide) ?_
      refine E_bipush (v := -99) dX11_lower_29 (by decide) ?_
      refine E_bipush (v := 99) dX11_lower_31 (by decide) ?_
      refine E_iconst (v := 1) dX11_lower_33 (by decide) ?_
      refine E_iload_n (i := 1) dX11_lower_34 rfl rfl ?_
      refine E_iload_n (i := 2) dX11_lower_35 rfl rfl ?_
      refine E_sipush (v := 300) dX11_lower_36 (by decide) ?_
      refine k_X11_lower_39 (mc' := 0) (ms' := 0) (rc := 0) (rs := 0) (by omega) (Nat.le_of_ble_eq_true rfl) (by assumption) (c_X11_leastBy (j := 1) (cnt := 199) vDr (by omega) hL hA0 rfl (by decide) (by decide) (by decide) vDr_s (fun i h => vDr_t h) vDr_e (fun i h => vDr_w h) hr hr2 hn (by omega) (fun hi i q1 P' J f1 => E_iret dX11_lower_42 rfl (hh1 hi i q1 P' J f1)) (fun hi q1 P' J f1 => E_iret dX11_lower_42 rfl (hh2 hi q1 P' J f1)) (fun hi => E_iret dX11_lower_42 rfl (hh4 hi)))
      done
    · have hΦ := h3 (fun h => hc2 h.2)
      refine E_aload_n (i := 0) dX11_lower_0 rfl rfl ?_
      refine E_gr dX11_lower_1 gf_X11_21_11 rfl (by assumption) (by assumption) ?_
      refine E_iload_n (i := 1) dX11_lower_4 rfl rfl ?_
      refine k_X11_lower_5 (mc' := 0) (ms' := 0) (rc := 0) (rs := 0) (by omega) (Nat.le_of_ble_eq_true rfl) (by assumption) (c_rideAt_in (by omega) hL.s21 hk hk8 hr2 hr hp ?_)
      refine E_ifnull dX11_lower_8 ?_
      refine E_iload_n (i := 2) dX11_lower_11 rfl rfl ?_
      refine E_iconst (v := 1) dX11_lower_12 (by decide) ?_
      refine E_bipush (v := 60) dX11_lower_13 (by decide) ?_
      refine k_X11_lower_15 (mc' := 0) (ms' := 0) (rc := 0) (rs := 0) (by omega) (Nat.le_of_ble_eq_true rfl) (c_X11_within ?_)
      rw [bz_f hc2]
      refine E_if_ne (tgt := 27) dX11_lower_18 (by decide) (fun c_18 => absurd (rfl) c_18) (fun c_18 => ?_)
      refine E_aload_n (i := 0) dX11_lower_21 rfl rfl ?_
      refine E_iconst (v := 1) dX11_lower_22 (by decide) ?_
      refine k_X11_lower_23 (mc' := 0) (ms' := 0) (rc := 0) (rs := 0) (by omega) (Nat.le_of_ble_eq_true rfl) (by assumption) (c_X11_fail (k := 1) hL rfl (by decide) (by decide) ?_)
      refine E_iret dX11_lower_26 rfl ?_
      exact hΦ
  · have hΦ := h3 (fun h => hc h.1)
    refine E_aload_n (i := 0) dX11_lower_0 rfl rfl ?_
    refine E_gr dX11_lower_1 gf_X11_21_11 rfl (by assumption) (by assumption) ?_
    refine E_iload_n (i := 1) dX11_lower_4 rfl rfl ?_
    refine k_X11_lower_5 (mc' := 0) (ms' := 0) (rc := 0) (rs := 0) (by omega) (Nat.le_of_ble_eq_true rfl) (by assumption) (c_rideAt_out (by omega) hL.s21 (by rw [hk]; exact hc) ?_)
    refine E_ifnullN (tgt := 21) dX11_lower_8 (by decide) ?_
    refine E_aload_n (i := 0) dX11_lower_21 rfl rfl ?_
    refine E_iconst (v := 1) dX11_lower_22 (by decide) ?_
    refine k_X11_lower_23 (mc' := 0) (ms' := 0) (rc := 0) (rs := 0) (by omega) (Nat.le_of_ble_eq_true rfl) (by assumption) (c_X11_fail (k := 1) hL rfl (by decide) (by decide) ?_)
    refine E_iret dX11_lower_26 rfl ?_
    exact hΦ
end
