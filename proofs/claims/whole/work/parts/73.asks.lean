/-! questions: both answer alike -/
theorem n200 {n : Nat} (h : n ≤ 200) : okA (nI n) := ⟨(nI_leI (a := 0) (by omega) (by omega)).mpr (by omega), (nI_leI (b := 200) (by omega) (by omega)).mpr h⟩
theorem n_ab {a n b : Nat} (h : a ≤ n) (h2 : n ≤ b) (hb : b ≤ 100000) : nI a ≤ nI n ∧ nI n ≤ nI b := ⟨(nI_leI (by omega) (by omega)).mpr h, (nI_leI (by omega) (by omega)).mpr h2⟩
theorem VM.rd {M : Nat → Int32} {k : Nat} (h : VM M k) : rdM M k (kdo M) := fun r hr => ⟨(h.2.2.2 r hr).kd.1, (h.2.2.2 r hr).kd.2, div10_pos (h.2.2.2 r hr).2.2.2.1.1⟩
section
variable {g : Sh} {P P' : HP} {I J K : HI} {k : Nat} {rd nt : Nat → Nat} {δ : Nat → List Int32} {nl nd tp wt : Nat} {M : Nat → Int32}
theorem Sz.mv {B : Nat} (h : Sz I B) (e : ∀ a, B ≤ a → a < B + 24 → J a = I a) : Sz J B := by
  obtain ⟨z1, z2⟩ := h
  refine ⟨by rw [e B (by omega) (by omega)]; exact z1, fun q hq => ?_⟩
  have : q.2.1 < 24 := by revert q; decide
  rw [e (B + q.2.1) (by omega) (by omega)]; exact z2 q hq
theorem AH.fv (h : AH P I P' J) (hF : FA J K) : FV P P' I K := by
  obtain ⟨h1, h2, h3, h4, h5⟩ := h
  refine ⟨⟨fun a x y => ?_, h1.2⟩, h5.mv (fun a x y => hF a (by omega) (by omega) (by omega)), fun a x1 x2 x3 x4 x5 x6 x7 x8 x9 x10 => (hF a x6 x8 x9).trans (h4 a x1 x2 x3), ?_, ?_⟩
  · by_cases e24 : a = 24
    · rw [e24, h2]
    · by_cases e72 : a = 72
      · rw [e72, h3]
      · exact h1.1 a x e24 y e72
  · rw [hF 109 (by decide) (by decide) (by decide), h4 109 (by decide) (by decide) (by decide)]
  · rw [hF 109 (by decide) (by decide) (by decide), h4 109 (by decide) (by decide) (by decide)]
theorem AH.fve {n : Nat} (h : AH P I P' J) (hF : FA (fl J n) K) : FV P P' (flM (fl I n) n) (flM K n) := by
  obtain ⟨h1, h2, h3, h4, h5⟩ := h
  have e : ∀ a, a ≠ 93 → a ≠ 113 → flM (fl I n) n a = I a := fun a x y => (u2_oth _ y).trans (u2_oth _ x)
  refine ⟨⟨fun a x y => ?_, h1.2⟩, h5.mv (fun a x y => ?_), fun a x1 x2 x3 x4 x5 x6 x7 x8 x9 x10 => ?_, ?_, ?_⟩
  · by_cases e24 : a = 24
    · rw [e24, h2]
    · by_cases e72 : a = 72
      · rw [e72, h3]
      · exact h1.1 a x e24 y e72
  · show u2 K 113 n _ a = _
    rw [u2_oth _ (by omega), hF a (by omega) (by omega) (by omega)]
    exact u2_oth _ (by omega)
  · by_cases e93 : a = 93
    · subst e93
      show u2 K 113 n _ 93 = _
      rw [u2_oth _ (by decide), hF 93 (by decide) (by decide) (by decide)]
      show u2 J 93 n (J 93 n + 1) 93 = u2 I 93 n (I 93 n + 1) 93
      rw [u2_row, u2_row, h4 93 (by decide) (by decide) (by decide)]
    · by_cases e113 : a = 113
      · subst e113
        show u2 K 113 n (K 113 n + 1) 113 = u2 (fl I n) 113 n (fl I n 113 n + 1) 113
        have q1 : K 113 = I 113 := (hF 113 (by decide) (by decide) (by decide)).trans ((u2_oth _ (by decide)).trans (h4 113 (by decide) (by decide) (by decide)))
        have q2 : fl I n 113 = I 113 := u2_oth _ (by decide)
        rw [u2_row, u2_row, q1, q2]
      · show u2 K 113 n _ a = _
        rw [u2_oth _ e113, e a e93 e113, hF a x6 x8 x9]
        exact (u2_oth _ e93).trans (h4 a x1 x2 x3)
  · show u2 K 113 n _ 109 3 = I 109 3
    rw [u2_oth _ (by decide), hF 109 (by decide) (by decide) (by decide)]
    show fl J n 109 3 = _
    rw [show fl J n 109 = J 109 from u2_oth _ (by decide), h4 109 (by decide) (by decide) (by decide)]
  · show u2 K 113 n _ 109 21 = I 109 21
    rw [u2_oth _ (by decide), hF 109 (by decide) (by decide) (by decide)]
    show fl J n 109 21 = _
    rw [show fl J n 109 = J 109 from u2_oth _ (by decide), h4 109 (by decide) (by decide) (by decide)]
theorem SP.w (h : SP g P I 21 M k rd nt δ nl nd tp wt) : ∀ j, j < 9 → I 23 j = wm M j := fun j hj => h.2.1.2.1.1 j hj
theorem SP.wo (h : SP g P I 21 M k rd nt δ nl nd tp wt) : WOK (I 23) := h.2.1.2.1.wok h.2.1.1
theorem SP.on (h : SP g P I 21 M k rd nt δ nl nd tp wt) (x l : Int32) : onW (I 23) x l ↔ onW (wm M) x l := by unfold onW; rw [h.w 0 (by decide)]
end
section
variable {Γ : GE}
theorem p_tight : PR Γ mX11_tight mX12_tight 0 0 [.ref 16] [.ref 109] := by
  intro g P I d Φ hd hI hΦ
  obtain ⟨⟨hL, hM⟩, ⟨k, rd, nt, δ, nl, nd, tp, wt, hS⟩, -⟩ := id hI
  refine c_X11_tight (by omega) hL (hΦ _ _ _ _ hM.1 fun d' Ψ hd' hΨ => c_X12_tight (by omega) hM ?_)
  rw [← taut_cg hS.w]
  exact hΨ _ hI
theorem p_depth {x l : Int32} : PR Γ mX11_depth mX12_depth 0 0 [.ref 16, .int x, .int l] [.ref 109, .int x, .int l] := by
  intro g P I d Φ hd hI hΦ
  obtain ⟨⟨hL, hM⟩, ⟨k, rd, nt, δ, nl, nd, tp, wt, hS⟩, -⟩ := id hI
  refine c_X11_depth (by omega) hL hS.wo (fun h => hΦ _ _ _ _ hM.1 fun d' Ψ hd' hΨ => c_X12_depth (by omega) hM hS.2.1.1.2.2.1 (fun h' => ?_) (fun h' => absurd ((hS.on x l).mp h) h')) (fun h => hΦ _ _ _ _ hM.1 fun d' Ψ hd' hΨ => c_X12_depth (by omega) hM hS.2.1.1.2.2.1 (fun h' => absurd ((hS.on x l).mpr h') h) (fun _ => hΨ _ hI.err))
  rw [← dep_cg hS.w]
  exact hΨ _ hI
theorem p_steep {x l : Int32} : PR Γ mX11_steep mX12_steep 0 0 [.ref 16, .int x, .int l] [.ref 109, .int x, .int l] := by
  intro g P I d Φ hd hI hΦ
  obtain ⟨⟨hL, hM⟩, ⟨k, rd, nt, δ, nl, nd, tp, wt, hS⟩, -⟩ := id hI
  refine c_X11_steep (by omega) hL hS.wo (fun h => hΦ _ _ _ _ hM.1 fun d' Ψ hd' hΨ => c_X12_steep (by omega) hM hS.2.1.1.2.2.1 (fun h' => ?_) (fun h' => absurd ((hS.on x l).mp h) h')) (fun h => hΦ _ _ _ _ hM.1 fun d' Ψ hd' hΨ => c_X12_steep (by omega) hM hS.2.1.1.2.2.1 (fun h' => absurd ((hS.on x l).mpr h') h) (fun _ => hΨ _ hI.err))
  rw [← stp_cg hS.w]
  exact hΨ _ hI
theorem p_pulled {x l : Int32} : PR Γ mX11_pulled mX12_pulled 0 0 [.ref 16, .int x, .int l] [.ref 109, .int x, .int l] := by
  intro g P I d Φ hd hI hΦ
  obtain ⟨⟨hL, hM⟩, ⟨k, rd, nt, δ, nl, nd, tp, wt, hS⟩, -⟩ := id hI
  refine c_X11_pulled (by omega) hL hS.wo (fun h => hΦ _ _ _ _ hM.1 fun d' Ψ hd' hΨ => c_X12_pulled (by omega) hM hS.2.1.1.2.2.1 (fun h' => ?_) (fun h' => absurd ((hS.on x l).mp h) h')) (fun h => hΦ _ _ _ _ hM.1 fun d' Ψ hd' hΨ => c_X12_pulled (by omega) hM hS.2.1.1.2.2.1 (fun h' => absurd ((hS.on x l).mpr h') h) (fun _ => hΨ _ hI.err))
  rw [pul_eq hS.2.1.1.2.2.1 h', ← pul_cg hS.w]
  exact hΨ _ hI
theorem p_most : PR Γ mX11_most mX12_most 0 0 [.ref 16] [.ref 109] := by
  intro g P I d Φ hd hI hΦ
  obtain ⟨⟨hL, hM⟩, ⟨k, rd, nt, δ, nl, nd, tp, wt, hS⟩, -⟩ := id hI
  have hO := hS.2.1.1.2.2.1
  have hb := hO.b.1
  obtain ⟨s, hs, hs4⟩ := nat_of (x := wm (I 110) 0) (n := 400) (by omega) (by omega)
  have hg : grst (pC (I 23)) 300 = grst (pM (wm (I 110)) s) 300 := grst_congr 300 (fun l hl => (pC_cg hS.w l).trans (pC_pM hO hs hs4 hl))
  refine c_X11_most (by omega) hL hS.wo (fun l h => hΦ _ _ _ _ hM.1 fun d' Ψ hd' hΨ => c_X12_most (s := s) (by omega) hM hO hs hs4 (fun l' h' => ?_) (fun h' => ?_)) (fun h => hΦ _ _ _ _ hM.1 fun d' Ψ hd' hΨ => c_X12_most (s := s) (by omega) hM hO hs hs4 (fun l' h' => ?_) (fun h' => ?_))
  · rw [hg, h'] at h
    rw [Option.some.inj h]
    exact hΨ _ hI
  · rw [hg, h'] at h; cases h
  · have h' : grst (pM (wm (I 110)) s) 300 = some l' := h'
    rw [hg, h'] at h; cases h
  · exact hΨ _ hI.err
theorem p_bridge {x l : Int32} : PR Γ mX11_bridge mX12_bridge 0 0 [.ref 16, .int x, .int l] [.ref 109, .int x, .int l] := by
  intro g P I d Φ hd hI hΦ
  obtain ⟨⟨hL, hM⟩, -⟩ := id hI
  exact c_X11_bridge (by omega) hL (fun h => hΦ _ _ _ _ hM.1 fun d' Ψ hd' hΨ => c_X12_bridge (by omega) hM (fun h' => hΨ _ hI) (fun h' => absurd h h')) (fun h => hΦ _ _ _ _ hM.1 fun d' Ψ hd' hΨ => c_X12_bridge (by omega) hM (fun h' => absurd h' h) (fun _ => hΨ _ hI.err))
theorem p_told {x : Int32} : PR Γ mX11_told mX12_told 0 0 [.ref 16, .int x] [.ref 109, .int x] := by
  intro g P I d Φ hd hI hΦ
  obtain ⟨⟨hL, hM⟩, -, -, -, hE, -⟩ := id hI
  refine c_X11_told (by omega) hL (fun j hj h1 h5 => hΦ _ _ _ _ hM.1 fun d' Ψ hd' hΨ => c_X12_told (by omega) hM (fun i hi hi1 hi5 => ?_) (fun h' => absurd ?_ h')) (fun h => hΦ _ _ _ _ hM.1 fun d' Ψ hd' hΨ => c_X12_told (by omega) hM (fun i hi hi1 hi5 => absurd ?_ h) (fun _ => hΨ _ hI.err))
  · have e := nI_inj (by omega) (by omega) (hj.symm.trans hi)
    subst e
    rw [← hE j (by omega)]
    exact hΨ _ hI
  · rw [hj]; exact n_ab h1 h5 (by decide)
  · rw [hi]; exact n_ab hi1 hi5 (by decide)
theorem p_trace {x : Int32} : PR Γ mX11_trace mX12_trace 0 0 [.ref 16, .int x] [.ref 109, .int x] := by
  intro g P I d Φ hd hI hΦ
  obtain ⟨⟨hL, hM⟩, -, -, -, -, ⟨kt, t1, t2, t3, t4⟩, -⟩ := id hI
  refine c_X11_trace (k := kt) (by omega) hL t1 t3 (fun j hj h1 => hΦ _ _ _ _ hM.1 fun d' Ψ hd' hΨ => c_X12_trace (k := kt) (by omega) hM t2 t3 (fun i hi hi1 => ?_) (fun h' => absurd ?_ h')) (fun h => hΦ _ _ _ _ hM.1 fun d' Ψ hd' hΨ => c_X12_trace (k := kt) (by omega) hM t2 t3 (fun i hi hi1 => absurd ?_ h) (fun _ => hΨ _ hI.err))
  · have e := nI_inj (by omega) (by omega) (hj.symm.trans hi)
    subst e
    rw [← t4 j h1]
    exact hΨ _ hI
  · rw [hj]; exact nat_in (by omega) h1
  · rw [hi]; exact nat_in (by omega) hi1
end
