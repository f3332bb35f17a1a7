/-! a State and the model's row -/
/-! texts that are the same where they are read -/
theorem hr_cg {t t' : Nat → Int32} {n : Nat} (h : ∀ i, i < n → t i = t' i) : hr t n = hr t' n := by
  funext σ
  unfold hr
  by_cases hc : σ.2.1 = false ∧ σ.1 < n
  · rw [if_pos hc, if_pos hc, h _ hc.2]
  · rw [if_neg hc, if_neg hc]
section
variable {t t' : Nat → Int32} {n : Nat}
theorem lop_cg (h : hr t n = hr t' n) (ops : List (Int32 × Int32)) (f : PS → PS) : ∀ (u : Nat) (σ : PS), lop t n ops f u σ = lop t' n ops f u σ
  | 0, _ => rfl
  | u + 1, σ => by
    show (match opT (hr t n σ) ops with | none => σ | some o => lop t n ops f u (emt o (f (adv σ)))) = (match opT (hr t' n σ) ops with | none => σ | some o => lop t' n ops f u (emt o (f (adv σ))))
    rw [h]
    cases opT (hr t' n σ) ops with
    | none => rfl
    | some o => exact lop_cg h ops f u _
theorem dig_cg (h : hr t n = hr t' n) : ∀ (u : Nat) (v : Int32) (σ : PS), dig t n u v σ = dig t' n u v σ
  | 0, _, _ => rfl
  | u + 1, v, σ => by
    show (if 48 ≤ hr t n σ ∧ hr t n σ ≤ 57 then dig t n u (10 * v + hr t n σ - 48) (adv σ) else (v, σ)) = (if 48 ≤ hr t' n σ ∧ hr t' n σ ≤ 57 then dig t' n u (10 * v + hr t' n σ - 48) (adv σ) else (v, σ))
    rw [h, dig_cg h u]
theorem prd_cg (h : hr t n = hr t' n) (s : PS → PS) : prd t n s = prd t' n s := funext fun σ => lop_cg h _ _ _ _
theorem smm_cg (h : hr t n = hr t' n) (s : PS → PS) : smm t n s = smm t' n s := by
  funext σ
  unfold smm
  rw [prd_cg h, lop_cg h]
theorem cmd_cg (h : hr t n = hr t' n) (s : PS → PS) : cmd t n s = cmd t' n s := by
  funext σ
  unfold cmd
  rw [smm_cg h, h]
theorem bth_cg (h : hr t n = hr t' n) (s : PS → PS) : bth t n s = bth t' n s := by
  funext σ
  unfold bth
  rw [cmd_cg h, lop_cg h]
theorem eth_cg (h : hr t n = hr t' n) (s : PS → PS) : eth t n s = eth t' n s := by
  funext σ
  unfold eth
  rw [bth_cg h, lop_cg h]
theorem sng_cg (h : hr t n = hr t' n) (u : Nat) (rc : Option ((PS → PS) × (PS → PS))) : sng t n u rc = sng t' n u rc := by
  funext σ
  unfold sng
  rw [h, dig_cg h]
theorem pS_cg (h : hr t n = hr t' n) (u : Nat) : ∀ k, pS t n u k = pS t' n u k
  | 0 => sng_cg h u none
  | k + 1 => by
    show sng t n u (some (pS t n u k, eth t n (pS t n u k))) = sng t' n u (some (pS t' n u k, eth t' n (pS t' n u k)))
    rw [sng_cg h, pS_cg h u k, eth_cg h]
theorem rdT_cg (h : ∀ i, i < n → t i = t' i) (u : Nat) : rdT t n u = rdT t' n u := by
  unfold rdT
  rw [pS_cg (hr_cg h), eth_cg (hr_cg h)]
end
/-- a State's moving numbers are those of the row -/
def RD (I : HI) (B k : Nat) (M : Nat → Int32) : Prop := (∀ j, j < 9 → I (B + 2) j = M (7 + j)) ∧ ∀ i, i < k → I (B + 4) i = M (16 + 7 * i + 3) ∧ I (B + 5) i = M (16 + 7 * i + 4) ∧ I (B + 7) i = M (16 + 7 * i + 5) ∧ I (B + 6) i = M (16 + 7 * i + 6)
/-- a State's rides are those of the row -/
def RR (g : Sh) (P : HP) (I : HI) (B k : Nat) (rd : Nat → Nat) (M : Nat → Int32) : Prop := ∀ i, i < k → P (B + 3) i = some (rd i) ∧ Cel g (rd i) (kc (kdo M i)) ∧ 128 ≤ rd i ∧ P (rd i) 4 = some 94 ∧ I (rd i) 0 = M (16 + 7 * i + 0) ∧ I (rd i) 1 = nI i ∧ I (rd i) 2 = M (16 + 7 * i + 1) ∧ I (rd i) 3 = M (16 + 7 * i + 2)
/-- what a State's passing leaves as it was -/
def FS (B k : Nat) (I J : HI) : Prop := (∀ a, a ≠ 17 → a ≠ 18 → a ≠ B → a ≠ B + 2 → (a < B + 4 ∨ B + 7 < a) → J a = I a) ∧ (∀ s, s ≠ 8 → J B s = I B s) ∧ ∀ j, k ≤ j → J (B + 7) j = I (B + 7) j
theorem FS.refl (B k : Nat) (I : HI) : FS B k I I := ⟨fun _ _ _ _ _ _ => rfl, fun _ _ => rfl, fun _ _ => rfl⟩
theorem FS.trans {B k : Nat} {I J K : HI} (h : FS B k I J) (h2 : FS B k J K) : FS B k I K := ⟨fun a a1 a2 a3 a4 a5 => (h2.1 a a1 a2 a3 a4 a5).trans (h.1 a a1 a2 a3 a4 a5), fun s hs => (h2.2.1 s hs).trans (h.2.1 s hs), fun j hj => (h2.2.2 j hj).trans (h.2.2 j hj)⟩
theorem isR_kc {kd : Nat} (h : kd ≤ 6) : isR (kc kd) := by
  match kd, h with
  | 0, _ => exact Or.inl rfl
  | 1, _ => exact Or.inr (Or.inl rfl)
  | 2, _ => exact Or.inr (Or.inr (Or.inl rfl))
  | 3, _ => exact Or.inr (Or.inr (Or.inr (Or.inl rfl)))
  | 4, _ => exact Or.inr (Or.inr (Or.inr (Or.inr (Or.inl rfl))))
  | 5, _ => exact Or.inr (Or.inr (Or.inr (Or.inr (Or.inr (Or.inl rfl)))))
  | 6, _ => exact Or.inr (Or.inr (Or.inr (Or.inr (Or.inr (Or.inr rfl)))))
section
variable {g : Sh} {P P' : HP} {I J : HI} {B k : Nat} {rd : Nat → Nat} {M M' : Nat → Int32}
theorem RR.pf (hp : PF P P') (hB : 17 < B) (h : RR g P I B k rd M) : RR g P' I B k rd M := fun i hi => by
  obtain ⟨h1, h2, h3, h4, h5⟩ := h i hi
  exact ⟨by rw [hp.1 (B + 3) (by omega)]; exact h1, h2, h3, by rw [hp.1 _ (by omega)]; exact h4, h5⟩
/-- the rides' own numbers stay -/
theorem RR.mv (h : RR g P I B k rd M) (hI : ∀ a, 128 ≤ a → J a = I a) (hM : ∀ i, i < k → ∀ f, f < 3 → M' (16 + 7 * i + f) = M (16 + 7 * i + f)) : RR g P J B k rd M' := fun i hi => by
  obtain ⟨h1, h2, h3, h4, h5, h6, h7, h8⟩ := h i hi
  have e : kdo M' i = kdo M i := by unfold kdo; rw [hM i hi 0 (by omega)]
  refine ⟨h1, by rw [e]; exact h2, h3, h4, by rw [hI _ h3, hM i hi 0 (by omega)]; exact h5, by rw [hI _ h3]; exact h6, by rw [hI _ h3, hM i hi 1 (by omega)]; exact h7, by rw [hI _ h3, hM i hi 2 (by omega)]; exact h8⟩
theorem RD.wok (h : RD I B k M) (hV : VM M k) : WOK (I (B + 2)) := fun j hj => by rw [h.1 j hj]; exact hV.2.2.1 j hj
theorem RD.w8 (h : RD I B k M) : c8 (I (B + 2)) = c8 (wm M) := by
  funext j
  unfold c8
  split
  · exact h.1 j (by omega)
  · rfl
theorem RD.mv (h : RD I B k M) (hM : ∀ y, 7 ≤ y → M' y = M y) : RD I B k M' := ⟨fun j hj => by rw [hM _ (by omega)]; exact h.1 j hj, fun i hi => by rw [hM _ (by omega), hM _ (by omega), hM _ (by omega), hM _ (by omega)]; exact h.2 i hi⟩
end
/-- a ride's tick but for the strands -/
def goN (M : Nat → Int32) (r : Nat) : Nat → Int32 :=
  if 10 * M 7 ≤ M (16 + 7 * r + 3) + pcM M r then ur (ur (ur (ur M (16 + 7 * r + 3) (10 * M 7)) (16 + 7 * r + 6) (pcM M r)) (16 + 7 * r + 4) 0) (16 + 7 * r + 5) 1
  else if M (16 + 7 * r + 3) + pcM M r < 0 then ur (ur M (16 + 7 * r + 3) 0) (16 + 7 * r + 4) 0
  else ur (ur M (16 + 7 * r + 3) (M (16 + 7 * r + 3) + pcM M r)) (16 + 7 * r + 4) (pcM M r)
theorem goN_go {δ : List Int32} {M : Nat → Int32} {r y : Nat} (h : y ≠ 15) : goM δ M r y = goN M r y := by
  unfold goM goN
  split
  · by_cases e3 : y = 16 + 7 * r + 3
    · subst e3
      rw [ur_n _ _ (by omega), ur_s, ur_n _ _ (by omega), ur_n _ _ (by omega), ur_n _ _ (by omega), ur_s]
    · by_cases e4 : y = 16 + 7 * r + 4
      · subst e4
        rw [ur_s, ur_n _ _ (by omega), ur_s]
      · by_cases e5 : y = 16 + 7 * r + 5
        · subst e5
          rw [ur_n _ _ (by omega), ur_n _ _ (by omega), ur_n _ _ (by omega), ur_s, ur_s]
        · by_cases e6 : y = 16 + 7 * r + 6
          · subst e6
            rw [ur_n _ _ (by omega), ur_n _ _ (by omega), ur_s, ur_n _ _ (by omega), ur_n _ _ (by omega), ur_s]
          · rw [ur_n _ _ e4, ur_n _ _ e3, ur_n _ _ e6, ur_n _ _ e5, ur_n _ _ h, ur_n _ _ e5, ur_n _ _ e4, ur_n _ _ e6, ur_n _ _ e3]
  · rfl
theorem goN_15 {M : Nat → Int32} {r : Nat} : goN M r 15 = M 15 := by
  unfold goN
  split
  · rw [ur_n _ _ (by omega), ur_n _ _ (by omega), ur_n _ _ (by omega), ur_n _ _ (by omega)]
  · split
    · rw [ur_n _ _ (by omega), ur_n _ _ (by omega)]
    · rw [ur_n _ _ (by omega), ur_n _ _ (by omega)]
theorem goM_15 {δ : List Int32} {M : Nat → Int32} {r : Nat} : goM δ M r 15 = if 10 * M 7 ≤ M (16 + 7 * r + 3) + pcM M r then stn δ (M (16 + 7 * r + 1)) (pcM M r) (M 15) else M 15 := by
  unfold goM
  split
  · rw [ur_n _ _ (by omega), ur_n _ _ (by omega), ur_n _ _ (by omega), ur_n _ _ (by omega), ur_s]
  · split
    · rw [ur_n _ _ (by omega), ur_n _ _ (by omega)]
    · rw [ur_n _ _ (by omega), ur_n _ _ (by omega)]
theorem goN_5 {M : Nat → Int32} {r : Nat} (h : M (16 + 7 * r + 5) = 0) : goN M r (16 + 7 * r + 5) = if 10 * M 7 ≤ M (16 + 7 * r + 3) + pcM M r then 1 else 0 := by
  unfold goN
  split
  · rw [ur_s]
  · split
    · rw [ur_n _ _ (by omega), ur_n _ _ (by omega), h]
    · rw [ur_n _ _ (by omega), ur_n _ _ (by omega), h]
theorem goN_6 {M : Nat → Int32} {r : Nat} (h : 10 * M 7 ≤ M (16 + 7 * r + 3) + pcM M r) : goN M r (16 + 7 * r + 6) = pcM M r := by
  unfold goN
  rw [if_pos h, ur_n _ _ (by omega), ur_n _ _ (by omega), ur_s]
/-- a ride's tick in the class's heap -/
theorem RD_go {I : HI} {B k i : Nat} {M : Nat → Int32} (h : RD I B k M) (hi : i < k) : RD (rsI I B i (pcM M i)) B k (goN M i) ∧ FS B k I (rsI I B i (pcM M i)) ∧ rsI I B i (pcM M i) (B + 2) = I (B + 2) ∧ rsI I B i (pcM M i) B = I B := by
  obtain ⟨h1, h2⟩ := h
  obtain ⟨a3, a4, a5, a6⟩ := h2 i hi
  have e7 : I (B + 2) 0 = M 7 := h1 0 (by decide)
  unfold rsI goN
  rw [e7, a3]
  by_cases c1 : 10 * M 7 ≤ M (16 + 7 * i + 3) + pcM M i
  · rw [if_pos c1, if_pos c1]
    refine ⟨⟨fun j hj => ?_, fun r hr => ?_⟩, ⟨fun a b1 b2 b3 b4 b5 => ?_, fun s hs => ?_, fun j hj => ?_⟩, ?_, ?_⟩
    · rw [u2_oth _ (by omega), u2_oth _ (by omega), u2_oth _ (by omega), u2_oth _ (by omega), ur_n _ _ (by omega), ur_n _ _ (by omega), ur_n _ _ (by omega), ur_n _ _ (by omega)]
      exact h1 j hj
    · obtain ⟨q3, q4, q5, q6⟩ := h2 r hr
      by_cases e : r = i
      · subst e
        refine ⟨?_, ?_, ?_, ?_⟩
        · rw [u2_oth _ (by omega), u2_oth _ (by omega), u2_oth _ (by omega), u2_s, ur_n _ _ (by omega), ur_n _ _ (by omega), ur_n _ _ (by omega), ur_s]
        · rw [u2_oth _ (by omega), u2_s, ur_n _ _ (by omega), ur_s]
        · rw [u2_s, ur_s]
        · rw [u2_oth _ (by omega), u2_oth _ (by omega), u2_s, ur_n _ _ (by omega), ur_n _ _ (by omega), ur_s]
      · refine ⟨?_, ?_, ?_, ?_⟩
        · rw [u2_oth _ (by omega), u2_oth _ (by omega), u2_oth _ (by omega), u2_o (fun q => e q.2), ur_n _ _ (by omega), ur_n _ _ (by omega), ur_n _ _ (by omega), ur_n _ _ (by omega)]; exact q3
        · rw [u2_oth _ (by omega), u2_o (fun q => e q.2), u2_oth _ (by omega), u2_oth _ (by omega), ur_n _ _ (by omega), ur_n _ _ (by omega), ur_n _ _ (by omega), ur_n _ _ (by omega)]; exact q4
        · rw [u2_o (fun q => e q.2), u2_oth _ (by omega), u2_oth _ (by omega), u2_oth _ (by omega), ur_n _ _ (by omega), ur_n _ _ (by omega), ur_n _ _ (by omega), ur_n _ _ (by omega)]; exact q5
        · rw [u2_oth _ (by omega), u2_oth _ (by omega), u2_o (fun q => e q.2), u2_oth _ (by omega), ur_n _ _ (by omega), ur_n _ _ (by omega), ur_n _ _ (by omega), ur_n _ _ (by omega)]; exact q6
    · rw [u2_oth _ (by omega), u2_oth _ (by omega), u2_oth _ (by omega), u2_oth _ (by omega)]
    · rw [u2_oth _ (by omega), u2_oth _ (by omega), u2_oth _ (by omega), u2_oth _ (by omega)]
    · rw [u2_o (fun q => by omega), u2_oth _ (by omega), u2_oth _ (by omega), u2_oth _ (by omega)]
    · rw [u2_oth _ (by omega), u2_oth _ (by omega), u2_oth _ (by omega), u2_oth _ (by omega)]
    · rw [u2_oth _ (by omega), u2_oth _ (by omega), u2_oth _ (by omega), u2_oth _ (by omega)]
  · rw [if_neg c1, if_neg c1]
    have key : ∀ v w : Int32, RD (u2 (u2 I (B + 4) i v) (B + 5) i w) B k (ur (ur M (16 + 7 * i + 3) v) (16 + 7 * i + 4) w) ∧ FS B k I (u2 (u2 I (B + 4) i v) (B + 5) i w) ∧ (u2 (u2 I (B + 4) i v) (B + 5) i w) (B + 2) = I (B + 2) ∧ (u2 (u2 I (B + 4) i v) (B + 5) i w) B = I B := by
      intro v w
      refine ⟨⟨fun j hj => ?_, fun r hr => ?_⟩, ⟨fun a b1 b2 b3 b4 b5 => ?_, fun s hs => ?_, fun j hj => ?_⟩, ?_, ?_⟩
      · rw [u2_oth _ (by omega), u2_oth _ (by omega), ur_n _ _ (by omega), ur_n _ _ (by omega)]
        exact h1 j hj
      · obtain ⟨q3, q4, q5, q6⟩ := h2 r hr
        by_cases e : r = i
        · subst e
          refine ⟨?_, ?_, ?_, ?_⟩
          · rw [u2_oth _ (by omega), u2_s, ur_n _ _ (by omega), ur_s]
          · rw [u2_s, ur_s]
          · rw [u2_oth _ (by omega), u2_oth _ (by omega), ur_n _ _ (by omega), ur_n _ _ (by omega)]; exact q5
          · rw [u2_oth _ (by omega), u2_oth _ (by omega), ur_n _ _ (by omega), ur_n _ _ (by omega)]; exact q6
        · refine ⟨?_, ?_, ?_, ?_⟩
          · rw [u2_oth _ (by omega), u2_o (fun q => e q.2), ur_n _ _ (by omega), ur_n _ _ (by omega)]; exact q3
          · rw [u2_o (fun q => e q.2), u2_oth _ (by omega), ur_n _ _ (by omega), ur_n _ _ (by omega)]; exact q4
          · rw [u2_oth _ (by omega), u2_oth _ (by omega), ur_n _ _ (by omega), ur_n _ _ (by omega)]; exact q5
          · rw [u2_oth _ (by omega), u2_oth _ (by omega), ur_n _ _ (by omega), ur_n _ _ (by omega)]; exact q6
      · rw [u2_oth _ (by omega), u2_oth _ (by omega)]
      · rw [u2_oth _ (by omega), u2_oth _ (by omega)]
      · rw [u2_oth _ (by omega), u2_oth _ (by omega)]
      · rw [u2_oth _ (by omega), u2_oth _ (by omega)]
      · rw [u2_oth _ (by omega), u2_oth _ (by omega)]
    by_cases c2 : M (16 + 7 * i + 3) + pcM M i < 0
    · rw [if_pos c2, if_pos c2]
      exact key 0 0
    · rw [if_neg c2, if_neg c2]
      exact key _ _
