/-! texts: a reader that gives code, and what code gives -/
/-- where it is, whether it is wrong, the code so far -/
abbrev PS : Type := Nat × Bool × List Int32
/-- the byte ahead; -1 -/
def hr (t : Nat → Int32) (n : Nat) (σ : PS) : Int32 := if σ.2.1 = false ∧ σ.1 < n then t σ.1 else -1
def emt (v : Int32) (σ : PS) : PS := if σ.2.1 = true then σ else (σ.1, σ.2.1, σ.2.2 ++ [v])
def adv (σ : PS) : PS := (σ.1 + 1, σ.2.1, σ.2.2)
def wrg (σ : PS) : PS := (σ.1, true, σ.2.2)
/-- which of some signs is ahead: its code -/
def opT (c : Int32) : List (Int32 × Int32) → Option Int32
  | [] => none
  | q :: r => if c = q.1 then some q.2 else opT c r
def lop (t : Nat → Int32) (n : Nat) (ops : List (Int32 × Int32)) (sub : PS → PS) : Nat → PS → PS
  | 0, σ => σ
  | u + 1, σ => match opT (hr t n σ) ops with
    | none => σ
    | some o => lop t n ops sub u (emt o (sub (adv σ)))
def opP : List (Int32 × Int32) := [(42, 20007), (47, 20008), (37, 20009)]
def opS : List (Int32 × Int32) := [(43, 20005), (45, 20006)]
def opC : List (Int32 × Int32) := [(60, 20002), (61, 20003), (62, 20004)]
def opB : List (Int32 × Int32) := [(38, 20001)]
def opE : List (Int32 × Int32) := [(124, 20000)]
def prd (t : Nat → Int32) (n : Nat) (s : PS → PS) (σ : PS) : PS := lop t n opP s 50 (s σ)
def smm (t : Nat → Int32) (n : Nat) (s : PS → PS) (σ : PS) : PS := lop t n opS (prd t n s) 50 (prd t n s σ)
def cmd (t : Nat → Int32) (n : Nat) (s : PS → PS) (σ : PS) : PS := match opT (hr t n (smm t n s σ)) opC with
  | none => smm t n s σ
  | some o => emt o (smm t n s (adv (smm t n s σ)))
def bth (t : Nat → Int32) (n : Nat) (s : PS → PS) (σ : PS) : PS := lop t n opB (cmd t n s) 50 (cmd t n s σ)
def eth (t : Nat → Int32) (n : Nat) (s : PS → PS) (σ : PS) : PS := lop t n opE (bth t n s) 50 (bth t n s σ)
def dgt (c : Int32) : Prop := 48 ≤ c ∧ c ≤ 57
/-- a number's digits -/
def dig (t : Nat → Int32) (n : Nat) : Nat → Int32 → PS → Int32 × PS
  | 0, v, σ => (v, σ)
  | u + 1, v, σ => if 48 ≤ hr t n σ ∧ hr t n σ ≤ 57 then dig t n u (10 * v + hr t n σ - 48) (adv σ) else (v, σ)
def nmo (u : Nat) (c : Int32) : Option Nat := fnd (fun i => sbt (1 + u) i = c) (sln (1 + u)) 0
/-- what stands by itself, by what may be opened -/
def sng (t : Nat → Int32) (n u : Nat) (rc : Option ((PS → PS) × (PS → PS))) (σ : PS) : PS :=
  if hr t n σ = 33 ∨ hr t n σ = 40 then
    (match rc with
      | none => wrg σ
      | some q => if hr t n σ = 33 then emt 20010 (q.1 (adv σ)) else if hr t n (q.2 (adv σ)) = 41 then adv (q.2 (adv σ)) else wrg (q.2 (adv σ)))
  else if 48 ≤ hr t n σ ∧ hr t n σ ≤ 57 then emt (dig t n 4 0 σ).1 (dig t n 4 0 σ).2
  else match nmo u (hr t n σ) with
    | some i => adv (emt (10000 + nI i) σ)
    | none => wrg σ
/-- k: how many may still be opened -/
def pS (t : Nat → Int32) (n u : Nat) : Nat → PS → PS
  | 0 => sng t n u none
  | k + 1 => sng t n u (some (pS t n u k, eth t n (pS t n u k)))
/-- what an operator makes of two -/
def dnO (op a b : Int32) : Int32 :=
  if op = 20000 then bz (¬ a = 0 ∨ ¬ b = 0) else if op = 20001 then bz (¬ a = 0 ∧ ¬ b = 0) else if op = 20002 then bz (a < b) else if op = 20003 then bz (a = b) else if op = 20004 then bz (b < a)
  else if op = 20005 then a + b else if op = 20006 then a - b else if op = 20007 then a * b else if op = 20008 then (if b = 0 then 0 else a / b) else (if b = 0 then 0 else a - a / b * b)
/-- a step of code over a pile -/
def xc1 (nm : Nat → Int32) (s : List Int32) (c : Int32) : List Int32 :=
  if c < 20000 then (if c < 10000 then c else nm (c - 10000).toNatClampNeg) :: s
  else if c = 20010 then (match s with
    | a :: s => (if a = 0 then 1 else 0) :: s
    | [] => [])
  else match s with
    | b :: a :: s => dnO c a b :: s
    | _ => []
def xec (nm : Nat → Int32) (δ : List Int32) (s : List Int32) : List Int32 := δ.foldl (xc1 nm) s
/-- how high the pile is behind a step; none: too low -/
def hg1 (h : Option Nat) (c : Int32) : Option Nat := match h with
  | none => none
  | some h => if c < 20000 then (if c < 10000 ∨ (10000 ≤ c ∧ c < 10004) then some (h + 1) else none) else if c = 20010 then (if 1 ≤ h then some h else none) else if 20000 ≤ c ∧ c ≤ 20009 ∧ 2 ≤ h then some (h - 1) else none
def hgt (δ : List Int32) (h : Option Nat) : Option Nat := δ.foldl hg1 h
theorem xec_app (nm : Nat → Int32) (a b s : List Int32) : xec nm (a ++ b) s = xec nm b (xec nm a s) := by
  unfold xec
  rw [List.foldl_append]
theorem hgt_app (a b : List Int32) (h : Option Nat) : hgt (a ++ b) h = hgt b (hgt a h) := by
  unfold hgt
  rw [List.foldl_append]
/-- a reader that keeps what is wrong, goes on, and gives code that leaves one number more -/
def Gd (n : Nat) (f : PS → PS) : Prop := ∀ σ : PS, (σ.2.1 = true → f σ = σ) ∧ σ.1 ≤ (f σ).1 ∧ (σ.1 ≤ n → (f σ).1 ≤ n) ∧ ∃ δ, (f σ).2.2 = σ.2.2 ++ δ ∧ δ.length + σ.1 ≤ (f σ).1 ∧ ((f σ).2.1 = false → ∀ h, hgt δ (some h) = some (h + 1))
theorem hr_lt {t : Nat → Int32} {n : Nat} {σ : PS} (h : ¬ hr t n σ = -1) : σ.2.1 = false ∧ σ.1 < n := by
  unfold hr at h
  by_cases hc : σ.2.1 = false ∧ σ.1 < n
  · exact hc
  · rw [if_neg hc] at h
    exact absurd rfl h
theorem hr_w {t : Nat → Int32} {n : Nat} {σ : PS} (h : σ.2.1 = true) : hr t n σ = -1 := if_neg (fun q => by rw [h] at q; exact absurd q.1 (by decide))
theorem emt_w {v : Int32} {σ : PS} (h : σ.2.1 = true) : emt v σ = σ := if_pos h
theorem emt_f {v : Int32} {σ : PS} (h : σ.2.1 = false) : emt v σ = (σ.1, σ.2.1, σ.2.2 ++ [v]) := if_neg (by rw [h]; decide)
theorem emt_1 (v : Int32) (σ : PS) : (emt v σ).1 = σ.1 ∧ (emt v σ).2.1 = σ.2.1 := by
  unfold emt
  split <;> exact ⟨rfl, rfl⟩
/-- signs that are no end -/
abbrev nEnd (ops : List (Int32 × Int32)) : Prop := ∀ q ∈ ops, ¬ q.1 = -1 ∧ 20000 ≤ q.2 ∧ q.2 ≤ 20009
theorem opT_some {c o : Int32} : ∀ {ops : List (Int32 × Int32)}, nEnd ops → opT c ops = some o → ¬ c = -1 ∧ 20000 ≤ o ∧ o ≤ 20009
  | [], _, h => by cases h
  | q :: r, hn, h => by
    unfold opT at h
    split at h
    · next hc =>
      cases h
      have := hn q List.mem_cons_self
      exact ⟨by rw [hc]; exact this.1, this.2⟩
    · exact opT_some (fun p hp => hn p (List.mem_cons_of_mem _ hp)) h
theorem opT_end {ops : List (Int32 × Int32)} (hn : nEnd ops) : opT (-1) ops = none := by
  cases h : opT (-1) ops with
  | none => rfl
  | some o => exact absurd rfl (opT_some hn h).1
theorem nE_P : nEnd opP := by decide
theorem nE_S : nEnd opS := by decide
theorem nE_C : nEnd opC := by decide
theorem nE_B : nEnd opB := by decide
theorem nE_E : nEnd opE := by decide
theorem hg_op {o : Int32} (h1 : 20000 ≤ o) (h2 : o ≤ 20009) (h : Nat) : hgt [o] (some (h + 1 + 1)) = some (h + 1) := by
  show hg1 (some (h + 1 + 1)) o = some (h + 1)
  have a := i32_le.mp h1
  have b := i32_le.mp h2
  unfold hg1
  rw [show (20000 : Int32).toInt = 20000 from rfl] at a
  rw [show (20009 : Int32).toInt = 20009 from rfl] at b
  have e1 : ¬ o < 20000 := fun q => by have := i32_lt.mp q; rw [show (20000 : Int32).toInt = 20000 from rfl] at this; omega
  have e2 : ¬ o = 20010 := fun q => by rw [q] at b; exact absurd b (by decide)
  show (if o < 20000 then _ else if o = 20010 then _ else if 20000 ≤ o ∧ o ≤ 20009 ∧ 2 ≤ h + 1 + 1 then some (h + 1 + 1 - 1) else none) = some (h + 1)
  rw [if_neg e1, if_neg e2, if_pos ⟨h1, h2, by omega⟩]
  rfl
/-- an operator behind a second part -/
theorem gd_step {n : Nat} {f : PS → PS} (hf : Gd n f) {t : Nat → Int32} {σ : PS} {o : Int32} (hc : ¬ hr t n σ = -1) (h1 : 20000 ≤ o) (h2 : o ≤ 20009) :
    σ.1 < (emt o (f (adv σ))).1 ∧ (σ.1 ≤ n → (emt o (f (adv σ))).1 ≤ n) ∧ ∃ δ, (emt o (f (adv σ))).2.2 = σ.2.2 ++ δ ∧ δ.length + σ.1 ≤ (emt o (f (adv σ))).1 ∧ ((emt o (f (adv σ))).2.1 = false → ∀ h, hgt δ (some (h + 1)) = some (h + 1)) := by
  obtain ⟨c1, c2⟩ := hr_lt hc
  obtain ⟨g1, g2, g3, δ, g4, g5, g6⟩ := hf (adv σ)
  have e1 : (adv σ).1 = σ.1 + 1 := rfl
  have e2 : (adv σ).2.2 = σ.2.2 := rfl
  rw [e1] at g2 g3 g5
  rw [e2] at g4
  rw [(emt_1 o (f (adv σ))).1, (emt_1 o (f (adv σ))).2]
  refine ⟨by omega, fun _ => g3 (by omega), ?_⟩
  cases hw : (f (adv σ)).2.1 with
  | true =>
    refine ⟨δ, by rw [emt_w hw]; exact g4, by omega, fun h => by cases h⟩
  | false =>
    refine ⟨δ ++ [o], by rw [emt_f hw]; show (f (adv σ)).2.2 ++ [o] = _; rw [g4, List.append_assoc], by rw [List.length_append]; show δ.length + 1 + σ.1 ≤ _; omega, fun _ h => ?_⟩
    rw [hgt_app, g6 hw]
    exact hg_op h1 h2 h
theorem emt_keep {o : Int32} {σ : PS} (h : σ.2.1 = true) : (emt o σ).2.1 = true := by rw [(emt_1 o σ).2]; exact h
/-- a loop over parts -/
theorem lop_Gd {n : Nat} {f : PS → PS} (hf : Gd n f) (t : Nat → Int32) {ops : List (Int32 × Int32)} (hn : nEnd ops) : ∀ (u : Nat) (σ : PS), (σ.2.1 = true → lop t n ops f u σ = σ) ∧ σ.1 ≤ (lop t n ops f u σ).1 ∧ (σ.1 ≤ n → (lop t n ops f u σ).1 ≤ n) ∧ ∃ δ, (lop t n ops f u σ).2.2 = σ.2.2 ++ δ ∧ δ.length + σ.1 ≤ (lop t n ops f u σ).1 ∧ ((lop t n ops f u σ).2.1 = false → ∀ h, hgt δ (some (h + 1)) = some (h + 1))
  | 0, σ => ⟨fun _ => rfl, Nat.le_refl _, id, [], (List.append_nil _).symm, by show 0 + σ.1 ≤ σ.1; omega, fun _ _ => rfl⟩
  | u + 1, σ => by
    unfold lop
    split
    · exact ⟨fun _ => rfl, Nat.le_refl _, id, [], (List.append_nil _).symm, by show 0 + σ.1 ≤ σ.1; omega, fun _ _ => rfl⟩
    · next o ho =>
      obtain ⟨a1, a2, a3⟩ := opT_some hn ho
      obtain ⟨b1, b2, δ, b3, b4, b5⟩ := gd_step hf a1 a2 a3
      obtain ⟨d1, d2, d3, δ2, d4, d5, d6⟩ := lop_Gd hf t hn u (emt o (f (adv σ)))
      refine ⟨fun hw => absurd (hr_w hw) a1, by omega, fun h => d3 (b2 h), δ ++ δ2, by rw [d4, b3, List.append_assoc], by rw [List.length_append]; omega, fun hw h => ?_⟩
      have hw2 : (emt o (f (adv σ))).2.1 = false := by
        cases hx : (emt o (f (adv σ))).2.1 with
        | false => rfl
        | true =>
          rw [d1 hx, hx] at hw
          cases hw
      rw [hgt_app, b5 hw2, d6 hw]
theorem gd_lop {n : Nat} {f s : PS → PS} (hf : Gd n f) (t : Nat → Int32) {ops : List (Int32 × Int32)} (hn : nEnd ops) (u : Nat) : Gd n (fun σ => lop t n ops f u (f σ)) := by
  intro σ
  obtain ⟨g1, g2, g3, δ, g4, g5, g6⟩ := hf σ
  obtain ⟨d1, d2, d3, δ2, d4, d5, d6⟩ := lop_Gd hf t hn u (f σ)
  show (σ.2.1 = true → lop t n ops f u (f σ) = σ) ∧ σ.1 ≤ (lop t n ops f u (f σ)).1 ∧ (σ.1 ≤ n → (lop t n ops f u (f σ)).1 ≤ n) ∧ ∃ δ, (lop t n ops f u (f σ)).2.2 = σ.2.2 ++ δ ∧ δ.length + σ.1 ≤ (lop t n ops f u (f σ)).1 ∧ ((lop t n ops f u (f σ)).2.1 = false → ∀ h, hgt δ (some h) = some (h + 1))
  refine ⟨fun hw => ?_, by omega, fun h => d3 (g3 h), δ ++ δ2, by rw [d4, g4, List.append_assoc], by rw [List.length_append]; omega, fun hw h => ?_⟩
  · have e := g1 hw
    show lop t n ops f u (f σ) = σ
    rw [d1 (by rw [e]; exact hw), e]
  · have hw2 : (f σ).2.1 = false := by
      cases hx : (f σ).2.1 with
      | false => rfl
      | true =>
        rw [d1 hx, hx] at hw
        cases hw
    rw [hgt_app, g6 hw2, d6 hw]
section
variable {t : Nat → Int32} {n : Nat} {s : PS → PS}
theorem gd_prd (hs : Gd n s) : Gd n (prd t n s) := gd_lop (s := s) hs t nE_P 50
theorem gd_smm (hs : Gd n s) : Gd n (smm t n s) := gd_lop (s := s) (gd_prd (t := t) hs) t nE_S 50
theorem gd_cmd (hs : Gd n s) : Gd n (cmd t n s) := by
  have hf : Gd n (smm t n s) := gd_smm hs
  intro σ
  obtain ⟨g1, g2, g3, δ, g4, g5, g6⟩ := hf σ
  unfold cmd
  split
  · exact ⟨g1, g2, g3, δ, g4, g5, g6⟩
  · next o ho =>
    obtain ⟨a1, a2, a3⟩ := opT_some nE_C ho
    obtain ⟨b1, b2, δ2, b3, b4, b5⟩ := gd_step hf a1 a2 a3
    refine ⟨fun hw => ?_, by omega, fun h => b2 (g3 h), δ ++ δ2, by rw [b3, g4, List.append_assoc], by rw [List.length_append]; omega, fun hw h => ?_⟩
    · exact absurd (hr_w (by rw [g1 hw]; exact hw)) a1
    · rw [hgt_app, g6 (hr_lt a1).1, b5 hw]
theorem gd_bth (hs : Gd n s) : Gd n (bth t n s) := gd_lop (s := s) (gd_cmd (t := t) hs) t nE_B 50
theorem gd_eth (hs : Gd n s) : Gd n (eth t n s) := gd_lop (s := s) (gd_bth (t := t) hs) t nE_E 50
end
theorem dgt_in {c : Int32} (h : 48 ≤ c ∧ c ≤ 57) : 48 ≤ c.toInt ∧ c.toInt ≤ 57 := ⟨i32_le.mp h.1, i32_le.mp h.2⟩
theorem dgt_ne {c : Int32} (h : 48 ≤ c ∧ c ≤ 57) : ¬ c = -1 := fun e => by rw [e] at h; exact absurd h.1 (by decide)
theorem dig_Gd (t : Nat → Int32) (n : Nat) : ∀ (u : Nat) (v : Int32) (σ : PS), σ.1 ≤ (dig t n u v σ).2.1 ∧ (σ.1 ≤ n → (dig t n u v σ).2.1 ≤ n) ∧ (dig t n u v σ).2.2 = σ.2
  | 0, v, σ => ⟨Nat.le_refl _, id, rfl⟩
  | u + 1, v, σ => by
    unfold dig
    split
    · next h =>
      obtain ⟨c1, c2⟩ := hr_lt (dgt_ne h)
      obtain ⟨a1, a2, a3⟩ := dig_Gd t n u (10 * v + hr t n σ - 48) (adv σ)
      have e1 : (adv σ).1 = σ.1 + 1 := rfl
      rw [e1] at a1 a2
      exact ⟨by omega, fun _ => a2 (by omega), a3⟩
    · exact ⟨Nat.le_refl _, id, rfl⟩
theorem dig_v (t : Nat → Int32) (n : Nat) : ∀ (u : Nat) (v : Int32) (σ : PS) (m : Nat), u ≤ 4 → m ≤ 10 ^ (4 - u) → 0 ≤ v.toInt → v.toInt < m → 0 ≤ (dig t n u v σ).1.toInt ∧ (dig t n u v σ).1.toInt < 10000
  | 0, v, σ, m, _, h, h0, h1 => ⟨h0, by show v.toInt < 10000; have : m ≤ 10000 := h; omega⟩
  | u + 1, v, σ, m, hu, h, h0, h1 => by
    have hm : (10 : Nat) ^ (4 - u) = 10 ^ (4 - (u + 1)) * 10 := by
      rw [show 4 - u = (4 - (u + 1)) + 1 by omega, Nat.pow_succ]
    have hp : (10 : Nat) ^ (4 - (u + 1)) ≤ 10000 := by
      have : (10 : Nat) ^ (4 - (u + 1)) ≤ 10 ^ 4 := Nat.pow_le_pow_right (by decide) (by omega)
      exact this
    unfold dig
    split
    · next hc =>
      obtain ⟨b1, b2⟩ := dgt_in hc
      have e1 : (10 * v).toInt = 10 * v.toInt := mul32 (by show _ ≤ 10 * v.toInt; omega) (by show 10 * v.toInt < _; omega)
      have e2 : (10 * v + hr t n σ).toInt = 10 * v.toInt + (hr t n σ).toInt := by rw [add32 (by omega) (by omega), e1]
      have e3 : (10 * v + hr t n σ - 48).toInt = 10 * v.toInt + (hr t n σ).toInt - 48 := by
        rw [sub32 (by rw [show (48 : Int32).toInt = 48 from rfl]; omega) (by rw [show (48 : Int32).toInt = 48 from rfl]; omega), e2]
        rfl
      exact dig_v t n u _ _ (m * 10) (by omega) (by rw [hm]; exact Nat.mul_le_mul_right 10 h) (by omega) (by omega)
    · exact ⟨h0, by show v.toInt < 10000; omega⟩
theorem hg_num {v : Int32} (h0 : 0 ≤ v.toInt) (h : v.toInt < 10000) (k : Nat) : hgt [v] (some k) = some (k + 1) := by
  show hg1 (some k) v = some (k + 1)
  have e1 : v < 20000 := i32_lt.mpr (by show v.toInt < 20000; omega)
  have e2 : v < 10000 := i32_lt.mpr h
  show (if v < 20000 then (if v < 10000 ∨ (10000 ≤ v ∧ v < 10004) then some (k + 1) else none) else _) = some (k + 1)
  rw [if_pos e1, if_pos (Or.inl e2)]
theorem nm_v {i : Nat} (h : i < 4) : (10000 + nI i : Int32) = nI (10000 + i) := nI_add 10000 i
theorem hg_nam {i : Nat} (h : i < 4) (k : Nat) : hgt [10000 + nI i] (some k) = some (k + 1) := by
  match i, h with
  | 0, _ => rfl
  | 1, _ => rfl
  | 2, _ => rfl
  | 3, _ => rfl
theorem nmo_lt {u : Nat} (hu : u ≤ 1) {c : Int32} {i : Nat} (h : nmo u c = some i) : i < 4 ∧ i < sln (1 + u) ∧ sbt (1 + u) i = c := by
  obtain ⟨-, h2, h3, -⟩ := fnd_some h
  have : sln (1 + u) ≤ 4 := by
    match u, hu with
    | 0, _ => decide
    | 1, _ => decide
  exact ⟨by omega, by omega, h3⟩
theorem nmo_end {u : Nat} (hu : u ≤ 1) : nmo u (-1) = none := by
  match u, hu with
  | 0, _ => decide
  | 1, _ => decide
theorem sng_Gd {t : Nat → Int32} {n u : Nat} (hu : u ≤ 1) {rc : Option ((PS → PS) × (PS → PS))} (hr1 : ∀ q, rc = some q → Gd n q.1 ∧ Gd n q.2) : Gd n (sng t n u rc) := by
  intro σ
  unfold sng
  by_cases hc : hr t n σ = 33 ∨ hr t n σ = 40
  · rw [if_pos hc]
    have hne : ¬ hr t n σ = -1 := by rcases hc with h | h <;> rw [h] <;> decide
    obtain ⟨c1, c2⟩ := hr_lt hne
    have e1 : (adv σ).1 = σ.1 + 1 := rfl
    have e2 : (adv σ).2.2 = σ.2.2 := rfl
    cases rc with
    | none => exact ⟨fun hw => absurd (hr_w hw) hne, Nat.le_refl _, id, [], (List.append_nil _).symm, by show 0 + σ.1 ≤ σ.1; omega, fun h => by cases h⟩
    | some q =>
      obtain ⟨q1, q2⟩ := hr1 q rfl
      by_cases h33 : hr t n σ = 33
      · simp only [if_pos h33]
        obtain ⟨g1, g2, g3, δ, g4, g5, g6⟩ := q1 (adv σ)
        rw [e1] at g2 g3 g5
        rw [e2] at g4
        rw [(emt_1 20010 (q.1 (adv σ))).1, (emt_1 20010 (q.1 (adv σ))).2]
        refine ⟨fun hw => absurd (hr_w hw) hne, by omega, fun _ => g3 (by omega), ?_⟩
        cases hw : (q.1 (adv σ)).2.1 with
        | true => exact ⟨δ, by rw [emt_w hw]; exact g4, by omega, fun h => by cases h⟩
        | false =>
          refine ⟨δ ++ [20010], by rw [emt_f hw]; show (q.1 (adv σ)).2.2 ++ [20010] = _; rw [g4, List.append_assoc], by rw [List.length_append]; show δ.length + 1 + σ.1 ≤ _; omega, fun _ h => ?_⟩
          rw [hgt_app, g6 hw]
          rfl
      · simp only [if_neg h33]
        obtain ⟨g1, g2, g3, δ, g4, g5, g6⟩ := q2 (adv σ)
        rw [e1] at g2 g3 g5
        rw [e2] at g4
        by_cases h41 : hr t n (q.2 (adv σ)) = 41
        · rw [if_pos h41]
          obtain ⟨k1, k2⟩ := hr_lt (show ¬ hr t n (q.2 (adv σ)) = -1 by rw [h41]; decide)
          exact ⟨fun hw => absurd (hr_w hw) hne, by show σ.1 ≤ (q.2 (adv σ)).1 + 1; omega, fun _ => by show (q.2 (adv σ)).1 + 1 ≤ n; omega, δ, g4, by show δ.length + σ.1 ≤ (q.2 (adv σ)).1 + 1; omega, fun _ => g6 k1⟩
        · rw [if_neg h41]
          exact ⟨fun hw => absurd (hr_w hw) hne, by show σ.1 ≤ (q.2 (adv σ)).1; omega, fun _ => g3 (by omega), δ, g4, by show δ.length + σ.1 ≤ (q.2 (adv σ)).1; omega, fun h => by cases h⟩
  · rw [if_neg hc]
    by_cases hd : 48 ≤ hr t n σ ∧ hr t n σ ≤ 57
    · rw [if_pos hd]
      have hne := dgt_ne hd
      obtain ⟨c1, c2⟩ := hr_lt hne
      obtain ⟨a1, a2, a3⟩ := dig_Gd t n 4 0 σ
      obtain ⟨v1, v2⟩ := dig_v t n 4 0 σ 1 (by omega) (by decide) (by decide) (by decide)
      have a4 : σ.1 + 1 ≤ (dig t n 4 0 σ).2.1 := by
        have h3 := (dig_Gd t n 3 (10 * 0 + hr t n σ - 48) (adv σ)).1
        have e : dig t n 4 0 σ = dig t n 3 (10 * 0 + hr t n σ - 48) (adv σ) := by
          show (if 48 ≤ hr t n σ ∧ hr t n σ ≤ 57 then _ else _) = _
          rw [if_pos hd]
        rw [e]
        exact h3
      have a5 : (dig t n 4 0 σ).2.2.1 = false := by rw [a3]; exact c1
      rw [(emt_1 (dig t n 4 0 σ).1 (dig t n 4 0 σ).2).1, (emt_1 (dig t n 4 0 σ).1 (dig t n 4 0 σ).2).2]
      refine ⟨fun hw => absurd (hr_w hw) hne, by omega, a2, [(dig t n 4 0 σ).1], by rw [emt_f a5, a3], by show 1 + σ.1 ≤ _; omega, fun _ h => hg_num v1 v2 h⟩
    · rw [if_neg hd]
      cases hm : nmo u (hr t n σ) with
      | none =>
        refine ⟨fun hw => ?_, Nat.le_refl _, id, [], (List.append_nil _).symm, by show 0 + σ.1 ≤ σ.1; omega, fun h => by cases h⟩
        obtain ⟨p, w, c⟩ := σ
        have : w = true := hw
        subst this
        rfl
      | some i =>
        have hne : ¬ hr t n σ = -1 := fun e => by rw [e, nmo_end hu] at hm; cases hm
        obtain ⟨c1, c2⟩ := hr_lt hne
        obtain ⟨m1, m2, m3⟩ := nmo_lt hu hm
        refine ⟨fun hw => absurd (hr_w hw) hne, ?_, fun _ => ?_, [10000 + nI i], ?_, ?_, fun _ h => hg_nam m1 h⟩
        · show σ.1 ≤ (emt (10000 + nI i) σ).1 + 1
          rw [(emt_1 _ σ).1]
          omega
        · show (emt (10000 + nI i) σ).1 + 1 ≤ n
          rw [(emt_1 _ σ).1]
          omega
        · show (emt (10000 + nI i) σ).2.2 = _
          rw [emt_f c1]
        · show 1 + σ.1 ≤ (emt (10000 + nI i) σ).1 + 1
          rw [(emt_1 _ σ).1]
          omega
theorem pS_Gd (t : Nat → Int32) (n : Nat) {u : Nat} (hu : u ≤ 1) : ∀ k, Gd n (pS t n u k)
  | 0 => sng_Gd hu (fun q h => by cases h)
  | k + 1 => by
    have h1 := pS_Gd t n hu k
    have h2 : Gd n (eth t n (pS t n u k)) := gd_eth (t := t) h1
    exact sng_Gd hu (fun q h => by
      have e := Option.some.inj h
      rw [← e]
      exact ⟨h1, h2⟩)
