/-! the rules once more, over cells of a kind; nothing made -/
section Rules
variable {Γ : GE} {μ : MD} {d mc ms rc rs pc : Nat} {QQ : List Frame → Array Value → State → State → Prop} {lv : List (Option Value)} {st : List Value} {g : Sh} {P : HP} {I : HI}
theorem E_gi {a ci k idx : Nat} {fin : Bool} (hd : decode μ.2.1 pc = .ok (.getfield idx, 3)) (hf : GF μ.1.cls idx ci k fin) (hi : fint ci k = true) (hc : Cel g a ci)
    (kk : E Γ μ d mc ms QQ rc rs (pc + 3) lv (.int (I a k) :: st) g P I) : E Γ μ d mc ms QQ rc rs pc lv (.ref a :: st) g P I := E_geti hd hf hi hc.1 hc.2.1 hc.2.2 kk
theorem E_gr {a ci k idx b : Nat} {fin : Bool} (hd : decode μ.2.1 pc = .ok (.getfield idx, 3)) (hf : GF μ.1.cls idx ci k fin) (hi : fint ci k = false) (hc : Cel g a ci) (hp : P a k = some b)
    (kk : E Γ μ d mc ms QQ rc rs (pc + 3) lv (.ref b :: st) g P I) : E Γ μ d mc ms QQ rc rs pc lv (.ref a :: st) g P I := E_getr hd hf hi hc.1 hc.2.1 hc.2.2 hp kk
theorem E_pi {a ci k idx : Nat} {x : Int32} (hd : decode μ.2.1 pc = .ok (.putfield idx, 3)) (hf : GF μ.1.cls idx ci k false) (hi : tyof ci k = .int) (hc : Cel g a ci)
    (kk : E Γ μ d mc ms QQ rc rs (pc + 3) lv st g P (u2 I a k x)) : E Γ μ d mc ms QQ rc rs pc lv (.int x :: .ref a :: st) g P I := E_puti hd hf hi hc.1 hc.2.1 hc.2.2 kk
theorem E_pz {a ci k idx : Nat} {x : Int32} (hd : decode μ.2.1 pc = .ok (.putfield idx, 3)) (hf : GF μ.1.cls idx ci k false) (hi : tyof ci k = .boolean) (hx : x = 0 ∨ x = 1) (hc : Cel g a ci)
    (kk : E Γ μ d mc ms QQ rc rs (pc + 3) lv st g P (u2 I a k x)) : E Γ μ d mc ms QQ rc rs pc lv (.int x :: .ref a :: st) g P I := E_putz hd hf hi hx hc.1 hc.2.1 hc.2.2 kk
theorem E_pr {a ci k idx b : Nat} {n : String} (hd : decode μ.2.1 pc = .ok (.putfield idx, 3)) (hf : GF μ.1.cls idx ci k false) (hi : tyof ci k = .object n) (hc : Cel g a ci)
    (kk : E Γ μ d mc ms QQ rc rs (pc + 3) lv st g (u2 P a k (some b)) I) : E Γ μ d mc ms QQ rc rs pc lv (.ref b :: .ref a :: st) g P I := E_putr hd hf hi hc.1 hc.2.1 hc.2.2 kk
theorem E_piF {a ci k idx : Nat} {x : Int32} (hd : decode μ.2.1 pc = .ok (.putfield idx, 3)) (hin : μ.1.name = "<init>") (hf : GFF μ.1.cls idx ci k) (hi : tyof ci k = .int) (hc : Cel g a ci)
    (kk : E Γ μ d mc ms QQ rc rs (pc + 3) lv st g P (u2 I a k x)) : E Γ μ d mc ms QQ rc rs pc lv (.int x :: .ref a :: st) g P I := E_putiF hd hin hf hi hc.1 hc.2.1 hc.2.2 kk
theorem E_prF {a ci k idx b : Nat} (hd : decode μ.2.1 pc = .ok (.putfield idx, 3)) (hin : μ.1.name = "<init>") (hf : GFF μ.1.cls idx ci k) (hi : (∃ n, tyof ci k = .object n) ∨ ∃ t, tyof ci k = .array t) (hc : Cel g a ci)
    (kk : E Γ μ d mc ms QQ rc rs (pc + 3) lv st g (u2 P a k (some b)) I) : E Γ μ d mc ms QQ rc rs pc lv (.ref b :: .ref a :: st) g P I := E_putrF hd hin hf hi hc.1 hc.2.1 hc.2.2 kk
theorem E_ia {a : Nat} {i : Int32} (hd : decode μ.2.1 pc = .ok (.iaload, 1)) (hc : Cel g a 13) (hin : vp_in i (g.2.2 a))
    (kk : E Γ μ d mc ms QQ rc rs (pc + 1) lv (.int (I a i.toNatClampNeg) :: st) g P I) : E Γ μ d mc ms QQ rc rs pc lv (.int i :: .ref a :: st) g P I := E_iald hd hc.1 hc.2.1 hc.2.2 hin kk
theorem E_za {a : Nat} {i : Int32} (hd : decode μ.2.1 pc = .ok (.baload, 1)) (hc : Cel g a 14) (hin : vp_in i (g.2.2 a))
    (kk : E Γ μ d mc ms QQ rc rs (pc + 1) lv (.int (I a i.toNatClampNeg) :: st) g P I) : E Γ μ d mc ms QQ rc rs pc lv (.int i :: .ref a :: st) g P I := E_zald hd hc.1 hc.2.1 hc.2.2 hin kk
theorem E_il {a : Nat} (hd : decode μ.2.1 pc = .ok (.arraylength, 1)) (hc : Cel g a 13)
    (kk : E Γ μ d mc ms QQ rc rs (pc + 1) lv (.int (nI (g.2.2 a)) :: st) g P I) : E Γ μ d mc ms QQ rc rs pc lv (.ref a :: st) g P I := E_ilen hd hc.1 hc.2.1 hc.2.2 kk
theorem E_is {a : Nat} {i x : Int32} (hd : decode μ.2.1 pc = .ok (.iastore, 1)) (hc : Cel g a 13) (hin : vp_in i (g.2.2 a))
    (kk : E Γ μ d mc ms QQ rc rs (pc + 1) lv st g P (u2 I a i.toNatClampNeg x)) : E Γ μ d mc ms QQ rc rs pc lv (.int x :: .int i :: .ref a :: st) g P I := E_iast hd hc.1 hc.2.1 hc.2.2 hin kk
theorem E_zs {a : Nat} {i x : Int32} (hd : decode μ.2.1 pc = .ok (.bastore, 1)) (hc : Cel g a 14) (hin : vp_in i (g.2.2 a)) (hx : x = 0 ∨ x = 1)
    (kk : E Γ μ d mc ms QQ rc rs (pc + 1) lv st g P (u2 I a i.toNatClampNeg x)) : E Γ μ d mc ms QQ rc rs pc lv (.int x :: .int i :: .ref a :: st) g P I := E_zast hd hc.1 hc.2.1 hc.2.2 hin hx kk
theorem E_inc {i : Nat} {n : Int} {x c : Int32} (hd : decode μ.2.1 pc = .ok (.iinc i n, 3)) (hx : lv[i]? = some (some (.int x))) (hv : Int32.ofInt n = c) (hn : i < μ.2.2.1)
    (k : E Γ μ d mc ms QQ rc rs (pc + 3) (sto1 lv i (.int (x + c))) st g P I) : E Γ μ d mc ms QQ rc rs pc lv st g P I := E_iinc hd hx (by rw [hv]) hn k
end Rules
/-- a boolean as Java has it -/
def bz (p : Prop) [Decidable p] : Int32 := if p then 1 else 0
theorem bz_t {p : Prop} [Decidable p] (h : p) : bz p = 1 := if_pos h
theorem bz_f {p : Prop} [Decidable p] (h : ¬ p) : bz p = 0 := if_neg h
theorem bz_0 {p : Prop} [Decidable p] : bz p = 0 ↔ ¬ p := by
  by_cases h : p
  · rw [bz_t h]; simp [h]
  · rw [bz_f h]; simp [h]
theorem bz_01 (p : Prop) [Decidable p] : bz p = 0 ∨ bz p = 1 := by
  by_cases h : p
  · exact Or.inr (bz_t h)
  · exact Or.inl (bz_f h)
theorem bz_nz (p : Prop) [Decidable p] : narrow .boolean (.int (bz p)) = .int (bz p) := by rcases bz_01 p with h | h <;> rw [h] <;> rfl
theorem k_X11_wire_2 {Γ : GE} {d rc rs mc ms mc' ms' : Nat} {QQ : List Frame → Array Value → State → State → Prop} {lv : List (Option Value)} {st : List Value} {g : Sh} {P : HP} {I : HI} {x0 x1 : Value} (hd : 1 ≤ d) (hc : catS st ≤ 8) (hM : MM Γ mX10_allows (d - 1) mc' ms' [x0, x1] g P I (fun v g' P' I' => E Γ mX11_wire d mc ms QQ rc rs 5 lv (v.toList ++ st) g' P' I')) : E Γ mX11_wire d mc ms QQ (mc' + rc) (ms' + rs) 2 lv (x1 :: x0 :: st) g P I := E_callS [x0, x1] rfl dX11_wire_2 cc_X10_allows (gw 348 (by decide +kernel) (by decide +kernel)) (gw 349 (by decide +kernel) (by decide +kernel)) rfl hc (by omega) hM
