/-! stores that cut no long in two, with plain lists; a method's entry with its locals written out -/
section Rules
variable {Γ : GE} {μ : MD} {d mc ms rc rs pc : Nat} {QQ : List Frame → Array Value → State → State → Prop} {lv : List (Option Value)} {st : List Value} {g : Sh} {P : HP} {I : HI} {Φ : Option Value → Sh → HP → HI → Prop}
theorem E_istore_nC {n : Fin 4} {i : Nat} {x : Int32} (hd : decode μ.2.1 pc = .ok (.istore_n n, 1)) (hi : (n : Nat) = i) (hn : i < μ.2.2.1) (hc : cut lv i = lv)
    (k : E Γ μ d mc ms QQ rc rs (pc + 1) (lv.set i (some (.int x))) st g P I) : E Γ μ d mc ms QQ rc rs pc lv (.int x :: st) g P I := E_istore_n hd hi hn (by unfold sto1; rw [hc]; exact k)
theorem E_istoreC {i : Nat} {x : Int32} (hd : decode μ.2.1 pc = .ok (.istore i, 2)) (hn : i < μ.2.2.1) (hc : cut lv i = lv)
    (k : E Γ μ d mc ms QQ rc rs (pc + 2) (lv.set i (some (.int x))) st g P I) : E Γ μ d mc ms QQ rc rs pc lv (.int x :: st) g P I := E_istore hd hn (by unfold sto1; rw [hc]; exact k)
theorem E_astore_nC {n : Fin 4} {i : Nat} {x : Nat} (hd : decode μ.2.1 pc = .ok (.astore_n n, 1)) (hi : (n : Nat) = i) (hn : i < μ.2.2.1) (hc : cut lv i = lv)
    (k : E Γ μ d mc ms QQ rc rs (pc + 1) (lv.set i (some (.ref x))) st g P I) : E Γ μ d mc ms QQ rc rs pc lv (.ref x :: st) g P I := E_astore_n hd hi hn (by unfold sto1; rw [hc]; exact k)
theorem E_astoreC {i : Nat} {x : Nat} (hd : decode μ.2.1 pc = .ok (.astore i, 2)) (hn : i < μ.2.2.1) (hc : cut lv i = lv)
    (k : E Γ μ d mc ms QQ rc rs (pc + 2) (lv.set i (some (.ref x))) st g P I) : E Γ μ d mc ms QQ rc rs pc lv (.ref x :: st) g P I := E_astore hd hn (by unfold sto1; rw [hc]; exact k)
theorem E_astore_nNC {n : Fin 4} {i : Nat} (hd : decode μ.2.1 pc = .ok (.astore_n n, 1)) (hi : (n : Nat) = i) (hn : i < μ.2.2.1) (hc : cut lv i = lv)
    (k : E Γ μ d mc ms QQ rc rs (pc + 1) (lv.set i (some .null)) st g P I) : E Γ μ d mc ms QQ rc rs pc lv (.null :: st) g P I := E_astore_nN hd hi hn (by unfold sto1; rw [hc]; exact k)
theorem E_lstore_nC {n : Fin 4} {i : Nat} {x : Int64} (hd : decode μ.2.1 pc = .ok (.lstore_n n, 1)) (hi : (n : Nat) = i) (hn : i + 1 < μ.2.2.1) (hc : cut lv i = lv)
    (k : E Γ μ d mc ms QQ rc rs (pc + 1) ((lv.set i (some (.long x))).set (i + 1) none) st g P I) : E Γ μ d mc ms QQ rc rs pc lv (.long x :: st) g P I := E_lstore_n hd hi hn (by unfold sto2; rw [hc]; exact k)
theorem E_lstoreC {i : Nat} {x : Int64} (hd : decode μ.2.1 pc = .ok (.lstore i, 2)) (hn : i + 1 < μ.2.2.1) (hc : cut lv i = lv)
    (k : E Γ μ d mc ms QQ rc rs (pc + 2) ((lv.set i (some (.long x))).set (i + 1) none) st g P I) : E Γ μ d mc ms QQ rc rs pc lv (.long x :: st) g P I := E_lstore hd hn (by unfold sto2; rw [hc]; exact k)
theorem E_incC {i : Nat} {n : Int} {x c : Int32} (hd : decode μ.2.1 pc = .ok (.iinc i n, 3)) (hx : lv[i]? = some (some (.int x))) (hv : Int32.ofInt n = c) (hn : i < μ.2.2.1) (hc : cut lv i = lv)
    (k : E Γ μ d mc ms QQ rc rs (pc + 3) (lv.set i (some (.int (x + c)))) st g P I) : E Γ μ d mc ms QQ rc rs pc lv st g P I := E_inc hd hx hv hn (by unfold sto1; rw [hc]; exact k)
theorem E_lv {lv' : List (Option Value)} (h : lv = lv') (k : E Γ μ d mc ms QQ rc rs pc lv' st g P I) : E Γ μ d mc ms QQ rc rs pc lv st g P I := h ▸ k
theorem MM_entry {av : List Value} (lv0 : List (Option Value)) (hy : plainName μ.1.cls = true) (hn : (entL av).length ≤ μ.2.2.1) (he : ent av μ.2.2.1 = lv0) (k : E Γ μ d mc ms (QM Γ mc ms Φ) mc ms 0 lv0 [] g P I) : MM Γ μ d mc ms av g P I Φ := MM_intro hy hn (he ▸ k)
end Rules
