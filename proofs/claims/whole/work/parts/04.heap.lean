/-! the rules that read and write the heap -/
section Acc
variable {Γ : GE} {μ : MD} {d mc ms : Nat} {R : Room} {p : Program} {s : State} {m : MethodId} {args : Array Value} {meth : Method} {c : Code}
theorem Cx.own (C : Cx Γ μ d mc ms R p s m args meth c) : s.vm.findClass μ.1.cls = some m.cls := C.2.2.2.2.2.1
theorem Cx.hts (C : Cx Γ μ d mc ms R p s m args meth c) : ∀ w ∈ gtb, w.before args s = true := C.2.2.2.2.2.2.2.1
theorem Cx.room (C : Cx Γ μ d mc ms R p s m args meth c) : d ≤ R.frames ∧ 64 * d ≤ R.locals ∧ R.cells = mc ∧ R.slots = ms := C.2.2.2.2.2.2.2.2.1
theorem Cx.K (C : Cx Γ μ d mc ms R p s m args meth c) : va_K (gD Γ) vwCl (tys Γ) s := C.2.2.2.2.2.2.2.2.2.1.1
theorem Cx.X (C : Cx Γ μ d mc ms R p s m args meth c) : Kx Γ s := C.2.2.2.2.2.2.2.2.2.1.2
theorem Cx.hA (C : Cx Γ μ d mc ms R p s m args meth c) : ∀ q, s.heap.size ≤ q → gA Γ q := fun q h => Nat.le_trans C.2.2.2.2.2.2.2.2.2.2.1 h
end Acc
/-- what the tables say of a class -/
def CF (ci : Nat) (C : String) (T : u_T) (N : Nat) : Prop := vwCl[ci]? = some (C, T, N) ∧ N = nf ci ∧ (∀ w ∈ u_ws C T N, w ∈ gtb) ∧ (∀ k, k < N → parseFieldDescriptor (T k).2.2.1 = some (tyof ci k)) ∧ (∀ a, a < N → ∀ b, b < N → a ≠ b → (T a).2.1 ≠ (T b).2.1) ∧ Cond.instantiable C N ∈ gtb ∧ Cond.initialized C ∈ gtb
/-- what a pool entry of a class says of a field: slot k of class ci -/
def GF (own : String) (idx ci k : Nat) (fin : Bool) : Prop := ∃ (C : String) (T : u_T) (N : Nat) (ref : String), CF ci C T N ∧ k < N ∧ Cond.fieldLink own idx ref (T k).2.1 (T k).2.2.1 ∈ gtb ∧ (ref = (T k).1 ∨ Cond.sameField ref (T k).1 (T k).2.1 (T k).2.2.1 ∈ gtb) ∧ (T k).2.2.2 = fin ∧ (fin = true → (T k).1 = own ∨ True)
def GFF (own : String) (idx ci k : Nat) : Prop := ∃ (C : String) (T : u_T) (N : Nat) (ref : String), CF ci C T N ∧ k < N ∧ Cond.fieldLink own idx ref (T k).2.1 (T k).2.2.1 ∈ gtb ∧ (ref = (T k).1 ∨ Cond.sameField ref (T k).1 (T k).2.1 (T k).2.2.1 ∈ gtb) ∧ (T k).2.2.2 = true ∧ (T k).1 = own
theorem vwCl_lt {ci : Nat} {q : vw_C} (h : vwCl[ci]? = some q) : ci < 13 := (List.getElem?_eq_some_iff.mp h).1
theorem el_o {Γ : GE} {g : Sh} {P : HP} {I : HI} {a ci : Nat} (hk : g.2.1 a = ci) (h : ci < 13) : el Γ g P I a = .inr (ci, flds Γ P I a ci) := by
  subst hk
  exact if_pos h
theorem el_i {Γ : GE} {g : Sh} {P : HP} {I : HI} {a : Nat} (hk : g.2.1 a = 13) : el Γ g P I a = .inl (gc Γ 0, g.2.2 a, .inl (I a)) := by simp [el, hk]
theorem el_z {Γ : GE} {g : Sh} {P : HP} {I : HI} {a : Nat} (hk : g.2.1 a = 14) : el Γ g P I a = .inl (gc Γ 1, g.2.2 a, .inl (I a)) := by simp [el, hk]
theorem el_r {Γ : GE} {g : Sh} {P : HP} {I : HI} {a t : Nat} (hk : g.2.1 a = 15 + t) : el Γ g P I a = .inl (gc Γ (2 + t), g.2.2 a, .inr (.inr (.inr (.inr (fun j => (P a j).map (ad Γ)))))) := by
  unfold el
  rw [hk, if_neg (by omega), if_neg (by omega), show 15 + t - 13 = 2 + t by omega]
/-- an element depends on its own row alone -/
theorem el_same {Γ : GE} {g : Sh} {P P' : HP} {I I' : HI} {b : Nat} (hP : P' b = P b) (hI : I' b = I b) : el Γ g P' I' b = el Γ g P I b := by
  unfold el flds
  have h : fv Γ P' I' b (g.2.1 b) = fv Γ P I b (g.2.1 b) := by funext j; unfold fv; rw [hP, hI]
  rw [h, hP, hI]
theorem flds_get {Γ : GE} {P : HP} {I : HI} {a c k : Nat} (h : k < nf c) : (flds Γ P I a c)[k]? = some (fv Γ P I a c k) := by simp [flds, h]
theorem flds_set {Γ : GE} {P P' : HP} {I I' : HI} {a c k : Nat} {v : Value} (h : k < nf c) (hv : v = fv Γ P' I' a c k) (hn : ∀ j, j ≠ k → P' a j = P a j ∧ I' a j = I a j) : (flds Γ P I a c).set k v = flds Γ P' I' a c := by
  apply List.ext_getElem?
  intro j
  by_cases hj : j = k
  · subst hj
    rw [List.getElem?_set_self (by simp [flds, h]), flds_get h, hv]
  · rw [List.getElem?_set_ne (fun q => hj q.symm)]
    by_cases hl : j < nf c
    · rw [flds_get hl, flds_get hl]
      unfold fv
      rw [(hn j hj).1, (hn j hj).2]
    · rw [List.getElem?_eq_none_iff.mpr (by simp [flds]; omega), List.getElem?_eq_none_iff.mpr (by simp [flds]; omega)]
theorem fv_i {Γ : GE} {P : HP} {I : HI} {a c j : Nat} (h : fint c j = true) : fv Γ P I a c j = .int (I a j) := if_pos h
theorem fv_r {Γ : GE} {P : HP} {I : HI} {a c j : Nat} (h : fint c j = false) : fv Γ P I a c j = va_rf ((P a j).map (ad Γ)) := if_neg (by rw [h]; exact Bool.false_ne_true)
theorem fint_i {c j : Nat} (h : tyof c j = .int) : fint c j = true := by unfold fint; rw [h]
theorem fint_z {c j : Nat} (h : tyof c j = .boolean) : fint c j = true := by unfold fint; rw [h]
theorem fint_o {c j : Nat} {n : String} (h : tyof c j = .object n) : fint c j = false := by unfold fint; rw [h]
theorem fint_a {c j : Nat} {t : FieldType} (h : tyof c j = .array t) : fint c j = false := by unfold fint; rw [h]
theorem Wd_at {Γ : GE} {g : Sh} {P : HP} {I : HI} {H : Heap} (hw : Wd Γ g P I H) {a : Nat} (h : 16 ≤ a) (h2 : a < g.1) : va_at (gD Γ) vwCl (ad Γ a, el Γ g P I a) H := hw.2.2 _ _ (wl_get h h2)
theorem Wd_set {Γ : GE} {g : Sh} {P P' : HP} {I I' : HI} {H H1 : Heap} (hw : Wd Γ g P I H) {a : Nat} (h : 16 ≤ a) (hz : H1.size = H.size) (oq : ∀ q : Nat, q ≠ ad Γ a → H1[q]? = H[q]?) (he : va_at (gD Γ) vwCl (ad Γ a, el Γ g P' I' a) H1) (hn : ∀ b, b ≠ a → P' b = P b ∧ I' b = I b) : Wd Γ g P' I' H1 := by
  refine ⟨hz.trans hw.1, fun q hq => ?_, fun k q hk => ?_⟩
  · rw [oq q (by rw [ad_16 Γ h]; omega)]
    exact hw.2.1 q hq
  · obtain ⟨h1, h2⟩ := wl_at hk
    subst h2
    by_cases e : 16 + k = a
    · subst e
      rw [ad_16 Γ (by omega)] at he
      simpa using he
    · rw [el_same (hn _ e).1 (hn _ e).2]
      have hk' : (wl Γ g P I)[k]? = some ((gH Γ).size + k, el Γ g P I (16 + k)) := by simp [wl, h1]
      refine (hw.2.2 k _ hk').kept (oq _ ?_)
      rw [ad_16 Γ h]
      show (gH Γ).size + k ≠ _
      omega
theorem Wd_new {Γ : GE} {g g' : Sh} {P P' : HP} {I I' : HI} {H H1 : Heap} (hw : Wd Γ g P I H) (h : 16 ≤ g.1) (hg : g'.1 = g.1 + 1) (hz : H1.size = H.size + 1) (oq : ∀ q : Nat, q < H.size → H1[q]? = H[q]?) (he : va_at (gD Γ) vwCl (H.size, el Γ g' P' I' g.1) H1) (hn : ∀ b, b ≠ g.1 → el Γ g' P' I' b = el Γ g P I b) : Wd Γ g' P' I' H1 := by
  have hs := hw.1
  refine ⟨by rw [hz, hw.1, hg]; omega, fun q hq => ?_, fun k q hk => ?_⟩
  · rw [oq q (by omega)]
    exact hw.2.1 q hq
  · obtain ⟨h1, h2⟩ := wl_at hk
    subst h2
    by_cases e : 16 + k = g.1
    · rw [e, show (gH Γ).size + k = H.size by omega]
      exact he
    · rw [hn _ e]
      have h3 : k < g.1 - 16 := by omega
      have hk' : (wl Γ g P I)[k]? = some ((gH Γ).size + k, el Γ g P I (16 + k)) := by simp [wl, h3]
      exact (hw.2.2 k _ hk').kept (oq _ (by show (gH Γ).size + k < _; omega))
section Rules
variable {Γ : GE} {μ : MD} {d mc ms rc rs pc : Nat} {QQ : List Frame → Array Value → State → State → Prop} {lv : List (Option Value)} {st : List Value} {g : Sh} {P : HP} {I : HI}
theorem E_getv {a ci k idx : Nat} {fin : Bool} {v : Value} (hd : decode μ.2.1 pc = .ok (.getfield idx, 3)) (hf : GF μ.1.cls idx ci k fin) (hk : g.2.1 a = ci) (ha : 16 ≤ a) (h2 : a < g.1) (hv : fv Γ P I a ci k = cv Γ v)
    (kk : E Γ μ d mc ms QQ rc rs (pc + 3) lv (v :: st) g P I) : E Γ μ d mc ms QQ rc rs pc lv (.ref a :: st) g P I := by
  intro p e R s m args below meth c C H locs cells slots ls h1 h2' h3 hl hw hs
  obtain ⟨Cn, T, N, ref, ⟨c1, c2, c3, c4, c5, -⟩, f1, f2, f3, -⟩ := hf
  refine va_get (ci := ci) (k := k) (v := cv Γ v) C.1 C.2.1 C.hts c3 C.own C.K hw.2.2 (a - 16) (by rw [wl_get ha h2, el_o hk (vwCl_lt c1)]) c1 f1 (C.hts _ f2) (fun x hx => ?_) (by rw [flds_get (by omega), hv]) hd (kk p e R s m args below meth c C H locs cells slots ls h1 h2' h3 hl hw hs)
  rcases f3 with f3 | f3
  · rw [f3]; exact hx
  · exact u_same (C.hts _ f3) x hx
theorem E_geti {a ci k idx : Nat} {fin : Bool} (hd : decode μ.2.1 pc = .ok (.getfield idx, 3)) (hf : GF μ.1.cls idx ci k fin) (hi : fint ci k = true) (hk : g.2.1 a = ci) (ha : 16 ≤ a) (h2 : a < g.1)
    (kk : E Γ μ d mc ms QQ rc rs (pc + 3) lv (.int (I a k) :: st) g P I) : E Γ μ d mc ms QQ rc rs pc lv (.ref a :: st) g P I :=
  E_getv (v := .int (I a k)) hd hf hk ha h2 (fv_i hi) kk
theorem E_getr {a ci k idx b : Nat} {fin : Bool} (hd : decode μ.2.1 pc = .ok (.getfield idx, 3)) (hf : GF μ.1.cls idx ci k fin) (hi : fint ci k = false) (hk : g.2.1 a = ci) (ha : 16 ≤ a) (h2 : a < g.1) (hp : P a k = some b)
    (kk : E Γ μ d mc ms QQ rc rs (pc + 3) lv (.ref b :: st) g P I) : E Γ μ d mc ms QQ rc rs pc lv (.ref a :: st) g P I :=
  E_getv (v := .ref b) hd hf hk ha h2 (by rw [fv_r hi, hp]; rfl) kk
theorem E_put {a ci k idx : Nat} {v : Value} {P' : HP} {I' : HI} (hd : decode μ.2.1 pc = .ok (.putfield idx, 3)) (hf : GF μ.1.cls idx ci k false) (hk : g.2.1 a = ci) (ha : 16 ≤ a) (h2 : a < g.1) (hn : narrow (tyof ci k) (cv Γ v) = cv Γ v) (hfit : fits (tyof ci k) (cv Γ v) = true) (hv : cv Γ v = fv Γ P' I' a ci k) (ho : ∀ b j, ¬ (b = a ∧ j = k) → P' b j = P b j ∧ I' b j = I b j)
    (kk : E Γ μ d mc ms QQ rc rs (pc + 3) lv st g P' I') : E Γ μ d mc ms QQ rc rs pc lv (v :: .ref a :: st) g P I := by
  intro p e R s m args below meth c C H locs cells slots ls h1 h2' h3 hl hw hs
  obtain ⟨Cn, T, N, ref, ⟨c1, c2, c3, c4, c5, -⟩, f1, f2, f3, f4, -⟩ := hf
  have hat := Wd_at hw ha h2
  rw [el_o hk (vwCl_lt c1)] at hat
  obtain ⟨r, r1, cell, q1, q2, q3, q4⟩ := hat
  have hr : r = (Cn, T, N) := Option.some.inj (r1.symm.trans c1)
  subst hr
  obtain ⟨hS, hfc, kC, hkC, hkind⟩ := C.K.1 ci _ c1
  obtain ⟨cf, kf, fi, f, hi, hsl⟩ := hS k f1
  have hlay := C.hts _ (c3 _ (u_in_lay f1))
  unfold u_lay at hlay
  rw [if_neg (by rw [f4]; decide)] at hlay
  have hap := va_apart (own := μ.1.cls) C.hts c3 (tyof ci) c4 c5 C.K c1
  have hst := (u_facts hfc hkC (u_lays C.hts c3 f1) hi).1
  have h6 := u_store hfc hkC hkind hlay hi (c4 k f1) hn hfit
  have hsame : s.fieldFound? ref (T k).2.1 (T k).2.2.1 = some (cf, kf, fi, f) := by
    rcases f3 with f3 | f3
    · rw [f3]; exact hi
    · exact u_same (C.hts _ f3) _ hi
  refine W.putK C.1 C.2.1 (f := f) (a := ad Γ a) ⟨C.own, C.hts _ f2, ⟨_, _, _, hsame⟩, hst⟩ (by rw [q2]; exact h6) q1 q3 (by rw [hsl]; exact k2_hasslot (q4 k f1)) rfl rfl hd fun H' e1 e2 e3 => ?_
  rw [hsl] at e1
  refine kk p e R s m args below meth c C H' _ cells slots ls h1 h2' (fun q hq => ?_) hl (Wd_set hw ha e2 e3 ?_ (fun b hb => ⟨funext fun j => (ho b j (fun z => hb z.1)).1, funext fun j => (ho b j (fun z => hb z.1)).2⟩)) (by rw [e2]; exact hs)
  · rcases List.mem_append.mp hq with hq | hq
    · exact h3 q hq
    · rw [List.mem_singleton.mp hq]
      show _ ≤ ad Γ a
      rw [ad_16 Γ ha]
      exact Nat.le_add_right _ _
  · rw [el_o hk (vwCl_lt c1), ← flds_set (P := P) (I := I) (by omega) hv (fun j hj => ho a j (fun z => hj z.2))]
    exact ⟨_, c1, t_OB.to (V := updV (vp_V (flds Γ P I a ci)) k (cv Γ v)) ⟨_, e1, q2, q3, t_set q4 hap f1 (cv Γ v)⟩ (fun j _ => vp_updV_set (by simp [flds]; omega) (cv Γ v) j)⟩
theorem E_putF {a ci k idx : Nat} {v : Value} {P' : HP} {I' : HI} (hd : decode μ.2.1 pc = .ok (.putfield idx, 3)) (hin : μ.1.name = "<init>") (hf : GFF μ.1.cls idx ci k) (hk : g.2.1 a = ci) (ha : 16 ≤ a) (h2 : a < g.1) (hn : narrow (tyof ci k) (cv Γ v) = cv Γ v) (hfit : fits (tyof ci k) (cv Γ v) = true) (hv : cv Γ v = fv Γ P' I' a ci k) (ho : ∀ b j, ¬ (b = a ∧ j = k) → P' b j = P b j ∧ I' b j = I b j)
    (kk : E Γ μ d mc ms QQ rc rs (pc + 3) lv st g P' I') : E Γ μ d mc ms QQ rc rs pc lv (v :: .ref a :: st) g P I := by
  intro p e R s m args below meth c C H locs cells slots ls h1 h2' h3 hl hw hs
  obtain ⟨Cn, T, N, ref, ⟨c1, c2, c3, c4, c5, -⟩, f1, f2, f3, f4, f5⟩ := hf
  have hat := Wd_at hw ha h2
  rw [el_o hk (vwCl_lt c1)] at hat
  obtain ⟨r, r1, cell, q1, q2, q3, q4⟩ := hat
  have hr : r = (Cn, T, N) := Option.some.inj (r1.symm.trans c1)
  subst hr
  obtain ⟨hS, hfc, kC, hkC, hkind⟩ := C.K.1 ci _ c1
  obtain ⟨cf, kf, fi, f, hi, hsl⟩ := hS k f1
  have hlay := C.hts _ (c3 _ (u_in_lay f1))
  unfold u_lay at hlay
  rw [if_pos f4] at hlay
  have hap := va_apart (own := μ.1.cls) C.hts c3 (tyof ci) c4 c5 C.K c1
  have hst := (u_facts hfc hkC (u_lays C.hts c3 f1) hi).1
  have hcf : m.cls = cf := by
    obtain ⟨_, _, c', _, _, _, -, -, hf', -, -, -, hown2, -⟩ := Cond.laysFinal_spec hlay
    have e1 : c' = cf := by have := hi.symm.trans hf'; simp at this; exact this.1.symm
    rw [f5] at hown2
    rw [← e1]; exact Option.some.inj (C.own.symm.trans hown2)
  have h6 := u_fits hfc hkC hkind (Or.inr hlay) hi (c4 k f1) hn hfit
  have hsame : s.fieldFound? ref (T k).2.1 (T k).2.2.1 = some (cf, kf, fi, f) := by
    rcases f3 with f3 | f3
    · rw [f3]; exact hi
    · exact u_same (C.hts _ f3) _ hi
  refine W.putFinK C.1 C.2.1 (a := ad Γ a) C.own (C.hts _ f2) hsame hst hcf (C.2.2.2.2.2.2.1 hin) (by rw [q2]; exact h6) q1 q3 (by rw [hsl]; exact k2_hasslot (q4 k f1)) rfl rfl hd fun H' e1 e2 e3 => ?_
  rw [hsl] at e1
  refine kk p e R s m args below meth c C H' _ cells slots ls h1 h2' (fun q hq => ?_) hl (Wd_set hw ha e2 e3 ?_ (fun b hb => ⟨funext fun j => (ho b j (fun z => hb z.1)).1, funext fun j => (ho b j (fun z => hb z.1)).2⟩)) (by rw [e2]; exact hs)
  · rcases List.mem_append.mp hq with hq | hq
    · exact h3 q hq
    · rw [List.mem_singleton.mp hq]
      show _ ≤ ad Γ a
      rw [ad_16 Γ ha]
      exact Nat.le_add_right _ _
  · rw [el_o hk (vwCl_lt c1), ← flds_set (P := P) (I := I) (by omega) hv (fun j hj => ho a j (fun z => hj z.2))]
    exact ⟨_, c1, t_OB.to (V := updV (vp_V (flds Γ P I a ci)) k (cv Γ v)) ⟨_, e1, q2, q3, t_set q4 hap f1 (cv Γ v)⟩ (fun j _ => vp_updV_set (by simp [flds]; omega) (cv Γ v) j)⟩
end Rules
theorem u2_at {α : Type} (f : Nat → Nat → α) (a k : Nat) (v : α) (b j : Nat) : u2 f a k v b j = if b = a ∧ j = k then v else f b j := by
  unfold u2 ur
  by_cases h : b = a
  · subst h
    by_cases h2 : j = k <;> simp [h2]
  · simp [h]
theorem u2_o {α : Type} {f : Nat → Nat → α} {a k : Nat} {v : α} {b j : Nat} (h : ¬ (b = a ∧ j = k)) : u2 f a k v b j = f b j := by rw [u2_at, if_neg h]
theorem u2_s {α : Type} (f : Nat → Nat → α) (a k : Nat) (v : α) : u2 f a k v a k = v := by rw [u2_at, if_pos ⟨rfl, rfl⟩]
section Rules
variable {Γ : GE} {μ : MD} {d mc ms rc rs pc : Nat} {QQ : List Frame → Array Value → State → State → Prop} {lv : List (Option Value)} {st : List Value} {g : Sh} {P : HP} {I : HI}
theorem E_puti {a ci k idx : Nat} {x : Int32} (hd : decode μ.2.1 pc = .ok (.putfield idx, 3)) (hf : GF μ.1.cls idx ci k false) (hi : tyof ci k = .int) (hk : g.2.1 a = ci) (ha : 16 ≤ a) (h2 : a < g.1)
    (kk : E Γ μ d mc ms QQ rc rs (pc + 3) lv st g P (u2 I a k x)) : E Γ μ d mc ms QQ rc rs pc lv (.int x :: .ref a :: st) g P I :=
  E_put (P' := P) (I' := u2 I a k x) hd hf hk ha h2 (by rw [hi]; rfl) (by rw [hi]; rfl) (by rw [fv_i (fint_i hi), u2_s]; rfl) (fun b j h => ⟨rfl, u2_o h⟩) kk
theorem E_putz {a ci k idx : Nat} {x : Int32} (hd : decode μ.2.1 pc = .ok (.putfield idx, 3)) (hf : GF μ.1.cls idx ci k false) (hi : tyof ci k = .boolean) (hx : x = 0 ∨ x = 1) (hk : g.2.1 a = ci) (ha : 16 ≤ a) (h2 : a < g.1)
    (kk : E Γ μ d mc ms QQ rc rs (pc + 3) lv st g P (u2 I a k x)) : E Γ μ d mc ms QQ rc rs pc lv (.int x :: .ref a :: st) g P I :=
  E_put (P' := P) (I' := u2 I a k x) hd hf hk ha h2 (by rw [hi]; rcases hx with rfl | rfl <;> rfl) (by rw [hi]; rcases hx with rfl | rfl <;> rfl) (by rw [fv_i (fint_z hi), u2_s]; rfl) (fun b j h => ⟨rfl, u2_o h⟩) kk
theorem E_putr {a ci k idx b : Nat} {n : String} (hd : decode μ.2.1 pc = .ok (.putfield idx, 3)) (hf : GF μ.1.cls idx ci k false) (hi : tyof ci k = .object n) (hk : g.2.1 a = ci) (ha : 16 ≤ a) (h2 : a < g.1)
    (kk : E Γ μ d mc ms QQ rc rs (pc + 3) lv st g (u2 P a k (some b)) I) : E Γ μ d mc ms QQ rc rs pc lv (.ref b :: .ref a :: st) g P I :=
  E_put (P' := u2 P a k (some b)) (I' := I) hd hf hk ha h2 (by rw [hi]; rfl) (by rw [hi]; rfl) (by rw [fv_r (fint_o hi), u2_s]; rfl) (fun b j h => ⟨u2_o h, rfl⟩) kk
theorem E_putiF {a ci k idx : Nat} {x : Int32} (hd : decode μ.2.1 pc = .ok (.putfield idx, 3)) (hin : μ.1.name = "<init>") (hf : GFF μ.1.cls idx ci k) (hi : tyof ci k = .int) (hk : g.2.1 a = ci) (ha : 16 ≤ a) (h2 : a < g.1)
    (kk : E Γ μ d mc ms QQ rc rs (pc + 3) lv st g P (u2 I a k x)) : E Γ μ d mc ms QQ rc rs pc lv (.int x :: .ref a :: st) g P I :=
  E_putF (P' := P) (I' := u2 I a k x) hd hin hf hk ha h2 (by rw [hi]; rfl) (by rw [hi]; rfl) (by rw [fv_i (fint_i hi), u2_s]; rfl) (fun b j h => ⟨rfl, u2_o h⟩) kk
theorem E_putrF {a ci k idx b : Nat} (hd : decode μ.2.1 pc = .ok (.putfield idx, 3)) (hin : μ.1.name = "<init>") (hf : GFF μ.1.cls idx ci k) (hi : (∃ n, tyof ci k = .object n) ∨ ∃ t, tyof ci k = .array t) (hk : g.2.1 a = ci) (ha : 16 ≤ a) (h2 : a < g.1)
    (kk : E Γ μ d mc ms QQ rc rs (pc + 3) lv st g (u2 P a k (some b)) I) : E Γ μ d mc ms QQ rc rs pc lv (.ref b :: .ref a :: st) g P I :=
  E_putF (P' := u2 P a k (some b)) (I' := I) hd hin hf hk ha h2 (by rcases hi with ⟨n, hi⟩ | ⟨t, hi⟩ <;> rw [hi] <;> rfl) (by rcases hi with ⟨n, hi⟩ | ⟨t, hi⟩ <;> rw [hi] <;> rfl) (by rw [fv_r (by rcases hi with ⟨n, hi⟩ | ⟨t, hi⟩; exact fint_o hi; exact fint_a hi), u2_s]; rfl) (fun b j h => ⟨u2_o h, rfl⟩) kk
end Rules
