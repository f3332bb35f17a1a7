/-! Math, arraycopy, clone, statics, the script, kinds, Object's constructor -/
theorem nfw : nativeFrameWords "java/lang/System" "arraycopy" 5 + 11 ≤ 50 := by decide
section Rules
variable {Γ : GE} {μ : MD} {d mc ms rc rs pc : Nat} {QQ : List Frame → Array Value → State → State → Prop} {lv : List (Option Value)} {st : List Value} {g : Sh} {P : HP} {I : HI}
theorem cat_E2 (Γ : GE) (st : List Value) : ((st.map (cv Γ)).map fun v => v.category).sum = catS st := by
  have e : ((st.map (cv Γ)).map fun v => v.category) = st.map fun v => v.category := by
    rw [List.map_map]
    exact List.map_congr_left (fun v _ => cv_cat Γ v)
  rw [e]
  rfl
theorem E_objInit {idx b : Nat} (hd : decode μ.2.1 pc = .ok (.invokespecial idx, 3)) (hl : Cond.methodLink μ.1.cls idx objectInit ∈ gtb) (hi : Cond.instanceMethod objectInit ∈ gtb) (hc : Cond.code objectInit ⟨#[0xb1]⟩ 1 none ∈ gtb) (hcat : catS st ≤ 8) (hdd : 1 ≤ d)
    (k : E Γ μ d mc ms QQ rc rs (pc + 3) lv st g P I) : E Γ μ d mc ms QQ rc rs pc lv (.ref b :: st) g P I := by
  intro p e R s m args below meth c C H locs cells slots ls h1 h2' h3 hl' hw hs
  have hr := C.room
  refine W.objInit C.1 C.2.1 C.own (C.hts _ hl) (C.hts _ hi) (C.hts _ hc) rfl (hl'.1.trans C.2.2.1.symm) rfl hd (by omega) ?_ (k p e R s m args below meth c C H locs cells slots ls h1 h2' h3 hl' hw hs)
  show 2 * 0 + ((st.map (cv Γ)).map fun v => v.category).sum + 12 ≤ _
  rw [cat_E2]
  omega
theorem E_max {idx : Nat} {x y : Int32} (hd : decode μ.2.1 pc = .ok (.invokestatic idx, 3)) (hl : Cond.methodLink μ.1.cls idx Lib.Math.max.name ∈ gtb) (h5 : Cond.static Lib.Math.max.name ∈ gtb) (h6 : Cond.initialized "java/lang/Math" ∈ gtb) (h7 : Cond.code Lib.Math.max.name Lib.Math.max.code 2 (some .int) ∈ gtb) (hcat : catS st ≤ 8) (hdd : 1 ≤ d)
    (k : E Γ μ d mc ms QQ rc rs (pc + 3) lv (.int (if x < y then y else x) :: st) g P I) : E Γ μ d mc ms QQ rc rs pc lv (.int y :: .int x :: st) g P I := by
  intro p e R s m args below meth c C H locs cells slots ls h1 h2' h3 hl' hw hs
  have hr := C.room
  exact va_mmax C.1 C.2.1 (C.2.2.1.trans hl'.1.symm) C.own (C.hts _ hl) (C.hts _ h5) (C.hts _ h6) (C.hts _ h7) (by omega) (by rw [cat_E2]; omega) (by omega) (by omega) hd (k p e R s m args below meth c C H locs cells slots ls h1 h2' h3 hl' hw hs)
theorem E_min {idx : Nat} {x y : Int32} (hd : decode μ.2.1 pc = .ok (.invokestatic idx, 3)) (hl : Cond.methodLink μ.1.cls idx Lib.Math.min.name ∈ gtb) (h5 : Cond.static Lib.Math.min.name ∈ gtb) (h6 : Cond.initialized "java/lang/Math" ∈ gtb) (h7 : Cond.code Lib.Math.min.name Lib.Math.min.code 2 (some .int) ∈ gtb) (hcat : catS st ≤ 8) (hdd : 1 ≤ d)
    (k : E Γ μ d mc ms QQ rc rs (pc + 3) lv (.int (if y < x then y else x) :: st) g P I) : E Γ μ d mc ms QQ rc rs pc lv (.int y :: .int x :: st) g P I := by
  intro p e R s m args below meth c C H locs cells slots ls h1 h2' h3 hl' hw hs
  have hr := C.room
  exact va_mmin C.1 C.2.1 (C.2.2.1.trans hl'.1.symm) C.own (C.hts _ hl) (C.hts _ h5) (C.hts _ h6) (C.hts _ h7) (by omega) (by rw [cat_E2]; omega) (by omega) (by omega) hd (k p e R s m args below meth c C H locs cells slots ls h1 h2' h3 hl' hw hs)
theorem Cx.keep {R : Room} {p : Program} {s : State} {m : MethodId} {args : Array Value} {meth : Method} {c : Code} (C : Cx Γ μ d mc ms R p s m args meth c) : ∀ a : Nat, a < (gH Γ).size → ¬ gA Γ a → s.heap[a]? = (gH Γ)[a]? := fun a h _ => C.2.2.2.2.2.2.2.2.2.2.2 a h
theorem E_getsA {idx : Nat} {q : String × Nat × List Int32} (hd : decode μ.2.1 pc = .ok (.getstatic idx, 3)) (hq : q ∈ statL) (hj : q.2.1 < 16) (hl : Cond.fieldLink μ.1.cls idx "GorgeWire$Wire" q.1 "[I" ∈ gtb)
    (k : E Γ μ d mc ms QQ rc rs (pc + 3) lv (.ref q.2.1 :: st) g P I) : E Γ μ d mc ms QQ rc rs pc lv st g P I := by
  intro p e R s m args below meth c C H locs cells slots ls h1 h2' h3 hl' hw hs
  have kk := k p e R s m args below meth c C H locs cells slots ls h1 h2' h3 hl' hw hs
  rw [List.map_cons, show cv Γ (.ref q.2.1) = .ref (gx Γ q.2.1) from congrArg Value.ref (if_pos hj)] at kk
  exact va_gets C.1 C.2.1 (((C.X.2.2.2.2.2.2.2.1 q hq).1).kept C.keep) (C.S h3 hw hs) C.own (C.hts _ hl) (fun _ h => h) hd kk
theorem E_xald {idx : Nat} {q : String × Nat × List Int32} {i : Int32} (hd : decode μ.2.1 pc = .ok (.iaload, 1)) (hq : q ∈ statL) (hj : q.2.1 < 16) (hin : vp_in i 9) (hlen : q.2.2.length = 9)
    (k : E Γ μ d mc ms QQ rc rs (pc + 1) lv (.int (q.2.2.getD i.toNatClampNeg 0) :: st) g P I) : E Γ μ d mc ms QQ rc rs pc lv (.int i :: .ref q.2.1 :: st) g P I := by
  intro p e R s m args below meth c C H locs cells slots ls h1 h2' h3 hl' hw hs
  obtain ⟨cell, x1, x2, x3, x4, x5⟩ := (C.X.2.2.2.2.2.2.2.1 q hq).2
  have hlt : i.toNatClampNeg < 9 := Nat.not_le.mp fun q => hin (Or.inr q)
  have hb : gx Γ q.2.1 < (gH Γ).size := (Array.getElem?_eq_some_iff.mp x1).1
  show W p (gl Γ) e R s m args below meth c H locs cells slots (QQ below args s) (F0 m pc ls (.int i :: .ref (ad Γ q.2.1) :: st.map (cv Γ)))
  rw [show ad Γ q.2.1 = gx Γ q.2.1 from if_pos hj]
  refine W.iald (v := .int (q.2.2.getD i.toNatClampNeg 0)) C.1 C.2.1 (by rw [hw.2.1 _ hb]; exact x1) x2 x3 (by rw [x5, List.size_toArray, List.length_map, hlen]; exact hin) ?_ rfl rfl hd (k p e R s m args below meth c C H locs cells slots ls h1 h2' h3 hl' hw hs)
  rw [x5]
  simp [hlen, hlt]
theorem E_sld {i : Int32} (hd : decode μ.2.1 pc = .ok (.iaload, 1)) (hin : vp_in i (gn Γ))
    (k : E Γ μ d mc ms QQ rc rs (pc + 1) lv (.int (gs Γ i.toNatClampNeg) :: st) g P I) : E Γ μ d mc ms QQ rc rs pc lv (.int i :: .ref 13 :: st) g P I := by
  intro p e R s m args below meth c C H locs cells slots ls h1 h2' h3 hl' hw hs
  obtain ⟨x1, x2⟩ := C.X.2.2.2.2.2.2.2.2.1
  exact va_sld (A := gA Γ) (H0 := s.heap) C.1 C.2.1 (x1.kept (C.2.2.2.2.2.2.2.2.2.2.2 _ x2)) (Nat.lt_of_lt_of_le x2 C.2.2.2.2.2.2.2.2.2.2.1) (Nat.not_le.mpr x2) (C.S h3 hw hs) hin hd (k p e R s m args below meth c C H locs cells slots ls h1 h2' h3 hl' hw hs)
theorem E_slen (hd : decode μ.2.1 pc = .ok (.arraylength, 1))
    (k : E Γ μ d mc ms QQ rc rs (pc + 1) lv (.int (nI (gn Γ)) :: st) g P I) : E Γ μ d mc ms QQ rc rs pc lv (.ref 13 :: st) g P I := by
  intro p e R s m args below meth c C H locs cells slots ls h1 h2' h3 hl' hw hs
  obtain ⟨x1, x2⟩ := C.X.2.2.2.2.2.2.2.2.1
  exact va_slen (A := gA Γ) (H0 := s.heap) C.1 C.2.1 (x1.kept (C.2.2.2.2.2.2.2.2.2.2.2 _ x2)) (Nat.lt_of_lt_of_le x2 C.2.2.2.2.2.2.2.2.2.2.1) (Nat.not_le.mpr x2) (C.S h3 hw hs) hd (k p e R s m args below meth c C H locs cells slots ls h1 h2' h3 hl' hw hs)
theorem E_instY {idx a ci : Nat} {q : vw_C} {nm : String} (hd : decode μ.2.1 pc = .ok (.instanceof idx, 3)) (hl : Cond.classLink μ.1.cls idx nm ∈ gtb) (hc : (q.1, nm) ∈ castL) (hq : vwCl[ci]? = some q) (hk : g.2.1 a = ci) (ha : 16 ≤ a) (h2 : a < g.1)
    (k : E Γ μ d mc ms QQ rc rs (pc + 3) lv (.int 1 :: st) g P I) : E Γ μ d mc ms QQ rc rs pc lv (.ref a :: st) g P I := by
  intro p e R s m args below meth c C H locs cells slots ls h1 h2' h3 hl' hw hs
  exact va_instY C.1 C.2.1 C.own (C.hts _ hl) (C.X.2.1 _ hc) (recv_E C.2.2.2.2.2.2.2.2.2.1 hw hq hk ha h2) hd (k p e R s m args below meth c C H locs cells slots ls h1 h2' h3 hl' hw hs)
theorem E_instS {idx a ci : Nat} {q : vw_C} (hd : decode μ.2.1 pc = .ok (.instanceof idx, 3)) (hl : Cond.classLink μ.1.cls idx q.1 ∈ gtb) (hq : vwCl[ci]? = some q) (hk : g.2.1 a = ci) (ha : 16 ≤ a) (h2 : a < g.1)
    (k : E Γ μ d mc ms QQ rc rs (pc + 3) lv (.int 1 :: st) g P I) : E Γ μ d mc ms QQ rc rs pc lv (.ref a :: st) g P I := by
  intro p e R s m args below meth c C H locs cells slots ls h1 h2' h3 hl' hw hs
  exact va_instS C.1 C.2.1 C.own (C.hts _ hl) (C.K.1 ci q hq).2 (recv_E C.2.2.2.2.2.2.2.2.2.1 hw hq hk ha h2) hd (k p e R s m args below meth c C H locs cells slots ls h1 h2' h3 hl' hw hs)
theorem E_instN {idx a ci : Nat} {q : vw_C} {nm : String} (hd : decode μ.2.1 pc = .ok (.instanceof idx, 3)) (hl : Cond.classLink μ.1.cls idx nm ∈ gtb) (hc : (q.1, nm) ∈ ncL) (hq : vwCl[ci]? = some q) (hk : g.2.1 a = ci) (ha : 16 ≤ a) (h2 : a < g.1)
    (k : E Γ μ d mc ms QQ rc rs (pc + 3) lv (.int 0 :: st) g P I) : E Γ μ d mc ms QQ rc rs pc lv (.ref a :: st) g P I := by
  intro p e R s m args below meth c C H locs cells slots ls h1 h2' h3 hl' hw hs
  exact va_instNo C.1 C.2.1 C.own (C.hts _ hl) (C.X.2.2.2.1 _ hc) (recv_E C.2.2.2.2.2.2.2.2.2.1 hw hq hk ha h2) hd (k p e R s m args below meth c C H locs cells slots ls h1 h2' h3 hl' hw hs)
theorem E_castA {idx a : Nat} (hd : decode μ.2.1 pc = .ok (.checkcast idx, 3)) (hl : Cond.classLink μ.1.cls idx "[I" ∈ gtb) (hk : g.2.1 a = 13) (ha : 16 ≤ a) (h2 : a < g.1)
    (k : E Γ μ d mc ms QQ rc rs (pc + 3) lv (.ref a :: st) g P I) : E Γ μ d mc ms QQ rc rs pc lv (.ref a :: st) g P I := by
  intro p e R s m args below meth c C H locs cells slots ls h1 h2' h3 hl' hw hs
  exact va_castA C.1 C.2.1 C.own (C.hts _ hl) hw.2.2 (a - 16) (by rw [wl_get ha h2, el_i hk]) (C.K.2 0 _ (ty_0 Γ)).2 hd (k p e R s m args below meth c C H locs cells slots ls h1 h2' h3 hl' hw hs)
theorem nn_E (z : Int32) (hz : ¬ z < 0) : z.toInt = (z.toNatClampNeg : Int) := by
  have hz0 : (0 : Int) ≤ z.toInt := by
    have := Int32.not_lt.mp hz
    simpa using Int32.le_iff_toInt_le.mp this
  show z.toInt = ((z.toInt.toNat : Nat) : Int)
  omega
/-- arraycopy between int arrays, or within one -/
theorem E_copy {idx a b : Nat} {sp dp n : Int32} (hd : decode μ.2.1 pc = .ok (.invokestatic idx, 3)) (hl : Cond.methodLink μ.1.cls idx arraycopyName ∈ gtb) (h5 : Cond.native arraycopyName ∈ gtb) (h6 : Cond.static arraycopyName ∈ gtb) (h7 : Cond.initialized "java/lang/System" ∈ gtb) (hcat : catS st ≤ 8) (hdd : 1 ≤ d)
    (hka : g.2.1 a = 13) (ha : 16 ≤ a) (ha2 : a < g.1) (hkb : g.2.1 b = 13) (hb : 16 ≤ b) (hb2 : b < g.1) (q1 : ¬ sp < 0) (q2 : ¬ dp < 0) (q3 : ¬ n < 0) (q4 : sp.toNatClampNeg + n.toNatClampNeg ≤ g.2.2 a) (q5 : dp.toNatClampNeg + n.toNatClampNeg ≤ g.2.2 b)
    (k : E Γ μ d mc ms QQ rc rs (pc + 3) lv st g P (ur I b (va_cpy (I a) (I b) sp.toNatClampNeg dp.toNatClampNeg n.toNatClampNeg))) : E Γ μ d mc ms QQ rc rs pc lv (.int n :: .int dp :: .ref b :: .int sp :: .ref a :: st) g P I := by
  intro p e R s m args below meth c C H locs cells slots ls h1 h2' h3 hl' hw hs
  have hr := C.room
  intro T hT X
  have hc0 : H[ad Γ a]? = some (vp_cell (gc Γ 0) (g.2.2 a, .inl (I a))) := by have := Wd_at hw ha ha2; rw [el_i hka] at this; exact this
  have hc1 : H[ad Γ b]? = some (vp_cell (gc Γ 0) (g.2.2 b, .inl (I b))) := by have := Wd_at hw hb hb2; rw [el_i hkb] at this; exact this
  obtain ⟨-, k0, hk0, cm0, hkk0⟩ := (C.K.2 0 _ (ty_0 Γ)).1 (g.2.2 a) (fun j => .int (I a j))
  obtain ⟨-, k1, hk1, cm1, hkk1⟩ := (C.K.2 0 _ (ty_0 Γ)).1 (g.2.2 b) (fun j => .int (I b j))
  obtain ⟨vm', X', step⟩ := X.arraycopy C.1 C.own (C.hts _ hl) (C.hts _ h5) (C.hts _ h6) (C.hts _ h7) (src := ad Γ a) (dst := ad Γ b) (cs := vp_cell (gc Γ 0) (g.2.2 a, .inl (I a))) (cd := vp_cell (gc Γ 0) (g.2.2 b, .inl (I b))) (srcPos := sp) (destPos := dp) (n := n) (by rw [hT]; exact hc0) (by rw [hT]; exact hc1)
    (fun _ h => by cases h) (fun _ h => by cases h) (fun h => by cases h) (fun h => by cases h) hk0 hk1 hkk0 hkk1 (by simp [refKind]) q1 q2 q3
    (by rw [nn_E sp q1, nn_E n q3]; show ¬ _ > ((arrV (gc Γ 0) (g.2.2 a) (fun j => .int (I a j))).slots.size : Int); rw [arrV_size]; omega)
    (by rw [nn_E dp q2, nn_E n q3]; show ¬ _ > ((arrV (gc Γ 0) (g.2.2 b) (fun j => .int (I b j))).slots.size : Int); rw [arrV_size]; omega)
    (fun vm₁ _ i hi => by
      have e : (vp_cell (gc Γ 0) (g.2.2 a, .inl (I a))).slots.getD (sp.toNatClampNeg + i) .null = .int (I a (sp.toNatClampNeg + i)) := by
        show (arrV (gc Γ 0) (g.2.2 a) (fun j => .int (I a j))).slots.getD _ _ = _
        rw [Array.getD_eq_getD_getElem?, arrV_read _ _ (by omega)]
        rfl
      refine ⟨?_, ?_⟩
      · rw [e]
        rfl
      · rw [e]
        exact trivial)
    (g := F0 m pc ls (.int n :: .int dp :: .ref (ad Γ b) :: .int sp :: .ref (ad Γ a) :: st.map (cv Γ))) rfl (by rw [C.2.2.1]; exact hl'.1) (rest := st.map (cv Γ)) rfl (by rw [C.2.1]; exact hd) (by omega) (by show 2 * 0 + ((st.map (cv Γ)).map fun v => v.category).sum + (nativeFrameWords "java/lang/System" "arraycopy" 5 + 11) ≤ _; have := nfw; rw [cat_E2]; omega)
  have e1 : copied (vp_cell (gc Γ 0) (g.2.2 a, .inl (I a))) (vp_cell (gc Γ 0) (g.2.2 b, .inl (I b))) sp dp n = vp_cell (gc Γ 0) (g.2.2 b, .inl (va_cpy (I a) (I b) sp.toNatClampNeg dp.toNatClampNeg n.toNatClampNeg)) := va_copied (fun z => .int z) (gc Γ 0) (gc Γ 0) (I a) (I b) q4
  rw [e1] at X' step
  have hlt : ad Γ b < H.size := (Array.getElem?_eq_some_iff.mp hc1).1
  generalize hcell : vp_cell (gc Γ 0) (g.2.2 b, .inl (va_cpy (I a) (I b) sp.toNatClampNeg dp.toNatClampNeg n.toNatClampNeg)) = cell at X' step
  have hheap : ((T.setVm vm').setCell (ad Γ b) cell).heap = H.setIfInBounds (ad Γ b) cell := by rw [← hT]; rfl
  have oq : ∀ q : Nat, q ≠ ad Γ b → (H.setIfInBounds (ad Γ b) cell)[q]? = H[q]? := fun q hq => by simp [Array.getElem?_setIfInBounds, Ne.symm hq]
  obtain ⟨t, a1, b1⟩ := k p e R s m args below meth c C (H.setIfInBounds (ad Γ b) cell) _ cells slots ls h1 h2' (fun q hq => by
      rcases List.mem_append.mp hq with h | h
      · exact h3 q h
      · obtain ⟨z, -, hz⟩ := List.mem_map.mp h
        rw [← hz]
        show _ ≤ ad Γ b
        rw [ad_16 Γ hb]
        exact Nat.le_add_right _ _) hl' (Wd_set hw hb (by simp) oq (by
      rw [el_i hkb, ur_s]
      show (H.setIfInBounds (ad Γ b) cell)[ad Γ b]? = some _
      rw [hcell]
      simp [Array.getElem?_setIfInBounds, hlt]) (fun c hc => ⟨rfl, ur_n _ _ hc⟩)) (by simp; exact hs) _ hheap X'
  exact ⟨t, step t a1, b1⟩
end Rules
