/-! super's method that super itself has from above; the clone of a static array -/
section Rules
variable {Γ : GE} {μ : MD} {d mc ms rc rs pc : Nat} {QQ : List Frame → Array Value → State → State → Prop} {lv : List (Option Value)} {st : List Value} {g : Sh} {P : HP} {I : HI}
def CQ (own : String) (idx : Nat) (x : MethodName) (μ' : MD) (n : Nat) : Prop := CC μ' n ∧ Cond.methodLink own idx x ∈ gtb ∧ Cond.sameMethod x.cls μ'.1.cls x.name x.desc ∈ gtb ∧ μ'.1 = ⟨μ'.1.cls, x.name, x.desc⟩ ∧ Cond.superclass own x.cls ∈ gtb ∧ Cond.superclass x.cls μ'.1.cls ∈ gtb ∧ Cond.instanceMethod μ'.1 ∈ gtb ∧ x.name ≠ "<init>"
theorem E_callQ {μ' : MD} {n idx d' mc' ms' b ci : Nat} {q : vw_C} {x : MethodName} (As : List Value) {st0 : List Value} (hst : st0 = As.reverse ++ .ref b :: st) (hd : decode μ.2.1 pc = .ok (.invokespecial idx, 3)) (hu : CQ μ.1.cls idx x μ' n) (hq : vwCl[ci]? = some q) (hn : As.length = n) (hcat : catS st ≤ 8) (hdd : d' + 1 ≤ d) (hk : g.2.1 b = ci) (hb : 16 ≤ b) (h2 : b < g.1)
    (hM : MM Γ μ' d' mc' ms' (.ref b :: As) g P I (fun v g' P' I' => E Γ μ d mc ms QQ rc rs (pc + 3) lv (v.toList ++ st) g' P' I')) : E Γ μ d mc ms QQ (mc' + rc) (ms' + rs) pc lv st0 g P I := by
  intro p e R s m args below meth c C H locs cells slots ls h1 h2' h3 hl' hw hs
  have hr := C.room
  have hKE : KE Γ s := C.2.2.2.2.2.2.2.2.2.1
  obtain ⟨⟨c1, c2, c3, c4, c5⟩, u1, u2, u3, u4, u5, u6, u7⟩ := hu
  refine run_E (st := st) C hl' h1 h2' h3 hs (a := (Value.ref (ad Γ b) :: As.map (cv Γ)).toArray) ?_
  have hws := pay_in C.hts (ws_good c2)
  have hini := C.hts _ c1
  have hcode := C.hts _ c2
  have hK : Back (gl Γ) R p e below s args μ'.1 3 8 (PreOf R mc' ms' (PcF Γ (.ref b :: As) g P I)) (PostOf (QcF Γ (fun v g' P' I' => E Γ μ d mc ms QQ rc rs (pc + 3) lv (v.toList ++ st) g' P' I')) mc' ms' (gA Γ)) := back_of (bytes := μ'.2.1) (maxL := μ'.2.2.1) (ret := μ'.2.2.2) hM PcF_blind rfl rfl (by show d' + 1 ≤ _; omega) (by show 8 + (μ'.2.2.1 + 11) + 64 * d' ≤ _; omega) hws List.mem_cons_self (fun a' U hW => word_at hW (Or.inl (by first | rfl | simp [Cond.onTables, Cond.keeps, Cond.steady])) hini)
  obtain ⟨cellB, hcB, hoB, hclB⟩ := recv_E hKE hw hq hk hb h2
  obtain ⟨hfc, kB, hkB, -⟩ := (C.K.1 ci q hq).2
  have hkB : s.vm.classes[cellB.cls]? = some kB := by rw [← Option.some.inj (hfc.symm.trans hclB)]; exact hkB
  have hPc := PcF_at (av := .ref b :: As) hKE hw (As := Value.ref (ad Γ b) :: As.map (cv Γ)) rfl
  intro T hT X
  obtain ⟨mk, methM, hnamed, hmethM, hstM, habM⟩ := Cond.instanceMethod_spec (C.hts _ u6)
  obtain ⟨methM', cM, hmethM', -, -, -, -, -, -, hsigM⟩ := Cond.code_spec hnamed hcode
  cases hmethM.symm.trans hmethM'
  obtain ⟨ps, dk, kp, hps, hdk, hkp, hsuper, -, -, hnid⟩ := Cond.superclass_spec C.own (C.hts _ u4)
  obtain ⟨ps2, dk2, kp2, hps2, hdk2, hkp2, hsuper2, -, -, hnid2⟩ := Cond.superclass_spec hps (C.hts _ u5)
  have hn2 : s.methodNamed? ⟨μ'.1.cls, x.name, x.desc⟩ = some mk := by rw [← u3]; exact hnamed
  have hpm : ps2 = mk.cls := Option.some.inj (hps2.symm.trans (findClass_of_methodNamed hnamed))
  have hsub : s.vm.isSubclass ps mk.cls = true := by
    have hsz : 0 < s.vm.classes.size := Nat.lt_of_le_of_lt (Nat.zero_le _) (Array.getElem?_eq_some_iff.mp hdk2).1
    obtain ⟨k9, hk9⟩ : ∃ k, s.vm.classes.size = k + 1 := ⟨s.vm.classes.size - 1, by omega⟩
    rw [← hpm]
    simp [Vm.isSubclass, Vm.isSubclassAux, hdk2, hsuper2]
    right
    rw [hk9]
    simp [Vm.isSubclassAux]
  have hlen : ∀ sig, parseMethodDescriptor μ'.1.desc = some sig → (As.map (cv Γ)).length = sig.parameters.length := fun sig h => by
    rw [h] at c4
    rw [List.length_map, hn]
    exact (Option.some.inj c4).symm
  have hstack : (F0 m pc ls (st0.map (cv Γ))).stack = (As.map (cv Γ)).reverse ++ .ref (ad Γ b) :: st.map (cv Γ) := by rw [hst]; exact stk_V
  obtain ⟨vm₁, X₁, hstep₁⟩ := X.invokespecialUp C.1 C.own (C.hts _ u1) (C.hts _ u2) hn2 hmethM hstM habM u7 hdk hnid hps hsuper hsub (a := ad Γ b) (cell := cellB) (by rw [hT]; exact hcB)
    (fun z h => by rw [h] at hoB; cases hoB) hkB (g := F0 m pc ls (st0.map (cv Γ))) rfl (argsL := As.map (cv Γ)) (rest := st.map (cv Γ)) (hlen _ hsigM) hstack (by rw [C.2.1]; exact hd)
  obtain ⟨v, ⟨U', l2, cc2, s2⟩, X', ⟨g', mk', t, L, e1, e2, hq', f1, hL, f2, f3⟩, hsteps⟩ := hK m meth c ⟨T.setVm vm₁, locs, cells, slots⟩ { F0 m pc ls (st0.map (cv Γ)) with stack := st.map (cv Γ) } (.invokespecial idx) mk (Value.ref (ad Γ b) :: As.map (cv Γ)).toArray X₁ rfl (hl'.1.trans C.2.2.1.symm) (by rw [C.2.1]; exact hd) (cat_E hcat) (X₁.named hnamed) ⟨by show cells + mc' ≤ _; omega, by show slots + ms' ≤ _; omega, hPc (T.setVm vm₁) hT X₁.warmed⟩
  dsimp only [Pt.U, Pt.locs, Pt.cells, Pt.slots] at X' e1 e2 f1 f2 f3 hsteps
  subst f1; subst f2; subst f3
  exact ⟨v, (T.setVm vm₁).calling g' mk' (Value.ref (ad Γ b) :: As.map (cv Γ)).toArray, t, U', L, hT, X', hL, e1, e2, hq', fun target h => hstep₁ _ (by rw [doInvoke_state]; exact hsteps.trans h)⟩
def cloneN (c : String) : MethodName := ⟨c, "clone", "()Ljava/lang/Object;"⟩
/-- FIRST.clone() -/
theorem E_clone {idx : Nat} {q : String × Nat × List Int32} (hd : decode μ.2.1 pc = .ok (.invokevirtual idx, 3)) (hq : q ∈ statL) (hj : q.2.1 < 16) (hlen : q.2.2.length = 9) (w1 : Cond.methodLink μ.1.cls idx (cloneN "[I") ∈ gtb) (w2 : Cond.sameMethod "[I" "java/lang/Object" "clone" "()Ljava/lang/Object;" ∈ gtb) (w3 : Cond.native (cloneN "java/lang/Object") ∈ gtb) (w4 : Cond.instanceMethod (cloneN "java/lang/Object") ∈ gtb) (w5 : Cond.selects "[I" (cloneN "[I") (cloneN "java/lang/Object") ∈ gtb) (hcat : catS st ≤ 8) (hdd : 1 ≤ d) (hg : 16 ≤ g.1)
    (k : E Γ μ d mc ms QQ rc rs (pc + 3) lv (.ref g.1 :: st) (gNew g 13 9) (ur P g.1 (fun _ => none)) (ur I g.1 (fun j => q.2.2.getD j 0))) : E Γ μ d mc ms QQ (rc + 1) (rs + 9) pc lv (.ref q.2.1 :: st) g P I := by
  intro p e R s m args below meth c C H locs cells slots ls h1 h2' h3 hl' hw hs
  have hr := C.room
  obtain ⟨cell, x1, x2, x3, x4, x5⟩ := (C.X.2.2.2.2.2.2.2.1 q hq).2
  have hb : gx Γ q.2.1 < (gH Γ).size := (Array.getElem?_eq_some_iff.mp x1).1
  show W p (gl Γ) e R s m args below meth c H locs cells slots (QQ below args s) (F0 m pc ls (.ref (ad Γ q.2.1) :: st.map (cv Γ)))
  rw [show ad Γ q.2.1 = gx Γ q.2.1 from if_pos hj]
  obtain ⟨c0, t0', f1, f2, f3⟩ := Cond.castable_spec (va_Nw.use (A := args) rfl (C.X.2.1 ("[I", "java/lang/Cloneable") (by decide)))
  have hnm : s.vm.findClass "[I" = some (gc Γ 0) := (C.K.2 0 _ (ty_0 Γ)).2
  cases hnm.symm.trans f1
  have hsz : cell.slots.size = 9 := by rw [x5]; simp [hlen]
  intro T hT X
  have hcellT : T.heap[gx Γ q.2.1]? = some cell := by rw [hT, hw.2.1 _ hb]; exact x1
  obtain ⟨-, kA, hkA, comp, hkind⟩ := State.isArrayOf_alike X.warmed.alike x2
  obtain ⟨hns, kS, hkS, compS, hkindS⟩ := x2
  obtain ⟨vm', X', stp⟩ := X.cloneArray C.1 C.own (C.hts _ w1) (C.hts _ w2) (C.hts _ w3) (C.hts _ w4) (C.hts _ w5) (a := gx Γ q.2.1) (cell := cell) hcellT hns x3 (by rw [x4]; exact hnm) f2 (by rw [x4]; exact f3)
    (fun i v hv => by
      have hk' : T.vm.classes[cell.cls]? = some kA := hkA
      have hfit : fits .int v = true := by
        rw [x5] at hv
        simp at hv
        obtain ⟨y, -, hy⟩ := hv
        rw [← hy]
        rfl
      simpa [State.fitsSlot, State.slotType?, hk', hkind] using hfit)
    (g := F0 m pc ls (.ref (gx Γ q.2.1) :: st.map (cv Γ))) rfl (hl'.1.trans C.2.2.1.symm) rfl (by rw [C.2.1]; exact hd) (by omega) (by show 2 * 0 + ((st.map (cv Γ)).map fun v => v.category).sum + 14 ≤ _; rw [cat_E2]; omega) (by omega) (by rw [hsz]; omega) (hloader := Vm.clonesLoader_of_array hkS hkindS)
  have hcE : ({ cls := cell.cls, slots := cell.slots } : Cell) = vp_cell (gc Γ 0) (9, .inl (fun j => q.2.2.getD j 0)) := by
    rw [vp_cell_i, x4, x5]
    unfold arrV
    congr 1
    apply Array.ext
    · simp [hlen]
    · intro i hi1 hi2
      simp [hlen] at hi1
      simp [List.getD_eq_getElem?_getD, hlen, hi1]
  rw [hcE, hsz] at X'
  generalize hH1 : H.push (vp_cell (gc Γ 0) (9, .inl (fun j => q.2.2.getD j 0))) = H1
  have z1 : H1.size = H.size + 1 := by rw [← hH1, Array.size_push]
  have e1 : H1[H.size]? = some (vp_cell (gc Γ 0) (9, .inl (fun j => q.2.2.getD j 0))) := by rw [← hH1, Array.getElem?_push_size]
  have o1 : ∀ q : Nat, q < H.size → H1[q]? = H[q]? := fun q hq => by rw [← hH1, Array.getElem?_push, if_neg (Nat.ne_of_lt hq)]
  have kk := k p e R s m args below meth c C H1 locs (cells + 1) (slots + 9) ls (by omega) (by omega) h3 hl' (Wd_new hw hg rfl z1 o1 (by
      rw [el_i (by exact ur_s _ _ _), ur_s, show (gNew g 13 9).2.2 g.1 = 9 from ur_s _ _ _]
      exact e1) (fun b hb => el_new hb (ur_n _ _ hb) (ur_n _ _ hb))) (by omega)
  rw [List.map_cons, ← new_at hg hw] at kk
  obtain ⟨t, b1, b2⟩ := kk ((T.setVm vm').pushCell (vp_cell (gc Γ 0) (9, .inl (fun j => q.2.2.getD j 0)))) (by rw [← hH1, ← hT]; rfl) X'
  refine ⟨t, stp t ?_, b2⟩
  rw [hcE, hT]
  exact b1
end Rules
