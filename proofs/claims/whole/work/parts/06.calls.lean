/-! a method's entry, its ends, and calls -/
def entL : List Value → List (Option Value)
  | [] => []
  | v :: vs => if v.category = 2 then some v :: none :: entL vs else some v :: entL vs
def ent (av : List Value) (n : Nat) : List (Option Value) := entL av ++ List.replicate (n - (entL av).length) none
theorem entL_mem (Γ : GE) : ∀ (av : List Value) (o i : Nat) (v : Value), (entL av)[i]? = some (some v) → (o + i, cv Γ v) ∈ lv_args o (av.map (cv Γ))
  | [], o, i, v, h => by simp [entL] at h
  | w :: vs, o, i, v, h => by
    unfold entL at h
    simp only [List.map_cons, lv_args, cv_cat]
    by_cases hc : w.category = 2
    · rw [if_pos hc] at h
      rw [if_pos hc]
      match i, h with
      | 0, h => cases h; exact List.mem_cons_self
      | 1, h => cases h
      | i + 2, h =>
        refine List.mem_cons_of_mem _ ?_
        have := entL_mem Γ vs (o + 2) i v h
        rw [show o + (i + 2) = o + 2 + i by omega]
        exact this
    · rw [if_neg hc] at h
      rw [if_neg hc]
      match i, h with
      | 0, h => cases h; exact List.mem_cons_self
      | i + 1, h =>
        refine List.mem_cons_of_mem _ ?_
        have := entL_mem Γ vs (o + 1) i v h
        rw [show o + (i + 1) = o + 1 + i by omega]
        exact this
theorem entL_len (Γ : GE) : ∀ av : List Value, (lg_sl (av.map (cv Γ))).length = (entL av).length
  | [] => rfl
  | w :: vs => by
    have ih := entL_len Γ vs
    unfold entL
    unfold lg_sl at ih ⊢
    rw [List.map_cons, List.flatMap_cons, List.length_append, ih, cv_cat]
    by_cases hc : w.category = 2
    · rw [if_pos hc, if_pos hc]
      simp
      omega
    · rw [if_neg hc, if_neg hc]
      simp
      omega
section Rules
variable {Γ : GE} {μ : MD} {d mc ms rc rs pc : Nat} {QQ : List Frame → Array Value → State → State → Prop} {lv : List (Option Value)} {st : List Value} {g : Sh} {P : HP} {I : HI} {Φ : Option Value → Sh → HP → HI → Prop}
theorem MM_intro {av : List Value} (hy : plainName μ.1.cls = true) (hn : (entL av).length ≤ μ.2.2.1) (k : E Γ μ d mc ms (QM Γ mc ms Φ) mc ms 0 (ent av μ.2.2.1) [] g P I) : MM Γ μ d mc ms av g P I Φ := by
  refine Met.ofW (cc := μ.2.1) (maxL := μ.2.2.1) (ret := μ.2.2.2) hy rfl ?_
  intro p e s m args below meth c s₁ B hml hv
  obtain ⟨rfl, hK, hw⟩ := hv
  have hts := atoms_spec (ws := wsOf μ) B.pre
  rw [lg_entry_eq]
  have hl := lv_entry (av.map (cv Γ)) (n := μ.2.2.1) (by rw [entL_len]; exact hn)
  refine k p e _ s m _ below meth c ⟨B.exec, B.bytes, hml, B.returns, B.notSynchronized, findClass_of_methodNamed B.named, fun hi => (name_of_methodNamed B.named B.method).1.trans hi, fun w hw => hts w (List.mem_cons_of_mem _ hw), ⟨Nat.le_refl _, Nat.le_refl _, rfl, rfl⟩, hK, by rw [hw.1]; exact Nat.le_add_right _ _, hw.2.1⟩ s.heap [] 0 0 _ (by omega) (by omega) (fun q h => by cases h) ⟨hl.1, hl.2.1, fun i v hv => ?_⟩ hw (Nat.le_refl _)
  have h1 : (entL av)[i]? = some (some v) := by
    unfold ent at hv
    by_cases hi : i < (entL av).length
    · rw [List.getElem?_append_left hi] at hv
      exact hv
    · rw [List.getElem?_append_right (by omega), List.getElem?_replicate] at hv
      split at hv <;> simp at hv
  have h2 := entL_mem Γ av 0 i v h1
  rw [Nat.zero_add] at h2
  exact hl.2.2 _ h2
theorem QcF_mk {v : Option Value} {s t : State} {H : Heap} {a : Array Value} (hΦ : Φ v g P I) (hw : Wd Γ g P I H) (ht : t.heap = H) (hs : s.heap.size ≤ H.size) : QcF Γ Φ a s (.returned (v.map (cv Γ))) t := ⟨v, g, P, I, rfl, hΦ, by rw [ht]; exact hw, by rw [ht]; exact hs⟩
theorem E_iret {x : Int32} (hd : decode μ.2.1 pc = .ok (.ireturn, 1)) (hr : μ.2.2.2 = some .int) (hΦ : Φ (some (.int x)) g P I) : E Γ μ d mc ms (QM Γ mc ms Φ) rc rs pc lv [.int x] g P I := by
  intro p e R s m args below meth c C H locs cells slots ls h1 h2' h3 hl hw hs
  refine W.widen (k := mc) (n := ms) (by omega) (by omega) ?_
  exact W.iret C.1 C.2.1 (C.2.2.2.1.trans hr) (fun t ht _ => QcF_mk hΦ hw ht hs) h3 hd C.2.2.2.2.1
theorem E_zret {x : Int32} {ty : FieldType} (hd : decode μ.2.1 pc = .ok (.ireturn, 1)) (hr : μ.2.2.2 = some ty) (hn : narrow ty (.int x) = .int x) (hΦ : Φ (some (.int x)) g P I) : E Γ μ d mc ms (QM Γ mc ms Φ) rc rs pc lv [.int x] g P I := by
  intro p e R s m args below meth c C H locs cells slots ls h1 h2' h3 hl hw hs
  refine W.widen (k := mc) (n := ms) (by omega) (by omega) ?_
  exact W.zret C.1 C.2.1 (C.2.2.2.1.trans hr) hn (fun t ht _ => QcF_mk hΦ hw ht hs) h3 hd C.2.2.2.2.1
theorem E_vret (hd : decode μ.2.1 pc = .ok (.return_, 1)) (hr : μ.2.2.2 = none) (hΦ : Φ none g P I) : E Γ μ d mc ms (QM Γ mc ms Φ) rc rs pc lv [] g P I := by
  intro p e R s m args below meth c C H locs cells slots ls h1 h2' h3 hl hw hs
  refine W.widen (k := mc) (n := ms) (by omega) (by omega) ?_
  exact W.vret C.1 C.2.1 (C.2.2.2.1.trans hr) (fun t ht _ => QcF_mk hΦ hw ht hs) h3 hd C.2.2.2.2.1
theorem E_aret {v : Value} {ty : FieldType} (hd : decode μ.2.1 pc = .ok (.areturn, 1)) (hr : μ.2.2.2 = some ty) (hrt : (∃ n, ty = .object n) ∨ ∃ t, ty = .array t) (hv : v = .null ∨ ∃ a, v = .ref a) (hΦ : Φ (some v) g P I) : E Γ μ d mc ms (QM Γ mc ms Φ) rc rs pc lv [v] g P I := by
  intro p e R s m args below meth c C H locs cells slots ls h1 h2' h3 hl hw hs
  refine W.widen (k := mc) (n := ms) (by omega) (by omega) ?_
  exact W.aret C.1 C.2.1 (C.2.2.2.1.trans hr) hrt (by rcases hv with rfl | ⟨a, rfl⟩; exact Or.inl rfl; exact Or.inr ⟨_, rfl⟩) (fun t ht _ => QcF_mk hΦ hw ht hs) h3 hd C.2.2.2.2.1
theorem PcF_blind {av : List Value} : FrameBlind (PcF Γ av g P I) := fun a U fr mk h => ⟨h.1, KE.moved (s := U) (U := U.calling fr mk a) (State.WarmedH.refl U) h.2.1, h.2.2⟩
theorem PcF_at {av : List Value} {s : State} {H : Heap} (hK : KE Γ s) (hw : Wd Γ g P I H) {As : List Value} (ha : As = av.map (cv Γ)) : ∀ U : State, U.heap = H → s.WarmedH U.vm → PcF Γ av g P I As.toArray U := fun U hU hW => ⟨by rw [ha], hK.moved hW, by rw [hU]; exact hw⟩
theorem MM.mono {Φ' : Option Value → Sh → HP → HI → Prop} {av : List Value} (h : MM Γ μ d mc ms av g P I Φ) (hi : ∀ v g' P' I', Φ v g' P' I' → Φ' v g' P' I') : MM Γ μ d mc ms av g P I Φ' := by
  intro p e h1 h2 h3 s m args below h4 h5 h6 h7
  obtain ⟨t, o, a1, a2, a3, ⟨v, g', P', I', b1, b2, b3⟩, b4⟩ := h p e h1 h2 h3 s m args below h4 h5 h6 h7
  exact ⟨t, o, a1, a2, a3, ⟨v, g', P', I', b1, hi _ _ _ _ b2, b3⟩, b4⟩
/-- behind a call -/
theorem run_E {p : Program} {e : Env} {R : Room} {s : State} {m : MethodId} {args : Array Value} {below : List Frame} {meth : Method} {c : Code} {H : Heap} {locs : List Loc} {cells slots mc' ms' : Nat} {ls : Array Slot} {st0 : List Value} {a : Array Value}
    (C : Cx Γ μ d mc ms R p s m args meth c) (hl : lvOK Γ ls μ.2.2.1 lv) (h1 : cells + (mc' + rc) ≤ mc) (h2 : slots + (ms' + rs) ≤ ms) (h3 : ∀ q ∈ locs, (gH Γ).size ≤ q.base) (hs : s.heap.size ≤ H.size)
    (hr : va_Run p (gl Γ) e R s m args below meth c H locs cells slots mc' ms' (F0 m pc ls st0) (st.map (cv Γ)) (QcF Γ (fun v g' P' I' => E Γ μ d mc ms QQ rc rs (pc + 3) lv (v.toList ++ st) g' P' I') a) (gA Γ)) : W p (gl Γ) e R s m args below meth c H locs cells slots (QQ below args s) (F0 m pc ls st0) := by
  intro T hT X
  obtain ⟨v, st₀, t, T', L, h0, X', hL, e1, e2, ⟨w, g', P', I', hv, hΦ, hw', hz⟩, stp⟩ := hr T hT X
  cases hv
  rw [h0] at hz
  obtain ⟨t2, a1, b1⟩ := hΦ p e R s m args below meth c C T'.heap (locs ++ L) (cells + mc') (slots + ms') ls (by omega) (by omega) (fun q hq => by
    rcases List.mem_append.mp hq with h | h
    · exact h3 q h
    · exact hL q h) hl (by rw [e1]; exact hw') (by rw [e1]; exact Nat.le_trans hs hz) T' rfl X'
  refine ⟨t2, stp t2 ?_, b1⟩
  have e3 : (w.map (cv Γ)).toList ++ st.map (cv Γ) = (w.toList ++ st).map (cv Γ) := by cases w <;> simp
  rw [e3]
  exact a1
/-- what the tables say of a method that is called -/
def CC (μ' : MD) (n : Nat) : Prop := Cond.initialized μ'.1.cls ∈ gtb ∧ Cond.code μ'.1 μ'.2.1 μ'.2.2.1 μ'.2.2.2 ∈ gtb ∧ (μ'.1.cls ≠ "java/lang/invoke/MethodHandle" ∧ μ'.1.cls ≠ "java/lang/invoke/VarHandle") ∧ (parseMethodDescriptor μ'.1.desc).map (fun d => d.parameters.length) = some n ∧ μ'.2.2.1 ≤ 40
theorem ws_good {μ' : MD} (h : Cond.code μ'.1 μ'.2.1 μ'.2.2.1 μ'.2.2.2 ∈ gtb) : GoodIn gtb (wsOf μ') := gtb_good (fun w hw => (List.mem_cons.mp hw).elim (fun e => by rw [e]; exact h) id)
theorem callB_E {R : Room} {p : Program} {s : State} {m : MethodId} {args : Array Value} {meth : Method} {c : Code} (C : Cx Γ μ d mc ms R p s m args meth c) {μ' : MD} {n idx d' mc' ms' : Nat} (hc : CC μ' n) (hl : Cond.methodLink μ.1.cls idx μ'.1 ∈ gtb) (hd : d' + 1 ≤ d) : CallB R s args μ.1.cls idx μ'.1 μ'.2.1 μ'.2.2.1 μ'.2.2.2 (wsOf μ') (rmOf d' mc' ms') mc' ms' n := by
  obtain ⟨c1, c2, c3, c4, c5⟩ := hc
  have hr := C.room
  exact callB_of n C.hts (ws_good c2) rfl rfl rfl (C.hts _ c1) (C.hts _ hl) ⟨c3.1, c3.2, c4⟩ ⟨by show d' + 1 ≤ _; omega, by show 8 + (μ'.2.2.1 + 11) + 64 * d' ≤ _; omega⟩
def catS (st : List Value) : Nat := (st.map fun v => v.category).sum
theorem cat_E {ls : Array Slot} {m : MethodId} {pc : Nat} {st0 : List Value} (h : catS st ≤ 8) : 2 * (F0 m pc ls st0).monitorRoom + ((st.map (cv Γ)).map fun v => v.category).sum ≤ 8 := by
  have e : ((st.map (cv Γ)).map fun v => v.category) = st.map fun v => v.category := by
    rw [List.map_map]
    exact List.map_congr_left (fun v _ => cv_cat Γ v)
  rw [e]
  have h2 : (F0 m pc ls st0).monitorRoom = 0 := rfl
  rw [h2]
  unfold catS at h
  omega
theorem stk_V {As : List Value} {b : Nat} : (As.reverse ++ .ref b :: st).map (cv Γ) = (As.map (cv Γ)).reverse ++ .ref (ad Γ b) :: st.map (cv Γ) := by simp [cv]
theorem stk_S {As : List Value} : (As.reverse ++ st).map (cv Γ) = (As.map (cv Γ)).reverse ++ st.map (cv Γ) := by simp
theorem recv_E {s : State} {H : Heap} {b ci : Nat} {q : vw_C} (hK : KE Γ s) (hw : Wd Γ g P I H) (hc : vwCl[ci]? = some q) (hk : g.2.1 b = ci) (hb : 16 ≤ b) (h2 : b < g.1) : ∃ cell : Cell, H[ad Γ b]? = some cell ∧ cell.vm.isStatics = false ∧ s.vm.findClass q.1 = some cell.cls :=
  va_recv hK.1 hw.2.2 hc (by rw [wl_get hb h2, el_o hk (vwCl_lt hc)])
/-- a method of the receiver's own class -/
theorem E_callV {μ' : MD} {n idx d' mc' ms' b ci : Nat} {q : vw_C} (As : List Value) {st0 : List Value} (hst : st0 = As.reverse ++ .ref b :: st) (hd : decode μ.2.1 pc = .ok (.invokevirtual idx, 3)) (hc : CC μ' n) (hl : Cond.methodLink μ.1.cls idx μ'.1 ∈ gtb) (hi : Cond.instanceMethod μ'.1 ∈ gtb) (hse : Cond.selects q.1 μ'.1 μ'.1 ∈ gtb) (hq : vwCl[ci]? = some q) (hn : As.length = n) (hcat : catS st ≤ 8) (hdd : d' + 1 ≤ d) (hk : g.2.1 b = ci) (hb : 16 ≤ b) (h2 : b < g.1)
    (hM : MM Γ μ' d' mc' ms' (.ref b :: As) g P I (fun v g' P' I' => E Γ μ d mc ms QQ rc rs (pc + 3) lv (v.toList ++ st) g' P' I')) : E Γ μ d mc ms QQ (mc' + rc) (ms' + rs) pc lv st0 g P I := by
  intro p e R s m args below meth c C H locs cells slots ls h1 h2' h3 hl' hw hs
  have hr := C.room
  have hKE : KE Γ s := C.2.2.2.2.2.2.2.2.2.1
  refine run_E (st := st) C hl' h1 h2' h3 hs (a := (Value.ref (ad Γ b) :: As.map (cv Γ)).toArray) ?_
  exact va_runV (As := As.map (cv Γ)) ⟨C.1, C.2.1, C.2.2.1, C.own, C.hts⟩ hM ⟨callB_E C hc hl hdd, C.hts _ hi, C.hts _ hse⟩ ⟨PcF_blind, recv_E hKE hw hq hk hb h2, PcF_at hKE hw rfl⟩ rfl (by rw [List.length_map]; exact hn) hl'.1 (by rw [hst]; exact stk_V) (cat_E hcat) hd (by omega)
/-- a static method of the own class -/
theorem E_callS {μ' : MD} {n idx d' mc' ms' : Nat} (As : List Value) {st0 : List Value} (hst : st0 = As.reverse ++ st) (hd : decode μ.2.1 pc = .ok (.invokestatic idx, 3)) (hc : CC μ' n) (hl : Cond.methodLink μ.1.cls idx μ'.1 ∈ gtb) (hi : Cond.static μ'.1 ∈ gtb) (hn : As.length = n) (hcat : catS st ≤ 8) (hdd : d' + 1 ≤ d)
    (hM : MM Γ μ' d' mc' ms' As g P I (fun v g' P' I' => E Γ μ d mc ms QQ rc rs (pc + 3) lv (v.toList ++ st) g' P' I')) : E Γ μ d mc ms QQ (mc' + rc) (ms' + rs) pc lv st0 g P I := by
  intro p e R s m args below meth c C H locs cells slots ls h1 h2' h3 hl' hw hs
  have hr := C.room
  have hKE : KE Γ s := C.2.2.2.2.2.2.2.2.2.1
  refine run_E (st := st) C hl' h1 h2' h3 hs (a := (As.map (cv Γ)).toArray) ?_
  exact va_runS (As := As.map (cv Γ)) ⟨C.1, C.2.1, C.2.2.1, C.own, C.hts⟩ hM ⟨callB_E C hc hl hdd, C.hts _ hi⟩ ⟨PcF_blind, PcF_at hKE hw rfl⟩ rfl (by rw [List.length_map]; exact hn) hl'.1 (by rw [hst]; exact stk_S) (cat_E hcat) hd (by omega)
/-- a constructor -/
theorem E_callI {μ' : MD} {n idx d' mc' ms' b : Nat} (As : List Value) {st0 : List Value} (hst : st0 = As.reverse ++ .ref b :: st) (hd : decode μ.2.1 pc = .ok (.invokespecial idx, 3)) (hc : CC μ' n) (hv : μ'.2.2.2 = none) (hin : μ'.1.name = "<init>") (hl : Cond.methodLink μ.1.cls idx μ'.1 ∈ gtb) (hi : Cond.instanceMethod μ'.1 ∈ gtb) (hn : As.length = n) (hcat : catS st ≤ 8) (hdd : d' + 1 ≤ d)
    (hM : MM Γ μ' d' mc' ms' (.ref b :: As) g P I (fun v g' P' I' => E Γ μ d mc ms QQ rc rs (pc + 3) lv (v.toList ++ st) g' P' I')) : E Γ μ d mc ms QQ (mc' + rc) (ms' + rs) pc lv st0 g P I := by
  intro p e R s m args below meth c C H locs cells slots ls h1 h2' h3 hl' hw hs
  have hr := C.room
  have hKE : KE Γ s := C.2.2.2.2.2.2.2.2.2.1
  refine run_E (st := st) C hl' h1 h2' h3 hs (a := (Value.ref (ad Γ b) :: As.map (cv Γ)).toArray) ?_
  have hB := callB_E (mc' := mc') (ms' := ms') C hc hl hdd
  rw [hv] at hB
  exact va_runI (As := As.map (cv Γ)) ⟨C.1, C.2.1, C.2.2.1, C.own, C.hts⟩ hM ⟨hB, hin, C.hts _ hi⟩ ⟨PcF_blind, PcF_at hKE hw rfl⟩ rfl (by rw [List.length_map]; exact hn) hl'.1 (by rw [hst]; exact stk_V) (cat_E hcat) hd (by omega)
theorem callN_E {R : Room} {p : Program} {s : State} {m : MethodId} {args : Array Value} {meth : Method} {c : Code} (C : Cx Γ μ d mc ms R p s m args meth c) {μ' : MD} {n idx d' mc' ms' : Nat} (hc : CC μ' n) (hl : (μ.1.cls, idx, μ'.1) ∈ nestL) (hd : d' + 1 ≤ d) : va_CN R s args μ.1.cls idx μ'.1 "GorgeWire" μ'.2.1 μ'.2.2.1 μ'.2.2.2 (wsOf μ') (rmOf d' mc' ms') mc' ms' n := by
  obtain ⟨c1, c2, c3, c4, c5⟩ := hc
  have hr := C.room
  exact va_cnB n C.hts (ws_good c2) rfl rfl rfl (C.X.1 _ hl) (C.hts _ c1) ⟨c3.1, c3.2, c4⟩ ⟨by show d' + 1 ≤ _; omega, by show 8 + (μ'.2.2.1 + 11) + 64 * d' ≤ _; omega⟩
/-- a nest mate's static method, constructor -/
theorem E_callSN {μ' : MD} {n idx d' mc' ms' : Nat} (As : List Value) {st0 : List Value} (hst : st0 = As.reverse ++ st) (hd : decode μ.2.1 pc = .ok (.invokestatic idx, 3)) (hc : CC μ' n) (hl : (μ.1.cls, idx, μ'.1) ∈ nestL) (hi : Cond.static μ'.1 ∈ gtb) (hn : As.length = n) (hcat : catS st ≤ 8) (hdd : d' + 1 ≤ d)
    (hM : MM Γ μ' d' mc' ms' As g P I (fun v g' P' I' => E Γ μ d mc ms QQ rc rs (pc + 3) lv (v.toList ++ st) g' P' I')) : E Γ μ d mc ms QQ (mc' + rc) (ms' + rs) pc lv st0 g P I := by
  intro p e R s m args below meth c C H locs cells slots ls h1 h2' h3 hl' hw hs
  have hr := C.room
  have hKE : KE Γ s := C.2.2.2.2.2.2.2.2.2.1
  refine run_E (st := st) C hl' h1 h2' h3 hs (a := (As.map (cv Γ)).toArray) ?_
  exact va_runSN (As := As.map (cv Γ)) ⟨C.1, C.2.1, C.2.2.1, C.own, C.hts⟩ hM ⟨callN_E C hc hl hdd, C.hts _ hi, trivial⟩ ⟨PcF_blind, PcF_at hKE hw rfl⟩ rfl (by rw [List.length_map]; exact hn) hl'.1 (by rw [hst]; exact stk_S) (cat_E hcat) hd (by omega)
theorem E_callIN {μ' : MD} {n idx d' mc' ms' b : Nat} (As : List Value) {st0 : List Value} (hst : st0 = As.reverse ++ .ref b :: st) (hd : decode μ.2.1 pc = .ok (.invokespecial idx, 3)) (hc : CC μ' n) (hv : μ'.2.2.2 = none) (hin : μ'.1.name = "<init>") (hl : (μ.1.cls, idx, μ'.1) ∈ nestL) (hi : Cond.instanceMethod μ'.1 ∈ gtb) (hn : As.length = n) (hcat : catS st ≤ 8) (hdd : d' + 1 ≤ d)
    (hM : MM Γ μ' d' mc' ms' (.ref b :: As) g P I (fun v g' P' I' => E Γ μ d mc ms QQ rc rs (pc + 3) lv (v.toList ++ st) g' P' I')) : E Γ μ d mc ms QQ (mc' + rc) (ms' + rs) pc lv st0 g P I := by
  intro p e R s m args below meth c C H locs cells slots ls h1 h2' h3 hl' hw hs
  have hr := C.room
  have hKE : KE Γ s := C.2.2.2.2.2.2.2.2.2.1
  refine run_E (st := st) C hl' h1 h2' h3 hs (a := (Value.ref (ad Γ b) :: As.map (cv Γ)).toArray) ?_
  have hB := callN_E (mc' := mc') (ms' := ms') C hc hl hdd
  rw [hv] at hB
  exact va_runIN (As := As.map (cv Γ)) ⟨C.1, C.2.1, C.2.2.1, C.own, C.hts⟩ hM ⟨hB, hin, C.hts _ hi⟩ ⟨PcF_blind, PcF_at hKE hw rfl⟩ rfl (by rw [List.length_map]; exact hn) hl'.1 (by rw [hst]; exact stk_V) (cat_E hcat) hd (by omega)
/-- a method that the receiver's class has from above, or in another's place -/
def CU (own : String) (idx : Nat) (Cn owner : String) (x : MethodName) (μ' : MD) (n : Nat) : Prop := CC μ' n ∧ Cond.methodLink own idx x ∈ gtb ∧ Cond.sameMethod x.cls owner x.name x.desc ∈ gtb ∧ Cond.selects Cn x μ'.1 ∈ gtb ∧ Cond.instanceMethod μ'.1 ∈ gtb ∧ (owner ≠ "java/lang/invoke/MethodHandle" ∧ owner ≠ "java/lang/invoke/VarHandle") ∧ (parseMethodDescriptor x.desc).map (fun d => d.parameters.length) = some n ∧ ((∃ (b0 : ByteArray) (m0 : Nat) (r0 : Option FieldType), Cond.instanceMethod ⟨owner, x.name, x.desc⟩ ∈ gtb ∧ Cond.code ⟨owner, x.name, x.desc⟩ b0 m0 r0 ∈ gtb) ∨ (⟨owner, x.name, x.desc⟩ : MethodName) ∈ declL)
theorem E_callU {μ' : MD} {n idx d' mc' ms' b ci : Nat} {q : vw_C} {owner : String} {x : MethodName} (As : List Value) {st0 : List Value} (hst : st0 = As.reverse ++ .ref b :: st) (hd : decode μ.2.1 pc = .ok (.invokevirtual idx, 3)) (hu : CU μ.1.cls idx q.1 owner x μ' n) (hq : vwCl[ci]? = some q) (hn : As.length = n) (hcat : catS st ≤ 8) (hdd : d' + 1 ≤ d) (hk : g.2.1 b = ci) (hb : 16 ≤ b) (h2 : b < g.1)
    (hM : MM Γ μ' d' mc' ms' (.ref b :: As) g P I (fun v g' P' I' => E Γ μ d mc ms QQ rc rs (pc + 3) lv (v.toList ++ st) g' P' I')) : E Γ μ d mc ms QQ (mc' + rc) (ms' + rs) pc lv st0 g P I := by
  intro p e R s m args below meth c C H locs cells slots ls h1 h2' h3 hl' hw hs
  have hr := C.room
  have hKE : KE Γ s := C.2.2.2.2.2.2.2.2.2.1
  obtain ⟨⟨c1, c2, c3, c4, c5⟩, u1, u2, u3, u4, u5, u6, u7⟩ := hu
  refine run_E (st := st) C hl' h1 h2' h3 hs (a := (Value.ref (ad Γ b) :: As.map (cv Γ)).toArray) ?_
  have hdec : va_Decl s ⟨owner, x.name, x.desc⟩ := by
    rcases u7 with ⟨b0, m0, r0, w1, w2⟩ | w
    · exact va_Decl.of (C.hts _ w1) (C.hts _ w2)
    · exact va_Decl.abs (C.X.2.2.1 _ w)
  have hlen : ∀ sig, parseMethodDescriptor x.desc = some sig → n = sig.parameters.length := fun sig h => by
    rw [h] at u6
    exact (Option.some.inj u6).symm
  exact va_runU (As := As.map (cv Γ)) ⟨C.1, C.2.1, C.2.2.1, C.own, C.hts⟩ hM ⟨⟨rfl, rfl, by show d' + 1 ≤ _; omega, by show 8 + (μ'.2.2.1 + 11) + 64 * d' ≤ _; omega, pay_in C.hts (ws_good c2), List.mem_cons_self⟩, C.hts _ c2, C.hts _ c1, u5, hlen, C.hts _ u1, C.hts _ u2, hdec, C.hts _ u3, C.hts _ u4⟩ ⟨PcF_blind, recv_E hKE hw hq hk hb h2, PcF_at hKE hw rfl⟩ rfl (by rw [List.length_map]; exact hn) hl'.1 (by rw [hst]; exact stk_V) (cat_E hcat) hd (by omega)
/-- super's method -/
def CP (own : String) (idx : Nat) (μ' : MD) (n : Nat) : Prop := CC μ' n ∧ Cond.methodLink own idx μ'.1 ∈ gtb ∧ Cond.sameMethod μ'.1.cls μ'.1.cls μ'.1.name μ'.1.desc ∈ gtb ∧ Cond.superclass own μ'.1.cls ∈ gtb ∧ Cond.instanceMethod μ'.1 ∈ gtb ∧ μ'.1.name ≠ "<init>"
theorem E_callP {μ' : MD} {n idx d' mc' ms' b ci : Nat} {q : vw_C} (As : List Value) {st0 : List Value} (hst : st0 = As.reverse ++ .ref b :: st) (hd : decode μ.2.1 pc = .ok (.invokespecial idx, 3)) (hu : CP μ.1.cls idx μ' n) (hq : vwCl[ci]? = some q) (hn : As.length = n) (hcat : catS st ≤ 8) (hdd : d' + 1 ≤ d) (hk : g.2.1 b = ci) (hb : 16 ≤ b) (h2 : b < g.1)
    (hM : MM Γ μ' d' mc' ms' (.ref b :: As) g P I (fun v g' P' I' => E Γ μ d mc ms QQ rc rs (pc + 3) lv (v.toList ++ st) g' P' I')) : E Γ μ d mc ms QQ (mc' + rc) (ms' + rs) pc lv st0 g P I := by
  intro p e R s m args below meth c C H locs cells slots ls h1 h2' h3 hl' hw hs
  have hr := C.room
  have hKE : KE Γ s := C.2.2.2.2.2.2.2.2.2.1
  obtain ⟨⟨c1, c2, c3, c4, c5⟩, u1, u2, u3, u4, u5⟩ := hu
  refine run_E (st := st) C hl' h1 h2' h3 hs (a := (Value.ref (ad Γ b) :: As.map (cv Γ)).toArray) ?_
  have hlen : ∀ sig, parseMethodDescriptor μ'.1.desc = some sig → n = sig.parameters.length := fun sig h => by
    rw [h] at c4
    exact (Option.some.inj c4).symm
  exact va_runSU (As := As.map (cv Γ)) (C.K.1 ci q hq).2 ⟨C.1, C.2.1, C.2.2.1, C.own, C.hts⟩ hM ⟨⟨rfl, rfl, by show d' + 1 ≤ _; omega, by show 8 + (μ'.2.2.1 + 11) + 64 * d' ≤ _; omega, pay_in C.hts (ws_good c2), List.mem_cons_self⟩, C.hts _ u1, C.hts _ u2, C.hts _ u3, C.hts _ u4, C.hts _ c1, C.hts _ c2, u5, hlen⟩ ⟨PcF_blind, recv_E hKE hw hq hk hb h2, PcF_at hKE hw rfl⟩ rfl (by rw [List.length_map]; exact hn) hl'.1 (by rw [hst]; exact stk_V) (cat_E hcat) hd (by omega)
end Rules
