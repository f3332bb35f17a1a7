/-! strings that lay there before -/
theorem w_182 : (Jvm.Cond.methodLink "java/lang/String" (335 : Nat) ({ cls := "java/lang/String", name := "coder", desc := "()B" } : Jvm.MethodName)) ∈ gtb := gt1 112 rfl rfl
theorem w_183 : (Jvm.Cond.instanceMethod ({ cls := "java/lang/String", name := "coder", desc := "()B" } : Jvm.MethodName)) ∈ gtb := gt1 113 rfl rfl
theorem w_184 : (Jvm.Cond.selects "java/lang/String" ({ cls := "java/lang/String", name := "coder", desc := "()B" } : Jvm.MethodName) ({ cls := "java/lang/String", name := "coder", desc := "()B" } : Jvm.MethodName)) ∈ gtb := gt1 114 rfl rfl
theorem w_192 : (Jvm.Cond.methodLink "java/lang/String" (492 : Nat) ({ cls := "java/lang/String", name := "isLatin1", desc := "()Z" } : Jvm.MethodName)) ∈ gtb := gt1 122 rfl rfl
theorem w_193 : (Jvm.Cond.instanceMethod ({ cls := "java/lang/String", name := "isLatin1", desc := "()Z" } : Jvm.MethodName)) ∈ gtb := gt1 123 rfl rfl
theorem w_194 : (Jvm.Cond.selects "java/lang/String" ({ cls := "java/lang/String", name := "isLatin1", desc := "()Z" } : Jvm.MethodName) ({ cls := "java/lang/String", name := "isLatin1", desc := "()Z" } : Jvm.MethodName)) ∈ gtb := gt1 124 rfl rfl
theorem w_196 : (Jvm.Cond.methodLink "java/lang/String" (495 : Nat) ({ cls := "java/lang/StringLatin1", name := "charAt", desc := "([BI)C" } : Jvm.MethodName)) ∈ gtb := gt1 126 rfl rfl
theorem w_197 : (Jvm.Cond.static ({ cls := "java/lang/StringLatin1", name := "charAt", desc := "([BI)C" } : Jvm.MethodName)) ∈ gtb := gt1 127 rfl rfl
theorem w_503 : (Jvm.Cond.methodLink "java/lang/String" (633 : Nat) ({ cls := "java/lang/String", name := "indexOf", desc := "(II)I" } : Jvm.MethodName)) ∈ gtb := gt2 193 rfl rfl
theorem w_504 : (Jvm.Cond.instanceMethod ({ cls := "java/lang/String", name := "indexOf", desc := "(II)I" } : Jvm.MethodName)) ∈ gtb := gt2 194 rfl rfl
theorem w_505 : (Jvm.Cond.selects "java/lang/String" ({ cls := "java/lang/String", name := "indexOf", desc := "(II)I" } : Jvm.MethodName) ({ cls := "java/lang/String", name := "indexOf", desc := "(II)I" } : Jvm.MethodName)) ∈ gtb := gt2 195 rfl rfl
theorem w_507 : (Jvm.Cond.methodLink "java/lang/String" (505 : Nat) ({ cls := "java/lang/String", name := "length", desc := "()I" } : Jvm.MethodName)) ∈ gtb := gt2 197 rfl rfl
theorem w_179 : (Jvm.Cond.instanceMethod ({ cls := "java/lang/String", name := "length", desc := "()I" } : Jvm.MethodName)) ∈ gtb := gt1 109 rfl rfl
theorem w_180 : (Jvm.Cond.selects "java/lang/String" ({ cls := "java/lang/String", name := "length", desc := "()I" } : Jvm.MethodName) ({ cls := "java/lang/String", name := "length", desc := "()I" } : Jvm.MethodName)) ∈ gtb := gt1 110 rfl rfl
theorem w_508 : (Jvm.Cond.methodLink "java/lang/String" (637 : Nat) ({ cls := "java/lang/StringLatin1", name := "indexOf", desc := "([BIII)I" } : Jvm.MethodName)) ∈ gtb := gt2 198 rfl rfl
theorem w_509 : (Jvm.Cond.static ({ cls := "java/lang/StringLatin1", name := "indexOf", desc := "([BIII)I" } : Jvm.MethodName)) ∈ gtb := gt2 199 rfl rfl
theorem w_204 : (Jvm.Cond.methodLink "java/lang/String" (1059 : Nat) ({ cls := "jdk/internal/util/Preconditions", name := "checkIndex", desc := "(IILjava/util/function/BiFunction;)I" } : Jvm.MethodName)) ∈ gtb := gt1 134 rfl rfl
theorem w_205 : (Jvm.Cond.static ({ cls := "jdk/internal/util/Preconditions", name := "checkIndex", desc := "(IILjava/util/function/BiFunction;)I" } : Jvm.MethodName)) ∈ gtb := gt1 135 rfl rfl
theorem w_199 : (Jvm.Cond.methodLink "java/lang/StringLatin1" (9 : Nat) ({ cls := "java/lang/String", name := "checkIndex", desc := "(II)V" } : Jvm.MethodName)) ∈ gtb := gt1 129 rfl rfl
theorem w_200 : (Jvm.Cond.static ({ cls := "java/lang/String", name := "checkIndex", desc := "(II)V" } : Jvm.MethodName)) ∈ gtb := gt1 130 rfl rfl
theorem w_511 : (Jvm.Cond.methodLink "java/lang/StringLatin1" (88 : Nat) ({ cls := "java/lang/StringLatin1", name := "canEncode", desc := "(I)Z" } : Jvm.MethodName)) ∈ gtb := gt2 201 rfl rfl
theorem w_512 : (Jvm.Cond.static ({ cls := "java/lang/StringLatin1", name := "canEncode", desc := "(I)Z" } : Jvm.MethodName)) ∈ gtb := gt2 202 rfl rfl
theorem w_516 : (Jvm.Cond.methodLink "java/lang/StringLatin1" (95 : Nat) ({ cls := "java/lang/StringLatin1", name := "indexOfChar", desc := "([BIII)I" } : Jvm.MethodName)) ∈ gtb := gt2 206 rfl rfl
theorem w_517 : (Jvm.Cond.static ({ cls := "java/lang/StringLatin1", name := "indexOfChar", desc := "([BIII)I" } : Jvm.MethodName)) ∈ gtb := gt2 207 rfl rfl
theorem w_499 : (Jvm.Cond.methodLink "GorgeWire$Reader" (99 : Nat) ({ cls := "java/lang/String", name := "indexOf", desc := "(I)I" } : Jvm.MethodName)) ∈ gtb := gt2 189 rfl rfl
theorem w_500 : (Jvm.Cond.instanceMethod ({ cls := "java/lang/String", name := "indexOf", desc := "(I)I" } : Jvm.MethodName)) ∈ gtb := gt2 190 rfl rfl
theorem w_501 : (Jvm.Cond.selects "java/lang/String" ({ cls := "java/lang/String", name := "indexOf", desc := "(I)I" } : Jvm.MethodName) ({ cls := "java/lang/String", name := "indexOf", desc := "(I)I" } : Jvm.MethodName)) ∈ gtb := gt2 191 rfl rfl
theorem w_178 : (Jvm.Cond.methodLink "GorgeWire$Row" (23 : Nat) ({ cls := "java/lang/String", name := "length", desc := "()I" } : Jvm.MethodName)) ∈ gtb := gt1 108 rfl rfl
theorem w_188 : (Jvm.Cond.methodLink "GorgeWire$Row" (29 : Nat) ({ cls := "java/lang/String", name := "charAt", desc := "(I)C" } : Jvm.MethodName)) ∈ gtb := gt1 118 rfl rfl
theorem w_189 : (Jvm.Cond.instanceMethod ({ cls := "java/lang/String", name := "charAt", desc := "(I)C" } : Jvm.MethodName)) ∈ gtb := gt1 119 rfl rfl
theorem w_190 : (Jvm.Cond.selects "java/lang/String" ({ cls := "java/lang/String", name := "charAt", desc := "(I)C" } : Jvm.MethodName) ({ cls := "java/lang/String", name := "charAt", desc := "(I)C" } : Jvm.MethodName)) ∈ gtb := gt1 120 rfl rfl
theorem w_1381 : (Jvm.Cond.methodLink "GorgeWireModel" (199 : Nat) ({ cls := "java/lang/String", name := "length", desc := "()I" } : Jvm.MethodName)) ∈ gtb := gt6 111 rfl rfl
theorem w_1382 : (Jvm.Cond.methodLink "GorgeWireModel" (202 : Nat) ({ cls := "java/lang/String", name := "charAt", desc := "(I)C" } : Jvm.MethodName)) ∈ gtb := gt6 112 rfl rfl
theorem w_186 : (Jvm.Cond.fieldLink "java/lang/String" (38 : Nat) "java/lang/String" "COMPACT_STRINGS" "Z") ∈ gtb := gt1 116 rfl rfl
theorem w_1604 : (Jvm.Cond.fieldLink "java/lang/String" (15 : Nat) "java/lang/String" "coder" "B") ∈ gtb := gt7 94 rfl rfl
theorem w_1603 : (Jvm.Cond.fieldLink "java/lang/String" (9 : Nat) "java/lang/String" "value" "[B") ∈ gtb := gt7 93 rfl rfl
theorem w_202 : (Jvm.Cond.fieldLink "java/lang/String" (1053 : Nat) "jdk/internal/util/Preconditions" "SIOOBE_FORMATTER" "Ljava/util/function/BiFunction;") ∈ gtb := gt1 132 rfl rfl
section Rules
variable {Γ : GE} {μ : MD} {d mc ms rc rs pc : Nat} {QQ : List Frame → Array Value → State → State → Prop} {lv : List (Option Value)} {st : List Value} {g : Sh} {P : HP} {I : HI}
def sln (j : Nat) : Nat := sLen.getD j 0
def sbt (j i : Nat) : Int32 := (sByt.getD j []).getD i 0
theorem Cx.str {R : Room} {p : Program} {s : State} {m : MethodId} {args : Array Value} {meth : Method} {c : Code} (C : Cx Γ μ d mc ms R p s m args meth c) : vk_S 5 sLen sByt (gx Γ) (fun i => gx Γ (5 + i)) (gA Γ) s s.heap := C.X.2.2.2.2.2.2.1.kept C.keep
theorem cv_lo {j : Nat} (h : j < 16) : cv Γ (.ref j) = .ref (gx Γ j) := congrArg Value.ref (if_pos h)
theorem E_callStr {μ' : MD} {n idx d' mc' ms' b : Nat} (As : List Value) {st0 : List Value} (hst : st0 = As.reverse ++ .ref b :: st) (hd : decode μ.2.1 pc = .ok (.invokevirtual idx, 3)) (hc : CC μ' n) (hl : Cond.methodLink μ.1.cls idx μ'.1 ∈ gtb) (hi : Cond.instanceMethod μ'.1 ∈ gtb) (hse : Cond.selects "java/lang/String" μ'.1 μ'.1 ∈ gtb) (hn : As.length = n) (hcat : catS st ≤ 8) (hdd : d' + 1 ≤ d) (hb : b < 5)
    (hM : MM Γ μ' d' mc' ms' (.ref b :: As) g P I (fun v g' P' I' => E Γ μ d mc ms QQ rc rs (pc + 3) lv (v.toList ++ st) g' P' I')) : E Γ μ d mc ms QQ (mc' + rc) (ms' + rs) pc lv st0 g P I := by
  intro p e R s m args below meth c C H locs cells slots ls h1 h2' h3 hl' hw hs
  have hr := C.room
  have hKE : KE Γ s := C.2.2.2.2.2.2.2.2.2.1
  refine run_E (st := st) C hl' h1 h2' h3 hs (a := (Value.ref (ad Γ b) :: As.map (cv Γ)).toArray) ?_
  have hrv := vk_recv (i := b) C.str hb (C.S h3 hw hs)
  rw [← show ad Γ b = gx Γ b from if_pos (by omega)] at hrv
  exact va_runV (As := As.map (cv Γ)) ⟨C.1, C.2.1, C.2.2.1, C.own, C.hts⟩ hM ⟨callB_E C hc hl hdd, C.hts _ hi, C.hts _ hse⟩ ⟨PcF_blind, hrv, PcF_at hKE hw rfl⟩ rfl (by rw [List.length_map]; exact hn) hl'.1 (by rw [hst]; exact stk_V) (cat_E hcat) hd (by omega)
theorem E_strV {j idx : Nat} (hj : j < 5) (hd : decode μ.2.1 pc = .ok (.getfield idx, 3)) (hl : Cond.fieldLink μ.1.cls idx "java/lang/String" "value" "[B" ∈ gtb)
    (k : E Γ μ d mc ms QQ rc rs (pc + 3) lv (.ref (5 + j) :: st) g P I) : E Γ μ d mc ms QQ rc rs pc lv (.ref j :: st) g P I := by
  intro p e R s m args below meth c C H locs cells slots ls h1 h2' h3 hl' hw hs
  have kk := k p e R s m args below meth c C H locs cells slots ls h1 h2' h3 hl' hw hs
  rw [List.map_cons, cv_lo (by omega)] at kk ⊢
  exact vk_getf C.1 C.2.1 (C.str.1 j hj).2.2.1 (C.S h3 hw hs) C.own (C.hts _ hl) (fun _ h => h) hd kk
theorem E_strC {j idx : Nat} (hj : j < 5) (hd : decode μ.2.1 pc = .ok (.getfield idx, 3)) (hl : Cond.fieldLink μ.1.cls idx "java/lang/String" "coder" "B" ∈ gtb)
    (k : E Γ μ d mc ms QQ rc rs (pc + 3) lv (.int 0 :: st) g P I) : E Γ μ d mc ms QQ rc rs pc lv (.ref j :: st) g P I := by
  intro p e R s m args below meth c C H locs cells slots ls h1 h2' h3 hl' hw hs
  have kk := k p e R s m args below meth c C H locs cells slots ls h1 h2' h3 hl' hw hs
  rw [List.map_cons] at kk ⊢
  rw [cv_lo (by omega)]
  exact vk_getf C.1 C.2.1 (C.str.1 j hj).2.1 (C.S h3 hw hs) C.own (C.hts _ hl) (fun _ h => h) hd kk
theorem E_getsC {idx : Nat} (hd : decode μ.2.1 pc = .ok (.getstatic idx, 3)) (hl : Cond.fieldLink μ.1.cls idx "java/lang/String" "COMPACT_STRINGS" "Z" ∈ gtb)
    (k : E Γ μ d mc ms QQ rc rs (pc + 3) lv (.int 1 :: st) g P I) : E Γ μ d mc ms QQ rc rs pc lv st g P I := by
  intro p e R s m args below meth c C H locs cells slots ls h1 h2' h3 hl' hw hs
  exact va_gets C.1 C.2.1 ((C.X.2.2.2.2.2.2.2.2.2.1).kept C.keep) (C.S h3 hw hs) C.own (C.hts _ hl) (fun _ h => h) hd (k p e R s m args below meth c C H locs cells slots ls h1 h2' h3 hl' hw hs)
theorem E_getsF {idx : Nat} (hd : decode μ.2.1 pc = .ok (.getstatic idx, 3)) (hl : Cond.fieldLink μ.1.cls idx "jdk/internal/util/Preconditions" "SIOOBE_FORMATTER" "Ljava/util/function/BiFunction;" ∈ gtb)
    (k : ∀ v : Value, (v = .null ∨ v = .ref 14) → E Γ μ d mc ms QQ rc rs (pc + 3) lv (v :: st) g P I) : E Γ μ d mc ms QQ rc rs pc lv st g P I := by
  intro p e R s m args below meth c C H locs cells slots ls h1 h2' h3 hl' hw hs
  obtain ⟨v, hv, hz⟩ := C.X.2.2.2.2.2.2.2.2.2.2
  exact va_gets C.1 C.2.1 (hz.kept C.keep) (C.S h3 hw hs) C.own (C.hts _ hl) (fun _ h => h) hd (k v hv p e R s m args below meth c C H locs cells slots ls h1 h2' h3 hl' hw hs)
theorem E_btlen {j : Nat} (hj : j < 5) (hd : decode μ.2.1 pc = .ok (.arraylength, 1))
    (k : E Γ μ d mc ms QQ rc rs (pc + 1) lv (.int (nI (sln j)) :: st) g P I) : E Γ μ d mc ms QQ rc rs pc lv (.ref (5 + j) :: st) g P I := by
  intro p e R s m args below meth c C H locs cells slots ls h1 h2' h3 hl' hw hs
  have kk := k p e R s m args below meth c C H locs cells slots ls h1 h2' h3 hl' hw hs
  rw [List.map_cons] at kk ⊢
  rw [cv_lo (by omega)]
  exact va_tlen C.1 C.2.1 (C.str.1 j hj).2.2.2 (C.S h3 hw hs) (v := nI (sln j)) rfl hd kk
theorem E_btld {j i : Nat} {x : Int32} (hj : j < 5) (hx : x = nI i) (hi : i < sln j) (hs3 : sln j < 2 ^ 31) (hd : decode μ.2.1 pc = .ok (.baload, 1))
    (k : E Γ μ d mc ms QQ rc rs (pc + 1) lv (.int (sbt j i) :: st) g P I) : E Γ μ d mc ms QQ rc rs pc lv (.int x :: .ref (5 + j) :: st) g P I := by
  subst hx
  intro p e R s m args below meth c C H locs cells slots ls h1 h2' h3 hl' hw hs
  have kk := k p e R s m args below meth c C H locs cells slots ls h1 h2' h3 hl' hw hs
  rw [List.map_cons] at kk ⊢
  rw [List.map_cons, cv_lo (by omega)]
  exact va_tb C.1 C.2.1 (C.str.1 j hj).2.2.2 (C.S h3 hw hs) (nI_vp hi (by omega)) (v := .int (sbt j i)) (by show Value.int ((sByt.getD j []).getD (nI i).toNatClampNeg 0) = _; rw [nI_clamp (by omega)]; rfl) hd kk
end Rules
theorem sln_lt (j : Nat) : sln j < 100 := by
  match j with
  | 0 => decide
  | 1 => decide
  | 2 => decide
  | 3 => decide
  | 4 => decide
  | n + 5 => exact (by decide : 0 < 100)
theorem k_J0_length_8abf5_6 {Γ : GE} {d rc rs mc ms mc' ms' : Nat} {QQ : List Frame → Array Value → State → State → Prop} {lv : List (Option Value)} {st : List Value} {g : Sh} {P : HP} {I : HI} {b : Nat} (hd : 1 ≤ d) (hc : catS st ≤ 8) (hb : b < 5) (hM : MM Γ mJ0_coder_7d493 (d - 1) mc' ms' (.ref b :: []) g P I (fun v g' P' I' => E Γ mJ0_length_8abf5 d mc ms QQ rc rs 9 lv (v.toList ++ st) g' P' I')) : E Γ mJ0_length_8abf5 d mc ms QQ (mc' + rc) (ms' + rs) 6 lv (.ref b :: st) g P I := E_callStr [] rfl dJ0_length_8abf5_6 cc_J0_coder_7d493 w_182 w_183 w_184 rfl hc (by omega) hb hM
theorem k_J0_charAt_5068e_1 {Γ : GE} {d rc rs mc ms mc' ms' : Nat} {QQ : List Frame → Array Value → State → State → Prop} {lv : List (Option Value)} {st : List Value} {g : Sh} {P : HP} {I : HI} {b : Nat} (hd : 1 ≤ d) (hc : catS st ≤ 8) (hb : b < 5) (hM : MM Γ mJ0_isLatin1_aae02 (d - 1) mc' ms' (.ref b :: []) g P I (fun v g' P' I' => E Γ mJ0_charAt_5068e d mc ms QQ rc rs 4 lv (v.toList ++ st) g' P' I')) : E Γ mJ0_charAt_5068e d mc ms QQ (mc' + rc) (ms' + rs) 1 lv (.ref b :: st) g P I := E_callStr [] rfl dJ0_charAt_5068e_1 cc_J0_isLatin1_aae02 w_192 w_193 w_194 rfl hc (by omega) hb hM
theorem k_J0_charAt_5068e_12 {Γ : GE} {d rc rs mc ms mc' ms' : Nat} {QQ : List Frame → Array Value → State → State → Prop} {lv : List (Option Value)} {st : List Value} {g : Sh} {P : HP} {I : HI} {x0 x1 : Value} (hd : 1 ≤ d) (hc : catS st ≤ 8) (hM : MM Γ mJ1_charAt_3b067 (d - 1) mc' ms' [x0, x1] g P I (fun v g' P' I' => E Γ mJ0_charAt_5068e d mc ms QQ rc rs 15 lv (v.toList ++ st) g' P' I')) : E Γ mJ0_charAt_5068e d mc ms QQ (mc' + rc) (ms' + rs) 12 lv (x1 :: x0 :: st) g P I := E_callS [x0, x1] rfl dJ0_charAt_5068e_12 cc_J1_charAt_3b067 w_196 w_197 rfl hc (by omega) hM
theorem k_J0_indexOf_0f7a4_3 {Γ : GE} {d rc rs mc ms mc' ms' : Nat} {QQ : List Frame → Array Value → State → State → Prop} {lv : List (Option Value)} {st : List Value} {g : Sh} {P : HP} {I : HI} {b : Nat} {x0 x1 : Value} (hd : 1 ≤ d) (hc : catS st ≤ 8) (hb : b < 5) (hM : MM Γ mJ0_indexOf_7cf53 (d - 1) mc' ms' (.ref b :: [x0, x1]) g P I (fun v g' P' I' => E Γ mJ0_indexOf_0f7a4 d mc ms QQ rc rs 6 lv (v.toList ++ st) g' P' I')) : E Γ mJ0_indexOf_0f7a4 d mc ms QQ (mc' + rc) (ms' + rs) 3 lv (x1 :: x0 :: .ref b :: st) g P I := E_callStr [x0, x1] rfl dJ0_indexOf_0f7a4_3 cc_J0_indexOf_7cf53 w_503 w_504 w_505 rfl hc (by omega) hb hM
theorem k_J0_indexOf_7cf53_1 {Γ : GE} {d rc rs mc ms mc' ms' : Nat} {QQ : List Frame → Array Value → State → State → Prop} {lv : List (Option Value)} {st : List Value} {g : Sh} {P : HP} {I : HI} {b : Nat} (hd : 1 ≤ d) (hc : catS st ≤ 8) (hb : b < 5) (hM : MM Γ mJ0_isLatin1_aae02 (d - 1) mc' ms' (.ref b :: []) g P I (fun v g' P' I' => E Γ mJ0_indexOf_7cf53 d mc ms QQ rc rs 4 lv (v.toList ++ st) g' P' I')) : E Γ mJ0_indexOf_7cf53 d mc ms QQ (mc' + rc) (ms' + rs) 1 lv (.ref b :: st) g P I := E_callStr [] rfl dJ0_indexOf_7cf53_1 cc_J0_isLatin1_aae02 w_192 w_193 w_194 rfl hc (by omega) hb hM
theorem k_J0_indexOf_7cf53_14 {Γ : GE} {d rc rs mc ms mc' ms' : Nat} {QQ : List Frame → Array Value → State → State → Prop} {lv : List (Option Value)} {st : List Value} {g : Sh} {P : HP} {I : HI} {b : Nat} (hd : 1 ≤ d) (hc : catS st ≤ 8) (hb : b < 5) (hM : MM Γ mJ0_length_8abf5 (d - 1) mc' ms' (.ref b :: []) g P I (fun v g' P' I' => E Γ mJ0_indexOf_7cf53 d mc ms QQ rc rs 17 lv (v.toList ++ st) g' P' I')) : E Γ mJ0_indexOf_7cf53 d mc ms QQ (mc' + rc) (ms' + rs) 14 lv (.ref b :: st) g P I := E_callStr [] rfl dJ0_indexOf_7cf53_14 cc_J0_length_8abf5 w_507 w_179 w_180 rfl hc (by omega) hb hM
theorem k_J0_indexOf_7cf53_17 {Γ : GE} {d rc rs mc ms mc' ms' : Nat} {QQ : List Frame → Array Value → State → State → Prop} {lv : List (Option Value)} {st : List Value} {g : Sh} {P : HP} {I : HI} {x0 x1 x2 x3 : Value} (hd : 1 ≤ d) (hc : catS st ≤ 8) (hM : MM Γ mJ1_indexOf_4cfef (d - 1) mc' ms' [x0, x1, x2, x3] g P I (fun v g' P' I' => E Γ mJ0_indexOf_7cf53 d mc ms QQ rc rs 20 lv (v.toList ++ st) g' P' I')) : E Γ mJ0_indexOf_7cf53 d mc ms QQ (mc' + rc) (ms' + rs) 17 lv (x3 :: x2 :: x1 :: x0 :: st) g P I := E_callS [x0, x1, x2, x3] rfl dJ0_indexOf_7cf53_17 cc_J1_indexOf_4cfef w_508 w_509 rfl hc (by omega) hM
theorem k_J0_checkIndex_df160_5 {Γ : GE} {d rc rs mc ms mc' ms' : Nat} {QQ : List Frame → Array Value → State → State → Prop} {lv : List (Option Value)} {st : List Value} {g : Sh} {P : HP} {I : HI} {x0 x1 x2 : Value} (hd : 1 ≤ d) (hc : catS st ≤ 8) (hM : MM Γ mJ3_checkIndex_8e157 (d - 1) mc' ms' [x0, x1, x2] g P I (fun v g' P' I' => E Γ mJ0_checkIndex_df160 d mc ms QQ rc rs 8 lv (v.toList ++ st) g' P' I')) : E Γ mJ0_checkIndex_df160 d mc ms QQ (mc' + rc) (ms' + rs) 5 lv (x2 :: x1 :: x0 :: st) g P I := E_callS [x0, x1, x2] rfl dJ0_checkIndex_df160_5 cc_J3_checkIndex_8e157 w_204 w_205 rfl hc (by omega) hM
theorem k_J1_charAt_3b067_3 {Γ : GE} {d rc rs mc ms mc' ms' : Nat} {QQ : List Frame → Array Value → State → State → Prop} {lv : List (Option Value)} {st : List Value} {g : Sh} {P : HP} {I : HI} {x0 x1 : Value} (hd : 1 ≤ d) (hc : catS st ≤ 8) (hM : MM Γ mJ0_checkIndex_df160 (d - 1) mc' ms' [x0, x1] g P I (fun v g' P' I' => E Γ mJ1_charAt_3b067 d mc ms QQ rc rs 6 lv (v.toList ++ st) g' P' I')) : E Γ mJ1_charAt_3b067 d mc ms QQ (mc' + rc) (ms' + rs) 3 lv (x1 :: x0 :: st) g P I := E_callS [x0, x1] rfl dJ1_charAt_3b067_3 cc_J0_checkIndex_df160 w_199 w_200 rfl hc (by omega) hM
theorem k_J1_indexOf_4cfef_1 {Γ : GE} {d rc rs mc ms mc' ms' : Nat} {QQ : List Frame → Array Value → State → State → Prop} {lv : List (Option Value)} {st : List Value} {g : Sh} {P : HP} {I : HI} {x0 : Value} (hd : 1 ≤ d) (hc : catS st ≤ 8) (hM : MM Γ mJ1_canEncode_9a6ad (d - 1) mc' ms' [x0] g P I (fun v g' P' I' => E Γ mJ1_indexOf_4cfef d mc ms QQ rc rs 4 lv (v.toList ++ st) g' P' I')) : E Γ mJ1_indexOf_4cfef d mc ms QQ (mc' + rc) (ms' + rs) 1 lv (x0 :: st) g P I := E_callS [x0] rfl dJ1_indexOf_4cfef_1 cc_J1_canEncode_9a6ad w_511 w_512 rfl hc (by omega) hM
theorem k_J1_indexOf_4cfef_33 {Γ : GE} {d rc rs mc ms mc' ms' : Nat} {QQ : List Frame → Array Value → State → State → Prop} {lv : List (Option Value)} {st : List Value} {g : Sh} {P : HP} {I : HI} {x0 x1 x2 x3 : Value} (hd : 1 ≤ d) (hc : catS st ≤ 8) (hM : MM Γ mJ1_indexOfChar_4cfef (d - 1) mc' ms' [x0, x1, x2, x3] g P I (fun v g' P' I' => E Γ mJ1_indexOf_4cfef d mc ms QQ rc rs 36 lv (v.toList ++ st) g' P' I')) : E Γ mJ1_indexOf_4cfef d mc ms QQ (mc' + rc) (ms' + rs) 33 lv (x3 :: x2 :: x1 :: x0 :: st) g P I := E_callS [x0, x1, x2, x3] rfl dJ1_indexOf_4cfef_33 cc_J1_indexOfChar_4cfef w_516 w_517 rfl hc (by omega) hM
theorem k_X4_single_68 {Γ : GE} {d rc rs mc ms mc' ms' : Nat} {QQ : List Frame → Array Value → State → State → Prop} {lv : List (Option Value)} {st : List Value} {g : Sh} {P : HP} {I : HI} {b : Nat} {x0 : Value} (hd : 1 ≤ d) (hc : catS st ≤ 8) (hb : b < 5) (hM : MM Γ mJ0_indexOf_0f7a4 (d - 1) mc' ms' (.ref b :: [x0]) g P I (fun v g' P' I' => E Γ mX4_single d mc ms QQ rc rs 71 lv (v.toList ++ st) g' P' I')) : E Γ mX4_single d mc ms QQ (mc' + rc) (ms' + rs) 68 lv (x0 :: .ref b :: st) g P I := E_callStr [x0] rfl dX4_single_68 cc_J0_indexOf_0f7a4 w_499 w_500 w_501 rfl hc (by omega) hb hM
theorem k_X7_addSigns_4 {Γ : GE} {d rc rs mc ms mc' ms' : Nat} {QQ : List Frame → Array Value → State → State → Prop} {lv : List (Option Value)} {st : List Value} {g : Sh} {P : HP} {I : HI} {b : Nat} (hd : 1 ≤ d) (hc : catS st ≤ 8) (hb : b < 5) (hM : MM Γ mJ0_length_8abf5 (d - 1) mc' ms' (.ref b :: []) g P I (fun v g' P' I' => E Γ mX7_addSigns d mc ms QQ rc rs 7 lv (v.toList ++ st) g' P' I')) : E Γ mX7_addSigns d mc ms QQ (mc' + rc) (ms' + rs) 4 lv (.ref b :: st) g P I := E_callStr [] rfl dX7_addSigns_4 cc_J0_length_8abf5 w_178 w_179 w_180 rfl hc (by omega) hb hM
theorem k_X7_addSigns_13 {Γ : GE} {d rc rs mc ms mc' ms' : Nat} {QQ : List Frame → Array Value → State → State → Prop} {lv : List (Option Value)} {st : List Value} {g : Sh} {P : HP} {I : HI} {b : Nat} {x0 : Value} (hd : 1 ≤ d) (hc : catS st ≤ 8) (hb : b < 5) (hM : MM Γ mJ0_charAt_5068e (d - 1) mc' ms' (.ref b :: [x0]) g P I (fun v g' P' I' => E Γ mX7_addSigns d mc ms QQ rc rs 16 lv (v.toList ++ st) g' P' I')) : E Γ mX7_addSigns d mc ms QQ (mc' + rc) (ms' + rs) 13 lv (x0 :: .ref b :: st) g P I := E_callStr [x0] rfl dX7_addSigns_13 cc_J0_charAt_5068e w_188 w_189 w_190 rfl hc (by omega) hb hM
theorem k_X12_nameOf_14 {Γ : GE} {d rc rs mc ms mc' ms' : Nat} {QQ : List Frame → Array Value → State → State → Prop} {lv : List (Option Value)} {st : List Value} {g : Sh} {P : HP} {I : HI} {b : Nat} (hd : 1 ≤ d) (hc : catS st ≤ 8) (hb : b < 5) (hM : MM Γ mJ0_length_8abf5 (d - 1) mc' ms' (.ref b :: []) g P I (fun v g' P' I' => E Γ mX12_nameOf d mc ms QQ rc rs 17 lv (v.toList ++ st) g' P' I')) : E Γ mX12_nameOf d mc ms QQ (mc' + rc) (ms' + rs) 14 lv (.ref b :: st) g P I := E_callStr [] rfl dX12_nameOf_14 cc_J0_length_8abf5 w_1381 w_179 w_180 rfl hc (by omega) hb hM
theorem k_X12_nameOf_30 {Γ : GE} {d rc rs mc ms mc' ms' : Nat} {QQ : List Frame → Array Value → State → State → Prop} {lv : List (Option Value)} {st : List Value} {g : Sh} {P : HP} {I : HI} {b : Nat} {x0 : Value} (hd : 1 ≤ d) (hc : catS st ≤ 8) (hb : b < 5) (hM : MM Γ mJ0_charAt_5068e (d - 1) mc' ms' (.ref b :: [x0]) g P I (fun v g' P' I' => E Γ mX12_nameOf d mc ms QQ rc rs 33 lv (v.toList ++ st) g' P' I')) : E Γ mX12_nameOf d mc ms QQ (mc' + rc) (ms' + rs) 30 lv (x0 :: .ref b :: st) g P I := E_callStr [x0] rfl dX12_nameOf_30 cc_J0_charAt_5068e w_1382 w_189 w_190 rfl hc (by omega) hb hM
section
variable {Γ : GE} {d : Nat} {g : Sh} {P : HP} {I : HI} {Φ : Option Value → Sh → HP → HI → Prop}
theorem c_coder {j : Nat} (hj : j < 5) (hΦ : Φ (some (.int 0)) g P I) : MM Γ mJ0_coder_7d493 d 0 0 [.ref j] g P I Φ := by
  refine MM_entry [some _] (by decide) (Nat.le_of_ble_eq_true rfl) rfl ?_
  refine E_getsC dJ0_coder_7d493_0 w_186 ?_
  refine E_if_eq (tgt := 13) dJ0_coder_7d493_3 (by decide) (fun c_3 => absurd c_3 (by decide)) (fun c_3 => ?_)
  refine E_aload_n (i := 0) dJ0_coder_7d493_6 rfl rfl ?_
  refine E_strC hj dJ0_coder_7d493_7 w_1604 ?_
  refine E_goto (tgt := 14) dJ0_coder_7d493_10 (by decide) ?_
  refine E_zret dJ0_coder_7d493_14 rfl rfl ?_
  exact hΦ
theorem c_isLatin1 {j : Nat} (hj : j < 5) (hΦ : Φ (some (.int 1)) g P I) : MM Γ mJ0_isLatin1_aae02 d 0 0 [.ref j] g P I Φ := by
  refine MM_entry [some _] (by decide) (Nat.le_of_ble_eq_true rfl) rfl ?_
  refine E_getsC dJ0_isLatin1_aae02_0 w_186 ?_
  refine E_if_eq (tgt := 17) dJ0_isLatin1_aae02_3 (by decide) (fun c_3 => absurd c_3 (by decide)) (fun c_3 => ?_)
  refine E_aload_n (i := 0) dJ0_isLatin1_aae02_6 rfl rfl ?_
  refine E_strC hj dJ0_isLatin1_aae02_7 w_1604 ?_
  refine E_if_ne (tgt := 17) dJ0_isLatin1_aae02_10 (by decide) (fun c_10 => absurd (rfl) c_10) (fun c_10 => ?_)
  refine E_iconst (v := 1) dJ0_isLatin1_aae02_13 (by decide) ?_
  refine E_goto (tgt := 18) dJ0_isLatin1_aae02_14 (by decide) ?_
  refine E_zret dJ0_isLatin1_aae02_18 rfl rfl ?_
  exact hΦ
theorem shr0 (n : Nat) (h : n < 2 ^ 31) : nI n >>> ((0 : Int32) &&& 31) = nI n := by
  rw [pk_shrN h _ 0 (by decide)]
  rw [Nat.pow_zero, Nat.div_one]
theorem c_length {j : Nat} (hd : 1 ≤ d) (hj : j < 5) (hΦ : Φ (some (.int (nI (sln j)))) g P I) : MM Γ mJ0_length_8abf5 d 0 0 [.ref j] g P I Φ := by
  refine MM_entry [some _] (by decide) (Nat.le_of_ble_eq_true rfl) rfl ?_
  have hs := sln_lt j
  refine E_aload_n (i := 0) dJ0_length_8abf5_0 rfl rfl ?_
  refine E_strV hj dJ0_length_8abf5_1 w_1603 ?_
  refine E_btlen hj dJ0_length_8abf5_4 ?_
  refine E_aload_n (i := 0) dJ0_length_8abf5_5 rfl rfl ?_
  refine k_J0_length_8abf5_6 (mc' := 0) (ms' := 0) (rc := 0) (rs := 0) (by omega) (Nat.le_of_ble_eq_true rfl) (by assumption) (c_coder hj ?_)
  refine E_ishr dJ0_length_8abf5_9 ?_
  rw [shr0 _ (by omega)]
  refine E_iret dJ0_length_8abf5_10 rfl ?_
  exact hΦ
theorem c_pre {i n : Nat} {v : Value} (h : i < n) (hn : n < 100) (hv : v = .null ∨ v = .ref 14) (hΦ : Φ (some (.int (nI i))) g P I) : MM Γ mJ3_checkIndex_8e157 d 0 0 [.int (nI i), .int (nI n), v] g P I Φ := by
  rcases hv with rfl | rfl
  · refine MM_entry [some _, some _, some _] (by decide) (Nat.le_of_ble_eq_true rfl) rfl ?_
    refine E_iload_n (i := 0) dJ3_checkIndex_8e157_0 rfl rfl ?_
    refine E_if_lt (tgt := 9) dJ3_checkIndex_8e157_1 (by decide) (fun c_1 => absurd c_1 (nI_pos (by omega))) (fun c_1 => ?_)
    refine E_iload_n (i := 0) dJ3_checkIndex_8e157_4 rfl rfl ?_
    refine E_iload_n (i := 1) dJ3_checkIndex_8e157_5 rfl rfl ?_
    refine E_icmp_lt (tgt := 16) dJ3_checkIndex_8e157_6 (by decide) (fun c_6 => ?_) (fun c_6 => absurd (nI_lt h (by omega)) c_6)
    refine E_iload_n (i := 0) dJ3_checkIndex_8e157_16 rfl rfl ?_
    refine E_iret dJ3_checkIndex_8e157_17 rfl ?_
    exact hΦ
  · refine MM_entry [some _, some _, some _] (by decide) (Nat.le_of_ble_eq_true rfl) rfl ?_
    refine E_iload_n (i := 0) dJ3_checkIndex_8e157_0 rfl rfl ?_
    refine E_if_lt (tgt := 9) dJ3_checkIndex_8e157_1 (by decide) (fun c_1 => absurd c_1 (nI_pos (by omega))) (fun c_1 => ?_)
    refine E_iload_n (i := 0) dJ3_checkIndex_8e157_4 rfl rfl ?_
    refine E_iload_n (i := 1) dJ3_checkIndex_8e157_5 rfl rfl ?_
    refine E_icmp_lt (tgt := 16) dJ3_checkIndex_8e157_6 (by decide) (fun c_6 => ?_) (fun c_6 => absurd (nI_lt h (by omega)) c_6)
    refine E_iload_n (i := 0) dJ3_checkIndex_8e157_16 rfl rfl ?_
    refine E_iret dJ3_checkIndex_8e157_17 rfl ?_
    exact hΦ
theorem c_checkIndex {i n : Nat} (hd : 1 ≤ d) (h : i < n) (hn : n < 100) (hΦ : Φ none g P I) : MM Γ mJ0_checkIndex_df160 d 0 0 [.int (nI i), .int (nI n)] g P I Φ := by
  refine MM_entry [some _, some _] (by decide) (Nat.le_of_ble_eq_true rfl) rfl ?_
  refine E_iload_n (i := 0) dJ0_checkIndex_df160_0 rfl rfl ?_
  refine E_iload_n (i := 1) dJ0_checkIndex_df160_1 rfl rfl ?_
  refine E_getsF dJ0_checkIndex_df160_2 w_202 (fun v hv => ?_)
  refine k_J0_checkIndex_df160_5 (mc' := 0) (ms' := 0) (rc := 0) (rs := 0) (by omega) (Nat.le_of_ble_eq_true rfl) (c_pre h hn hv ?_)
  refine E_pop dJ0_checkIndex_df160_8 rfl ?_
  refine E_vret dJ0_checkIndex_df160_9 rfl ?_
  exact hΦ
theorem sbt_c : ∀ j, j < 5 → ∀ i, i < 13 → ((sbt j i &&& 255).toUInt32 % 65536).toInt32 = sbt j i := by decide +kernel
theorem sln_13 : ∀ j, j < 5 → sln j ≤ 13 := by decide
theorem c_lcharAt {j i : Nat} (hd : 2 ≤ d) (hj : j < 5) (hi : i < sln j) (hΦ : Φ (some (.int (sbt j i))) g P I) : MM Γ mJ1_charAt_3b067 d 0 0 [.ref (5 + j), .int (nI i)] g P I Φ := by
  refine MM_entry [some _, some _] (by decide) (Nat.le_of_ble_eq_true rfl) rfl ?_
  have hs := sln_lt j
  have h13 := sln_13 j hj
  rw [← sbt_c j hj i (by omega)] at hΦ
  refine E_iload_n (i := 1) dJ1_charAt_3b067_0 rfl rfl ?_
  refine E_aload_n (i := 0) dJ1_charAt_3b067_1 rfl rfl ?_
  refine E_btlen hj dJ1_charAt_3b067_2 ?_
  refine k_J1_charAt_3b067_3 (mc' := 0) (ms' := 0) (rc := 0) (rs := 0) (by omega) (Nat.le_of_ble_eq_true rfl) (c_checkIndex (by omega) hi hs ?_)
  refine E_aload_n (i := 0) dJ1_charAt_3b067_6 rfl rfl ?_
  refine E_iload_n (i := 1) dJ1_charAt_3b067_7 rfl rfl ?_
  refine E_btld hj rfl hi (by omega) dJ1_charAt_3b067_8 ?_
  refine E_sipush (v := 255) dJ1_charAt_3b067_9 (by decide) ?_
  refine E_iand dJ1_charAt_3b067_12 ?_
  refine E_i2c dJ1_charAt_3b067_13 ?_
  refine E_zret dJ1_charAt_3b067_14 rfl (pk_nc _) ?_
  exact hΦ
theorem c_charAt {j i : Nat} {x : Int32} (hd : 3 ≤ d) (hj : j < 5) (hx : x = nI i) (hi : i < sln j) (hΦ : Φ (some (.int (sbt j i))) g P I) : MM Γ mJ0_charAt_5068e d 0 0 [.ref j, .int x] g P I Φ := by
  subst hx
  refine MM_entry [some _, some _] (by decide) (Nat.le_of_ble_eq_true rfl) rfl ?_
  have h13 := sln_13 j hj
  have hn : narrow .char (.int (sbt j i)) = .int (sbt j i) := by
    rw [← sbt_c j hj i (by omega)]
    exact pk_nc _
  refine E_aload_n (i := 0) dJ0_charAt_5068e_0 rfl rfl ?_
  refine k_J0_charAt_5068e_1 (mc' := 0) (ms' := 0) (rc := 0) (rs := 0) (by omega) (Nat.le_of_ble_eq_true rfl) (by assumption) (c_isLatin1 hj ?_)
  refine E_if_eq (tgt := 16) dJ0_charAt_5068e_4 (by decide) (fun c_4 => absurd c_4 (by decide)) (fun c_4 => ?_)
  refine E_aload_n (i := 0) dJ0_charAt_5068e_7 rfl rfl ?_
  refine E_strV hj dJ0_charAt_5068e_8 w_1603 ?_
  refine E_iload_n (i := 1) dJ0_charAt_5068e_11 rfl rfl ?_
  refine k_J0_charAt_5068e_12 (mc' := 0) (ms' := 0) (rc := 0) (rs := 0) (by omega) (Nat.le_of_ble_eq_true rfl) (c_lcharAt (by omega) hj hi ?_)
  refine E_zret dJ0_charAt_5068e_15 rfl hn ?_
  exact hΦ
theorem c_canEncode {n : Nat} (h : n < 256) (hΦ : Φ (some (.int 1)) g P I) : MM Γ mJ1_canEncode_9a6ad d 0 0 [.int (nI n)] g P I Φ := by
  refine MM_entry [some _] (by decide) (Nat.le_of_ble_eq_true rfl) rfl ?_
  refine E_iload_n (i := 0) dJ1_canEncode_9a6ad_0 rfl rfl ?_
  refine E_if_lt (tgt := 15) dJ1_canEncode_9a6ad_1 (by decide) (fun c_1 => absurd c_1 (nI_pos (by omega))) (fun c_1 => ?_)
  refine E_iload_n (i := 0) dJ1_canEncode_9a6ad_4 rfl rfl ?_
  refine E_sipush (v := 255) dJ1_canEncode_9a6ad_5 (by decide) ?_
  refine E_icmp_gt (tgt := 15) dJ1_canEncode_9a6ad_8 (by decide) (fun c_8 => absurd c_8 (nI_nlt (a := 255) (by omega) (by omega))) (fun c_8 => ?_)
  refine E_iconst (v := 1) dJ1_canEncode_9a6ad_11 (by decide) ?_
  refine E_goto (tgt := 16) dJ1_canEncode_9a6ad_12 (by decide) ?_
  refine E_zret dJ1_canEncode_9a6ad_16 rfl rfl ?_
  exact hΦ
/-- where a byte stands in a string; -1 -/
def ixo (j c : Nat) : Int32 := match fnd (fun i => sbt j i = nI c) (sln j) 0 with
  | some b => nI b
  | none => -1
theorem sbt_b : ∀ j, j < 5 → ∀ i, i < 13 → ∀ c, c < 256 → (sbt j i = (nI c).toInt8.toInt32 ↔ sbt j i = nI c) := by decide +kernel
theorem c_indexOfChar {j c : Nat} (hj : j < 5) (hc : c < 256) (hΦ : Φ (some (.int (ixo j c))) g P I) : MM Γ mJ1_indexOfChar_4cfef d 0 0 [.ref (5 + j), .int (nI c), .int 0, .int (nI (sln j))] g P I Φ := by
  refine MM_entry [some _, some _, some _, some _, none, none] (by decide) (Nat.le_of_ble_eq_true rfl) rfl ?_
  have hs := sln_lt j
  have h13 := sln_13 j hj
  have loop : ∀ (N i : Nat) (x : Int32), sln j - i ≤ N → i ≤ sln j → x = nI i → fnd (fun i => sbt j i = nI c) (sln j) 0 = fnd (fun i => sbt j i = nI c) (sln j - i) i → E Γ mJ1_indexOfChar_4cfef d 0 0 (QM Γ 0 0 Φ) 0 0 7 [some (.ref (5 + j)), some (.int (nI c)), some (.int 0), some (.int (nI (sln j))), some (.int (nI c).toInt8.toInt32), some (.int x)] [] g P I := by
    intro N
    induction N with
    | zero =>
      intro i x hN hi hx hf
      have : i = sln j := by omega
      have hΦ' : Φ (some (.int (-1))) g P I := by
        unfold ixo at hΦ
        rw [hf, this, Nat.sub_self] at hΦ
        exact hΦ
      refine E_iload dJ1_indexOfChar_4cfef_7 rfl ?_
      refine E_iload_n (i := 3) dJ1_indexOfChar_4cfef_9 rfl rfl ?_
      refine E_icmp_ge (tgt := 31) dJ1_indexOfChar_4cfef_10 (by decide) (fun c_10 => ?_) (fun c_10 => absurd (by rw [hx, this]; exact Int32.le_refl _) c_10)
      refine E_iconst (v := -1) dJ1_indexOfChar_4cfef_31 (by decide) ?_
      refine E_iret dJ1_indexOfChar_4cfef_32 rfl ?_
      exact hΦ'
    | succ N ih =>
      intro i x hN hi hx hf
      by_cases hi2 : i = sln j
      · have hΦ' : Φ (some (.int (-1))) g P I := by
          unfold ixo at hΦ
          rw [hf, hi2, Nat.sub_self] at hΦ
          exact hΦ
        refine E_iload dJ1_indexOfChar_4cfef_7 rfl ?_
        refine E_iload_n (i := 3) dJ1_indexOfChar_4cfef_9 rfl rfl ?_
        refine E_icmp_ge (tgt := 31) dJ1_indexOfChar_4cfef_10 (by decide) (fun c_10 => ?_) (fun c_10 => absurd (by rw [hx, hi2]; exact Int32.le_refl _) c_10)
        refine E_iconst (v := -1) dJ1_indexOfChar_4cfef_31 (by decide) ?_
        refine E_iret dJ1_indexOfChar_4cfef_32 rfl ?_
        exact hΦ'
      · have e : sln j - i = (sln j - (i + 1)) + 1 := by omega
        have hb := sbt_b j hj i (by omega) c hc
        by_cases hm : sbt j i = nI c
        · have hΦ' : Φ (some (.int (nI i))) g P I := by
            unfold ixo at hΦ
            rw [hf, e, fnd, if_pos hm] at hΦ
            exact hΦ
          refine E_iload dJ1_indexOfChar_4cfef_7 rfl ?_
          refine E_iload_n (i := 3) dJ1_indexOfChar_4cfef_9 rfl rfl ?_
          refine E_icmp_ge (tgt := 31) dJ1_indexOfChar_4cfef_10 (by decide) (fun c_10 => absurd c_10 (by rw [hx]; exact nI_ge (by omega) (by omega))) (fun c_10 => ?_)
          refine E_aload_n (i := 0) dJ1_indexOfChar_4cfef_13 rfl rfl ?_
          refine E_iload dJ1_indexOfChar_4cfef_14 rfl ?_
          refine E_btld hj hx (by omega) (by omega) dJ1_indexOfChar_4cfef_16 ?_
          refine E_iload dJ1_indexOfChar_4cfef_17 rfl ?_
          refine E_icmp_ne (tgt := 25) dJ1_indexOfChar_4cfef_19 (by decide) (fun c_19 => absurd (hb.mpr hm) c_19) (fun c_19 => ?_)
          refine E_iload dJ1_indexOfChar_4cfef_22 rfl ?_
          refine E_iret dJ1_indexOfChar_4cfef_24 rfl ?_
          rw [hx]
          exact hΦ'
        · refine E_iload dJ1_indexOfChar_4cfef_7 rfl ?_
          refine E_iload_n (i := 3) dJ1_indexOfChar_4cfef_9 rfl rfl ?_
          refine E_icmp_ge (tgt := 31) dJ1_indexOfChar_4cfef_10 (by decide) (fun c_10 => absurd c_10 (by rw [hx]; exact nI_ge (by omega) (by omega))) (fun c_10 => ?_)
          refine E_aload_n (i := 0) dJ1_indexOfChar_4cfef_13 rfl rfl ?_
          refine E_iload dJ1_indexOfChar_4cfef_14 rfl ?_
          refine E_btld hj hx (by omega) (by omega) dJ1_indexOfChar_4cfef_16 ?_
          refine E_iload dJ1_indexOfChar_4cfef_17 rfl ?_
          refine E_icmp_ne (tgt := 25) dJ1_indexOfChar_4cfef_19 (by decide) (fun c_19 => ?_) (fun c_19 => absurd c_19 (fun h => hm (hb.mp h)))
          refine E_incC (c := 1) dJ1_indexOfChar_4cfef_25 rfl (by decide) (by decide) rfl ?_
          refine E_lv (lv' := [_, _, _, _, _, _]) rfl ?_
          refine E_goto (tgt := 7) dJ1_indexOfChar_4cfef_28 (by decide) ?_
          refine ih (i + 1) _ (by omega) (by omega) (by rw [hx, nI_1]) ?_
          rw [hf, e, fnd, if_neg hm]
  refine E_iload_n (i := 1) dJ1_indexOfChar_4cfef_0 rfl rfl ?_
  refine E_i2b dJ1_indexOfChar_4cfef_1 ?_
  refine E_istoreC dJ1_indexOfChar_4cfef_2 (by decide) rfl ?_
  refine E_lv (lv' := [_, _, _, _, _, _]) rfl ?_
  refine E_iload_n (i := 2) dJ1_indexOfChar_4cfef_4 rfl rfl ?_
  refine E_istoreC dJ1_indexOfChar_4cfef_5 (by decide) rfl ?_
  refine E_lv (lv' := [_, _, _, _, _, _]) rfl ?_
  exact loop (sln j) 0 _ (by omega) (by omega) rfl rfl
theorem c_lindexOf {j c : Nat} (hd : 1 ≤ d) (hj : j < 5) (hj0 : 0 < sln j) (hc : c < 256) (hΦ : Φ (some (.int (ixo j c))) g P I) : MM Γ mJ1_indexOf_4cfef d 0 0 [.ref (5 + j), .int (nI c), .int 0, .int (nI (sln j))] g P I Φ := by
  refine MM_entry [some _, some _, some _, some _] (by decide) (Nat.le_of_ble_eq_true rfl) rfl ?_
  have hs := sln_lt j
  have e1 : (if (0 : Int32) < 0 then (0 : Int32) else 0) = 0 := by decide
  have e2 : (if nI (sln j) < nI (sln j) then nI (sln j) else nI (sln j)) = nI (sln j) := ite_self _
  refine E_iload_n (i := 1) dJ1_indexOf_4cfef_0 rfl rfl ?_
  refine k_J1_indexOf_4cfef_1 (mc' := 0) (ms' := 0) (rc := 0) (rs := 0) (by omega) (Nat.le_of_ble_eq_true rfl) (c_canEncode hc ?_)
  refine E_if_ne (tgt := 9) dJ1_indexOf_4cfef_4 (by decide) (fun c_4 => ?_) (fun c_4 => absurd c_4 (by decide))
  refine E_iload_n (i := 2) dJ1_indexOf_4cfef_9 rfl rfl ?_
  refine E_iconst (v := 0) dJ1_indexOf_4cfef_10 (by decide) ?_
  refine E_max dJ1_indexOf_4cfef_11 w_514 w_112 w_74 w_113 (Nat.le_of_ble_eq_true rfl) (by omega) ?_
  rw [e1]
  refine E_istore_nC (i := 2) dJ1_indexOf_4cfef_14 rfl (by decide) rfl ?_
  refine E_lv (lv' := [_, _, _, _]) rfl ?_
  refine E_iload_n (i := 3) dJ1_indexOf_4cfef_15 rfl rfl ?_
  refine E_aload_n (i := 0) dJ1_indexOf_4cfef_16 rfl rfl ?_
  refine E_btlen hj dJ1_indexOf_4cfef_17 ?_
  refine E_min dJ1_indexOf_4cfef_18 w_515 w_381 w_74 w_382 (Nat.le_of_ble_eq_true rfl) (by omega) ?_
  rw [e2]
  refine E_istore_nC (i := 3) dJ1_indexOf_4cfef_21 rfl (by decide) rfl ?_
  refine E_lv (lv' := [_, _, _, _]) rfl ?_
  refine E_iload_n (i := 2) dJ1_indexOf_4cfef_22 rfl rfl ?_
  refine E_iload_n (i := 3) dJ1_indexOf_4cfef_23 rfl rfl ?_
  refine E_icmp_lt (tgt := 29) dJ1_indexOf_4cfef_24 (by decide) (fun c_24 => ?_) (fun c_24 => absurd (nI_lt (a := 0) hj0 (by omega)) c_24)
  refine E_aload_n (i := 0) dJ1_indexOf_4cfef_29 rfl rfl ?_
  refine E_iload_n (i := 1) dJ1_indexOf_4cfef_30 rfl rfl ?_
  refine E_iload_n (i := 2) dJ1_indexOf_4cfef_31 rfl rfl ?_
  refine E_iload_n (i := 3) dJ1_indexOf_4cfef_32 rfl rfl ?_
  refine k_J1_indexOf_4cfef_33 (mc' := 0) (ms' := 0) (rc := 0) (rs := 0) (by omega) (Nat.le_of_ble_eq_true rfl) (c_indexOfChar hj hc ?_)
  refine E_iret dJ1_indexOf_4cfef_36 rfl ?_
  exact hΦ
theorem c_indexOf2 {j c : Nat} (hd : 2 ≤ d) (hj : j < 5) (hj0 : 0 < sln j) (hc : c < 256) (hΦ : Φ (some (.int (ixo j c))) g P I) : MM Γ mJ0_indexOf_7cf53 d 0 0 [.ref j, .int (nI c), .int 0] g P I Φ := by
  refine MM_entry [some _, some _, some _] (by decide) (Nat.le_of_ble_eq_true rfl) rfl ?_
  refine E_aload_n (i := 0) dJ0_indexOf_7cf53_0 rfl rfl ?_
  refine k_J0_indexOf_7cf53_1 (mc' := 0) (ms' := 0) (rc := 0) (rs := 0) (by omega) (Nat.le_of_ble_eq_true rfl) (by assumption) (c_isLatin1 hj ?_)
  refine E_if_eq (tgt := 23) dJ0_indexOf_7cf53_4 (by decide) (fun c_4 => absurd c_4 (by decide)) (fun c_4 => ?_)
  refine E_aload_n (i := 0) dJ0_indexOf_7cf53_7 rfl rfl ?_
  refine E_strV hj dJ0_indexOf_7cf53_8 w_1603 ?_
  refine E_iload_n (i := 1) dJ0_indexOf_7cf53_11 rfl rfl ?_
  refine E_iload_n (i := 2) dJ0_indexOf_7cf53_12 rfl rfl ?_
  refine E_aload_n (i := 0) dJ0_indexOf_7cf53_13 rfl rfl ?_
  refine k_J0_indexOf_7cf53_14 (mc' := 0) (ms' := 0) (rc := 0) (rs := 0) (by omega) (Nat.le_of_ble_eq_true rfl) (by assumption) (c_length (by omega) hj ?_)
  refine k_J0_indexOf_7cf53_17 (mc' := 0) (ms' := 0) (rc := 0) (rs := 0) (by omega) (Nat.le_of_ble_eq_true rfl) (c_lindexOf (by omega) hj hj0 hc ?_)
  refine E_goto (tgt := 36) dJ0_indexOf_7cf53_20 (by decide) ?_
  refine E_iret dJ0_indexOf_7cf53_36 rfl ?_
  exact hΦ
theorem c_indexOf {j c : Nat} {x : Int32} (hd : 3 ≤ d) (hj : j < 5) (hj0 : 0 < sln j) (hx : x = nI c) (hc : c < 256) (hΦ : Φ (some (.int (ixo j c))) g P I) : MM Γ mJ0_indexOf_0f7a4 d 0 0 [.ref j, .int x] g P I Φ := by
  subst hx
  refine MM_entry [some _, some _] (by decide) (Nat.le_of_ble_eq_true rfl) rfl ?_
  refine E_aload_n (i := 0) dJ0_indexOf_0f7a4_0 rfl rfl ?_
  refine E_iload_n (i := 1) dJ0_indexOf_0f7a4_1 rfl rfl ?_
  refine E_iconst (v := 0) dJ0_indexOf_0f7a4_2 (by decide) ?_
  refine k_J0_indexOf_0f7a4_3 (mc' := 0) (ms' := 0) (rc := 0) (rs := 0) (by omega) (Nat.le_of_ble_eq_true rfl) (by assumption) (c_indexOf2 (by omega) hj hj0 hc ?_)
  refine E_iret dJ0_indexOf_0f7a4_6 rfl ?_
  exact hΦ
end
