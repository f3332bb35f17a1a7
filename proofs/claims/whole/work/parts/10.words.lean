theorem gw (i : Nat) {w : Cond} (h : lw_tbl[i]? = some w) (hg : goodWord w = true) : w ∈ gtb := gt (List.mem_of_getElem? h) hg
theorem gsub (ws : List Cond) (ps : List Nat) (h : ws = ps.filterMap (fun i => lw_tbl[i]?)) (hg : ws.all goodWord = true) : ∀ w ∈ ws, w ∈ gtb := by
  intro w hw
  have h2 := List.all_eq_true.mp hg w hw
  rw [h] at hw
  obtain ⟨i, -, hi⟩ := List.mem_filterMap.mp hw
  exact gw i hi h2
theorem gp (i : Nat) {w : Cond} (h : (k2_sels lw_privs)[i]? = some w) (hg : goodWord w = true) : w ∈ gtb := gt (List.mem_append_left _ (List.mem_of_getElem? h)) hg
theorem gt1 (i : Nat) {w : Cond} (h : tables_1_1[i]? = some w) (hg : goodWord w = true) : w ∈ gtb := gt (List.mem_append_right _ (show w ∈ tables_1 from (fun h => List.mem_append_left _ h) (List.mem_of_getElem? h))) hg
theorem gt2 (i : Nat) {w : Cond} (h : tables_1_2[i]? = some w) (hg : goodWord w = true) : w ∈ gtb := gt (List.mem_append_right _ (show w ∈ tables_1 from (fun h => List.mem_append_right _ (List.mem_append_left _ h)) (List.mem_of_getElem? h))) hg
theorem gt3 (i : Nat) {w : Cond} (h : tables_1_3[i]? = some w) (hg : goodWord w = true) : w ∈ gtb := gt (List.mem_append_right _ (show w ∈ tables_1 from (fun h => List.mem_append_right _ (List.mem_append_right _ (List.mem_append_left _ h))) (List.mem_of_getElem? h))) hg
theorem gt4 (i : Nat) {w : Cond} (h : tables_1_4[i]? = some w) (hg : goodWord w = true) : w ∈ gtb := gt (List.mem_append_right _ (show w ∈ tables_1 from (fun h => List.mem_append_right _ (List.mem_append_right _ (List.mem_append_right _ (List.mem_append_left _ h)))) (List.mem_of_getElem? h))) hg
theorem gt5 (i : Nat) {w : Cond} (h : tables_1_5[i]? = some w) (hg : goodWord w = true) : w ∈ gtb := gt (List.mem_append_right _ (show w ∈ tables_1 from (fun h => List.mem_append_right _ (List.mem_append_right _ (List.mem_append_right _ (List.mem_append_right _ (List.mem_append_left _ h))))) (List.mem_of_getElem? h))) hg
theorem gt6 (i : Nat) {w : Cond} (h : tables_1_6[i]? = some w) (hg : goodWord w = true) : w ∈ gtb := gt (List.mem_append_right _ (show w ∈ tables_1 from (fun h => List.mem_append_right _ (List.mem_append_right _ (List.mem_append_right _ (List.mem_append_right _ (List.mem_append_right _ (List.mem_append_left _ h)))))) (List.mem_of_getElem? h))) hg
theorem gt7 (i : Nat) {w : Cond} (h : tables_1_7[i]? = some w) (hg : goodWord w = true) : w ∈ gtb := gt (List.mem_append_right _ (show w ∈ tables_1 from (fun h => List.mem_append_right _ (List.mem_append_right _ (List.mem_append_right _ (List.mem_append_right _ (List.mem_append_right _ (List.mem_append_right _ (h))))))) (List.mem_of_getElem? h))) hg
theorem w_0 : (Jvm.Cond.selects "GorgeWire" ({ cls := "GorgeWire", name := "fail", desc := "(I)I" } : Jvm.MethodName) ({ cls := "GorgeWire", name := "fail", desc := "(I)I" } : Jvm.MethodName)) ∈ gtb := gp 0 (by decide +kernel) rfl
theorem w_1 : (Jvm.Cond.selects "GorgeWire" ({ cls := "GorgeWire", name := "isOnWire", desc := "(II)Z" } : Jvm.MethodName) ({ cls := "GorgeWire", name := "isOnWire", desc := "(II)Z" } : Jvm.MethodName)) ∈ gtb := gp 1 (by decide +kernel) rfl
theorem w_2 : (Jvm.Cond.selects "GorgeWire$Wire" ({ cls := "GorgeWire$Wire", name := "spanBy", desc := "()I" } : Jvm.MethodName) ({ cls := "GorgeWire$Wire", name := "spanBy", desc := "()I" } : Jvm.MethodName)) ∈ gtb := gp 2 (by decide +kernel) rfl
theorem w_3 : (Jvm.Cond.selects "GorgeWire" ({ cls := "GorgeWire", name := "mayGo", desc := "(I)Z" } : Jvm.MethodName) ({ cls := "GorgeWire", name := "mayGo", desc := "(I)Z" } : Jvm.MethodName)) ∈ gtb := gp 3 (by decide +kernel) rfl
theorem w_4 : (Jvm.Cond.selects "GorgeWire$Reader" ({ cls := "GorgeWire$Reader", name := "either", desc := "(I)I" } : Jvm.MethodName) ({ cls := "GorgeWire$Reader", name := "either", desc := "(I)I" } : Jvm.MethodName)) ∈ gtb := gp 4 (by decide +kernel) rfl
theorem w_5 : (Jvm.Cond.selects "GorgeWire$Reader" ({ cls := "GorgeWire$Reader", name := "both", desc := "(I)I" } : Jvm.MethodName) ({ cls := "GorgeWire$Reader", name := "both", desc := "(I)I" } : Jvm.MethodName)) ∈ gtb := gp 5 (by decide +kernel) rfl
theorem w_6 : (Jvm.Cond.selects "GorgeWire$Reader" ({ cls := "GorgeWire$Reader", name := "compared", desc := "(I)I" } : Jvm.MethodName) ({ cls := "GorgeWire$Reader", name := "compared", desc := "(I)I" } : Jvm.MethodName)) ∈ gtb := gp 6 (by decide +kernel) rfl
theorem w_7 : (Jvm.Cond.selects "GorgeWire$Reader" ({ cls := "GorgeWire$Reader", name := "sum", desc := "(I)I" } : Jvm.MethodName) ({ cls := "GorgeWire$Reader", name := "sum", desc := "(I)I" } : Jvm.MethodName)) ∈ gtb := gp 7 (by decide +kernel) rfl
theorem w_8 : (Jvm.Cond.selects "GorgeWire$Reader" ({ cls := "GorgeWire$Reader", name := "product", desc := "(I)I" } : Jvm.MethodName) ({ cls := "GorgeWire$Reader", name := "product", desc := "(I)I" } : Jvm.MethodName)) ∈ gtb := gp 8 (by decide +kernel) rfl
theorem w_9 : (Jvm.Cond.selects "GorgeWire$Reader" ({ cls := "GorgeWire$Reader", name := "single", desc := "(I)I" } : Jvm.MethodName) ({ cls := "GorgeWire$Reader", name := "single", desc := "(I)I" } : Jvm.MethodName)) ∈ gtb := gp 9 (by decide +kernel) rfl
theorem w_10 : (Jvm.Cond.selects "GorgeWire$Reader" ({ cls := "GorgeWire$Reader", name := "next", desc := "()I" } : Jvm.MethodName) ({ cls := "GorgeWire$Reader", name := "next", desc := "()I" } : Jvm.MethodName)) ∈ gtb := gp 10 (by decide +kernel) rfl
theorem w_11 : (Jvm.Cond.selects "GorgeWire$Reader" ({ cls := "GorgeWire$Reader", name := "number", desc := "()I" } : Jvm.MethodName) ({ cls := "GorgeWire$Reader", name := "number", desc := "()I" } : Jvm.MethodName)) ∈ gtb := gp 11 (by decide +kernel) rfl
theorem w_12 : (Jvm.Cond.selects "GorgeWire$Reader" ({ cls := "GorgeWire$Reader", name := "opened", desc := "(I)I" } : Jvm.MethodName) ({ cls := "GorgeWire$Reader", name := "opened", desc := "(I)I" } : Jvm.MethodName)) ∈ gtb := gp 12 (by decide +kernel) rfl
theorem w_13 : (Jvm.Cond.selects "GorgeWire$Reader" ({ cls := "GorgeWire$Reader", name := "takes", desc := "(C)Z" } : Jvm.MethodName) ({ cls := "GorgeWire$Reader", name := "takes", desc := "(C)Z" } : Jvm.MethodName)) ∈ gtb := gp 13 (by decide +kernel) rfl
theorem w_14 : (Jvm.Cond.selects "GorgeWire$Reader" ({ cls := "GorgeWire$Reader", name := "stopHere", desc := "()I" } : Jvm.MethodName) ({ cls := "GorgeWire$Reader", name := "stopHere", desc := "()I" } : Jvm.MethodName)) ∈ gtb := gp 14 (by decide +kernel) rfl
theorem w_15 : (Jvm.Cond.selects "GorgeWire" ({ cls := "GorgeWire", name := "made", desc := "(IIII)LGorgeWire$Ride;" } : Jvm.MethodName) ({ cls := "GorgeWire", name := "made", desc := "(IIII)LGorgeWire$Ride;" } : Jvm.MethodName)) ∈ gtb := gp 15 (by decide +kernel) rfl
theorem w_16 : (Jvm.Cond.selects "GorgeWire$State" ({ cls := "GorgeWire$State", name := "comeIn", desc := "(I)V" } : Jvm.MethodName) ({ cls := "GorgeWire$State", name := "comeIn", desc := "(I)V" } : Jvm.MethodName)) ∈ gtb := gp 16 (by decide +kernel) rfl
theorem w_17 : (Jvm.Cond.selects "GorgeWire$State" ({ cls := "GorgeWire$State", name := "wearStrands", desc := "(I)V" } : Jvm.MethodName) ({ cls := "GorgeWire$State", name := "wearStrands", desc := "(I)V" } : Jvm.MethodName)) ∈ gtb := gp 17 (by decide +kernel) rfl
theorem w_18 : (Jvm.Cond.selects "GorgeWire" ({ cls := "GorgeWire", name := "lookAhead", desc := "(I)V" } : Jvm.MethodName) ({ cls := "GorgeWire", name := "lookAhead", desc := "(I)V" } : Jvm.MethodName)) ∈ gtb := gp 18 (by decide +kernel) rfl
theorem w_19 : (Jvm.Cond.selects "GorgeWire" ({ cls := "GorgeWire", name := "leastBy", desc := "(IIIIIII)I" } : Jvm.MethodName) ({ cls := "GorgeWire", name := "leastBy", desc := "(IIIIIII)I" } : Jvm.MethodName)) ∈ gtb := gp 19 (by decide +kernel) rfl
theorem w_20 : (Jvm.Cond.selects "GorgeWire" ({ cls := "GorgeWire", name := "addLine", desc := "(II)I" } : Jvm.MethodName) ({ cls := "GorgeWire", name := "addLine", desc := "(II)I" } : Jvm.MethodName)) ∈ gtb := gp 20 (by decide +kernel) rfl
theorem w_21 : (Jvm.Cond.selects "GorgeWire" ({ cls := "GorgeWire", name := "findLinesToGo", desc := "(I)V" } : Jvm.MethodName) ({ cls := "GorgeWire", name := "findLinesToGo", desc := "(I)V" } : Jvm.MethodName)) ∈ gtb := gp 21 (by decide +kernel) rfl
theorem w_22 : (Jvm.Cond.selects "GorgeWire" ({ cls := "GorgeWire", name := "nextOf", desc := "(II)I" } : Jvm.MethodName) ({ cls := "GorgeWire", name := "nextOf", desc := "(II)I" } : Jvm.MethodName)) ∈ gtb := gp 22 (by decide +kernel) rfl
theorem w_23 : (Jvm.Cond.selects "GorgeWire" ({ cls := "GorgeWire", name := "pulls", desc := "(II)Z" } : Jvm.MethodName) ({ cls := "GorgeWire", name := "pulls", desc := "(II)Z" } : Jvm.MethodName)) ∈ gtb := gp 23 (by decide +kernel) rfl
theorem w_24 : (Jvm.Cond.selects "GorgeWire" ({ cls := "GorgeWire", name := "lineOfRow", desc := "(I)I" } : Jvm.MethodName) ({ cls := "GorgeWire", name := "lineOfRow", desc := "(I)I" } : Jvm.MethodName)) ∈ gtb := gp 24 (by decide +kernel) rfl
theorem w_25 : (Jvm.Cond.selects "GorgeWire" ({ cls := "GorgeWire", name := "tryOrders", desc := "(IIII)V" } : Jvm.MethodName) ({ cls := "GorgeWire", name := "tryOrders", desc := "(IIII)V" } : Jvm.MethodName)) ∈ gtb := gp 25 (by decide +kernel) rfl
theorem w_26 : (Jvm.Cond.selects "GorgeWireModel" ({ cls := "GorgeWireModel", name := "finding", desc := "(I)I" } : Jvm.MethodName) ({ cls := "GorgeWireModel", name := "finding", desc := "(I)I" } : Jvm.MethodName)) ∈ gtb := gp 26 (by decide +kernel) rfl
theorem w_27 : (Jvm.Cond.selects "GorgeWireModel" ({ cls := "GorgeWireModel", name := "become", desc := "(II)I" } : Jvm.MethodName) ({ cls := "GorgeWireModel", name := "become", desc := "(II)I" } : Jvm.MethodName)) ∈ gtb := gp 27 (by decide +kernel) rfl
theorem w_28 : (Jvm.Cond.selects "GorgeWireModel" ({ cls := "GorgeWireModel", name := "of", desc := "(II)I" } : Jvm.MethodName) ({ cls := "GorgeWireModel", name := "of", desc := "(II)I" } : Jvm.MethodName)) ∈ gtb := gp 28 (by decide +kernel) rfl
theorem w_29 : (Jvm.Cond.selects "GorgeWireModel" ({ cls := "GorgeWireModel", name := "tells", desc := "(III)V" } : Jvm.MethodName) ({ cls := "GorgeWireModel", name := "tells", desc := "(III)V" } : Jvm.MethodName)) ∈ gtb := gp 29 (by decide +kernel) rfl
theorem w_30 : (Jvm.Cond.selects "GorgeWireModel" ({ cls := "GorgeWireModel", name := "tightOf", desc := "()I" } : Jvm.MethodName) ({ cls := "GorgeWireModel", name := "tightOf", desc := "()I" } : Jvm.MethodName)) ∈ gtb := gp 30 (by decide +kernel) rfl
theorem w_31 : (Jvm.Cond.selects "GorgeWireModel" ({ cls := "GorgeWireModel", name := "isOn", desc := "(II)Z" } : Jvm.MethodName) ({ cls := "GorgeWireModel", name := "isOn", desc := "(II)Z" } : Jvm.MethodName)) ∈ gtb := gp 31 (by decide +kernel) rfl
theorem w_32 : (Jvm.Cond.selects "GorgeWireModel" ({ cls := "GorgeWireModel", name := "depthOf", desc := "(II)I" } : Jvm.MethodName) ({ cls := "GorgeWireModel", name := "depthOf", desc := "(II)I" } : Jvm.MethodName)) ∈ gtb := gp 32 (by decide +kernel) rfl
theorem w_33 : (Jvm.Cond.selects "GorgeWireModel" ({ cls := "GorgeWireModel", name := "steepOf", desc := "(II)I" } : Jvm.MethodName) ({ cls := "GorgeWireModel", name := "steepOf", desc := "(II)I" } : Jvm.MethodName)) ∈ gtb := gp 33 (by decide +kernel) rfl
theorem w_34 : (Jvm.Cond.selects "GorgeWireModel" ({ cls := "GorgeWireModel", name := "pulledAt", desc := "(II)I" } : Jvm.MethodName) ({ cls := "GorgeWireModel", name := "pulledAt", desc := "(II)I" } : Jvm.MethodName)) ∈ gtb := gp 34 (by decide +kernel) rfl
theorem w_35 : (Jvm.Cond.selects "GorgeWireModel" ({ cls := "GorgeWireModel", name := "holds", desc := "(I)Z" } : Jvm.MethodName) ({ cls := "GorgeWireModel", name := "holds", desc := "(I)Z" } : Jvm.MethodName)) ∈ gtb := gp 35 (by decide +kernel) rfl
theorem w_36 : (Jvm.Cond.selects "GorgeWireModel" ({ cls := "GorgeWireModel", name := "given", desc := "(IIIII)I" } : Jvm.MethodName) ({ cls := "GorgeWireModel", name := "given", desc := "(IIIII)I" } : Jvm.MethodName)) ∈ gtb := gp 36 (by decide +kernel) rfl
theorem w_37 : (Jvm.Cond.selects "GorgeWireModel" ({ cls := "GorgeWireModel", name := "worked", desc := "(I)I" } : Jvm.MethodName) ({ cls := "GorgeWireModel", name := "worked", desc := "(I)I" } : Jvm.MethodName)) ∈ gtb := gp 37 (by decide +kernel) rfl
theorem w_38 : (Jvm.Cond.selects "GorgeWireModel" ({ cls := "GorgeWireModel", name := "is", desc := "(II)Z" } : Jvm.MethodName) ({ cls := "GorgeWireModel", name := "is", desc := "(II)Z" } : Jvm.MethodName)) ∈ gtb := gp 38 (by decide +kernel) rfl
theorem w_39 : (Jvm.Cond.selects "GorgeWireModel" ({ cls := "GorgeWireModel", name := "rideTold", desc := "(II)I" } : Jvm.MethodName) ({ cls := "GorgeWireModel", name := "rideTold", desc := "(II)I" } : Jvm.MethodName)) ∈ gtb := gp 39 (by decide +kernel) rfl
theorem w_40 : (Jvm.Cond.selects "GorgeWireModel" ({ cls := "GorgeWireModel", name := "gainOf", desc := "(I)I" } : Jvm.MethodName) ({ cls := "GorgeWireModel", name := "gainOf", desc := "(I)I" } : Jvm.MethodName)) ∈ gtb := gp 40 (by decide +kernel) rfl
theorem w_41 : (Jvm.Cond.selects "GorgeWireModel" ({ cls := "GorgeWireModel", name := "brakes", desc := "(I)I" } : Jvm.MethodName) ({ cls := "GorgeWireModel", name := "brakes", desc := "(I)I" } : Jvm.MethodName)) ∈ gtb := gp 41 (by decide +kernel) rfl
theorem w_42 : (Jvm.Cond.selects "GorgeWireModel" ({ cls := "GorgeWireModel", name := "rubsOf", desc := "(I)I" } : Jvm.MethodName) ({ cls := "GorgeWireModel", name := "rubsOf", desc := "(I)I" } : Jvm.MethodName)) ∈ gtb := gp 42 (by decide +kernel) rfl
theorem w_43 : (Jvm.Cond.selects "GorgeWireModel" ({ cls := "GorgeWireModel", name := "either", desc := "()V" } : Jvm.MethodName) ({ cls := "GorgeWireModel", name := "either", desc := "()V" } : Jvm.MethodName)) ∈ gtb := gp 43 (by decide +kernel) rfl
theorem w_44 : (Jvm.Cond.selects "GorgeWireModel" ({ cls := "GorgeWireModel", name := "both", desc := "()V" } : Jvm.MethodName) ({ cls := "GorgeWireModel", name := "both", desc := "()V" } : Jvm.MethodName)) ∈ gtb := gp 44 (by decide +kernel) rfl
theorem w_45 : (Jvm.Cond.selects "GorgeWireModel" ({ cls := "GorgeWireModel", name := "compared", desc := "()V" } : Jvm.MethodName) ({ cls := "GorgeWireModel", name := "compared", desc := "()V" } : Jvm.MethodName)) ∈ gtb := gp 45 (by decide +kernel) rfl
theorem w_46 : (Jvm.Cond.selects "GorgeWireModel" ({ cls := "GorgeWireModel", name := "sum", desc := "()V" } : Jvm.MethodName) ({ cls := "GorgeWireModel", name := "sum", desc := "()V" } : Jvm.MethodName)) ∈ gtb := gp 46 (by decide +kernel) rfl
theorem w_47 : (Jvm.Cond.selects "GorgeWireModel" ({ cls := "GorgeWireModel", name := "product", desc := "()V" } : Jvm.MethodName) ({ cls := "GorgeWireModel", name := "product", desc := "()V" } : Jvm.MethodName)) ∈ gtb := gp 47 (by decide +kernel) rfl
theorem w_48 : (Jvm.Cond.selects "GorgeWireModel" ({ cls := "GorgeWireModel", name := "one", desc := "()V" } : Jvm.MethodName) ({ cls := "GorgeWireModel", name := "one", desc := "()V" } : Jvm.MethodName)) ∈ gtb := gp 48 (by decide +kernel) rfl
theorem w_49 : (Jvm.Cond.selects "GorgeWireModel" ({ cls := "GorgeWireModel", name := "here", desc := "()I" } : Jvm.MethodName) ({ cls := "GorgeWireModel", name := "here", desc := "()I" } : Jvm.MethodName)) ∈ gtb := gp 49 (by decide +kernel) rfl
theorem w_50 : (Jvm.Cond.selects "GorgeWireModel" ({ cls := "GorgeWireModel", name := "codes", desc := "(I)V" } : Jvm.MethodName) ({ cls := "GorgeWireModel", name := "codes", desc := "(I)V" } : Jvm.MethodName)) ∈ gtb := gp 50 (by decide +kernel) rfl
theorem w_51 : (Jvm.Cond.selects "GorgeWireModel" ({ cls := "GorgeWireModel", name := "takes", desc := "(I)Z" } : Jvm.MethodName) ({ cls := "GorgeWireModel", name := "takes", desc := "(I)Z" } : Jvm.MethodName)) ∈ gtb := gp 51 (by decide +kernel) rfl
theorem w_52 : (Jvm.Cond.selects "GorgeWireModel" ({ cls := "GorgeWireModel", name := "nameOf", desc := "(I)I" } : Jvm.MethodName) ({ cls := "GorgeWireModel", name := "nameOf", desc := "(I)I" } : Jvm.MethodName)) ∈ gtb := gp 52 (by decide +kernel) rfl
theorem w_53 : (Jvm.Cond.selects "GorgeWireModel" ({ cls := "GorgeWireModel", name := "whyNot", desc := "(I)I" } : Jvm.MethodName) ({ cls := "GorgeWireModel", name := "whyNot", desc := "(I)I" } : Jvm.MethodName)) ∈ gtb := gp 53 (by decide +kernel) rfl
theorem w_54 : (Jvm.Cond.selects "GorgeWireModel" ({ cls := "GorgeWireModel", name := "ticksGo", desc := "(I)V" } : Jvm.MethodName) ({ cls := "GorgeWireModel", name := "ticksGo", desc := "(I)V" } : Jvm.MethodName)) ∈ gtb := gp 54 (by decide +kernel) rfl
theorem w_55 : (Jvm.Cond.selects "GorgeWireModel" ({ cls := "GorgeWireModel", name := "tick", desc := "()V" } : Jvm.MethodName) ({ cls := "GorgeWireModel", name := "tick", desc := "()V" } : Jvm.MethodName)) ∈ gtb := gp 55 (by decide +kernel) rfl
theorem w_56 : (Jvm.Cond.selects "GorgeWireModel" ({ cls := "GorgeWireModel", name := "isIn", desc := "(I)Z" } : Jvm.MethodName) ({ cls := "GorgeWireModel", name := "isIn", desc := "(I)Z" } : Jvm.MethodName)) ∈ gtb := gp 56 (by decide +kernel) rfl
theorem w_57 : (Jvm.Cond.selects "GorgeWireModel" ({ cls := "GorgeWireModel", name := "goes", desc := "(I)V" } : Jvm.MethodName) ({ cls := "GorgeWireModel", name := "goes", desc := "(I)V" } : Jvm.MethodName)) ∈ gtb := gp 57 (by decide +kernel) rfl
theorem w_58 : (Jvm.Cond.selects "GorgeWireModel" ({ cls := "GorgeWireModel", name := "drawn", desc := "(I)I" } : Jvm.MethodName) ({ cls := "GorgeWireModel", name := "drawn", desc := "(I)I" } : Jvm.MethodName)) ∈ gtb := gp 58 (by decide +kernel) rfl
theorem w_59 : (Jvm.Cond.selects "GorgeWireModel" ({ cls := "GorgeWireModel", name := "back", desc := "(I)I" } : Jvm.MethodName) ({ cls := "GorgeWireModel", name := "back", desc := "(I)I" } : Jvm.MethodName)) ∈ gtb := gp 59 (by decide +kernel) rfl
theorem w_60 : (Jvm.Cond.selects "GorgeWireModel" ({ cls := "GorgeWireModel", name := "comesBy", desc := "(II)I" } : Jvm.MethodName) ({ cls := "GorgeWireModel", name := "comesBy", desc := "(II)I" } : Jvm.MethodName)) ∈ gtb := gp 60 (by decide +kernel) rfl
theorem w_61 : (Jvm.Cond.selects "GorgeWireModel" ({ cls := "GorgeWireModel", name := "least", desc := "(IIIIIII)I" } : Jvm.MethodName) ({ cls := "GorgeWireModel", name := "least", desc := "(IIIIIII)I" } : Jvm.MethodName)) ∈ gtb := gp 61 (by decide +kernel) rfl
theorem w_62 : (Jvm.Cond.selects "GorgeWireModel" ({ cls := "GorgeWireModel", name := "spins", desc := "(II)I" } : Jvm.MethodName) ({ cls := "GorgeWireModel", name := "spins", desc := "(II)I" } : Jvm.MethodName)) ∈ gtb := gp 62 (by decide +kernel) rfl
theorem w_63 : (Jvm.Cond.selects "GorgeWireModel" ({ cls := "GorgeWireModel", name := "findMany", desc := "(I)V" } : Jvm.MethodName) ({ cls := "GorgeWireModel", name := "findMany", desc := "(I)V" } : Jvm.MethodName)) ∈ gtb := gp 63 (by decide +kernel) rfl
theorem w_64 : (Jvm.Cond.selects "GorgeWireModel" ({ cls := "GorgeWireModel", name := "pulls", desc := "(II)Z" } : Jvm.MethodName) ({ cls := "GorgeWireModel", name := "pulls", desc := "(II)Z" } : Jvm.MethodName)) ∈ gtb := gp 64 (by decide +kernel) rfl
theorem w_65 : (Jvm.Cond.selects "GorgeWireModel" ({ cls := "GorgeWireModel", name := "orders", desc := "(IIII)V" } : Jvm.MethodName) ({ cls := "GorgeWireModel", name := "orders", desc := "(IIII)V" } : Jvm.MethodName)) ∈ gtb := gp 65 (by decide +kernel) rfl
theorem w_66 : (Jvm.Cond.selects "GorgeWireModel" ({ cls := "GorgeWireModel", name := "voiced", desc := "(II)I" } : Jvm.MethodName) ({ cls := "GorgeWireModel", name := "voiced", desc := "(II)I" } : Jvm.MethodName)) ∈ gtb := gp 66 (by decide +kernel) rfl
theorem w_67 : (Jvm.Cond.selects "GorgeWireModel" ({ cls := "GorgeWireModel", name := "bodyFrom", desc := "(III)I" } : Jvm.MethodName) ({ cls := "GorgeWireModel", name := "bodyFrom", desc := "(III)I" } : Jvm.MethodName)) ∈ gtb := gp 67 (by decide +kernel) rfl
theorem w_68 : (Jvm.Cond.selects "GorgeWireModel" ({ cls := "GorgeWireModel", name := "body", desc := "(III)I" } : Jvm.MethodName) ({ cls := "GorgeWireModel", name := "body", desc := "(III)I" } : Jvm.MethodName)) ∈ gtb := gp 68 (by decide +kernel) rfl
theorem w_69 : (Jvm.Cond.selects "GorgeWireModel" ({ cls := "GorgeWireModel", name := "began", desc := "(I)V" } : Jvm.MethodName) ({ cls := "GorgeWireModel", name := "began", desc := "(I)V" } : Jvm.MethodName)) ∈ gtb := gp 69 (by decide +kernel) rfl
theorem w_71 : (Jvm.Cond.initialized "GorgeWire") ∈ gtb := gt1 1 rfl rfl
theorem w_72 : (Jvm.Cond.initialized "GorgeWire$Reader") ∈ gtb := gt1 2 rfl rfl
theorem w_73 : (Jvm.Cond.initialized "GorgeWire$Row") ∈ gtb := gt1 3 rfl rfl
theorem w_74 : (Jvm.Cond.initialized "java/lang/Math") ∈ gtb := gt1 4 rfl rfl
theorem w_75 : (Jvm.Cond.initialized "GorgeWire$State") ∈ gtb := gt1 5 rfl rfl
theorem w_76 : (Jvm.Cond.initialized "GorgeWire$Wire") ∈ gtb := gt1 6 rfl rfl
theorem w_77 : (Jvm.Cond.initialized "java/lang/String") ∈ gtb := gt1 7 rfl rfl
theorem w_78 : (Jvm.Cond.initialized "java/lang/StringLatin1") ∈ gtb := gt1 8 rfl rfl
theorem w_79 : (Jvm.Cond.initialized "jdk/internal/util/Preconditions") ∈ gtb := gt1 9 rfl rfl
theorem w_80 : (Jvm.Cond.initialized "java/lang/StringUTF16") ∈ gtb := gt1 10 rfl rfl
theorem w_81 : (Jvm.Cond.initialized "GorgeWireModel") ∈ gtb := gt1 11 rfl rfl
theorem w_82 : (Jvm.Cond.initialized "java/lang/Character") ∈ gtb := gt1 12 rfl rfl
theorem w_83 : (Jvm.Cond.initialized "GorgeWire$Ride") ∈ gtb := gt1 13 rfl rfl
theorem w_84 : (Jvm.Cond.initialized "GorgeWire$Rolled") ∈ gtb := gt1 14 rfl rfl
theorem w_85 : (Jvm.Cond.initialized "GorgeWire$Hauled") ∈ gtb := gt1 15 rfl rfl
theorem w_86 : (Jvm.Cond.initialized "GorgeWire$Braked") ∈ gtb := gt1 16 rfl rfl
theorem w_87 : (Jvm.Cond.initialized "GorgeWire$Windy") ∈ gtb := gt1 17 rfl rfl
theorem w_88 : (Jvm.Cond.initialized "GorgeWire$Late") ∈ gtb := gt1 18 rfl rfl
theorem w_89 : (Jvm.Cond.initialized "GorgeWire$Greased") ∈ gtb := gt1 19 rfl rfl
theorem w_90 : (Jvm.Cond.initialized "java/lang/System") ∈ gtb := gt1 20 rfl rfl
theorem w_92 : (Jvm.Cond.instantiable "GorgeWire" (13 : Nat)) ∈ gtb := gt1 22 rfl rfl
theorem w_95 : (Jvm.Cond.code ({ cls := "GorgeWire", name := "<init>", desc := "()V" } : Jvm.MethodName) prog_1_method_1_code (2 : Nat) (Option.none : Option Jvm.ClassFile.FieldType)) ∈ gtb := gt1 25 rfl rfl
theorem w_96 : (Jvm.Cond.methodLink "GorgeWire" (1 : Nat) ({ cls := "java/lang/Object", name := "<init>", desc := "()V" } : Jvm.MethodName)) ∈ gtb := gt1 26 rfl rfl
theorem w_97 : (Jvm.Cond.instanceMethod ({ cls := "java/lang/Object", name := "<init>", desc := "()V" } : Jvm.MethodName)) ∈ gtb := gt1 27 rfl rfl
theorem w_98 : (Jvm.Cond.code ({ cls := "java/lang/Object", name := "<init>", desc := "()V" } : Jvm.MethodName) object_method_1_code (1 : Nat) (Option.none : Option Jvm.ClassFile.FieldType)) ∈ gtb := gt1 28 rfl rfl
theorem w_99 : (Jvm.Cond.classLink "GorgeWire" (7 : Nat) "GorgeWire$Reader") ∈ gtb := gt1 29 rfl rfl
theorem w_100 : (Jvm.Cond.instantiable "GorgeWire$Reader" (5 : Nat)) ∈ gtb := gt1 30 rfl rfl
theorem w_102 : (Jvm.Cond.instanceMethod ({ cls := "GorgeWire$Reader", name := "<init>", desc := "()V" } : Jvm.MethodName)) ∈ gtb := gt1 32 rfl rfl
theorem w_103 : (Jvm.Cond.code ({ cls := "GorgeWire$Reader", name := "<init>", desc := "()V" } : Jvm.MethodName) prog_6_method_1_code (1 : Nat) (Option.none : Option Jvm.ClassFile.FieldType)) ∈ gtb := gt1 33 rfl rfl
theorem w_104 : (Jvm.Cond.methodLink "GorgeWire$Reader" (3 : Nat) ({ cls := "java/lang/Object", name := "<init>", desc := "()V" } : Jvm.MethodName)) ∈ gtb := gt1 34 rfl rfl
theorem w_105 : (Jvm.Cond.classLink "GorgeWire$Reader" (15 : Nat) "GorgeWire$Row") ∈ gtb := gt1 35 rfl rfl
theorem w_106 : (Jvm.Cond.instantiable "GorgeWire$Row" (2 : Nat)) ∈ gtb := gt1 36 rfl rfl
theorem w_107 : (Jvm.Cond.methodLink "GorgeWire$Reader" (17 : Nat) ({ cls := "GorgeWire$Row", name := "<init>", desc := "(I)V" } : Jvm.MethodName)) ∈ gtb := gt1 37 rfl rfl
theorem w_108 : (Jvm.Cond.instanceMethod ({ cls := "GorgeWire$Row", name := "<init>", desc := "(I)V" } : Jvm.MethodName)) ∈ gtb := gt1 38 rfl rfl
theorem w_109 : (Jvm.Cond.code ({ cls := "GorgeWire$Row", name := "<init>", desc := "(I)V" } : Jvm.MethodName) prog_9_method_1_code (2 : Nat) (Option.none : Option Jvm.ClassFile.FieldType)) ∈ gtb := gt1 39 rfl rfl
theorem w_110 : (Jvm.Cond.methodLink "GorgeWire$Row" (1 : Nat) ({ cls := "java/lang/Object", name := "<init>", desc := "()V" } : Jvm.MethodName)) ∈ gtb := gt1 40 rfl rfl
theorem w_111 : (Jvm.Cond.methodLink "GorgeWire$Row" (13 : Nat) ({ cls := "java/lang/Math", name := "max", desc := "(II)I" } : Jvm.MethodName)) ∈ gtb := gt1 41 rfl rfl
theorem w_112 : (Jvm.Cond.static ({ cls := "java/lang/Math", name := "max", desc := "(II)I" } : Jvm.MethodName)) ∈ gtb := gt1 42 rfl rfl
theorem w_113 : (Jvm.Cond.code ({ cls := "java/lang/Math", name := "max", desc := "(II)I" } : Jvm.MethodName) prog_17_method_65_code (2 : Nat) (Option.some Jvm.ClassFile.FieldType.int)) ∈ gtb := gt1 43 rfl rfl
theorem w_114 : (Jvm.Cond.fieldLink "GorgeWire$Row" (19 : Nat) "GorgeWire$Row" "numbers" "[I") ∈ gtb := gt1 44 rfl rfl
theorem w_115 : (Jvm.Cond.fieldLink "GorgeWire$Reader" (63 : Nat) "GorgeWire$Row" "numbers" "[I") ∈ gtb := gt1 45 rfl rfl
theorem w_116 : (Jvm.Cond.fieldLink "GorgeWire" (268 : Nat) "GorgeWire$Row" "numbers" "[I") ∈ gtb := gt1 46 rfl rfl
theorem w_117 : (Jvm.Cond.fieldLink "GorgeWire$Row" (7 : Nat) "GorgeWire$Row" "size" "I") ∈ gtb := gt1 47 rfl rfl
theorem w_118 : (Jvm.Cond.fieldLink "GorgeWire$Reader" (60 : Nat) "GorgeWire$Row" "size" "I") ∈ gtb := gt1 48 rfl rfl
theorem w_119 : (Jvm.Cond.fieldLink "GorgeWire" (159 : Nat) "GorgeWire$Row" "size" "I") ∈ gtb := gt1 49 rfl rfl
theorem w_125 : (Jvm.Cond.arrayClass Jvm.ClassFile.FieldType.int) ∈ gtb := gt1 55 rfl rfl
theorem w_127 : (Jvm.Cond.fieldLink "GorgeWire$Reader" (9 : Nat) "GorgeWire$Reader" "values" "[I") ∈ gtb := gt1 57 rfl rfl
theorem w_128 : (Jvm.Cond.fieldLink "GorgeWire$Reader" (20 : Nat) "GorgeWire$Reader" "signs" "LGorgeWire$Row;") ∈ gtb := gt1 58 rfl rfl
theorem w_129 : (Jvm.Cond.fieldLink "GorgeWire$Reader" (26 : Nat) "GorgeWire$Reader" "names" "Ljava/lang/String;") ∈ gtb := gt1 59 rfl rfl
theorem w_130 : (Jvm.Cond.fieldLink "GorgeWire$Reader" (30 : Nat) "GorgeWire$Reader" "place" "I") ∈ gtb := gt1 60 rfl rfl
theorem w_131 : (Jvm.Cond.fieldLink "GorgeWire$Reader" (34 : Nat) "GorgeWire$Reader" "fault" "I") ∈ gtb := gt1 61 rfl rfl
theorem w_144 : (Jvm.Cond.classLink "GorgeWire" (16 : Nat) "GorgeWire$State") ∈ gtb := gt1 74 rfl rfl
theorem w_145 : (Jvm.Cond.instantiable "GorgeWire$State" (18 : Nat)) ∈ gtb := gt1 75 rfl rfl
theorem w_146 : (Jvm.Cond.methodLink "GorgeWire" (18 : Nat) ({ cls := "GorgeWire$State", name := "<init>", desc := "(LGorgeWire$Reader;)V" } : Jvm.MethodName)) ∈ gtb := gt1 76 rfl rfl
theorem w_147 : (Jvm.Cond.instanceMethod ({ cls := "GorgeWire$State", name := "<init>", desc := "(LGorgeWire$Reader;)V" } : Jvm.MethodName)) ∈ gtb := gt1 77 rfl rfl
theorem w_148 : (Jvm.Cond.code ({ cls := "GorgeWire$State", name := "<init>", desc := "(LGorgeWire$Reader;)V" } : Jvm.MethodName) prog_10_method_1_code (2 : Nat) (Option.none : Option Jvm.ClassFile.FieldType)) ∈ gtb := gt1 78 rfl rfl
theorem w_149 : (Jvm.Cond.methodLink "GorgeWire$State" (3 : Nat) ({ cls := "java/lang/Object", name := "<init>", desc := "()V" } : Jvm.MethodName)) ∈ gtb := gt1 79 rfl rfl
theorem w_150 : (Jvm.Cond.classLink "GorgeWire$State" (9 : Nat) "GorgeWire$Wire") ∈ gtb := gt1 80 rfl rfl
theorem w_151 : (Jvm.Cond.instantiable "GorgeWire$Wire" (1 : Nat)) ∈ gtb := gt1 81 rfl rfl
theorem w_153 : (Jvm.Cond.instanceMethod ({ cls := "GorgeWire$Wire", name := "<init>", desc := "()V" } : Jvm.MethodName)) ∈ gtb := gt1 83 rfl rfl
theorem w_154 : (Jvm.Cond.code ({ cls := "GorgeWire$Wire", name := "<init>", desc := "()V" } : Jvm.MethodName) prog_12_method_1_code (1 : Nat) (Option.none : Option Jvm.ClassFile.FieldType)) ∈ gtb := gt1 84 rfl rfl
theorem w_155 : (Jvm.Cond.methodLink "GorgeWire$Wire" (3 : Nat) ({ cls := "java/lang/Object", name := "<init>", desc := "()V" } : Jvm.MethodName)) ∈ gtb := gt1 85 rfl rfl
theorem w_156 : (Jvm.Cond.fieldLink "GorgeWire$Wire" (9 : Nat) "GorgeWire$Wire" "FIRST" "[I") ∈ gtb := gt1 86 rfl rfl
theorem w_158 : (Jvm.Cond.methodLink "GorgeWire$Wire" (15 : Nat) ({ cls := "[I", name := "clone", desc := "()Ljava/lang/Object;" } : Jvm.MethodName)) ∈ gtb := gt1 88 rfl rfl
theorem w_159 : (Jvm.Cond.sameMethod "[I" "java/lang/Object" "clone" "()Ljava/lang/Object;") ∈ gtb := gt1 89 rfl rfl
theorem w_160 : (Jvm.Cond.native ({ cls := "java/lang/Object", name := "clone", desc := "()Ljava/lang/Object;" } : Jvm.MethodName)) ∈ gtb := gt1 90 rfl rfl
theorem w_161 : (Jvm.Cond.instanceMethod ({ cls := "java/lang/Object", name := "clone", desc := "()Ljava/lang/Object;" } : Jvm.MethodName)) ∈ gtb := gt1 91 rfl rfl
theorem w_162 : (Jvm.Cond.selects "[I" ({ cls := "[I", name := "clone", desc := "()Ljava/lang/Object;" } : Jvm.MethodName) ({ cls := "java/lang/Object", name := "clone", desc := "()Ljava/lang/Object;" } : Jvm.MethodName)) ∈ gtb := gt1 92 rfl rfl
theorem w_164 : (Jvm.Cond.classLink "GorgeWire$Wire" (16 : Nat) "[I") ∈ gtb := gt1 94 rfl rfl
theorem w_165 : (Jvm.Cond.fieldLink "GorgeWire$Wire" (20 : Nat) "GorgeWire$Wire" "values" "[I") ∈ gtb := gt1 95 rfl rfl
theorem w_169 : (Jvm.Cond.classLink "GorgeWire$State" (18 : Nat) "GorgeWire$Ride") ∈ gtb := gt1 99 rfl rfl
theorem w_171 : (Jvm.Cond.classLink "GorgeWire$State" (48 : Nat) "GorgeWire$Row") ∈ gtb := gt1 101 rfl rfl
theorem w_172 : (Jvm.Cond.methodLink "GorgeWire$State" (50 : Nat) ({ cls := "GorgeWire$Row", name := "<init>", desc := "(I)V" } : Jvm.MethodName)) ∈ gtb := gt1 102 rfl rfl
theorem w_174 : (Jvm.Cond.methodLink "GorgeWire$State" (84 : Nat) ({ cls := "GorgeWire$Row", name := "addSigns", desc := "(Ljava/lang/String;)V" } : Jvm.MethodName)) ∈ gtb := gt1 104 rfl rfl
theorem w_175 : (Jvm.Cond.instanceMethod ({ cls := "GorgeWire$Row", name := "addSigns", desc := "(Ljava/lang/String;)V" } : Jvm.MethodName)) ∈ gtb := gt1 105 rfl rfl
theorem w_176 : (Jvm.Cond.selects "GorgeWire$Row" ({ cls := "GorgeWire$Row", name := "addSigns", desc := "(Ljava/lang/String;)V" } : Jvm.MethodName) ({ cls := "GorgeWire$Row", name := "addSigns", desc := "(Ljava/lang/String;)V" } : Jvm.MethodName)) ∈ gtb := gt1 106 rfl rfl
theorem w_177 : (Jvm.Cond.code ({ cls := "GorgeWire$Row", name := "addSigns", desc := "(Ljava/lang/String;)V" } : Jvm.MethodName) prog_9_method_4_code (3 : Nat) (Option.none : Option Jvm.ClassFile.FieldType)) ∈ gtb := gt1 107 rfl rfl
theorem w_181 : (Jvm.Cond.code ({ cls := "java/lang/String", name := "length", desc := "()I" } : Jvm.MethodName) prog_18_method_54_code (1 : Nat) (Option.some Jvm.ClassFile.FieldType.int)) ∈ gtb := gt1 111 rfl rfl
theorem w_185 : (Jvm.Cond.code ({ cls := "java/lang/String", name := "coder", desc := "()B" } : Jvm.MethodName) prog_18_method_152_code (1 : Nat) (Option.some Jvm.ClassFile.FieldType.byte)) ∈ gtb := gt1 115 rfl rfl
theorem w_191 : (Jvm.Cond.code ({ cls := "java/lang/String", name := "charAt", desc := "(I)C" } : Jvm.MethodName) prog_18_method_56_code (2 : Nat) (Option.some Jvm.ClassFile.FieldType.char)) ∈ gtb := gt1 121 rfl rfl
theorem w_195 : (Jvm.Cond.code ({ cls := "java/lang/String", name := "isLatin1", desc := "()Z" } : Jvm.MethodName) prog_18_method_154_code (1 : Nat) (Option.some Jvm.ClassFile.FieldType.boolean)) ∈ gtb := gt1 125 rfl rfl
theorem w_198 : (Jvm.Cond.code ({ cls := "java/lang/StringLatin1", name := "charAt", desc := "([BI)C" } : Jvm.MethodName) prog_19_method_2_code (2 : Nat) (Option.some Jvm.ClassFile.FieldType.char)) ∈ gtb := gt1 128 rfl rfl
theorem w_201 : (Jvm.Cond.code ({ cls := "java/lang/String", name := "checkIndex", desc := "(II)V" } : Jvm.MethodName) prog_18_method_155_code (2 : Nat) (Option.none : Option Jvm.ClassFile.FieldType)) ∈ gtb := gt1 131 rfl rfl
theorem w_206 : (Jvm.Cond.code ({ cls := "jdk/internal/util/Preconditions", name := "checkIndex", desc := "(IILjava/util/function/BiFunction;)I" } : Jvm.MethodName) prog_22_method_11_code (3 : Nat) (Option.some Jvm.ClassFile.FieldType.int)) ∈ gtb := gt1 136 rfl rfl
theorem w_209 : (Jvm.Cond.code ({ cls := "java/lang/StringUTF16", name := "charAt", desc := "([BI)C" } : Jvm.MethodName) prog_20_method_83_code (2 : Nat) (Option.some Jvm.ClassFile.FieldType.char)) ∈ gtb := gt1 139 rfl rfl
theorem w_212 : (Jvm.Cond.code ({ cls := "java/lang/StringUTF16", name := "checkIndex", desc := "(I[B)V" } : Jvm.MethodName) prog_20_method_91_code (2 : Nat) (Option.none : Option Jvm.ClassFile.FieldType)) ∈ gtb := gt1 142 rfl rfl
theorem w_215 : (Jvm.Cond.code ({ cls := "java/lang/StringUTF16", name := "length", desc := "([B)I" } : Jvm.MethodName) prog_20_method_6_code (1 : Nat) (Option.some Jvm.ClassFile.FieldType.int)) ∈ gtb := gt1 145 rfl rfl
theorem w_219 : (Jvm.Cond.code ({ cls := "java/lang/StringUTF16", name := "getChar", desc := "([BI)C" } : Jvm.MethodName) prog_20_method_5_code (2 : Nat) (Option.some Jvm.ClassFile.FieldType.char)) ∈ gtb := gt1 149 rfl rfl
theorem w_226 : (Jvm.Cond.methodLink "GorgeWire$Row" (33 : Nat) ({ cls := "GorgeWire$Row", name := "add", desc := "(I)V" } : Jvm.MethodName)) ∈ gtb := gt1 156 rfl rfl
theorem w_227 : (Jvm.Cond.instanceMethod ({ cls := "GorgeWire$Row", name := "add", desc := "(I)V" } : Jvm.MethodName)) ∈ gtb := gt1 157 rfl rfl
theorem w_228 : (Jvm.Cond.selects "GorgeWire$Row" ({ cls := "GorgeWire$Row", name := "add", desc := "(I)V" } : Jvm.MethodName) ({ cls := "GorgeWire$Row", name := "add", desc := "(I)V" } : Jvm.MethodName)) ∈ gtb := gt1 158 rfl rfl
theorem w_229 : (Jvm.Cond.code ({ cls := "GorgeWire$Row", name := "add", desc := "(I)V" } : Jvm.MethodName) prog_9_method_3_code (2 : Nat) (Option.none : Option Jvm.ClassFile.FieldType)) ∈ gtb := gt1 159 rfl rfl
theorem w_231 : (Jvm.Cond.fieldLink "GorgeWire$State" (78 : Nat) "GorgeWire$State" "reader" "LGorgeWire$Reader;") ∈ gtb := gt1 161 rfl rfl
theorem w_232 : (Jvm.Cond.fieldLink "GorgeWire$State" (12 : Nat) "GorgeWire$State" "wire" "LGorgeWire$Wire;") ∈ gtb := gt1 162 rfl rfl
theorem w_233 : (Jvm.Cond.fieldLink "GorgeWire" (77 : Nat) "GorgeWire$State" "wire" "LGorgeWire$Wire;") ∈ gtb := gt1 163 rfl rfl
theorem w_234 : (Jvm.Cond.fieldLink "GorgeWire$State" (20 : Nat) "GorgeWire$State" "rides" "[LGorgeWire$Ride;") ∈ gtb := gt1 164 rfl rfl
theorem w_235 : (Jvm.Cond.fieldLink "GorgeWire$State" (24 : Nat) "GorgeWire$State" "place" "[I") ∈ gtb := gt1 165 rfl rfl
theorem w_236 : (Jvm.Cond.fieldLink "GorgeWire" (146 : Nat) "GorgeWire$State" "place" "[I") ∈ gtb := gt1 166 rfl rfl
theorem w_237 : (Jvm.Cond.fieldLink "GorgeWire$State" (28 : Nat) "GorgeWire$State" "pace" "[I") ∈ gtb := gt1 167 rfl rfl
theorem w_238 : (Jvm.Cond.fieldLink "GorgeWire" (149 : Nat) "GorgeWire$State" "pace" "[I") ∈ gtb := gt1 168 rfl rfl
theorem w_239 : (Jvm.Cond.fieldLink "GorgeWire$State" (31 : Nat) "GorgeWire$State" "came" "[I") ∈ gtb := gt1 169 rfl rfl
theorem w_240 : (Jvm.Cond.fieldLink "GorgeWire" (317 : Nat) "GorgeWire$State" "came" "[I") ∈ gtb := gt1 170 rfl rfl
theorem w_241 : (Jvm.Cond.fieldLink "GorgeWire$State" (34 : Nat) "GorgeWire$State" "in" "[Z") ∈ gtb := gt1 171 rfl rfl
theorem w_242 : (Jvm.Cond.fieldLink "GorgeWire" (152 : Nat) "GorgeWire$State" "in" "[Z") ∈ gtb := gt1 172 rfl rfl
theorem w_243 : (Jvm.Cond.fieldLink "GorgeWire$State" (38 : Nat) "GorgeWire$State" "riders" "I") ∈ gtb := gt1 173 rfl rfl
theorem w_244 : (Jvm.Cond.fieldLink "GorgeWire" (116 : Nat) "GorgeWire$State" "riders" "I") ∈ gtb := gt1 174 rfl rfl
theorem w_245 : (Jvm.Cond.fieldLink "GorgeWire$State" (42 : Nat) "GorgeWire$State" "now" "I") ∈ gtb := gt1 175 rfl rfl
theorem w_246 : (Jvm.Cond.fieldLink "GorgeWire" (184 : Nat) "GorgeWire$State" "now" "I") ∈ gtb := gt1 176 rfl rfl
theorem w_247 : (Jvm.Cond.fieldLink "GorgeWire$State" (45 : Nat) "GorgeWire$State" "z" "I") ∈ gtb := gt1 177 rfl rfl
theorem w_248 : (Jvm.Cond.fieldLink "GorgeWire" (243 : Nat) "GorgeWire$State" "z" "I") ∈ gtb := gt1 178 rfl rfl
theorem w_249 : (Jvm.Cond.fieldLink "GorgeWire$State" (53 : Nat) "GorgeWire$State" "tape" "LGorgeWire$Row;") ∈ gtb := gt1 179 rfl rfl
theorem w_250 : (Jvm.Cond.fieldLink "GorgeWire" (156 : Nat) "GorgeWire$State" "tape" "LGorgeWire$Row;") ∈ gtb := gt1 180 rfl rfl
theorem w_251 : (Jvm.Cond.fieldLink "GorgeWire$State" (57 : Nat) "GorgeWire$State" "wearText" "LGorgeWire$Row;") ∈ gtb := gt1 181 rfl rfl
theorem w_252 : (Jvm.Cond.fieldLink "GorgeWire$State" (60 : Nat) "GorgeWire$State" "goesText" "LGorgeWire$Row;") ∈ gtb := gt1 182 rfl rfl
theorem w_253 : (Jvm.Cond.fieldLink "GorgeWire$State" (63 : Nat) "GorgeWire$State" "strong" "LGorgeWire$Row;") ∈ gtb := gt1 183 rfl rfl
theorem w_254 : (Jvm.Cond.fieldLink "GorgeWire" (213 : Nat) "GorgeWire$State" "strong" "LGorgeWire$Row;") ∈ gtb := gt1 184 rfl rfl
theorem w_255 : (Jvm.Cond.fieldLink "GorgeWire$State" (66 : Nat) "GorgeWire$State" "thick" "LGorgeWire$Row;") ∈ gtb := gt1 185 rfl rfl
theorem w_256 : (Jvm.Cond.fieldLink "GorgeWire" (320 : Nat) "GorgeWire$State" "thick" "LGorgeWire$Row;") ∈ gtb := gt1 186 rfl rfl
theorem w_257 : (Jvm.Cond.fieldLink "GorgeWire$State" (69 : Nat) "GorgeWire$State" "times" "LGorgeWire$Row;") ∈ gtb := gt1 187 rfl rfl
theorem w_258 : (Jvm.Cond.fieldLink "GorgeWire" (232 : Nat) "GorgeWire$State" "times" "LGorgeWire$Row;") ∈ gtb := gt1 188 rfl rfl
theorem w_259 : (Jvm.Cond.fieldLink "GorgeWire$State" (72 : Nat) "GorgeWire$State" "sides" "LGorgeWire$Row;") ∈ gtb := gt1 189 rfl rfl
theorem w_260 : (Jvm.Cond.fieldLink "GorgeWire" (235 : Nat) "GorgeWire$State" "sides" "LGorgeWire$Row;") ∈ gtb := gt1 190 rfl rfl
theorem w_261 : (Jvm.Cond.fieldLink "GorgeWire$State" (75 : Nat) "GorgeWire$State" "waiting" "LGorgeWire$Row;") ∈ gtb := gt1 191 rfl rfl
theorem w_262 : (Jvm.Cond.fieldLink "GorgeWire" (277 : Nat) "GorgeWire$State" "waiting" "LGorgeWire$Row;") ∈ gtb := gt1 192 rfl rfl
theorem w_300 : (Jvm.Cond.arrayClass Jvm.ClassFile.FieldType.boolean) ∈ gtb := gt1 230 rfl rfl
theorem w_301 : (Jvm.Cond.classLink "GorgeWire" (39 : Nat) "GorgeWire$Row") ∈ gtb := gt1 231 rfl rfl
theorem w_302 : (Jvm.Cond.methodLink "GorgeWire" (41 : Nat) ({ cls := "GorgeWire$Row", name := "<init>", desc := "(I)V" } : Jvm.MethodName)) ∈ gtb := gt1 232 rfl rfl
theorem w_304 : (Jvm.Cond.fieldLink "GorgeWire" (10 : Nat) "GorgeWire" "reader" "LGorgeWire$Reader;") ∈ gtb := gt1 234 rfl rfl
theorem w_305 : (Jvm.Cond.fieldLink "GorgeWire" (21 : Nat) "GorgeWire" "live" "LGorgeWire$State;") ∈ gtb := gt1 235 rfl rfl
theorem w_306 : (Jvm.Cond.fieldLink "GorgeWire" (25 : Nat) "GorgeWire" "ahead" "LGorgeWire$State;") ∈ gtb := gt1 236 rfl rfl
theorem w_307 : (Jvm.Cond.fieldLink "GorgeWire" (28 : Nat) "GorgeWire" "kept" "LGorgeWire$State;") ∈ gtb := gt1 237 rfl rfl
theorem w_308 : (Jvm.Cond.fieldLink "GorgeWire" (31 : Nat) "GorgeWire" "timesKept" "I") ∈ gtb := gt1 238 rfl rfl
theorem w_309 : (Jvm.Cond.fieldLink "GorgeWire" (35 : Nat) "GorgeWire" "answered" "[I") ∈ gtb := gt1 239 rfl rfl
theorem w_310 : (Jvm.Cond.fieldLink "GorgeWire" (44 : Nat) "GorgeWire" "traced" "LGorgeWire$Row;") ∈ gtb := gt2 0 rfl rfl
theorem w_311 : (Jvm.Cond.fieldLink "GorgeWire" (48 : Nat) "GorgeWire" "sheets" "[LGorgeWire$Row;") ∈ gtb := gt2 1 rfl rfl
theorem w_312 : (Jvm.Cond.fieldLink "GorgeWire" (52 : Nat) "GorgeWire" "bitsOf" "[I") ∈ gtb := gt2 2 rfl rfl
theorem w_313 : (Jvm.Cond.fieldLink "GorgeWire" (55 : Nat) "GorgeWire" "toGo" "[I") ∈ gtb := gt2 3 rfl rfl
theorem w_314 : (Jvm.Cond.fieldLink "GorgeWire" (58 : Nat) "GorgeWire" "tried" "[I") ∈ gtb := gt2 4 rfl rfl
theorem w_315 : (Jvm.Cond.fieldLink "GorgeWire" (61 : Nat) "GorgeWire" "best" "[I") ∈ gtb := gt2 5 rfl rfl
theorem w_316 : (Jvm.Cond.fieldLink "GorgeWire" (64 : Nat) "GorgeWire" "bestTime" "I") ∈ gtb := gt2 6 rfl rfl
theorem w_347 : (Jvm.Cond.code ({ cls := "GorgeWire", name := "wire", desc := "(II)I" } : Jvm.MethodName) prog_1_method_2_code (4 : Nat) (Option.some Jvm.ClassFile.FieldType.int)) ∈ gtb := gt2 37 rfl rfl
theorem w_349 : (Jvm.Cond.static ({ cls := "GorgeWire$Wire", name := "allows", desc := "(II)Z" } : Jvm.MethodName)) ∈ gtb := gt2 39 rfl rfl
theorem w_350 : (Jvm.Cond.code ({ cls := "GorgeWire$Wire", name := "allows", desc := "(II)Z" } : Jvm.MethodName) prog_12_method_2_code (2 : Nat) (Option.some Jvm.ClassFile.FieldType.boolean)) ∈ gtb := gt2 40 rfl rfl
theorem w_352 : (Jvm.Cond.static ({ cls := "GorgeWire", name := "within", desc := "(III)Z" } : Jvm.MethodName)) ∈ gtb := gt2 42 rfl rfl
theorem w_353 : (Jvm.Cond.code ({ cls := "GorgeWire", name := "within", desc := "(III)Z" } : Jvm.MethodName) prog_1_method_43_code (3 : Nat) (Option.some Jvm.ClassFile.FieldType.boolean)) ∈ gtb := gt2 43 rfl rfl
theorem w_354 : (Jvm.Cond.fieldLink "GorgeWire$Wire" (27 : Nat) "GorgeWire$Wire" "LEAST" "[I") ∈ gtb := gt2 44 rfl rfl
theorem w_356 : (Jvm.Cond.fieldLink "GorgeWire$Wire" (30 : Nat) "GorgeWire$Wire" "GREATEST" "[I") ∈ gtb := gt2 46 rfl rfl
theorem w_358 : (Jvm.Cond.methodLink "GorgeWire" (73 : Nat) ({ cls := "GorgeWire", name := "fail", desc := "(I)I" } : Jvm.MethodName)) ∈ gtb := gt2 48 rfl rfl
theorem w_360 : (Jvm.Cond.instanceMethod ({ cls := "GorgeWire", name := "fail", desc := "(I)I" } : Jvm.MethodName)) ∈ gtb := gt2 50 rfl rfl
theorem w_361 : (Jvm.Cond.code ({ cls := "GorgeWire", name := "fail", desc := "(I)I" } : Jvm.MethodName) prog_1_method_42_code (2 : Nat) (Option.some Jvm.ClassFile.FieldType.int)) ∈ gtb := gt2 51 rfl rfl
theorem w_362 : (Jvm.Cond.constant "GorgeWire" (283 : Nat) (-1000000000 : Int32)) ∈ gtb := gt2 52 rfl rfl
theorem w_363 : (Jvm.Cond.methodLink "GorgeWire" (81 : Nat) ({ cls := "GorgeWire$Wire", name := "of", desc := "(I)I" } : Jvm.MethodName)) ∈ gtb := gt2 53 rfl rfl
theorem w_364 : (Jvm.Cond.instanceMethod ({ cls := "GorgeWire$Wire", name := "of", desc := "(I)I" } : Jvm.MethodName)) ∈ gtb := gt2 54 rfl rfl
theorem w_365 : (Jvm.Cond.selects "GorgeWire$Wire" ({ cls := "GorgeWire$Wire", name := "of", desc := "(I)I" } : Jvm.MethodName) ({ cls := "GorgeWire$Wire", name := "of", desc := "(I)I" } : Jvm.MethodName)) ∈ gtb := gt2 55 rfl rfl
theorem w_366 : (Jvm.Cond.code ({ cls := "GorgeWire$Wire", name := "of", desc := "(I)I" } : Jvm.MethodName) prog_12_method_3_code (2 : Nat) (Option.some Jvm.ClassFile.FieldType.int)) ∈ gtb := gt2 56 rfl rfl
theorem w_367 : (Jvm.Cond.methodLink "GorgeWire" (84 : Nat) ({ cls := "GorgeWire$Wire", name := "becomes", desc := "(II)V" } : Jvm.MethodName)) ∈ gtb := gt2 57 rfl rfl
theorem w_368 : (Jvm.Cond.instanceMethod ({ cls := "GorgeWire$Wire", name := "becomes", desc := "(II)V" } : Jvm.MethodName)) ∈ gtb := gt2 58 rfl rfl
theorem w_369 : (Jvm.Cond.selects "GorgeWire$Wire" ({ cls := "GorgeWire$Wire", name := "becomes", desc := "(II)V" } : Jvm.MethodName) ({ cls := "GorgeWire$Wire", name := "becomes", desc := "(II)V" } : Jvm.MethodName)) ∈ gtb := gt2 59 rfl rfl
theorem w_370 : (Jvm.Cond.code ({ cls := "GorgeWire$Wire", name := "becomes", desc := "(II)V" } : Jvm.MethodName) prog_12_method_4_code (3 : Nat) (Option.none : Option Jvm.ClassFile.FieldType)) ∈ gtb := gt2 60 rfl rfl
theorem w_371 : (Jvm.Cond.methodLink "GorgeWire$Wire" (33 : Nat) ({ cls := "GorgeWire$Wire", name := "allows", desc := "(II)Z" } : Jvm.MethodName)) ∈ gtb := gt2 61 rfl rfl
theorem w_372 : (Jvm.Cond.methodLink "GorgeWire" (88 : Nat) ({ cls := "GorgeWire$State", name := "keepPlacesOnWire", desc := "()V" } : Jvm.MethodName)) ∈ gtb := gt2 62 rfl rfl
theorem w_373 : (Jvm.Cond.instanceMethod ({ cls := "GorgeWire$State", name := "keepPlacesOnWire", desc := "()V" } : Jvm.MethodName)) ∈ gtb := gt2 63 rfl rfl
theorem w_374 : (Jvm.Cond.selects "GorgeWire$State" ({ cls := "GorgeWire$State", name := "keepPlacesOnWire", desc := "()V" } : Jvm.MethodName) ({ cls := "GorgeWire$State", name := "keepPlacesOnWire", desc := "()V" } : Jvm.MethodName)) ∈ gtb := gt2 64 rfl rfl
theorem w_375 : (Jvm.Cond.code ({ cls := "GorgeWire$State", name := "keepPlacesOnWire", desc := "()V" } : Jvm.MethodName) prog_10_method_8_code (2 : Nat) (Option.none : Option Jvm.ClassFile.FieldType)) ∈ gtb := gt2 65 rfl rfl
theorem w_376 : (Jvm.Cond.methodLink "GorgeWire$State" (126 : Nat) ({ cls := "GorgeWire$Wire", name := "end", desc := "()I" } : Jvm.MethodName)) ∈ gtb := gt2 66 rfl rfl
theorem w_377 : (Jvm.Cond.instanceMethod ({ cls := "GorgeWire$Wire", name := "end", desc := "()I" } : Jvm.MethodName)) ∈ gtb := gt2 67 rfl rfl
theorem w_378 : (Jvm.Cond.selects "GorgeWire$Wire" ({ cls := "GorgeWire$Wire", name := "end", desc := "()I" } : Jvm.MethodName) ({ cls := "GorgeWire$Wire", name := "end", desc := "()I" } : Jvm.MethodName)) ∈ gtb := gt2 68 rfl rfl
theorem w_379 : (Jvm.Cond.code ({ cls := "GorgeWire$Wire", name := "end", desc := "()I" } : Jvm.MethodName) prog_12_method_6_code (1 : Nat) (Option.some Jvm.ClassFile.FieldType.int)) ∈ gtb := gt2 69 rfl rfl
theorem w_380 : (Jvm.Cond.methodLink "GorgeWire$State" (130 : Nat) ({ cls := "java/lang/Math", name := "min", desc := "(II)I" } : Jvm.MethodName)) ∈ gtb := gt2 70 rfl rfl
theorem w_381 : (Jvm.Cond.static ({ cls := "java/lang/Math", name := "min", desc := "(II)I" } : Jvm.MethodName)) ∈ gtb := gt2 71 rfl rfl
theorem w_382 : (Jvm.Cond.code ({ cls := "java/lang/Math", name := "min", desc := "(II)I" } : Jvm.MethodName) prog_17_method_69_code (2 : Nat) (Option.some Jvm.ClassFile.FieldType.int)) ∈ gtb := gt2 72 rfl rfl
theorem w_386 : (Jvm.Cond.code ({ cls := "GorgeWire", name := "depth", desc := "(II)I" } : Jvm.MethodName) prog_1_method_3_code (3 : Nat) (Option.some Jvm.ClassFile.FieldType.int)) ∈ gtb := gt2 76 rfl rfl
theorem w_387 : (Jvm.Cond.methodLink "GorgeWire" (91 : Nat) ({ cls := "GorgeWire", name := "isOnWire", desc := "(II)Z" } : Jvm.MethodName)) ∈ gtb := gt2 77 rfl rfl
theorem w_389 : (Jvm.Cond.instanceMethod ({ cls := "GorgeWire", name := "isOnWire", desc := "(II)Z" } : Jvm.MethodName)) ∈ gtb := gt2 79 rfl rfl
theorem w_390 : (Jvm.Cond.code ({ cls := "GorgeWire", name := "isOnWire", desc := "(II)Z" } : Jvm.MethodName) prog_1_method_45_code (3 : Nat) (Option.some Jvm.ClassFile.FieldType.boolean)) ∈ gtb := gt2 80 rfl rfl
theorem w_391 : (Jvm.Cond.methodLink "GorgeWire" (108 : Nat) ({ cls := "GorgeWire", name := "within", desc := "(III)Z" } : Jvm.MethodName)) ∈ gtb := gt2 81 rfl rfl
theorem w_392 : (Jvm.Cond.methodLink "GorgeWire" (94 : Nat) ({ cls := "GorgeWire$Wire", name := "depthAt", desc := "(II)I" } : Jvm.MethodName)) ∈ gtb := gt2 82 rfl rfl
theorem w_393 : (Jvm.Cond.instanceMethod ({ cls := "GorgeWire$Wire", name := "depthAt", desc := "(II)I" } : Jvm.MethodName)) ∈ gtb := gt2 83 rfl rfl
theorem w_394 : (Jvm.Cond.selects "GorgeWire$Wire" ({ cls := "GorgeWire$Wire", name := "depthAt", desc := "(II)I" } : Jvm.MethodName) ({ cls := "GorgeWire$Wire", name := "depthAt", desc := "(II)I" } : Jvm.MethodName)) ∈ gtb := gt2 84 rfl rfl
theorem w_395 : (Jvm.Cond.code ({ cls := "GorgeWire$Wire", name := "depthAt", desc := "(II)I" } : Jvm.MethodName) prog_12_method_9_code (9 : Nat) (Option.some Jvm.ClassFile.FieldType.int)) ∈ gtb := gt2 85 rfl rfl
theorem w_396 : (Jvm.Cond.methodLink "GorgeWire$Wire" (43 : Nat) ({ cls := "GorgeWire$Wire", name := "spanBy", desc := "()I" } : Jvm.MethodName)) ∈ gtb := gt2 86 rfl rfl
theorem w_398 : (Jvm.Cond.instanceMethod ({ cls := "GorgeWire$Wire", name := "spanBy", desc := "()I" } : Jvm.MethodName)) ∈ gtb := gt2 88 rfl rfl
theorem w_399 : (Jvm.Cond.code ({ cls := "GorgeWire$Wire", name := "spanBy", desc := "()I" } : Jvm.MethodName) prog_12_method_8_code (1 : Nat) (Option.some Jvm.ClassFile.FieldType.int)) ∈ gtb := gt2 89 rfl rfl
theorem w_400 : (Jvm.Cond.methodLink "GorgeWire$Wire" (47 : Nat) ({ cls := "GorgeWire$Wire", name := "taut", desc := "()I" } : Jvm.MethodName)) ∈ gtb := gt2 90 rfl rfl
theorem w_401 : (Jvm.Cond.instanceMethod ({ cls := "GorgeWire$Wire", name := "taut", desc := "()I" } : Jvm.MethodName)) ∈ gtb := gt2 91 rfl rfl
theorem w_402 : (Jvm.Cond.selects "GorgeWire$Wire" ({ cls := "GorgeWire$Wire", name := "taut", desc := "()I" } : Jvm.MethodName) ({ cls := "GorgeWire$Wire", name := "taut", desc := "()I" } : Jvm.MethodName)) ∈ gtb := gt2 92 rfl rfl
theorem w_403 : (Jvm.Cond.code ({ cls := "GorgeWire$Wire", name := "taut", desc := "()I" } : Jvm.MethodName) prog_12_method_7_code (2 : Nat) (Option.some Jvm.ClassFile.FieldType.int)) ∈ gtb := gt2 93 rfl rfl
theorem w_404 : (Jvm.Cond.constantLong "GorgeWire$Wire" (50 : Nat) (1000 : Int64)) ∈ gtb := gt2 94 rfl rfl
theorem w_405 : (Jvm.Cond.constantLong "GorgeWire$Wire" (52 : Nat) (500 : Int64)) ∈ gtb := gt2 95 rfl rfl
theorem w_409 : (Jvm.Cond.code ({ cls := "GorgeWire", name := "steep", desc := "(II)I" } : Jvm.MethodName) prog_1_method_4_code (3 : Nat) (Option.some Jvm.ClassFile.FieldType.int)) ∈ gtb := gt2 99 rfl rfl
theorem w_410 : (Jvm.Cond.methodLink "GorgeWire" (98 : Nat) ({ cls := "GorgeWire$Wire", name := "steepAt", desc := "(II)I" } : Jvm.MethodName)) ∈ gtb := gt2 100 rfl rfl
theorem w_411 : (Jvm.Cond.instanceMethod ({ cls := "GorgeWire$Wire", name := "steepAt", desc := "(II)I" } : Jvm.MethodName)) ∈ gtb := gt2 101 rfl rfl
theorem w_412 : (Jvm.Cond.selects "GorgeWire$Wire" ({ cls := "GorgeWire$Wire", name := "steepAt", desc := "(II)I" } : Jvm.MethodName) ({ cls := "GorgeWire$Wire", name := "steepAt", desc := "(II)I" } : Jvm.MethodName)) ∈ gtb := gt2 102 rfl rfl
theorem w_413 : (Jvm.Cond.code ({ cls := "GorgeWire$Wire", name := "steepAt", desc := "(II)I" } : Jvm.MethodName) prog_12_method_10_code (4 : Nat) (Option.some Jvm.ClassFile.FieldType.int)) ∈ gtb := gt2 103 rfl rfl
theorem w_414 : (Jvm.Cond.methodLink "GorgeWire$Wire" (54 : Nat) ({ cls := "java/lang/Math", name := "min", desc := "(II)I" } : Jvm.MethodName)) ∈ gtb := gt2 104 rfl rfl
theorem w_415 : (Jvm.Cond.methodLink "GorgeWire$Wire" (60 : Nat) ({ cls := "GorgeWire$Wire", name := "depthAt", desc := "(II)I" } : Jvm.MethodName)) ∈ gtb := gt2 105 rfl rfl
theorem w_419 : (Jvm.Cond.code ({ cls := "GorgeWire", name := "pulled", desc := "(II)I" } : Jvm.MethodName) prog_1_method_5_code (3 : Nat) (Option.some Jvm.ClassFile.FieldType.int)) ∈ gtb := gt2 109 rfl rfl
theorem w_420 : (Jvm.Cond.methodLink "GorgeWire" (101 : Nat) ({ cls := "GorgeWire$Wire", name := "pulledAt", desc := "(II)I" } : Jvm.MethodName)) ∈ gtb := gt2 110 rfl rfl
theorem w_421 : (Jvm.Cond.instanceMethod ({ cls := "GorgeWire$Wire", name := "pulledAt", desc := "(II)I" } : Jvm.MethodName)) ∈ gtb := gt2 111 rfl rfl
theorem w_422 : (Jvm.Cond.selects "GorgeWire$Wire" ({ cls := "GorgeWire$Wire", name := "pulledAt", desc := "(II)I" } : Jvm.MethodName) ({ cls := "GorgeWire$Wire", name := "pulledAt", desc := "(II)I" } : Jvm.MethodName)) ∈ gtb := gt2 112 rfl rfl
theorem w_423 : (Jvm.Cond.code ({ cls := "GorgeWire$Wire", name := "pulledAt", desc := "(II)I" } : Jvm.MethodName) prog_12_method_11_code (4 : Nat) (Option.some Jvm.ClassFile.FieldType.int)) ∈ gtb := gt2 113 rfl rfl
theorem w_427 : (Jvm.Cond.code ({ cls := "GorgeWire", name := "most", desc := "()I" } : Jvm.MethodName) prog_1_method_6_code (3 : Nat) (Option.some Jvm.ClassFile.FieldType.int)) ∈ gtb := gt2 117 rfl rfl
theorem w_431 : (Jvm.Cond.code ({ cls := "GorgeWire", name := "tight", desc := "()I" } : Jvm.MethodName) prog_1_method_7_code (1 : Nat) (Option.some Jvm.ClassFile.FieldType.int)) ∈ gtb := gt2 121 rfl rfl
theorem w_432 : (Jvm.Cond.methodLink "GorgeWire" (104 : Nat) ({ cls := "GorgeWire$Wire", name := "taut", desc := "()I" } : Jvm.MethodName)) ∈ gtb := gt2 122 rfl rfl
theorem w_436 : (Jvm.Cond.code ({ cls := "GorgeWire", name := "ride", desc := "(III)I" } : Jvm.MethodName) prog_1_method_8_code (4 : Nat) (Option.some Jvm.ClassFile.FieldType.int)) ∈ gtb := gt2 126 rfl rfl
theorem w_437 : (Jvm.Cond.methodLink "GorgeWire" (112 : Nat) ({ cls := "GorgeWire", name := "mayGo", desc := "(I)Z" } : Jvm.MethodName)) ∈ gtb := gt2 127 rfl rfl
theorem w_439 : (Jvm.Cond.instanceMethod ({ cls := "GorgeWire", name := "mayGo", desc := "(I)Z" } : Jvm.MethodName)) ∈ gtb := gt2 129 rfl rfl
theorem w_440 : (Jvm.Cond.code ({ cls := "GorgeWire", name := "mayGo", desc := "(I)Z" } : Jvm.MethodName) prog_1_method_46_code (3 : Nat) (Option.some Jvm.ClassFile.FieldType.boolean)) ∈ gtb := gt2 130 rfl rfl
theorem w_441 : (Jvm.Cond.methodLink "GorgeWire" (169 : Nat) ({ cls := "GorgeWire$State", name := "textOf", desc := "(I)LGorgeWire$Row;" } : Jvm.MethodName)) ∈ gtb := gt2 131 rfl rfl
theorem w_442 : (Jvm.Cond.instanceMethod ({ cls := "GorgeWire$State", name := "textOf", desc := "(I)LGorgeWire$Row;" } : Jvm.MethodName)) ∈ gtb := gt2 132 rfl rfl
theorem w_443 : (Jvm.Cond.selects "GorgeWire$State" ({ cls := "GorgeWire$State", name := "textOf", desc := "(I)LGorgeWire$Row;" } : Jvm.MethodName) ({ cls := "GorgeWire$State", name := "textOf", desc := "(I)LGorgeWire$Row;" } : Jvm.MethodName)) ∈ gtb := gt2 133 rfl rfl
theorem w_444 : (Jvm.Cond.code ({ cls := "GorgeWire$State", name := "textOf", desc := "(I)LGorgeWire$Row;" } : Jvm.MethodName) prog_10_method_9_code (2 : Nat) (Option.some (Jvm.ClassFile.FieldType.object "GorgeWire$Row"))) ∈ gtb := gt2 134 rfl rfl
theorem w_445 : (Jvm.Cond.methodLink "GorgeWire" (180 : Nat) ({ cls := "GorgeWire$Reader", name := "gives", desc := "(LGorgeWire$Row;IIIII)I" } : Jvm.MethodName)) ∈ gtb := gt2 135 rfl rfl
theorem w_446 : (Jvm.Cond.instanceMethod ({ cls := "GorgeWire$Reader", name := "gives", desc := "(LGorgeWire$Row;IIIII)I" } : Jvm.MethodName)) ∈ gtb := gt2 136 rfl rfl
theorem w_447 : (Jvm.Cond.selects "GorgeWire$Reader" ({ cls := "GorgeWire$Reader", name := "gives", desc := "(LGorgeWire$Row;IIIII)I" } : Jvm.MethodName) ({ cls := "GorgeWire$Reader", name := "gives", desc := "(LGorgeWire$Row;IIIII)I" } : Jvm.MethodName)) ∈ gtb := gt2 137 rfl rfl
theorem w_448 : (Jvm.Cond.code ({ cls := "GorgeWire$Reader", name := "gives", desc := "(LGorgeWire$Row;IIIII)I" } : Jvm.MethodName) prog_6_method_3_code (8 : Nat) (Option.some Jvm.ClassFile.FieldType.int)) ∈ gtb := gt2 138 rfl rfl
theorem w_451 : (Jvm.Cond.methodLink "GorgeWire$Reader" (45 : Nat) ({ cls := "GorgeWire$Reader", name := "either", desc := "(I)I" } : Jvm.MethodName)) ∈ gtb := gt2 141 rfl rfl
theorem w_453 : (Jvm.Cond.instanceMethod ({ cls := "GorgeWire$Reader", name := "either", desc := "(I)I" } : Jvm.MethodName)) ∈ gtb := gt2 143 rfl rfl
theorem w_454 : (Jvm.Cond.code ({ cls := "GorgeWire$Reader", name := "either", desc := "(I)I" } : Jvm.MethodName) prog_6_method_8_code (5 : Nat) (Option.some Jvm.ClassFile.FieldType.int)) ∈ gtb := gt2 144 rfl rfl
theorem w_455 : (Jvm.Cond.methodLink "GorgeWire$Reader" (66 : Nat) ({ cls := "GorgeWire$Reader", name := "both", desc := "(I)I" } : Jvm.MethodName)) ∈ gtb := gt2 145 rfl rfl
theorem w_457 : (Jvm.Cond.instanceMethod ({ cls := "GorgeWire$Reader", name := "both", desc := "(I)I" } : Jvm.MethodName)) ∈ gtb := gt2 147 rfl rfl
theorem w_458 : (Jvm.Cond.code ({ cls := "GorgeWire$Reader", name := "both", desc := "(I)I" } : Jvm.MethodName) prog_6_method_9_code (5 : Nat) (Option.some Jvm.ClassFile.FieldType.int)) ∈ gtb := gt2 148 rfl rfl
theorem w_459 : (Jvm.Cond.methodLink "GorgeWire$Reader" (77 : Nat) ({ cls := "GorgeWire$Reader", name := "compared", desc := "(I)I" } : Jvm.MethodName)) ∈ gtb := gt2 149 rfl rfl
theorem w_461 : (Jvm.Cond.instanceMethod ({ cls := "GorgeWire$Reader", name := "compared", desc := "(I)I" } : Jvm.MethodName)) ∈ gtb := gt2 151 rfl rfl
theorem w_462 : (Jvm.Cond.code ({ cls := "GorgeWire$Reader", name := "compared", desc := "(I)I" } : Jvm.MethodName) prog_6_method_10_code (3 : Nat) (Option.some Jvm.ClassFile.FieldType.int)) ∈ gtb := gt2 152 rfl rfl
theorem w_463 : (Jvm.Cond.methodLink "GorgeWire$Reader" (80 : Nat) ({ cls := "GorgeWire$Reader", name := "sum", desc := "(I)I" } : Jvm.MethodName)) ∈ gtb := gt2 153 rfl rfl
theorem w_465 : (Jvm.Cond.instanceMethod ({ cls := "GorgeWire$Reader", name := "sum", desc := "(I)I" } : Jvm.MethodName)) ∈ gtb := gt2 155 rfl rfl
theorem w_466 : (Jvm.Cond.code ({ cls := "GorgeWire$Reader", name := "sum", desc := "(I)I" } : Jvm.MethodName) prog_6_method_11_code (4 : Nat) (Option.some Jvm.ClassFile.FieldType.int)) ∈ gtb := gt2 156 rfl rfl
theorem w_467 : (Jvm.Cond.methodLink "GorgeWire$Reader" (83 : Nat) ({ cls := "GorgeWire$Reader", name := "product", desc := "(I)I" } : Jvm.MethodName)) ∈ gtb := gt2 157 rfl rfl
theorem w_469 : (Jvm.Cond.instanceMethod ({ cls := "GorgeWire$Reader", name := "product", desc := "(I)I" } : Jvm.MethodName)) ∈ gtb := gt2 159 rfl rfl
theorem w_470 : (Jvm.Cond.code ({ cls := "GorgeWire$Reader", name := "product", desc := "(I)I" } : Jvm.MethodName) prog_6_method_12_code (5 : Nat) (Option.some Jvm.ClassFile.FieldType.int)) ∈ gtb := gt2 160 rfl rfl
theorem w_471 : (Jvm.Cond.methodLink "GorgeWire$Reader" (86 : Nat) ({ cls := "GorgeWire$Reader", name := "single", desc := "(I)I" } : Jvm.MethodName)) ∈ gtb := gt2 161 rfl rfl
theorem w_473 : (Jvm.Cond.instanceMethod ({ cls := "GorgeWire$Reader", name := "single", desc := "(I)I" } : Jvm.MethodName)) ∈ gtb := gt2 163 rfl rfl
theorem w_474 : (Jvm.Cond.code ({ cls := "GorgeWire$Reader", name := "single", desc := "(I)I" } : Jvm.MethodName) prog_6_method_13_code (4 : Nat) (Option.some Jvm.ClassFile.FieldType.int)) ∈ gtb := gt2 164 rfl rfl
theorem w_475 : (Jvm.Cond.methodLink "GorgeWire$Reader" (49 : Nat) ({ cls := "GorgeWire$Reader", name := "next", desc := "()I" } : Jvm.MethodName)) ∈ gtb := gt2 165 rfl rfl
theorem w_477 : (Jvm.Cond.instanceMethod ({ cls := "GorgeWire$Reader", name := "next", desc := "()I" } : Jvm.MethodName)) ∈ gtb := gt2 167 rfl rfl
theorem w_478 : (Jvm.Cond.code ({ cls := "GorgeWire$Reader", name := "next", desc := "()I" } : Jvm.MethodName) prog_6_method_4_code (1 : Nat) (Option.some Jvm.ClassFile.FieldType.int)) ∈ gtb := gt2 168 rfl rfl
theorem w_480 : (Jvm.Cond.methodLink "GorgeWire$Reader" (93 : Nat) ({ cls := "GorgeWire$Reader", name := "number", desc := "()I" } : Jvm.MethodName)) ∈ gtb := gt2 170 rfl rfl
theorem w_482 : (Jvm.Cond.instanceMethod ({ cls := "GorgeWire$Reader", name := "number", desc := "()I" } : Jvm.MethodName)) ∈ gtb := gt2 172 rfl rfl
theorem w_483 : (Jvm.Cond.code ({ cls := "GorgeWire$Reader", name := "number", desc := "()I" } : Jvm.MethodName) prog_6_method_15_code (3 : Nat) (Option.some Jvm.ClassFile.FieldType.int)) ∈ gtb := gt2 173 rfl rfl
theorem w_484 : (Jvm.Cond.methodLink "GorgeWire$Reader" (96 : Nat) ({ cls := "GorgeWire$Reader", name := "opened", desc := "(I)I" } : Jvm.MethodName)) ∈ gtb := gt2 174 rfl rfl
theorem w_486 : (Jvm.Cond.instanceMethod ({ cls := "GorgeWire$Reader", name := "opened", desc := "(I)I" } : Jvm.MethodName)) ∈ gtb := gt2 176 rfl rfl
theorem w_487 : (Jvm.Cond.code ({ cls := "GorgeWire$Reader", name := "opened", desc := "(I)I" } : Jvm.MethodName) prog_6_method_14_code (3 : Nat) (Option.some Jvm.ClassFile.FieldType.int)) ∈ gtb := gt2 177 rfl rfl
theorem w_488 : (Jvm.Cond.methodLink "GorgeWire$Reader" (69 : Nat) ({ cls := "GorgeWire$Reader", name := "takes", desc := "(C)Z" } : Jvm.MethodName)) ∈ gtb := gt2 178 rfl rfl
theorem w_490 : (Jvm.Cond.instanceMethod ({ cls := "GorgeWire$Reader", name := "takes", desc := "(C)Z" } : Jvm.MethodName)) ∈ gtb := gt2 180 rfl rfl
theorem w_491 : (Jvm.Cond.code ({ cls := "GorgeWire$Reader", name := "takes", desc := "(C)Z" } : Jvm.MethodName) prog_6_method_5_code (3 : Nat) (Option.some Jvm.ClassFile.FieldType.boolean)) ∈ gtb := gt2 181 rfl rfl
theorem w_492 : (Jvm.Cond.methodLink "GorgeWire$Reader" (73 : Nat) ({ cls := "GorgeWire$Reader", name := "truth", desc := "(Z)I" } : Jvm.MethodName)) ∈ gtb := gt2 182 rfl rfl
theorem w_493 : (Jvm.Cond.static ({ cls := "GorgeWire$Reader", name := "truth", desc := "(Z)I" } : Jvm.MethodName)) ∈ gtb := gt2 183 rfl rfl
theorem w_494 : (Jvm.Cond.code ({ cls := "GorgeWire$Reader", name := "truth", desc := "(Z)I" } : Jvm.MethodName) prog_6_method_7_code (1 : Nat) (Option.some Jvm.ClassFile.FieldType.int)) ∈ gtb := gt2 184 rfl rfl
theorem w_495 : (Jvm.Cond.methodLink "GorgeWire$Reader" (53 : Nat) ({ cls := "GorgeWire$Reader", name := "stopHere", desc := "()I" } : Jvm.MethodName)) ∈ gtb := gt2 185 rfl rfl
theorem w_497 : (Jvm.Cond.instanceMethod ({ cls := "GorgeWire$Reader", name := "stopHere", desc := "()I" } : Jvm.MethodName)) ∈ gtb := gt2 187 rfl rfl
theorem w_498 : (Jvm.Cond.code ({ cls := "GorgeWire$Reader", name := "stopHere", desc := "()I" } : Jvm.MethodName) prog_6_method_6_code (1 : Nat) (Option.some Jvm.ClassFile.FieldType.int)) ∈ gtb := gt2 188 rfl rfl
theorem w_502 : (Jvm.Cond.code ({ cls := "java/lang/String", name := "indexOf", desc := "(I)I" } : Jvm.MethodName) prog_18_method_79_code (2 : Nat) (Option.some Jvm.ClassFile.FieldType.int)) ∈ gtb := gt2 192 rfl rfl
theorem w_506 : (Jvm.Cond.code ({ cls := "java/lang/String", name := "indexOf", desc := "(II)I" } : Jvm.MethodName) prog_18_method_80_code (3 : Nat) (Option.some Jvm.ClassFile.FieldType.int)) ∈ gtb := gt2 196 rfl rfl
theorem w_510 : (Jvm.Cond.code ({ cls := "java/lang/StringLatin1", name := "indexOf", desc := "([BIII)I" } : Jvm.MethodName) prog_19_method_22_code (4 : Nat) (Option.some Jvm.ClassFile.FieldType.int)) ∈ gtb := gt2 200 rfl rfl
theorem w_513 : (Jvm.Cond.code ({ cls := "java/lang/StringLatin1", name := "canEncode", desc := "(I)Z" } : Jvm.MethodName) prog_19_method_4_code (1 : Nat) (Option.some Jvm.ClassFile.FieldType.boolean)) ∈ gtb := gt2 203 rfl rfl
theorem w_514 : (Jvm.Cond.methodLink "java/lang/StringLatin1" (92 : Nat) ({ cls := "java/lang/Math", name := "max", desc := "(II)I" } : Jvm.MethodName)) ∈ gtb := gt2 204 rfl rfl
theorem w_515 : (Jvm.Cond.methodLink "java/lang/StringLatin1" (38 : Nat) ({ cls := "java/lang/Math", name := "min", desc := "(II)I" } : Jvm.MethodName)) ∈ gtb := gt2 205 rfl rfl
theorem w_518 : (Jvm.Cond.code ({ cls := "java/lang/StringLatin1", name := "indexOfChar", desc := "([BIII)I" } : Jvm.MethodName) prog_19_method_23_code (6 : Nat) (Option.some Jvm.ClassFile.FieldType.int)) ∈ gtb := gt2 208 rfl rfl
theorem w_521 : (Jvm.Cond.code ({ cls := "java/lang/StringUTF16", name := "indexOf", desc := "([BIII)I" } : Jvm.MethodName) prog_20_method_40_code (4 : Nat) (Option.some Jvm.ClassFile.FieldType.int)) ∈ gtb := gt2 211 rfl rfl
theorem w_522 : (Jvm.Cond.methodLink "java/lang/StringUTF16" (224 : Nat) ({ cls := "java/lang/Math", name := "max", desc := "(II)I" } : Jvm.MethodName)) ∈ gtb := gt2 212 rfl rfl
theorem w_523 : (Jvm.Cond.methodLink "java/lang/StringUTF16" (183 : Nat) ({ cls := "java/lang/Math", name := "min", desc := "(II)I" } : Jvm.MethodName)) ∈ gtb := gt2 213 rfl rfl
theorem w_527 : (Jvm.Cond.code ({ cls := "java/lang/StringUTF16", name := "indexOfChar", desc := "([BIII)I" } : Jvm.MethodName) prog_20_method_47_code (4 : Nat) (Option.some Jvm.ClassFile.FieldType.int)) ∈ gtb := gt2 217 rfl rfl
theorem w_530 : (Jvm.Cond.code ({ cls := "java/lang/StringUTF16", name := "checkBoundsBeginEnd", desc := "(II[B)V" } : Jvm.MethodName) prog_20_method_93_code (3 : Nat) (Option.none : Option Jvm.ClassFile.FieldType)) ∈ gtb := gt2 220 rfl rfl
theorem w_533 : (Jvm.Cond.code ({ cls := "java/lang/String", name := "checkBoundsBeginEnd", desc := "(III)V" } : Jvm.MethodName) prog_18_method_158_code (3 : Nat) (Option.none : Option Jvm.ClassFile.FieldType)) ∈ gtb := gt2 223 rfl rfl
theorem w_536 : (Jvm.Cond.code ({ cls := "jdk/internal/util/Preconditions", name := "checkFromToIndex", desc := "(IIILjava/util/function/BiFunction;)I" } : Jvm.MethodName) prog_22_method_12_code (4 : Nat) (Option.some Jvm.ClassFile.FieldType.int)) ∈ gtb := gt2 226 rfl rfl
theorem w_539 : (Jvm.Cond.code ({ cls := "java/lang/StringUTF16", name := "indexOfCharUnsafe", desc := "([BIII)I" } : Jvm.MethodName) prog_20_method_48_code (5 : Nat) (Option.some Jvm.ClassFile.FieldType.int)) ∈ gtb := gt2 229 rfl rfl
theorem w_542 : (Jvm.Cond.code ({ cls := "java/lang/StringUTF16", name := "indexOfSupplementary", desc := "([BIII)I" } : Jvm.MethodName) prog_20_method_49_code (7 : Nat) (Option.some Jvm.ClassFile.FieldType.int)) ∈ gtb := gt2 232 rfl rfl
theorem w_545 : (Jvm.Cond.code ({ cls := "java/lang/Character", name := "isValidCodePoint", desc := "(I)Z" } : Jvm.MethodName) prog_15_method_11_code (2 : Nat) (Option.some Jvm.ClassFile.FieldType.boolean)) ∈ gtb := gt2 235 rfl rfl
theorem w_548 : (Jvm.Cond.code ({ cls := "java/lang/Character", name := "highSurrogate", desc := "(I)C" } : Jvm.MethodName) prog_15_method_28_code (1 : Nat) (Option.some Jvm.ClassFile.FieldType.char)) ∈ gtb := gt2 238 rfl rfl
theorem w_552 : (Jvm.Cond.code ({ cls := "java/lang/Character", name := "lowSurrogate", desc := "(I)C" } : Jvm.MethodName) prog_15_method_29_code (1 : Nat) (Option.some Jvm.ClassFile.FieldType.char)) ∈ gtb := gt3 2 rfl rfl
theorem w_555 : (Jvm.Cond.static ({ cls := "GorgeWire", name := "held", desc := "(III)I" } : Jvm.MethodName)) ∈ gtb := gt3 5 rfl rfl
theorem w_556 : (Jvm.Cond.code ({ cls := "GorgeWire", name := "held", desc := "(III)I" } : Jvm.MethodName) prog_1_method_44_code (3 : Nat) (Option.some Jvm.ClassFile.FieldType.int)) ∈ gtb := gt3 6 rfl rfl
theorem w_557 : (Jvm.Cond.methodLink "GorgeWire" (284 : Nat) ({ cls := "java/lang/Math", name := "min", desc := "(II)I" } : Jvm.MethodName)) ∈ gtb := gt3 7 rfl rfl
theorem w_558 : (Jvm.Cond.methodLink "GorgeWire" (289 : Nat) ({ cls := "java/lang/Math", name := "max", desc := "(II)I" } : Jvm.MethodName)) ∈ gtb := gt3 8 rfl rfl
theorem w_559 : (Jvm.Cond.methodLink "GorgeWire" (119 : Nat) ({ cls := "GorgeWire", name := "made", desc := "(IIII)LGorgeWire$Ride;" } : Jvm.MethodName)) ∈ gtb := gt3 9 rfl rfl
theorem w_561 : (Jvm.Cond.instanceMethod ({ cls := "GorgeWire", name := "made", desc := "(IIII)LGorgeWire$Ride;" } : Jvm.MethodName)) ∈ gtb := gt3 11 rfl rfl
theorem w_562 : (Jvm.Cond.code ({ cls := "GorgeWire", name := "made", desc := "(IIII)LGorgeWire$Ride;" } : Jvm.MethodName) prog_1_method_47_code (5 : Nat) (Option.some (Jvm.ClassFile.FieldType.object "GorgeWire$Ride"))) ∈ gtb := gt3 12 rfl rfl
theorem w_563 : (Jvm.Cond.classLink "GorgeWire" (292 : Nat) "GorgeWire$Rolled") ∈ gtb := gt3 13 rfl rfl
theorem w_564 : (Jvm.Cond.instantiable "GorgeWire$Rolled" (5 : Nat)) ∈ gtb := gt3 14 rfl rfl
theorem w_565 : (Jvm.Cond.methodLink "GorgeWire" (294 : Nat) ({ cls := "GorgeWire$Rolled", name := "<init>", desc := "(IIIILGorgeWire$Row;)V" } : Jvm.MethodName)) ∈ gtb := gt3 15 rfl rfl
theorem w_566 : (Jvm.Cond.instanceMethod ({ cls := "GorgeWire$Rolled", name := "<init>", desc := "(IIIILGorgeWire$Row;)V" } : Jvm.MethodName)) ∈ gtb := gt3 16 rfl rfl
theorem w_567 : (Jvm.Cond.code ({ cls := "GorgeWire$Rolled", name := "<init>", desc := "(IIIILGorgeWire$Row;)V" } : Jvm.MethodName) prog_8_method_1_code (6 : Nat) (Option.none : Option Jvm.ClassFile.FieldType)) ∈ gtb := gt3 17 rfl rfl
theorem w_568 : (Jvm.Cond.methodLink "GorgeWire$Rolled" (3 : Nat) ({ cls := "GorgeWire$Ride", name := "<init>", desc := "(IIIILGorgeWire$Row;)V" } : Jvm.MethodName)) ∈ gtb := gt3 18 rfl rfl
theorem w_569 : (Jvm.Cond.instanceMethod ({ cls := "GorgeWire$Ride", name := "<init>", desc := "(IIIILGorgeWire$Row;)V" } : Jvm.MethodName)) ∈ gtb := gt3 19 rfl rfl
theorem w_570 : (Jvm.Cond.code ({ cls := "GorgeWire$Ride", name := "<init>", desc := "(IIIILGorgeWire$Row;)V" } : Jvm.MethodName) prog_7_method_1_code (6 : Nat) (Option.none : Option Jvm.ClassFile.FieldType)) ∈ gtb := gt3 20 rfl rfl
theorem w_571 : (Jvm.Cond.methodLink "GorgeWire$Ride" (3 : Nat) ({ cls := "java/lang/Object", name := "<init>", desc := "()V" } : Jvm.MethodName)) ∈ gtb := gt3 21 rfl rfl
theorem w_572 : (Jvm.Cond.fieldLink "GorgeWire$Ride" (9 : Nat) "GorgeWire$Ride" "kind" "I") ∈ gtb := gt3 22 rfl rfl
theorem w_573 : (Jvm.Cond.fieldLink "GorgeWire$State" (109 : Nat) "GorgeWire$Ride" "kind" "I") ∈ gtb := gt3 23 rfl rfl
theorem w_574 : (Jvm.Cond.fieldLink "GorgeWire$Ride" (15 : Nat) "GorgeWire$Ride" "number" "I") ∈ gtb := gt3 24 rfl rfl
theorem w_575 : (Jvm.Cond.fieldLink "GorgeWire$Late" (30 : Nat) "GorgeWire$Late" "number" "I") ∈ gtb := gt3 25 rfl rfl
theorem w_576 : (Jvm.Cond.sameField "GorgeWire$Late" "GorgeWire$Ride" "number" "I") ∈ gtb := gt3 26 rfl rfl
theorem w_577 : (Jvm.Cond.fieldLink "GorgeWire$Ride" (18 : Nat) "GorgeWire$Ride" "weight" "I") ∈ gtb := gt3 27 rfl rfl
theorem w_578 : (Jvm.Cond.fieldLink "GorgeWire$State" (112 : Nat) "GorgeWire$Ride" "weight" "I") ∈ gtb := gt3 28 rfl rfl
theorem w_579 : (Jvm.Cond.fieldLink "GorgeWire" (138 : Nat) "GorgeWire$Ride" "weight" "I") ∈ gtb := gt3 29 rfl rfl
theorem w_580 : (Jvm.Cond.fieldLink "GorgeWire$Ride" (21 : Nat) "GorgeWire$Ride" "m" "I") ∈ gtb := gt3 30 rfl rfl
theorem w_581 : (Jvm.Cond.fieldLink "GorgeWire$Hauled" (7 : Nat) "GorgeWire$Hauled" "m" "I") ∈ gtb := gt3 31 rfl rfl
theorem w_582 : (Jvm.Cond.sameField "GorgeWire$Hauled" "GorgeWire$Ride" "m" "I") ∈ gtb := gt3 32 rfl rfl
theorem w_583 : (Jvm.Cond.fieldLink "GorgeWire$Braked" (11 : Nat) "GorgeWire$Braked" "m" "I") ∈ gtb := gt3 33 rfl rfl
theorem w_584 : (Jvm.Cond.sameField "GorgeWire$Braked" "GorgeWire$Ride" "m" "I") ∈ gtb := gt3 34 rfl rfl
theorem w_585 : (Jvm.Cond.fieldLink "GorgeWire$State" (115 : Nat) "GorgeWire$Ride" "m" "I") ∈ gtb := gt3 35 rfl rfl
theorem w_586 : (Jvm.Cond.fieldLink "GorgeWire$Ride" (24 : Nat) "GorgeWire$Ride" "traced" "LGorgeWire$Row;") ∈ gtb := gt3 36 rfl rfl
theorem w_587 : (Jvm.Cond.fieldLink "GorgeWire$Greased" (11 : Nat) "GorgeWire$Greased" "traced" "LGorgeWire$Row;") ∈ gtb := gt3 37 rfl rfl
theorem w_588 : (Jvm.Cond.sameField "GorgeWire$Greased" "GorgeWire$Ride" "traced" "LGorgeWire$Row;") ∈ gtb := gt3 38 rfl rfl
theorem w_589 : (Jvm.Cond.fieldLink "GorgeWire$Hauled" (13 : Nat) "GorgeWire$Hauled" "traced" "LGorgeWire$Row;") ∈ gtb := gt3 39 rfl rfl
theorem w_590 : (Jvm.Cond.sameField "GorgeWire$Hauled" "GorgeWire$Ride" "traced" "LGorgeWire$Row;") ∈ gtb := gt3 40 rfl rfl
theorem w_591 : (Jvm.Cond.fieldLink "GorgeWire$Rolled" (15 : Nat) "GorgeWire$Rolled" "traced" "LGorgeWire$Row;") ∈ gtb := gt3 41 rfl rfl
theorem w_592 : (Jvm.Cond.sameField "GorgeWire$Rolled" "GorgeWire$Ride" "traced" "LGorgeWire$Row;") ∈ gtb := gt3 42 rfl rfl
theorem w_593 : (Jvm.Cond.fieldLink "GorgeWire$Late" (15 : Nat) "GorgeWire$Late" "traced" "LGorgeWire$Row;") ∈ gtb := gt3 43 rfl rfl
theorem w_594 : (Jvm.Cond.sameField "GorgeWire$Late" "GorgeWire$Ride" "traced" "LGorgeWire$Row;") ∈ gtb := gt3 44 rfl rfl
theorem w_595 : (Jvm.Cond.fieldLink "GorgeWire$Windy" (15 : Nat) "GorgeWire$Windy" "traced" "LGorgeWire$Row;") ∈ gtb := gt3 45 rfl rfl
theorem w_596 : (Jvm.Cond.sameField "GorgeWire$Windy" "GorgeWire$Ride" "traced" "LGorgeWire$Row;") ∈ gtb := gt3 46 rfl rfl
theorem w_597 : (Jvm.Cond.fieldLink "GorgeWire$Braked" (21 : Nat) "GorgeWire$Braked" "traced" "LGorgeWire$Row;") ∈ gtb := gt3 47 rfl rfl
theorem w_598 : (Jvm.Cond.sameField "GorgeWire$Braked" "GorgeWire$Ride" "traced" "LGorgeWire$Row;") ∈ gtb := gt3 48 rfl rfl
theorem w_609 : (Jvm.Cond.superclass "GorgeWire$Rolled" "GorgeWire$Ride") ∈ gtb := gt3 59 rfl rfl
theorem w_610 : (Jvm.Cond.classLink "GorgeWire" (297 : Nat) "GorgeWire$Hauled") ∈ gtb := gt3 60 rfl rfl
theorem w_611 : (Jvm.Cond.instantiable "GorgeWire$Hauled" (5 : Nat)) ∈ gtb := gt3 61 rfl rfl
theorem w_612 : (Jvm.Cond.methodLink "GorgeWire" (299 : Nat) ({ cls := "GorgeWire$Hauled", name := "<init>", desc := "(IIIILGorgeWire$Row;)V" } : Jvm.MethodName)) ∈ gtb := gt3 62 rfl rfl
theorem w_613 : (Jvm.Cond.instanceMethod ({ cls := "GorgeWire$Hauled", name := "<init>", desc := "(IIIILGorgeWire$Row;)V" } : Jvm.MethodName)) ∈ gtb := gt3 63 rfl rfl
theorem w_614 : (Jvm.Cond.code ({ cls := "GorgeWire$Hauled", name := "<init>", desc := "(IIIILGorgeWire$Row;)V" } : Jvm.MethodName) prog_4_method_1_code (6 : Nat) (Option.none : Option Jvm.ClassFile.FieldType)) ∈ gtb := gt3 64 rfl rfl
theorem w_615 : (Jvm.Cond.methodLink "GorgeWire$Hauled" (1 : Nat) ({ cls := "GorgeWire$Ride", name := "<init>", desc := "(IIIILGorgeWire$Row;)V" } : Jvm.MethodName)) ∈ gtb := gt3 65 rfl rfl
theorem w_621 : (Jvm.Cond.superclass "GorgeWire$Hauled" "GorgeWire$Ride") ∈ gtb := gt3 71 rfl rfl
theorem w_622 : (Jvm.Cond.classLink "GorgeWire" (300 : Nat) "GorgeWire$Braked") ∈ gtb := gt3 72 rfl rfl
theorem w_623 : (Jvm.Cond.instantiable "GorgeWire$Braked" (5 : Nat)) ∈ gtb := gt3 73 rfl rfl
theorem w_624 : (Jvm.Cond.methodLink "GorgeWire" (302 : Nat) ({ cls := "GorgeWire$Braked", name := "<init>", desc := "(IIIILGorgeWire$Row;)V" } : Jvm.MethodName)) ∈ gtb := gt3 74 rfl rfl
theorem w_625 : (Jvm.Cond.instanceMethod ({ cls := "GorgeWire$Braked", name := "<init>", desc := "(IIIILGorgeWire$Row;)V" } : Jvm.MethodName)) ∈ gtb := gt3 75 rfl rfl
theorem w_626 : (Jvm.Cond.code ({ cls := "GorgeWire$Braked", name := "<init>", desc := "(IIIILGorgeWire$Row;)V" } : Jvm.MethodName) prog_2_method_1_code (6 : Nat) (Option.none : Option Jvm.ClassFile.FieldType)) ∈ gtb := gt3 76 rfl rfl
theorem w_627 : (Jvm.Cond.methodLink "GorgeWire$Braked" (1 : Nat) ({ cls := "GorgeWire$Rolled", name := "<init>", desc := "(IIIILGorgeWire$Row;)V" } : Jvm.MethodName)) ∈ gtb := gt3 77 rfl rfl
theorem w_633 : (Jvm.Cond.superclass "GorgeWire$Braked" "GorgeWire$Rolled") ∈ gtb := gt3 83 rfl rfl
theorem w_634 : (Jvm.Cond.classLink "GorgeWire" (303 : Nat) "GorgeWire$Windy") ∈ gtb := gt3 84 rfl rfl
theorem w_635 : (Jvm.Cond.instantiable "GorgeWire$Windy" (5 : Nat)) ∈ gtb := gt3 85 rfl rfl
theorem w_636 : (Jvm.Cond.methodLink "GorgeWire" (305 : Nat) ({ cls := "GorgeWire$Windy", name := "<init>", desc := "(IIIILGorgeWire$Row;)V" } : Jvm.MethodName)) ∈ gtb := gt3 86 rfl rfl
theorem w_637 : (Jvm.Cond.instanceMethod ({ cls := "GorgeWire$Windy", name := "<init>", desc := "(IIIILGorgeWire$Row;)V" } : Jvm.MethodName)) ∈ gtb := gt3 87 rfl rfl
theorem w_638 : (Jvm.Cond.code ({ cls := "GorgeWire$Windy", name := "<init>", desc := "(IIIILGorgeWire$Row;)V" } : Jvm.MethodName) prog_11_method_1_code (6 : Nat) (Option.none : Option Jvm.ClassFile.FieldType)) ∈ gtb := gt3 88 rfl rfl
theorem w_639 : (Jvm.Cond.methodLink "GorgeWire$Windy" (3 : Nat) ({ cls := "GorgeWire$Ride", name := "<init>", desc := "(IIIILGorgeWire$Row;)V" } : Jvm.MethodName)) ∈ gtb := gt3 89 rfl rfl
theorem w_645 : (Jvm.Cond.superclass "GorgeWire$Windy" "GorgeWire$Ride") ∈ gtb := gt3 95 rfl rfl
theorem w_646 : (Jvm.Cond.classLink "GorgeWire" (306 : Nat) "GorgeWire$Late") ∈ gtb := gt3 96 rfl rfl
theorem w_647 : (Jvm.Cond.instantiable "GorgeWire$Late" (5 : Nat)) ∈ gtb := gt3 97 rfl rfl
theorem w_648 : (Jvm.Cond.methodLink "GorgeWire" (308 : Nat) ({ cls := "GorgeWire$Late", name := "<init>", desc := "(IIIILGorgeWire$Row;)V" } : Jvm.MethodName)) ∈ gtb := gt3 98 rfl rfl
theorem w_649 : (Jvm.Cond.instanceMethod ({ cls := "GorgeWire$Late", name := "<init>", desc := "(IIIILGorgeWire$Row;)V" } : Jvm.MethodName)) ∈ gtb := gt3 99 rfl rfl
theorem w_650 : (Jvm.Cond.code ({ cls := "GorgeWire$Late", name := "<init>", desc := "(IIIILGorgeWire$Row;)V" } : Jvm.MethodName) prog_5_method_1_code (6 : Nat) (Option.none : Option Jvm.ClassFile.FieldType)) ∈ gtb := gt3 100 rfl rfl
theorem w_651 : (Jvm.Cond.methodLink "GorgeWire$Late" (3 : Nat) ({ cls := "GorgeWire$Braked", name := "<init>", desc := "(IIIILGorgeWire$Row;)V" } : Jvm.MethodName)) ∈ gtb := gt3 101 rfl rfl
theorem w_657 : (Jvm.Cond.superclass "GorgeWire$Late" "GorgeWire$Braked") ∈ gtb := gt3 107 rfl rfl
theorem w_658 : (Jvm.Cond.classLink "GorgeWire" (309 : Nat) "GorgeWire$Greased") ∈ gtb := gt3 108 rfl rfl
theorem w_659 : (Jvm.Cond.instantiable "GorgeWire$Greased" (5 : Nat)) ∈ gtb := gt3 109 rfl rfl
theorem w_660 : (Jvm.Cond.methodLink "GorgeWire" (311 : Nat) ({ cls := "GorgeWire$Greased", name := "<init>", desc := "(IIIILGorgeWire$Row;)V" } : Jvm.MethodName)) ∈ gtb := gt3 110 rfl rfl
theorem w_661 : (Jvm.Cond.instanceMethod ({ cls := "GorgeWire$Greased", name := "<init>", desc := "(IIIILGorgeWire$Row;)V" } : Jvm.MethodName)) ∈ gtb := gt3 111 rfl rfl
theorem w_662 : (Jvm.Cond.code ({ cls := "GorgeWire$Greased", name := "<init>", desc := "(IIIILGorgeWire$Row;)V" } : Jvm.MethodName) prog_3_method_1_code (6 : Nat) (Option.none : Option Jvm.ClassFile.FieldType)) ∈ gtb := gt3 112 rfl rfl
theorem w_663 : (Jvm.Cond.methodLink "GorgeWire$Greased" (1 : Nat) ({ cls := "GorgeWire$Hauled", name := "<init>", desc := "(IIIILGorgeWire$Row;)V" } : Jvm.MethodName)) ∈ gtb := gt3 113 rfl rfl
theorem w_669 : (Jvm.Cond.superclass "GorgeWire$Greased" "GorgeWire$Hauled") ∈ gtb := gt3 119 rfl rfl
theorem w_670 : (Jvm.Cond.classLink "GorgeWire" (139 : Nat) "GorgeWire$Ride") ∈ gtb := gt3 120 rfl rfl
theorem w_671 : (Jvm.Cond.instantiable "GorgeWire$Ride" (5 : Nat)) ∈ gtb := gt3 121 rfl rfl
theorem w_672 : (Jvm.Cond.methodLink "GorgeWire" (312 : Nat) ({ cls := "GorgeWire$Ride", name := "<init>", desc := "(IIIILGorgeWire$Row;)V" } : Jvm.MethodName)) ∈ gtb := gt3 122 rfl rfl
theorem w_679 : (Jvm.Cond.methodLink "GorgeWire" (123 : Nat) ({ cls := "GorgeWire$State", name := "addRide", desc := "(LGorgeWire$Ride;)I" } : Jvm.MethodName)) ∈ gtb := gt3 129 rfl rfl
theorem w_680 : (Jvm.Cond.instanceMethod ({ cls := "GorgeWire$State", name := "addRide", desc := "(LGorgeWire$Ride;)I" } : Jvm.MethodName)) ∈ gtb := gt3 130 rfl rfl
theorem w_681 : (Jvm.Cond.selects "GorgeWire$State" ({ cls := "GorgeWire$State", name := "addRide", desc := "(LGorgeWire$Ride;)I" } : Jvm.MethodName) ({ cls := "GorgeWire$State", name := "addRide", desc := "(LGorgeWire$Ride;)I" } : Jvm.MethodName)) ∈ gtb := gt3 131 rfl rfl
theorem w_682 : (Jvm.Cond.code ({ cls := "GorgeWire$State", name := "addRide", desc := "(LGorgeWire$Ride;)I" } : Jvm.MethodName) prog_10_method_5_code (3 : Nat) (Option.some Jvm.ClassFile.FieldType.int)) ∈ gtb := gt3 132 rfl rfl
theorem w_686 : (Jvm.Cond.code ({ cls := "GorgeWire", name := "ofRide", desc := "(II)I" } : Jvm.MethodName) prog_1_method_9_code (3 : Nat) (Option.some Jvm.ClassFile.FieldType.int)) ∈ gtb := gt3 136 rfl rfl
theorem w_687 : (Jvm.Cond.methodLink "GorgeWire" (127 : Nat) ({ cls := "GorgeWire$State", name := "rideAt", desc := "(I)LGorgeWire$Ride;" } : Jvm.MethodName)) ∈ gtb := gt3 137 rfl rfl
theorem w_688 : (Jvm.Cond.instanceMethod ({ cls := "GorgeWire$State", name := "rideAt", desc := "(I)LGorgeWire$Ride;" } : Jvm.MethodName)) ∈ gtb := gt3 138 rfl rfl
theorem w_689 : (Jvm.Cond.selects "GorgeWire$State" ({ cls := "GorgeWire$State", name := "rideAt", desc := "(I)LGorgeWire$Ride;" } : Jvm.MethodName) ({ cls := "GorgeWire$State", name := "rideAt", desc := "(I)LGorgeWire$Ride;" } : Jvm.MethodName)) ∈ gtb := gt3 139 rfl rfl
theorem w_690 : (Jvm.Cond.code ({ cls := "GorgeWire$State", name := "rideAt", desc := "(I)LGorgeWire$Ride;" } : Jvm.MethodName) prog_10_method_4_code (2 : Nat) (Option.some (Jvm.ClassFile.FieldType.object "GorgeWire$Ride"))) ∈ gtb := gt3 140 rfl rfl
theorem w_692 : (Jvm.Cond.methodLink "GorgeWire" (131 : Nat) ({ cls := "GorgeWire$State", name := "factOf", desc := "(II)I" } : Jvm.MethodName)) ∈ gtb := gt3 142 rfl rfl
theorem w_693 : (Jvm.Cond.instanceMethod ({ cls := "GorgeWire$State", name := "factOf", desc := "(II)I" } : Jvm.MethodName)) ∈ gtb := gt3 143 rfl rfl
theorem w_694 : (Jvm.Cond.selects "GorgeWire$State" ({ cls := "GorgeWire$State", name := "factOf", desc := "(II)I" } : Jvm.MethodName) ({ cls := "GorgeWire$State", name := "factOf", desc := "(II)I" } : Jvm.MethodName)) ∈ gtb := gt3 144 rfl rfl
theorem w_695 : (Jvm.Cond.code ({ cls := "GorgeWire$State", name := "factOf", desc := "(II)I" } : Jvm.MethodName) prog_10_method_6_code (4 : Nat) (Option.some Jvm.ClassFile.FieldType.int)) ∈ gtb := gt3 145 rfl rfl
theorem w_696 : (Jvm.Cond.methodLink "GorgeWire$State" (105 : Nat) ({ cls := "GorgeWire$State", name := "rideAt", desc := "(I)LGorgeWire$Ride;" } : Jvm.MethodName)) ∈ gtb := gt3 146 rfl rfl
theorem w_697 : (Jvm.Cond.methodLink "GorgeWire$State" (118 : Nat) ({ cls := "GorgeWire$Ride", name := "gain", desc := "(LGorgeWire$Wire;II)I" } : Jvm.MethodName)) ∈ gtb := gt3 147 rfl rfl
theorem w_698 : (Jvm.Cond.instanceMethod ({ cls := "GorgeWire$Ride", name := "gain", desc := "(LGorgeWire$Wire;II)I" } : Jvm.MethodName)) ∈ gtb := gt3 148 rfl rfl
theorem w_699 : (Jvm.Cond.selects "GorgeWire$Ride" ({ cls := "GorgeWire$Ride", name := "gain", desc := "(LGorgeWire$Wire;II)I" } : Jvm.MethodName) ({ cls := "GorgeWire$Ride", name := "gain", desc := "(LGorgeWire$Wire;II)I" } : Jvm.MethodName)) ∈ gtb := gt3 149 rfl rfl
theorem w_700 : (Jvm.Cond.sameMethod "GorgeWire$Ride" "GorgeWire$Ride" "gain" "(LGorgeWire$Wire;II)I") ∈ gtb := gt3 150 rfl rfl
theorem w_701 : (Jvm.Cond.selects "GorgeWire$Braked" ({ cls := "GorgeWire$Ride", name := "gain", desc := "(LGorgeWire$Wire;II)I" } : Jvm.MethodName) ({ cls := "GorgeWire$Ride", name := "gain", desc := "(LGorgeWire$Wire;II)I" } : Jvm.MethodName)) ∈ gtb := gt3 151 rfl rfl
theorem w_702 : (Jvm.Cond.selects "GorgeWire$Greased" ({ cls := "GorgeWire$Ride", name := "gain", desc := "(LGorgeWire$Wire;II)I" } : Jvm.MethodName) ({ cls := "GorgeWire$Ride", name := "gain", desc := "(LGorgeWire$Wire;II)I" } : Jvm.MethodName)) ∈ gtb := gt3 152 rfl rfl
theorem w_703 : (Jvm.Cond.selects "GorgeWire$Hauled" ({ cls := "GorgeWire$Ride", name := "gain", desc := "(LGorgeWire$Wire;II)I" } : Jvm.MethodName) ({ cls := "GorgeWire$Ride", name := "gain", desc := "(LGorgeWire$Wire;II)I" } : Jvm.MethodName)) ∈ gtb := gt3 153 rfl rfl
theorem w_704 : (Jvm.Cond.selects "GorgeWire$Late" ({ cls := "GorgeWire$Ride", name := "gain", desc := "(LGorgeWire$Wire;II)I" } : Jvm.MethodName) ({ cls := "GorgeWire$Ride", name := "gain", desc := "(LGorgeWire$Wire;II)I" } : Jvm.MethodName)) ∈ gtb := gt3 154 rfl rfl
theorem w_705 : (Jvm.Cond.selects "GorgeWire$Rolled" ({ cls := "GorgeWire$Ride", name := "gain", desc := "(LGorgeWire$Wire;II)I" } : Jvm.MethodName) ({ cls := "GorgeWire$Ride", name := "gain", desc := "(LGorgeWire$Wire;II)I" } : Jvm.MethodName)) ∈ gtb := gt3 155 rfl rfl
theorem w_706 : (Jvm.Cond.selects "GorgeWire$Windy" ({ cls := "GorgeWire$Ride", name := "gain", desc := "(LGorgeWire$Wire;II)I" } : Jvm.MethodName) ({ cls := "GorgeWire$Ride", name := "gain", desc := "(LGorgeWire$Wire;II)I" } : Jvm.MethodName)) ∈ gtb := gt3 156 rfl rfl
theorem w_707 : (Jvm.Cond.code ({ cls := "GorgeWire$Ride", name := "gain", desc := "(LGorgeWire$Wire;II)I" } : Jvm.MethodName) prog_7_method_2_code (4 : Nat) (Option.some Jvm.ClassFile.FieldType.int)) ∈ gtb := gt3 157 rfl rfl
theorem w_708 : (Jvm.Cond.methodLink "GorgeWire$Ride" (28 : Nat) ({ cls := "GorgeWire$Wire", name := "steepAt", desc := "(II)I" } : Jvm.MethodName)) ∈ gtb := gt3 158 rfl rfl
theorem w_709 : (Jvm.Cond.methodLink "GorgeWire$Ride" (34 : Nat) ({ cls := "GorgeWire$Ride", name := "gainOfKind", desc := "(LGorgeWire$Wire;II)I" } : Jvm.MethodName)) ∈ gtb := gt3 159 rfl rfl
theorem w_710 : (Jvm.Cond.instanceMethod ({ cls := "GorgeWire$Ride", name := "gainOfKind", desc := "(LGorgeWire$Wire;II)I" } : Jvm.MethodName)) ∈ gtb := gt3 160 rfl rfl
theorem w_711 : (Jvm.Cond.selects "GorgeWire$Ride" ({ cls := "GorgeWire$Ride", name := "gainOfKind", desc := "(LGorgeWire$Wire;II)I" } : Jvm.MethodName) ({ cls := "GorgeWire$Ride", name := "gainOfKind", desc := "(LGorgeWire$Wire;II)I" } : Jvm.MethodName)) ∈ gtb := gt3 161 rfl rfl
theorem w_712 : (Jvm.Cond.sameMethod "GorgeWire$Ride" "GorgeWire$Ride" "gainOfKind" "(LGorgeWire$Wire;II)I") ∈ gtb := gt3 162 rfl rfl
theorem w_713 : (Jvm.Cond.selects "GorgeWire$Braked" ({ cls := "GorgeWire$Ride", name := "gainOfKind", desc := "(LGorgeWire$Wire;II)I" } : Jvm.MethodName) ({ cls := "GorgeWire$Braked", name := "gainOfKind", desc := "(LGorgeWire$Wire;II)I" } : Jvm.MethodName)) ∈ gtb := gt3 163 rfl rfl
theorem w_714 : (Jvm.Cond.instanceMethod ({ cls := "GorgeWire$Braked", name := "gainOfKind", desc := "(LGorgeWire$Wire;II)I" } : Jvm.MethodName)) ∈ gtb := gt3 164 rfl rfl
theorem w_715 : (Jvm.Cond.code ({ cls := "GorgeWire$Braked", name := "gainOfKind", desc := "(LGorgeWire$Wire;II)I" } : Jvm.MethodName) prog_2_method_2_code (5 : Nat) (Option.some Jvm.ClassFile.FieldType.int)) ∈ gtb := gt3 165 rfl rfl
theorem w_716 : (Jvm.Cond.methodLink "GorgeWire$Braked" (7 : Nat) ({ cls := "GorgeWire$Rolled", name := "gainOfKind", desc := "(LGorgeWire$Wire;II)I" } : Jvm.MethodName)) ∈ gtb := gt3 166 rfl rfl
theorem w_717 : (Jvm.Cond.instanceMethod ({ cls := "GorgeWire$Rolled", name := "gainOfKind", desc := "(LGorgeWire$Wire;II)I" } : Jvm.MethodName)) ∈ gtb := gt3 167 rfl rfl
theorem w_718 : (Jvm.Cond.code ({ cls := "GorgeWire$Rolled", name := "gainOfKind", desc := "(LGorgeWire$Wire;II)I" } : Jvm.MethodName) prog_8_method_2_code (4 : Nat) (Option.some Jvm.ClassFile.FieldType.int)) ∈ gtb := gt3 168 rfl rfl
theorem w_719 : (Jvm.Cond.methodLink "GorgeWire$Rolled" (9 : Nat) ({ cls := "GorgeWire$Wire", name := "of", desc := "(I)I" } : Jvm.MethodName)) ∈ gtb := gt3 169 rfl rfl
theorem w_720 : (Jvm.Cond.methodLink "GorgeWire$Braked" (17 : Nat) ({ cls := "GorgeWire$Braked", name := "brakesAt", desc := "(LGorgeWire$Wire;I)Z" } : Jvm.MethodName)) ∈ gtb := gt3 170 rfl rfl
theorem w_721 : (Jvm.Cond.instanceMethod ({ cls := "GorgeWire$Braked", name := "brakesAt", desc := "(LGorgeWire$Wire;I)Z" } : Jvm.MethodName)) ∈ gtb := gt3 171 rfl rfl
theorem w_722 : (Jvm.Cond.selects "GorgeWire$Braked" ({ cls := "GorgeWire$Braked", name := "brakesAt", desc := "(LGorgeWire$Wire;I)Z" } : Jvm.MethodName) ({ cls := "GorgeWire$Braked", name := "brakesAt", desc := "(LGorgeWire$Wire;I)Z" } : Jvm.MethodName)) ∈ gtb := gt3 172 rfl rfl
theorem w_723 : (Jvm.Cond.sameMethod "GorgeWire$Braked" "GorgeWire$Braked" "brakesAt" "(LGorgeWire$Wire;I)Z") ∈ gtb := gt3 173 rfl rfl
theorem w_724 : (Jvm.Cond.selects "GorgeWire$Late" ({ cls := "GorgeWire$Braked", name := "brakesAt", desc := "(LGorgeWire$Wire;I)Z" } : Jvm.MethodName) ({ cls := "GorgeWire$Late", name := "brakesAt", desc := "(LGorgeWire$Wire;I)Z" } : Jvm.MethodName)) ∈ gtb := gt3 174 rfl rfl
theorem w_725 : (Jvm.Cond.instanceMethod ({ cls := "GorgeWire$Late", name := "brakesAt", desc := "(LGorgeWire$Wire;I)Z" } : Jvm.MethodName)) ∈ gtb := gt3 175 rfl rfl
theorem w_726 : (Jvm.Cond.code ({ cls := "GorgeWire$Late", name := "brakesAt", desc := "(LGorgeWire$Wire;I)Z" } : Jvm.MethodName) prog_5_method_2_code (3 : Nat) (Option.some Jvm.ClassFile.FieldType.boolean)) ∈ gtb := gt3 176 rfl rfl
theorem w_727 : (Jvm.Cond.methodLink "GorgeWire$Late" (9 : Nat) ({ cls := "GorgeWire$Wire", name := "of", desc := "(I)I" } : Jvm.MethodName)) ∈ gtb := gt3 177 rfl rfl
theorem w_728 : (Jvm.Cond.code ({ cls := "GorgeWire$Braked", name := "brakesAt", desc := "(LGorgeWire$Wire;I)Z" } : Jvm.MethodName) prog_2_method_3_code (3 : Nat) (Option.some Jvm.ClassFile.FieldType.boolean)) ∈ gtb := gt3 178 rfl rfl
theorem w_729 : (Jvm.Cond.selects "GorgeWire$Greased" ({ cls := "GorgeWire$Ride", name := "gainOfKind", desc := "(LGorgeWire$Wire;II)I" } : Jvm.MethodName) ({ cls := "GorgeWire$Hauled", name := "gainOfKind", desc := "(LGorgeWire$Wire;II)I" } : Jvm.MethodName)) ∈ gtb := gt3 179 rfl rfl
theorem w_730 : (Jvm.Cond.instanceMethod ({ cls := "GorgeWire$Hauled", name := "gainOfKind", desc := "(LGorgeWire$Wire;II)I" } : Jvm.MethodName)) ∈ gtb := gt3 180 rfl rfl
theorem w_731 : (Jvm.Cond.code ({ cls := "GorgeWire$Hauled", name := "gainOfKind", desc := "(LGorgeWire$Wire;II)I" } : Jvm.MethodName) prog_4_method_2_code (4 : Nat) (Option.some Jvm.ClassFile.FieldType.int)) ∈ gtb := gt3 181 rfl rfl
theorem w_732 : (Jvm.Cond.selects "GorgeWire$Hauled" ({ cls := "GorgeWire$Ride", name := "gainOfKind", desc := "(LGorgeWire$Wire;II)I" } : Jvm.MethodName) ({ cls := "GorgeWire$Hauled", name := "gainOfKind", desc := "(LGorgeWire$Wire;II)I" } : Jvm.MethodName)) ∈ gtb := gt3 182 rfl rfl
theorem w_733 : (Jvm.Cond.selects "GorgeWire$Late" ({ cls := "GorgeWire$Ride", name := "gainOfKind", desc := "(LGorgeWire$Wire;II)I" } : Jvm.MethodName) ({ cls := "GorgeWire$Braked", name := "gainOfKind", desc := "(LGorgeWire$Wire;II)I" } : Jvm.MethodName)) ∈ gtb := gt3 183 rfl rfl
theorem w_734 : (Jvm.Cond.selects "GorgeWire$Rolled" ({ cls := "GorgeWire$Ride", name := "gainOfKind", desc := "(LGorgeWire$Wire;II)I" } : Jvm.MethodName) ({ cls := "GorgeWire$Rolled", name := "gainOfKind", desc := "(LGorgeWire$Wire;II)I" } : Jvm.MethodName)) ∈ gtb := gt3 184 rfl rfl
theorem w_735 : (Jvm.Cond.selects "GorgeWire$Windy" ({ cls := "GorgeWire$Ride", name := "gainOfKind", desc := "(LGorgeWire$Wire;II)I" } : Jvm.MethodName) ({ cls := "GorgeWire$Windy", name := "gainOfKind", desc := "(LGorgeWire$Wire;II)I" } : Jvm.MethodName)) ∈ gtb := gt3 185 rfl rfl
theorem w_736 : (Jvm.Cond.instanceMethod ({ cls := "GorgeWire$Windy", name := "gainOfKind", desc := "(LGorgeWire$Wire;II)I" } : Jvm.MethodName)) ∈ gtb := gt3 186 rfl rfl
theorem w_737 : (Jvm.Cond.code ({ cls := "GorgeWire$Windy", name := "gainOfKind", desc := "(LGorgeWire$Wire;II)I" } : Jvm.MethodName) prog_11_method_2_code (4 : Nat) (Option.some Jvm.ClassFile.FieldType.int)) ∈ gtb := gt3 187 rfl rfl
theorem w_738 : (Jvm.Cond.methodLink "GorgeWire$Windy" (9 : Nat) ({ cls := "GorgeWire$Wire", name := "of", desc := "(I)I" } : Jvm.MethodName)) ∈ gtb := gt3 188 rfl rfl
theorem w_739 : (Jvm.Cond.code ({ cls := "GorgeWire$Ride", name := "gainOfKind", desc := "(LGorgeWire$Wire;II)I" } : Jvm.MethodName) prog_7_method_3_code (4 : Nat) (Option.some Jvm.ClassFile.FieldType.int)) ∈ gtb := gt3 189 rfl rfl
theorem w_740 : (Jvm.Cond.methodLink "GorgeWire$State" (122 : Nat) ({ cls := "GorgeWire$Ride", name := "rubs", desc := "(LGorgeWire$Wire;)I" } : Jvm.MethodName)) ∈ gtb := gt3 190 rfl rfl
theorem w_741 : (Jvm.Cond.instanceMethod ({ cls := "GorgeWire$Ride", name := "rubs", desc := "(LGorgeWire$Wire;)I" } : Jvm.MethodName)) ∈ gtb := gt3 191 rfl rfl
theorem w_742 : (Jvm.Cond.selects "GorgeWire$Ride" ({ cls := "GorgeWire$Ride", name := "rubs", desc := "(LGorgeWire$Wire;)I" } : Jvm.MethodName) ({ cls := "GorgeWire$Ride", name := "rubs", desc := "(LGorgeWire$Wire;)I" } : Jvm.MethodName)) ∈ gtb := gt3 192 rfl rfl
theorem w_743 : (Jvm.Cond.sameMethod "GorgeWire$Ride" "GorgeWire$Ride" "rubs" "(LGorgeWire$Wire;)I") ∈ gtb := gt3 193 rfl rfl
theorem w_744 : (Jvm.Cond.selects "GorgeWire$Braked" ({ cls := "GorgeWire$Ride", name := "rubs", desc := "(LGorgeWire$Wire;)I" } : Jvm.MethodName) ({ cls := "GorgeWire$Ride", name := "rubs", desc := "(LGorgeWire$Wire;)I" } : Jvm.MethodName)) ∈ gtb := gt3 194 rfl rfl
theorem w_745 : (Jvm.Cond.selects "GorgeWire$Greased" ({ cls := "GorgeWire$Ride", name := "rubs", desc := "(LGorgeWire$Wire;)I" } : Jvm.MethodName) ({ cls := "GorgeWire$Greased", name := "rubs", desc := "(LGorgeWire$Wire;)I" } : Jvm.MethodName)) ∈ gtb := gt3 195 rfl rfl
theorem w_746 : (Jvm.Cond.instanceMethod ({ cls := "GorgeWire$Greased", name := "rubs", desc := "(LGorgeWire$Wire;)I" } : Jvm.MethodName)) ∈ gtb := gt3 196 rfl rfl
theorem w_747 : (Jvm.Cond.code ({ cls := "GorgeWire$Greased", name := "rubs", desc := "(LGorgeWire$Wire;)I" } : Jvm.MethodName) prog_3_method_2_code (2 : Nat) (Option.some Jvm.ClassFile.FieldType.int)) ∈ gtb := gt3 197 rfl rfl
theorem w_748 : (Jvm.Cond.methodLink "GorgeWire$Greased" (7 : Nat) ({ cls := "GorgeWire$Hauled", name := "rubs", desc := "(LGorgeWire$Wire;)I" } : Jvm.MethodName)) ∈ gtb := gt3 198 rfl rfl
theorem w_749 : (Jvm.Cond.sameMethod "GorgeWire$Hauled" "GorgeWire$Ride" "rubs" "(LGorgeWire$Wire;)I") ∈ gtb := gt3 199 rfl rfl
theorem w_751 : (Jvm.Cond.selects "GorgeWire$Hauled" ({ cls := "GorgeWire$Ride", name := "rubs", desc := "(LGorgeWire$Wire;)I" } : Jvm.MethodName) ({ cls := "GorgeWire$Ride", name := "rubs", desc := "(LGorgeWire$Wire;)I" } : Jvm.MethodName)) ∈ gtb := gt3 201 rfl rfl
theorem w_752 : (Jvm.Cond.selects "GorgeWire$Late" ({ cls := "GorgeWire$Ride", name := "rubs", desc := "(LGorgeWire$Wire;)I" } : Jvm.MethodName) ({ cls := "GorgeWire$Ride", name := "rubs", desc := "(LGorgeWire$Wire;)I" } : Jvm.MethodName)) ∈ gtb := gt3 202 rfl rfl
theorem w_753 : (Jvm.Cond.selects "GorgeWire$Rolled" ({ cls := "GorgeWire$Ride", name := "rubs", desc := "(LGorgeWire$Wire;)I" } : Jvm.MethodName) ({ cls := "GorgeWire$Ride", name := "rubs", desc := "(LGorgeWire$Wire;)I" } : Jvm.MethodName)) ∈ gtb := gt3 203 rfl rfl
theorem w_754 : (Jvm.Cond.selects "GorgeWire$Windy" ({ cls := "GorgeWire$Ride", name := "rubs", desc := "(LGorgeWire$Wire;)I" } : Jvm.MethodName) ({ cls := "GorgeWire$Ride", name := "rubs", desc := "(LGorgeWire$Wire;)I" } : Jvm.MethodName)) ∈ gtb := gt3 204 rfl rfl
theorem w_755 : (Jvm.Cond.code ({ cls := "GorgeWire$Ride", name := "rubs", desc := "(LGorgeWire$Wire;)I" } : Jvm.MethodName) prog_7_method_4_code (2 : Nat) (Option.some Jvm.ClassFile.FieldType.int)) ∈ gtb := gt3 205 rfl rfl
theorem w_756 : (Jvm.Cond.methodLink "GorgeWire$Ride" (38 : Nat) ({ cls := "GorgeWire$Wire", name := "of", desc := "(I)I" } : Jvm.MethodName)) ∈ gtb := gt3 206 rfl rfl
theorem w_760 : (Jvm.Cond.code ({ cls := "GorgeWire", name := "as", desc := "(II)I" } : Jvm.MethodName) prog_1_method_10_code (4 : Nat) (Option.some Jvm.ClassFile.FieldType.int)) ∈ gtb := gt3 210 rfl rfl
theorem w_761 : (Jvm.Cond.methodLink "GorgeWire" (134 : Nat) ({ cls := "GorgeWire", name := "isOf", desc := "(LGorgeWire$Ride;I)Z" } : Jvm.MethodName)) ∈ gtb := gt3 211 rfl rfl
theorem w_762 : (Jvm.Cond.static ({ cls := "GorgeWire", name := "isOf", desc := "(LGorgeWire$Ride;I)Z" } : Jvm.MethodName)) ∈ gtb := gt3 212 rfl rfl
theorem w_763 : (Jvm.Cond.code ({ cls := "GorgeWire", name := "isOf", desc := "(LGorgeWire$Ride;I)Z" } : Jvm.MethodName) prog_1_method_48_code (2 : Nat) (Option.some Jvm.ClassFile.FieldType.boolean)) ∈ gtb := gt3 213 rfl rfl
theorem w_767 : (Jvm.Cond.code ({ cls := "GorgeWire", name := "start", desc := "(III)I" } : Jvm.MethodName) prog_1_method_11_code (5 : Nat) (Option.some Jvm.ClassFile.FieldType.int)) ∈ gtb := gt3 217 rfl rfl
theorem w_768 : (Jvm.Cond.methodLink "GorgeWire" (143 : Nat) ({ cls := "GorgeWire$Wire", name := "end", desc := "()I" } : Jvm.MethodName)) ∈ gtb := gt3 218 rfl rfl
theorem w_772 : (Jvm.Cond.code ({ cls := "GorgeWire", name := "feed", desc := "(JI)I" } : Jvm.MethodName) prog_1_method_12_code (5 : Nat) (Option.some Jvm.ClassFile.FieldType.int)) ∈ gtb := gt3 222 rfl rfl
theorem w_773 : (Jvm.Cond.methodLink "GorgeWire" (162 : Nat) ({ cls := "GorgeWire$Row", name := "add", desc := "(I)V" } : Jvm.MethodName)) ∈ gtb := gt3 223 rfl rfl
theorem w_777 : (Jvm.Cond.code ({ cls := "GorgeWire", name := "text", desc := "(I)I" } : Jvm.MethodName) prog_1_method_13_code (3 : Nat) (Option.some Jvm.ClassFile.FieldType.int)) ∈ gtb := gt3 227 rfl rfl
theorem w_778 : (Jvm.Cond.methodLink "GorgeWire" (165 : Nat) ({ cls := "GorgeWire$Reader", name := "faultOf", desc := "(LGorgeWire$Row;I)I" } : Jvm.MethodName)) ∈ gtb := gt3 228 rfl rfl
theorem w_779 : (Jvm.Cond.instanceMethod ({ cls := "GorgeWire$Reader", name := "faultOf", desc := "(LGorgeWire$Row;I)I" } : Jvm.MethodName)) ∈ gtb := gt3 229 rfl rfl
theorem w_780 : (Jvm.Cond.selects "GorgeWire$Reader" ({ cls := "GorgeWire$Reader", name := "faultOf", desc := "(LGorgeWire$Row;I)I" } : Jvm.MethodName) ({ cls := "GorgeWire$Reader", name := "faultOf", desc := "(LGorgeWire$Row;I)I" } : Jvm.MethodName)) ∈ gtb := gt3 230 rfl rfl
theorem w_781 : (Jvm.Cond.code ({ cls := "GorgeWire$Reader", name := "faultOf", desc := "(LGorgeWire$Row;I)I" } : Jvm.MethodName) prog_6_method_2_code (3 : Nat) (Option.some Jvm.ClassFile.FieldType.int)) ∈ gtb := gt3 231 rfl rfl
theorem w_782 : (Jvm.Cond.methodLink "GorgeWire$Reader" (37 : Nat) ({ cls := "GorgeWire$Reader", name := "gives", desc := "(LGorgeWire$Row;IIIII)I" } : Jvm.MethodName)) ∈ gtb := gt3 232 rfl rfl
theorem w_783 : (Jvm.Cond.methodLink "GorgeWire" (173 : Nat) ({ cls := "GorgeWire$Row", name := "copyFrom", desc := "(LGorgeWire$Row;)V" } : Jvm.MethodName)) ∈ gtb := gt3 233 rfl rfl
theorem w_784 : (Jvm.Cond.instanceMethod ({ cls := "GorgeWire$Row", name := "copyFrom", desc := "(LGorgeWire$Row;)V" } : Jvm.MethodName)) ∈ gtb := gt3 234 rfl rfl
theorem w_785 : (Jvm.Cond.selects "GorgeWire$Row" ({ cls := "GorgeWire$Row", name := "copyFrom", desc := "(LGorgeWire$Row;)V" } : Jvm.MethodName) ({ cls := "GorgeWire$Row", name := "copyFrom", desc := "(LGorgeWire$Row;)V" } : Jvm.MethodName)) ∈ gtb := gt3 235 rfl rfl
theorem w_786 : (Jvm.Cond.code ({ cls := "GorgeWire$Row", name := "copyFrom", desc := "(LGorgeWire$Row;)V" } : Jvm.MethodName) prog_9_method_10_code (2 : Nat) (Option.none : Option Jvm.ClassFile.FieldType)) ∈ gtb := gt3 236 rfl rfl
theorem w_787 : (Jvm.Cond.methodLink "GorgeWire$Row" (47 : Nat) ({ cls := "java/lang/Math", name := "min", desc := "(II)I" } : Jvm.MethodName)) ∈ gtb := gt3 237 rfl rfl
theorem w_788 : (Jvm.Cond.methodLink "GorgeWire$Row" (50 : Nat) ({ cls := "java/lang/System", name := "arraycopy", desc := "(Ljava/lang/Object;ILjava/lang/Object;II)V" } : Jvm.MethodName)) ∈ gtb := gt3 238 rfl rfl
theorem w_789 : (Jvm.Cond.static ({ cls := "java/lang/System", name := "arraycopy", desc := "(Ljava/lang/Object;ILjava/lang/Object;II)V" } : Jvm.MethodName)) ∈ gtb := gt3 239 rfl rfl
theorem w_790 : (Jvm.Cond.native ({ cls := "java/lang/System", name := "arraycopy", desc := "(Ljava/lang/Object;ILjava/lang/Object;II)V" } : Jvm.MethodName)) ∈ gtb := gt4 0 rfl rfl
theorem w_791 : (Jvm.Cond.methodLink "GorgeWire" (177 : Nat) ({ cls := "GorgeWire$Row", name := "clear", desc := "()V" } : Jvm.MethodName)) ∈ gtb := gt4 1 rfl rfl
theorem w_792 : (Jvm.Cond.instanceMethod ({ cls := "GorgeWire$Row", name := "clear", desc := "()V" } : Jvm.MethodName)) ∈ gtb := gt4 2 rfl rfl
theorem w_793 : (Jvm.Cond.selects "GorgeWire$Row" ({ cls := "GorgeWire$Row", name := "clear", desc := "()V" } : Jvm.MethodName) ({ cls := "GorgeWire$Row", name := "clear", desc := "()V" } : Jvm.MethodName)) ∈ gtb := gt4 3 rfl rfl
theorem w_794 : (Jvm.Cond.code ({ cls := "GorgeWire$Row", name := "clear", desc := "()V" } : Jvm.MethodName) prog_9_method_9_code (1 : Nat) (Option.none : Option Jvm.ClassFile.FieldType)) ∈ gtb := gt4 4 rfl rfl
theorem w_798 : (Jvm.Cond.code ({ cls := "GorgeWire", name := "law", desc := "(IIIII)I" } : Jvm.MethodName) prog_1_method_14_code (6 : Nat) (Option.some Jvm.ClassFile.FieldType.int)) ∈ gtb := gt4 8 rfl rfl
theorem w_802 : (Jvm.Cond.code ({ cls := "GorgeWire", name := "ticks", desc := "(I)I" } : Jvm.MethodName) prog_1_method_15_code (2 : Nat) (Option.some Jvm.ClassFile.FieldType.int)) ∈ gtb := gt4 12 rfl rfl
theorem w_803 : (Jvm.Cond.constant "GorgeWire" (187 : Nat) (99999 : Int32)) ∈ gtb := gt4 13 rfl rfl
theorem w_804 : (Jvm.Cond.methodLink "GorgeWire" (188 : Nat) ({ cls := "GorgeWire$State", name := "pass", desc := "(I)V" } : Jvm.MethodName)) ∈ gtb := gt4 14 rfl rfl
theorem w_805 : (Jvm.Cond.instanceMethod ({ cls := "GorgeWire$State", name := "pass", desc := "(I)V" } : Jvm.MethodName)) ∈ gtb := gt4 15 rfl rfl
theorem w_806 : (Jvm.Cond.selects "GorgeWire$State" ({ cls := "GorgeWire$State", name := "pass", desc := "(I)V" } : Jvm.MethodName) ({ cls := "GorgeWire$State", name := "pass", desc := "(I)V" } : Jvm.MethodName)) ∈ gtb := gt4 16 rfl rfl
theorem w_807 : (Jvm.Cond.code ({ cls := "GorgeWire$State", name := "pass", desc := "(I)V" } : Jvm.MethodName) prog_10_method_11_code (5 : Nat) (Option.none : Option Jvm.ClassFile.FieldType)) ∈ gtb := gt4 17 rfl rfl
theorem w_808 : (Jvm.Cond.methodLink "GorgeWire$State" (137 : Nat) ({ cls := "GorgeWire$State", name := "goesOn", desc := "(I)Z" } : Jvm.MethodName)) ∈ gtb := gt4 18 rfl rfl
theorem w_809 : (Jvm.Cond.instanceMethod ({ cls := "GorgeWire$State", name := "goesOn", desc := "(I)Z" } : Jvm.MethodName)) ∈ gtb := gt4 19 rfl rfl
theorem w_810 : (Jvm.Cond.selects "GorgeWire$State" ({ cls := "GorgeWire$State", name := "goesOn", desc := "(I)Z" } : Jvm.MethodName) ({ cls := "GorgeWire$State", name := "goesOn", desc := "(I)Z" } : Jvm.MethodName)) ∈ gtb := gt4 20 rfl rfl
theorem w_811 : (Jvm.Cond.code ({ cls := "GorgeWire$State", name := "goesOn", desc := "(I)Z" } : Jvm.MethodName) prog_10_method_12_code (6 : Nat) (Option.some Jvm.ClassFile.FieldType.boolean)) ∈ gtb := gt4 21 rfl rfl
theorem w_812 : (Jvm.Cond.methodLink "GorgeWire$State" (144 : Nat) ({ cls := "GorgeWire$State", name := "rubbed", desc := "(II)I" } : Jvm.MethodName)) ∈ gtb := gt4 22 rfl rfl
theorem w_813 : (Jvm.Cond.static ({ cls := "GorgeWire$State", name := "rubbed", desc := "(II)I" } : Jvm.MethodName)) ∈ gtb := gt4 23 rfl rfl
theorem w_814 : (Jvm.Cond.code ({ cls := "GorgeWire$State", name := "rubbed", desc := "(II)I" } : Jvm.MethodName) prog_10_method_13_code (2 : Nat) (Option.some Jvm.ClassFile.FieldType.int)) ∈ gtb := gt4 24 rfl rfl
theorem w_815 : (Jvm.Cond.methodLink "GorgeWire$State" (154 : Nat) ({ cls := "java/lang/Math", name := "max", desc := "(II)I" } : Jvm.MethodName)) ∈ gtb := gt4 25 rfl rfl
theorem w_817 : (Jvm.Cond.methodLink "GorgeWire$State" (151 : Nat) ({ cls := "GorgeWire$State", name := "comeIn", desc := "(I)V" } : Jvm.MethodName)) ∈ gtb := gt4 27 rfl rfl
theorem w_819 : (Jvm.Cond.instanceMethod ({ cls := "GorgeWire$State", name := "comeIn", desc := "(I)V" } : Jvm.MethodName)) ∈ gtb := gt4 29 rfl rfl
theorem w_820 : (Jvm.Cond.code ({ cls := "GorgeWire$State", name := "comeIn", desc := "(I)V" } : Jvm.MethodName) prog_10_method_14_code (2 : Nat) (Option.none : Option Jvm.ClassFile.FieldType)) ∈ gtb := gt4 30 rfl rfl
theorem w_821 : (Jvm.Cond.methodLink "GorgeWire$State" (141 : Nat) ({ cls := "GorgeWire$State", name := "wearStrands", desc := "(I)V" } : Jvm.MethodName)) ∈ gtb := gt4 31 rfl rfl
theorem w_823 : (Jvm.Cond.instanceMethod ({ cls := "GorgeWire$State", name := "wearStrands", desc := "(I)V" } : Jvm.MethodName)) ∈ gtb := gt4 33 rfl rfl
theorem w_824 : (Jvm.Cond.code ({ cls := "GorgeWire$State", name := "wearStrands", desc := "(I)V" } : Jvm.MethodName) prog_10_method_15_code (5 : Nat) (Option.none : Option Jvm.ClassFile.FieldType)) ∈ gtb := gt4 34 rfl rfl
theorem w_825 : (Jvm.Cond.methodLink "GorgeWire$State" (157 : Nat) ({ cls := "GorgeWire$Wire", name := "of", desc := "(I)I" } : Jvm.MethodName)) ∈ gtb := gt4 35 rfl rfl
theorem w_826 : (Jvm.Cond.methodLink "GorgeWire$State" (161 : Nat) ({ cls := "GorgeWire$Reader", name := "gives", desc := "(LGorgeWire$Row;IIIII)I" } : Jvm.MethodName)) ∈ gtb := gt4 36 rfl rfl
theorem w_827 : (Jvm.Cond.methodLink "GorgeWire$State" (167 : Nat) ({ cls := "GorgeWire$Wire", name := "becomes", desc := "(II)V" } : Jvm.MethodName)) ∈ gtb := gt4 37 rfl rfl
theorem w_831 : (Jvm.Cond.code ({ cls := "GorgeWire", name := "gusts", desc := "(I)I" } : Jvm.MethodName) prog_1_method_16_code (3 : Nat) (Option.some Jvm.ClassFile.FieldType.int)) ∈ gtb := gt4 41 rfl rfl
theorem w_832 : (Jvm.Cond.methodLink "GorgeWire" (191 : Nat) ({ cls := "GorgeWire$State", name := "draw", desc := "()I" } : Jvm.MethodName)) ∈ gtb := gt4 42 rfl rfl
theorem w_833 : (Jvm.Cond.instanceMethod ({ cls := "GorgeWire$State", name := "draw", desc := "()I" } : Jvm.MethodName)) ∈ gtb := gt4 43 rfl rfl
theorem w_834 : (Jvm.Cond.selects "GorgeWire$State" ({ cls := "GorgeWire$State", name := "draw", desc := "()I" } : Jvm.MethodName) ({ cls := "GorgeWire$State", name := "draw", desc := "()I" } : Jvm.MethodName)) ∈ gtb := gt4 44 rfl rfl
theorem w_835 : (Jvm.Cond.code ({ cls := "GorgeWire$State", name := "draw", desc := "()I" } : Jvm.MethodName) prog_10_method_10_code (1 : Nat) (Option.some Jvm.ClassFile.FieldType.int)) ∈ gtb := gt4 45 rfl rfl
theorem w_836 : (Jvm.Cond.constant "GorgeWire$State" (136 : Nat) (1103515245 : Int32)) ∈ gtb := gt4 46 rfl rfl
theorem w_840 : (Jvm.Cond.code ({ cls := "GorgeWire", name := "then", desc := "(III)I" } : Jvm.MethodName) prog_1_method_17_code (4 : Nat) (Option.some Jvm.ClassFile.FieldType.int)) ∈ gtb := gt4 50 rfl rfl
theorem w_841 : (Jvm.Cond.methodLink "GorgeWire" (194 : Nat) ({ cls := "GorgeWire", name := "lookAhead", desc := "(I)V" } : Jvm.MethodName)) ∈ gtb := gt4 51 rfl rfl
theorem w_843 : (Jvm.Cond.instanceMethod ({ cls := "GorgeWire", name := "lookAhead", desc := "(I)V" } : Jvm.MethodName)) ∈ gtb := gt4 53 rfl rfl
theorem w_844 : (Jvm.Cond.code ({ cls := "GorgeWire", name := "lookAhead", desc := "(I)V" } : Jvm.MethodName) prog_1_method_49_code (2 : Nat) (Option.none : Option Jvm.ClassFile.FieldType)) ∈ gtb := gt4 54 rfl rfl
theorem w_845 : (Jvm.Cond.methodLink "GorgeWire" (197 : Nat) ({ cls := "GorgeWire$State", name := "copyFrom", desc := "(LGorgeWire$State;)V" } : Jvm.MethodName)) ∈ gtb := gt4 55 rfl rfl
theorem w_846 : (Jvm.Cond.instanceMethod ({ cls := "GorgeWire$State", name := "copyFrom", desc := "(LGorgeWire$State;)V" } : Jvm.MethodName)) ∈ gtb := gt4 56 rfl rfl
theorem w_847 : (Jvm.Cond.selects "GorgeWire$State" ({ cls := "GorgeWire$State", name := "copyFrom", desc := "(LGorgeWire$State;)V" } : Jvm.MethodName) ({ cls := "GorgeWire$State", name := "copyFrom", desc := "(LGorgeWire$State;)V" } : Jvm.MethodName)) ∈ gtb := gt4 57 rfl rfl
theorem w_848 : (Jvm.Cond.code ({ cls := "GorgeWire$State", name := "copyFrom", desc := "(LGorgeWire$State;)V" } : Jvm.MethodName) prog_10_method_2_code (3 : Nat) (Option.none : Option Jvm.ClassFile.FieldType)) ∈ gtb := gt4 58 rfl rfl
theorem w_849 : (Jvm.Cond.methodLink "GorgeWire$State" (90 : Nat) ({ cls := "GorgeWire$Wire", name := "copyFrom", desc := "(LGorgeWire$Wire;)V" } : Jvm.MethodName)) ∈ gtb := gt4 59 rfl rfl
theorem w_850 : (Jvm.Cond.instanceMethod ({ cls := "GorgeWire$Wire", name := "copyFrom", desc := "(LGorgeWire$Wire;)V" } : Jvm.MethodName)) ∈ gtb := gt4 60 rfl rfl
theorem w_851 : (Jvm.Cond.selects "GorgeWire$Wire" ({ cls := "GorgeWire$Wire", name := "copyFrom", desc := "(LGorgeWire$Wire;)V" } : Jvm.MethodName) ({ cls := "GorgeWire$Wire", name := "copyFrom", desc := "(LGorgeWire$Wire;)V" } : Jvm.MethodName)) ∈ gtb := gt4 61 rfl rfl
theorem w_852 : (Jvm.Cond.code ({ cls := "GorgeWire$Wire", name := "copyFrom", desc := "(LGorgeWire$Wire;)V" } : Jvm.MethodName) prog_12_method_5_code (2 : Nat) (Option.none : Option Jvm.ClassFile.FieldType)) ∈ gtb := gt4 62 rfl rfl
theorem w_853 : (Jvm.Cond.methodLink "GorgeWire$Wire" (37 : Nat) ({ cls := "java/lang/System", name := "arraycopy", desc := "(Ljava/lang/Object;ILjava/lang/Object;II)V" } : Jvm.MethodName)) ∈ gtb := gt4 63 rfl rfl
theorem w_854 : (Jvm.Cond.methodLink "GorgeWire$State" (94 : Nat) ({ cls := "GorgeWire$State", name := "copyRide", desc := "(LGorgeWire$State;I)V" } : Jvm.MethodName)) ∈ gtb := gt4 64 rfl rfl
theorem w_855 : (Jvm.Cond.instanceMethod ({ cls := "GorgeWire$State", name := "copyRide", desc := "(LGorgeWire$State;I)V" } : Jvm.MethodName)) ∈ gtb := gt4 65 rfl rfl
theorem w_856 : (Jvm.Cond.selects "GorgeWire$State" ({ cls := "GorgeWire$State", name := "copyRide", desc := "(LGorgeWire$State;I)V" } : Jvm.MethodName) ({ cls := "GorgeWire$State", name := "copyRide", desc := "(LGorgeWire$State;I)V" } : Jvm.MethodName)) ∈ gtb := gt4 66 rfl rfl
theorem w_857 : (Jvm.Cond.code ({ cls := "GorgeWire$State", name := "copyRide", desc := "(LGorgeWire$State;I)V" } : Jvm.MethodName) prog_10_method_3_code (3 : Nat) (Option.none : Option Jvm.ClassFile.FieldType)) ∈ gtb := gt4 67 rfl rfl
theorem w_858 : (Jvm.Cond.methodLink "GorgeWire$State" (98 : Nat) ({ cls := "GorgeWire$Row", name := "copyFrom", desc := "(LGorgeWire$Row;)V" } : Jvm.MethodName)) ∈ gtb := gt4 68 rfl rfl
theorem w_862 : (Jvm.Cond.code ({ cls := "GorgeWire", name := "strands", desc := "(I)I" } : Jvm.MethodName) prog_1_method_18_code (2 : Nat) (Option.some Jvm.ClassFile.FieldType.int)) ∈ gtb := gt4 72 rfl rfl
theorem w_866 : (Jvm.Cond.code ({ cls := "GorgeWire", name := "stands", desc := "(I)I" } : Jvm.MethodName) prog_1_method_19_code (3 : Nat) (Option.some Jvm.ClassFile.FieldType.int)) ∈ gtb := gt4 76 rfl rfl
theorem w_867 : (Jvm.Cond.methodLink "GorgeWire" (200 : Nat) ({ cls := "GorgeWire$State", name := "goesOn", desc := "(I)Z" } : Jvm.MethodName)) ∈ gtb := gt4 77 rfl rfl
theorem w_871 : (Jvm.Cond.code ({ cls := "GorgeWire", name := "comes", desc := "(I)I" } : Jvm.MethodName) prog_1_method_20_code (3 : Nat) (Option.some Jvm.ClassFile.FieldType.int)) ∈ gtb := gt4 81 rfl rfl
theorem w_872 : (Jvm.Cond.methodLink "GorgeWire" (203 : Nat) ({ cls := "GorgeWire$State", name := "comesWithin", desc := "(II)I" } : Jvm.MethodName)) ∈ gtb := gt4 82 rfl rfl
theorem w_873 : (Jvm.Cond.instanceMethod ({ cls := "GorgeWire$State", name := "comesWithin", desc := "(II)I" } : Jvm.MethodName)) ∈ gtb := gt4 83 rfl rfl
theorem w_874 : (Jvm.Cond.selects "GorgeWire$State" ({ cls := "GorgeWire$State", name := "comesWithin", desc := "(II)I" } : Jvm.MethodName) ({ cls := "GorgeWire$State", name := "comesWithin", desc := "(II)I" } : Jvm.MethodName)) ∈ gtb := gt4 84 rfl rfl
theorem w_875 : (Jvm.Cond.code ({ cls := "GorgeWire$State", name := "comesWithin", desc := "(II)I" } : Jvm.MethodName) prog_10_method_16_code (4 : Nat) (Option.some Jvm.ClassFile.FieldType.int)) ∈ gtb := gt4 85 rfl rfl
theorem w_879 : (Jvm.Cond.code ({ cls := "GorgeWire", name := "snug", desc := "(III)I" } : Jvm.MethodName) prog_1_method_21_code (4 : Nat) (Option.some Jvm.ClassFile.FieldType.int)) ∈ gtb := gt4 89 rfl rfl
theorem w_880 : (Jvm.Cond.methodLink "GorgeWire" (206 : Nat) ({ cls := "GorgeWire", name := "leastBy", desc := "(IIIIIII)I" } : Jvm.MethodName)) ∈ gtb := gt4 90 rfl rfl
theorem w_882 : (Jvm.Cond.instanceMethod ({ cls := "GorgeWire", name := "leastBy", desc := "(IIIIIII)I" } : Jvm.MethodName)) ∈ gtb := gt4 92 rfl rfl
theorem w_883 : (Jvm.Cond.code ({ cls := "GorgeWire", name := "leastBy", desc := "(IIIIIII)I" } : Jvm.MethodName) prog_1_method_50_code (9 : Nat) (Option.some Jvm.ClassFile.FieldType.int)) ∈ gtb := gt4 93 rfl rfl
theorem w_884 : (Jvm.Cond.methodLink "GorgeWire" (313 : Nat) ({ cls := "GorgeWire$State", name := "copyRide", desc := "(LGorgeWire$State;I)V" } : Jvm.MethodName)) ∈ gtb := gt4 94 rfl rfl
theorem w_888 : (Jvm.Cond.code ({ cls := "GorgeWire", name := "lower", desc := "(II)I" } : Jvm.MethodName) prog_1_method_22_code (3 : Nat) (Option.some Jvm.ClassFile.FieldType.int)) ∈ gtb := gt4 98 rfl rfl
theorem w_892 : (Jvm.Cond.code ({ cls := "GorgeWire", name := "line", desc := "(II)I" } : Jvm.MethodName) prog_1_method_23_code (3 : Nat) (Option.some Jvm.ClassFile.FieldType.int)) ∈ gtb := gt4 102 rfl rfl
theorem w_893 : (Jvm.Cond.methodLink "GorgeWire" (210 : Nat) ({ cls := "GorgeWire", name := "isLine", desc := "(II)Z" } : Jvm.MethodName)) ∈ gtb := gt4 103 rfl rfl
theorem w_894 : (Jvm.Cond.static ({ cls := "GorgeWire", name := "isLine", desc := "(II)Z" } : Jvm.MethodName)) ∈ gtb := gt4 104 rfl rfl
theorem w_895 : (Jvm.Cond.code ({ cls := "GorgeWire", name := "isLine", desc := "(II)Z" } : Jvm.MethodName) prog_1_method_51_code (2 : Nat) (Option.some Jvm.ClassFile.FieldType.boolean)) ∈ gtb := gt4 105 rfl rfl
theorem w_896 : (Jvm.Cond.methodLink "GorgeWire" (216 : Nat) ({ cls := "GorgeWire$Row", name := "isFull", desc := "()Z" } : Jvm.MethodName)) ∈ gtb := gt4 106 rfl rfl
theorem w_897 : (Jvm.Cond.instanceMethod ({ cls := "GorgeWire$Row", name := "isFull", desc := "()Z" } : Jvm.MethodName)) ∈ gtb := gt4 107 rfl rfl
theorem w_898 : (Jvm.Cond.selects "GorgeWire$Row" ({ cls := "GorgeWire$Row", name := "isFull", desc := "()Z" } : Jvm.MethodName) ({ cls := "GorgeWire$Row", name := "isFull", desc := "()Z" } : Jvm.MethodName)) ∈ gtb := gt4 108 rfl rfl
theorem w_899 : (Jvm.Cond.code ({ cls := "GorgeWire$Row", name := "isFull", desc := "()Z" } : Jvm.MethodName) prog_9_method_2_code (1 : Nat) (Option.some Jvm.ClassFile.FieldType.boolean)) ∈ gtb := gt4 109 rfl rfl
theorem w_900 : (Jvm.Cond.methodLink "GorgeWire" (220 : Nat) ({ cls := "GorgeWire", name := "addLine", desc := "(II)I" } : Jvm.MethodName)) ∈ gtb := gt4 110 rfl rfl
theorem w_902 : (Jvm.Cond.instanceMethod ({ cls := "GorgeWire", name := "addLine", desc := "(II)I" } : Jvm.MethodName)) ∈ gtb := gt4 112 rfl rfl
theorem w_903 : (Jvm.Cond.code ({ cls := "GorgeWire", name := "addLine", desc := "(II)I" } : Jvm.MethodName) prog_1_method_52_code (3 : Nat) (Option.some Jvm.ClassFile.FieldType.int)) ∈ gtb := gt4 113 rfl rfl
theorem w_907 : (Jvm.Cond.code ({ cls := "GorgeWire", name := "lines", desc := "(I)I" } : Jvm.MethodName) prog_1_method_24_code (4 : Nat) (Option.some Jvm.ClassFile.FieldType.int)) ∈ gtb := gt4 117 rfl rfl
theorem w_908 : (Jvm.Cond.methodLink "GorgeWire" (223 : Nat) ({ cls := "GorgeWire$Row", name := "at", desc := "(I)I" } : Jvm.MethodName)) ∈ gtb := gt4 118 rfl rfl
theorem w_909 : (Jvm.Cond.instanceMethod ({ cls := "GorgeWire$Row", name := "at", desc := "(I)I" } : Jvm.MethodName)) ∈ gtb := gt4 119 rfl rfl
theorem w_910 : (Jvm.Cond.selects "GorgeWire$Row" ({ cls := "GorgeWire$Row", name := "at", desc := "(I)I" } : Jvm.MethodName) ({ cls := "GorgeWire$Row", name := "at", desc := "(I)I" } : Jvm.MethodName)) ∈ gtb := gt4 120 rfl rfl
theorem w_911 : (Jvm.Cond.code ({ cls := "GorgeWire$Row", name := "at", desc := "(I)I" } : Jvm.MethodName) prog_9_method_5_code (2 : Nat) (Option.some Jvm.ClassFile.FieldType.int)) ∈ gtb := gt4 121 rfl rfl
theorem w_916 : (Jvm.Cond.code ({ cls := "GorgeWire", name := "over", desc := "(II)I" } : Jvm.MethodName) prog_1_method_25_code (3 : Nat) (Option.some Jvm.ClassFile.FieldType.int)) ∈ gtb := gt4 126 rfl rfl
theorem w_917 : (Jvm.Cond.methodLink "GorgeWire" (226 : Nat) ({ cls := "GorgeWire", name := "findLinesToGo", desc := "(I)V" } : Jvm.MethodName)) ∈ gtb := gt4 127 rfl rfl
theorem w_919 : (Jvm.Cond.instanceMethod ({ cls := "GorgeWire", name := "findLinesToGo", desc := "(I)V" } : Jvm.MethodName)) ∈ gtb := gt4 129 rfl rfl
theorem w_920 : (Jvm.Cond.code ({ cls := "GorgeWire", name := "findLinesToGo", desc := "(I)V" } : Jvm.MethodName) prog_1_method_54_code (5 : Nat) (Option.none : Option Jvm.ClassFile.FieldType)) ∈ gtb := gt4 130 rfl rfl
theorem w_921 : (Jvm.Cond.methodLink "GorgeWire" (323 : Nat) ({ cls := "GorgeWire", name := "nextOf", desc := "(II)I" } : Jvm.MethodName)) ∈ gtb := gt4 131 rfl rfl
theorem w_923 : (Jvm.Cond.instanceMethod ({ cls := "GorgeWire", name := "nextOf", desc := "(II)I" } : Jvm.MethodName)) ∈ gtb := gt4 133 rfl rfl
theorem w_924 : (Jvm.Cond.code ({ cls := "GorgeWire", name := "nextOf", desc := "(II)I" } : Jvm.MethodName) prog_1_method_55_code (4 : Nat) (Option.some Jvm.ClassFile.FieldType.int)) ∈ gtb := gt4 134 rfl rfl
theorem w_925 : (Jvm.Cond.methodLink "GorgeWire" (326 : Nat) ({ cls := "GorgeWire", name := "pulls", desc := "(II)Z" } : Jvm.MethodName)) ∈ gtb := gt4 135 rfl rfl
theorem w_927 : (Jvm.Cond.instanceMethod ({ cls := "GorgeWire", name := "pulls", desc := "(II)Z" } : Jvm.MethodName)) ∈ gtb := gt4 137 rfl rfl
theorem w_928 : (Jvm.Cond.code ({ cls := "GorgeWire", name := "pulls", desc := "(II)Z" } : Jvm.MethodName) prog_1_method_53_code (3 : Nat) (Option.some Jvm.ClassFile.FieldType.boolean)) ∈ gtb := gt4 138 rfl rfl
theorem w_929 : (Jvm.Cond.methodLink "GorgeWire" (229 : Nat) ({ cls := "GorgeWire", name := "lineOfRow", desc := "(I)I" } : Jvm.MethodName)) ∈ gtb := gt4 139 rfl rfl
theorem w_931 : (Jvm.Cond.instanceMethod ({ cls := "GorgeWire", name := "lineOfRow", desc := "(I)I" } : Jvm.MethodName)) ∈ gtb := gt4 141 rfl rfl
theorem w_932 : (Jvm.Cond.code ({ cls := "GorgeWire", name := "lineOfRow", desc := "(I)I" } : Jvm.MethodName) prog_1_method_56_code (4 : Nat) (Option.some Jvm.ClassFile.FieldType.int)) ∈ gtb := gt4 142 rfl rfl
theorem w_936 : (Jvm.Cond.code ({ cls := "GorgeWire", name := "load", desc := "(II)I" } : Jvm.MethodName) prog_1_method_26_code (3 : Nat) (Option.some Jvm.ClassFile.FieldType.int)) ∈ gtb := gt4 146 rfl rfl
theorem w_940 : (Jvm.Cond.code ({ cls := "GorgeWire", name := "unload", desc := "()I" } : Jvm.MethodName) prog_1_method_27_code (2 : Nat) (Option.some Jvm.ClassFile.FieldType.int)) ∈ gtb := gt4 150 rfl rfl
theorem w_944 : (Jvm.Cond.code ({ cls := "GorgeWire", name := "order", desc := "(I)I" } : Jvm.MethodName) prog_1_method_28_code (2 : Nat) (Option.some Jvm.ClassFile.FieldType.int)) ∈ gtb := gt4 154 rfl rfl
theorem w_945 : (Jvm.Cond.constant "GorgeWire" (238 : Nat) (1000000 : Int32)) ∈ gtb := gt4 155 rfl rfl
theorem w_946 : (Jvm.Cond.methodLink "GorgeWire" (239 : Nat) ({ cls := "GorgeWire", name := "tryOrders", desc := "(IIII)V" } : Jvm.MethodName)) ∈ gtb := gt4 156 rfl rfl
theorem w_948 : (Jvm.Cond.instanceMethod ({ cls := "GorgeWire", name := "tryOrders", desc := "(IIII)V" } : Jvm.MethodName)) ∈ gtb := gt4 158 rfl rfl
theorem w_949 : (Jvm.Cond.code ({ cls := "GorgeWire", name := "tryOrders", desc := "(IIII)V" } : Jvm.MethodName) prog_1_method_57_code (9 : Nat) (Option.none : Option Jvm.ClassFile.FieldType)) ∈ gtb := gt4 159 rfl rfl
theorem w_950 : (Jvm.Cond.methodLink "GorgeWire" (271 : Nat) ({ cls := "java/lang/System", name := "arraycopy", desc := "(Ljava/lang/Object;ILjava/lang/Object;II)V" } : Jvm.MethodName)) ∈ gtb := gt4 160 rfl rfl
theorem w_954 : (Jvm.Cond.code ({ cls := "GorgeWire", name := "bridge", desc := "(II)I" } : Jvm.MethodName) prog_1_method_29_code (3 : Nat) (Option.some Jvm.ClassFile.FieldType.int)) ∈ gtb := gt4 164 rfl rfl
theorem w_958 : (Jvm.Cond.code ({ cls := "GorgeWire", name := "seed", desc := "(I)I" } : Jvm.MethodName) prog_1_method_30_code (3 : Nat) (Option.some Jvm.ClassFile.FieldType.int)) ∈ gtb := gt4 168 rfl rfl
theorem w_962 : (Jvm.Cond.code ({ cls := "GorgeWire", name := "voice", desc := "(III)I" } : Jvm.MethodName) prog_1_method_31_code (5 : Nat) (Option.some Jvm.ClassFile.FieldType.int)) ∈ gtb := gt4 172 rfl rfl
theorem w_963 : (Jvm.Cond.methodLink "GorgeWire" (246 : Nat) ({ cls := "GorgeWire$Ride", name := "hangs", desc := "(I)I" } : Jvm.MethodName)) ∈ gtb := gt4 173 rfl rfl
theorem w_964 : (Jvm.Cond.instanceMethod ({ cls := "GorgeWire$Ride", name := "hangs", desc := "(I)I" } : Jvm.MethodName)) ∈ gtb := gt4 174 rfl rfl
theorem w_965 : (Jvm.Cond.selects "GorgeWire$Ride" ({ cls := "GorgeWire$Ride", name := "hangs", desc := "(I)I" } : Jvm.MethodName) ({ cls := "GorgeWire$Ride", name := "hangs", desc := "(I)I" } : Jvm.MethodName)) ∈ gtb := gt4 175 rfl rfl
theorem w_966 : (Jvm.Cond.sameMethod "GorgeWire$Ride" "GorgeWire$Ride" "hangs" "(I)I") ∈ gtb := gt4 176 rfl rfl
theorem w_967 : (Jvm.Cond.selects "GorgeWire$Braked" ({ cls := "GorgeWire$Ride", name := "hangs", desc := "(I)I" } : Jvm.MethodName) ({ cls := "GorgeWire$Ride", name := "hangs", desc := "(I)I" } : Jvm.MethodName)) ∈ gtb := gt4 177 rfl rfl
theorem w_968 : (Jvm.Cond.selects "GorgeWire$Greased" ({ cls := "GorgeWire$Ride", name := "hangs", desc := "(I)I" } : Jvm.MethodName) ({ cls := "GorgeWire$Greased", name := "hangs", desc := "(I)I" } : Jvm.MethodName)) ∈ gtb := gt4 178 rfl rfl
theorem w_969 : (Jvm.Cond.instanceMethod ({ cls := "GorgeWire$Greased", name := "hangs", desc := "(I)I" } : Jvm.MethodName)) ∈ gtb := gt4 179 rfl rfl
theorem w_970 : (Jvm.Cond.code ({ cls := "GorgeWire$Greased", name := "hangs", desc := "(I)I" } : Jvm.MethodName) prog_3_method_3_code (2 : Nat) (Option.some Jvm.ClassFile.FieldType.int)) ∈ gtb := gt4 180 rfl rfl
theorem w_971 : (Jvm.Cond.methodLink "GorgeWire$Greased" (17 : Nat) ({ cls := "GorgeWire$Row", name := "add", desc := "(I)V" } : Jvm.MethodName)) ∈ gtb := gt4 181 rfl rfl
theorem w_972 : (Jvm.Cond.methodLink "GorgeWire$Greased" (23 : Nat) ({ cls := "GorgeWire$Hauled", name := "hangs", desc := "(I)I" } : Jvm.MethodName)) ∈ gtb := gt4 182 rfl rfl
theorem w_973 : (Jvm.Cond.instanceMethod ({ cls := "GorgeWire$Hauled", name := "hangs", desc := "(I)I" } : Jvm.MethodName)) ∈ gtb := gt4 183 rfl rfl
theorem w_974 : (Jvm.Cond.code ({ cls := "GorgeWire$Hauled", name := "hangs", desc := "(I)I" } : Jvm.MethodName) prog_4_method_3_code (2 : Nat) (Option.some Jvm.ClassFile.FieldType.int)) ∈ gtb := gt4 184 rfl rfl
theorem w_975 : (Jvm.Cond.methodLink "GorgeWire$Hauled" (17 : Nat) ({ cls := "GorgeWire$Row", name := "add", desc := "(I)V" } : Jvm.MethodName)) ∈ gtb := gt4 185 rfl rfl
theorem w_976 : (Jvm.Cond.methodLink "GorgeWire$Hauled" (23 : Nat) ({ cls := "GorgeWire$Ride", name := "hangs", desc := "(I)I" } : Jvm.MethodName)) ∈ gtb := gt4 186 rfl rfl
theorem w_977 : (Jvm.Cond.selects "GorgeWire$Hauled" ({ cls := "GorgeWire$Ride", name := "hangs", desc := "(I)I" } : Jvm.MethodName) ({ cls := "GorgeWire$Hauled", name := "hangs", desc := "(I)I" } : Jvm.MethodName)) ∈ gtb := gt4 187 rfl rfl
theorem w_978 : (Jvm.Cond.selects "GorgeWire$Late" ({ cls := "GorgeWire$Ride", name := "hangs", desc := "(I)I" } : Jvm.MethodName) ({ cls := "GorgeWire$Ride", name := "hangs", desc := "(I)I" } : Jvm.MethodName)) ∈ gtb := gt4 188 rfl rfl
theorem w_979 : (Jvm.Cond.selects "GorgeWire$Rolled" ({ cls := "GorgeWire$Ride", name := "hangs", desc := "(I)I" } : Jvm.MethodName) ({ cls := "GorgeWire$Ride", name := "hangs", desc := "(I)I" } : Jvm.MethodName)) ∈ gtb := gt4 189 rfl rfl
theorem w_980 : (Jvm.Cond.selects "GorgeWire$Windy" ({ cls := "GorgeWire$Ride", name := "hangs", desc := "(I)I" } : Jvm.MethodName) ({ cls := "GorgeWire$Ride", name := "hangs", desc := "(I)I" } : Jvm.MethodName)) ∈ gtb := gt4 190 rfl rfl
theorem w_981 : (Jvm.Cond.code ({ cls := "GorgeWire$Ride", name := "hangs", desc := "(I)I" } : Jvm.MethodName) prog_7_method_5_code (2 : Nat) (Option.some Jvm.ClassFile.FieldType.int)) ∈ gtb := gt4 191 rfl rfl
theorem w_982 : (Jvm.Cond.methodLink "GorgeWire$Ride" (42 : Nat) ({ cls := "GorgeWire$Row", name := "add", desc := "(I)V" } : Jvm.MethodName)) ∈ gtb := gt4 192 rfl rfl
theorem w_983 : (Jvm.Cond.methodLink "GorgeWire" (249 : Nat) ({ cls := "GorgeWire$Ride", name := "rolls", desc := "(I)I" } : Jvm.MethodName)) ∈ gtb := gt4 193 rfl rfl
theorem w_984 : (Jvm.Cond.instanceMethod ({ cls := "GorgeWire$Ride", name := "rolls", desc := "(I)I" } : Jvm.MethodName)) ∈ gtb := gt4 194 rfl rfl
theorem w_985 : (Jvm.Cond.selects "GorgeWire$Ride" ({ cls := "GorgeWire$Ride", name := "rolls", desc := "(I)I" } : Jvm.MethodName) ({ cls := "GorgeWire$Ride", name := "rolls", desc := "(I)I" } : Jvm.MethodName)) ∈ gtb := gt4 195 rfl rfl
theorem w_986 : (Jvm.Cond.sameMethod "GorgeWire$Ride" "GorgeWire$Ride" "rolls" "(I)I") ∈ gtb := gt4 196 rfl rfl
theorem w_987 : (Jvm.Cond.selects "GorgeWire$Braked" ({ cls := "GorgeWire$Ride", name := "rolls", desc := "(I)I" } : Jvm.MethodName) ({ cls := "GorgeWire$Rolled", name := "rolls", desc := "(I)I" } : Jvm.MethodName)) ∈ gtb := gt4 197 rfl rfl
theorem w_988 : (Jvm.Cond.instanceMethod ({ cls := "GorgeWire$Rolled", name := "rolls", desc := "(I)I" } : Jvm.MethodName)) ∈ gtb := gt4 198 rfl rfl
theorem w_989 : (Jvm.Cond.code ({ cls := "GorgeWire$Rolled", name := "rolls", desc := "(I)I" } : Jvm.MethodName) prog_8_method_3_code (2 : Nat) (Option.some Jvm.ClassFile.FieldType.int)) ∈ gtb := gt4 199 rfl rfl
theorem w_990 : (Jvm.Cond.methodLink "GorgeWire$Rolled" (21 : Nat) ({ cls := "GorgeWire$Row", name := "add", desc := "(I)V" } : Jvm.MethodName)) ∈ gtb := gt4 200 rfl rfl
theorem w_991 : (Jvm.Cond.methodLink "GorgeWire$Rolled" (27 : Nat) ({ cls := "GorgeWire$Ride", name := "rolls", desc := "(I)I" } : Jvm.MethodName)) ∈ gtb := gt4 201 rfl rfl
theorem w_992 : (Jvm.Cond.methodLink "GorgeWire$Rolled" (30 : Nat) ({ cls := "GorgeWire$Rolled", name := "bears", desc := "(I)I" } : Jvm.MethodName)) ∈ gtb := gt4 202 rfl rfl
theorem w_993 : (Jvm.Cond.sameMethod "GorgeWire$Rolled" "GorgeWire$Ride" "bears" "(I)I") ∈ gtb := gt4 203 rfl rfl
theorem w_995 : (Jvm.Cond.selects "GorgeWire$Braked" ({ cls := "GorgeWire$Rolled", name := "bears", desc := "(I)I" } : Jvm.MethodName) ({ cls := "GorgeWire$Braked", name := "bears", desc := "(I)I" } : Jvm.MethodName)) ∈ gtb := gt4 205 rfl rfl
theorem w_996 : (Jvm.Cond.instanceMethod ({ cls := "GorgeWire$Braked", name := "bears", desc := "(I)I" } : Jvm.MethodName)) ∈ gtb := gt4 206 rfl rfl
theorem w_997 : (Jvm.Cond.code ({ cls := "GorgeWire$Braked", name := "bears", desc := "(I)I" } : Jvm.MethodName) prog_2_method_4_code (2 : Nat) (Option.some Jvm.ClassFile.FieldType.int)) ∈ gtb := gt4 207 rfl rfl
theorem w_998 : (Jvm.Cond.methodLink "GorgeWire$Braked" (25 : Nat) ({ cls := "GorgeWire$Row", name := "add", desc := "(I)V" } : Jvm.MethodName)) ∈ gtb := gt4 208 rfl rfl
theorem w_999 : (Jvm.Cond.methodLink "GorgeWire$Braked" (31 : Nat) ({ cls := "GorgeWire$Rolled", name := "bears", desc := "(I)I" } : Jvm.MethodName)) ∈ gtb := gt4 209 rfl rfl
theorem w_1000 : (Jvm.Cond.instanceMethod ({ cls := "GorgeWire$Ride", name := "bears", desc := "(I)I" } : Jvm.MethodName)) ∈ gtb := gt4 210 rfl rfl
theorem w_1001 : (Jvm.Cond.code ({ cls := "GorgeWire$Ride", name := "bears", desc := "(I)I" } : Jvm.MethodName) prog_7_method_7_code (2 : Nat) (Option.some Jvm.ClassFile.FieldType.int)) ∈ gtb := gt4 211 rfl rfl
theorem w_1002 : (Jvm.Cond.selects "GorgeWire$Late" ({ cls := "GorgeWire$Rolled", name := "bears", desc := "(I)I" } : Jvm.MethodName) ({ cls := "GorgeWire$Braked", name := "bears", desc := "(I)I" } : Jvm.MethodName)) ∈ gtb := gt4 212 rfl rfl
theorem w_1003 : (Jvm.Cond.selects "GorgeWire$Rolled" ({ cls := "GorgeWire$Rolled", name := "bears", desc := "(I)I" } : Jvm.MethodName) ({ cls := "GorgeWire$Ride", name := "bears", desc := "(I)I" } : Jvm.MethodName)) ∈ gtb := gt4 213 rfl rfl
theorem w_1004 : (Jvm.Cond.selects "GorgeWire$Greased" ({ cls := "GorgeWire$Ride", name := "rolls", desc := "(I)I" } : Jvm.MethodName) ({ cls := "GorgeWire$Ride", name := "rolls", desc := "(I)I" } : Jvm.MethodName)) ∈ gtb := gt4 214 rfl rfl
theorem w_1005 : (Jvm.Cond.selects "GorgeWire$Hauled" ({ cls := "GorgeWire$Ride", name := "rolls", desc := "(I)I" } : Jvm.MethodName) ({ cls := "GorgeWire$Ride", name := "rolls", desc := "(I)I" } : Jvm.MethodName)) ∈ gtb := gt4 215 rfl rfl
theorem w_1006 : (Jvm.Cond.selects "GorgeWire$Late" ({ cls := "GorgeWire$Ride", name := "rolls", desc := "(I)I" } : Jvm.MethodName) ({ cls := "GorgeWire$Late", name := "rolls", desc := "(I)I" } : Jvm.MethodName)) ∈ gtb := gt4 216 rfl rfl
theorem w_1007 : (Jvm.Cond.instanceMethod ({ cls := "GorgeWire$Late", name := "rolls", desc := "(I)I" } : Jvm.MethodName)) ∈ gtb := gt4 217 rfl rfl
theorem w_1008 : (Jvm.Cond.code ({ cls := "GorgeWire$Late", name := "rolls", desc := "(I)I" } : Jvm.MethodName) prog_5_method_3_code (2 : Nat) (Option.some Jvm.ClassFile.FieldType.int)) ∈ gtb := gt4 218 rfl rfl
theorem w_1009 : (Jvm.Cond.methodLink "GorgeWire$Late" (21 : Nat) ({ cls := "GorgeWire$Row", name := "add", desc := "(I)V" } : Jvm.MethodName)) ∈ gtb := gt4 219 rfl rfl
theorem w_1010 : (Jvm.Cond.methodLink "GorgeWire$Late" (27 : Nat) ({ cls := "GorgeWire$Braked", name := "rolls", desc := "(I)I" } : Jvm.MethodName)) ∈ gtb := gt4 220 rfl rfl
theorem w_1011 : (Jvm.Cond.sameMethod "GorgeWire$Braked" "GorgeWire$Rolled" "rolls" "(I)I") ∈ gtb := gt4 221 rfl rfl
theorem w_1013 : (Jvm.Cond.selects "GorgeWire$Rolled" ({ cls := "GorgeWire$Ride", name := "rolls", desc := "(I)I" } : Jvm.MethodName) ({ cls := "GorgeWire$Rolled", name := "rolls", desc := "(I)I" } : Jvm.MethodName)) ∈ gtb := gt4 223 rfl rfl
theorem w_1014 : (Jvm.Cond.selects "GorgeWire$Windy" ({ cls := "GorgeWire$Ride", name := "rolls", desc := "(I)I" } : Jvm.MethodName) ({ cls := "GorgeWire$Ride", name := "rolls", desc := "(I)I" } : Jvm.MethodName)) ∈ gtb := gt4 224 rfl rfl
theorem w_1015 : (Jvm.Cond.code ({ cls := "GorgeWire$Ride", name := "rolls", desc := "(I)I" } : Jvm.MethodName) prog_7_method_6_code (2 : Nat) (Option.some Jvm.ClassFile.FieldType.int)) ∈ gtb := gt4 225 rfl rfl
theorem w_1016 : (Jvm.Cond.methodLink "GorgeWire$Ride" (48 : Nat) ({ cls := "GorgeWire$Ride", name := "hangs", desc := "(I)I" } : Jvm.MethodName)) ∈ gtb := gt4 226 rfl rfl
theorem w_1017 : (Jvm.Cond.methodLink "GorgeWire" (252 : Nat) ({ cls := "GorgeWire$Ride", name := "bears", desc := "(I)I" } : Jvm.MethodName)) ∈ gtb := gt4 227 rfl rfl
theorem w_1018 : (Jvm.Cond.methodLink "GorgeWire" (255 : Nat) ({ cls := "GorgeWire$Ride", name := "wears", desc := "(I)I" } : Jvm.MethodName)) ∈ gtb := gt4 228 rfl rfl
theorem w_1019 : (Jvm.Cond.instanceMethod ({ cls := "GorgeWire$Ride", name := "wears", desc := "(I)I" } : Jvm.MethodName)) ∈ gtb := gt4 229 rfl rfl
theorem w_1020 : (Jvm.Cond.selects "GorgeWire$Ride" ({ cls := "GorgeWire$Ride", name := "wears", desc := "(I)I" } : Jvm.MethodName) ({ cls := "GorgeWire$Ride", name := "wears", desc := "(I)I" } : Jvm.MethodName)) ∈ gtb := gt4 230 rfl rfl
theorem w_1021 : (Jvm.Cond.sameMethod "GorgeWire$Ride" "GorgeWire$Ride" "wears" "(I)I") ∈ gtb := gt4 231 rfl rfl
theorem w_1022 : (Jvm.Cond.selects "GorgeWire$Braked" ({ cls := "GorgeWire$Ride", name := "wears", desc := "(I)I" } : Jvm.MethodName) ({ cls := "GorgeWire$Ride", name := "wears", desc := "(I)I" } : Jvm.MethodName)) ∈ gtb := gt4 232 rfl rfl
theorem w_1023 : (Jvm.Cond.selects "GorgeWire$Greased" ({ cls := "GorgeWire$Ride", name := "wears", desc := "(I)I" } : Jvm.MethodName) ({ cls := "GorgeWire$Greased", name := "wears", desc := "(I)I" } : Jvm.MethodName)) ∈ gtb := gt4 233 rfl rfl
theorem w_1024 : (Jvm.Cond.instanceMethod ({ cls := "GorgeWire$Greased", name := "wears", desc := "(I)I" } : Jvm.MethodName)) ∈ gtb := gt4 234 rfl rfl
theorem w_1025 : (Jvm.Cond.code ({ cls := "GorgeWire$Greased", name := "wears", desc := "(I)I" } : Jvm.MethodName) prog_3_method_4_code (2 : Nat) (Option.some Jvm.ClassFile.FieldType.int)) ∈ gtb := gt4 235 rfl rfl
theorem w_1026 : (Jvm.Cond.methodLink "GorgeWire$Greased" (27 : Nat) ({ cls := "GorgeWire$Greased", name := "rolls", desc := "(I)I" } : Jvm.MethodName)) ∈ gtb := gt4 236 rfl rfl
theorem w_1027 : (Jvm.Cond.sameMethod "GorgeWire$Greased" "GorgeWire$Ride" "rolls" "(I)I") ∈ gtb := gt4 237 rfl rfl
theorem w_1029 : (Jvm.Cond.selects "GorgeWire$Greased" ({ cls := "GorgeWire$Greased", name := "rolls", desc := "(I)I" } : Jvm.MethodName) ({ cls := "GorgeWire$Ride", name := "rolls", desc := "(I)I" } : Jvm.MethodName)) ∈ gtb := gt4 239 rfl rfl
theorem w_1030 : (Jvm.Cond.methodLink "GorgeWire$Greased" (30 : Nat) ({ cls := "GorgeWire$Hauled", name := "wears", desc := "(I)I" } : Jvm.MethodName)) ∈ gtb := gt5 0 rfl rfl
theorem w_1031 : (Jvm.Cond.sameMethod "GorgeWire$Hauled" "GorgeWire$Ride" "wears" "(I)I") ∈ gtb := gt5 1 rfl rfl
theorem w_1033 : (Jvm.Cond.selects "GorgeWire$Hauled" ({ cls := "GorgeWire$Ride", name := "wears", desc := "(I)I" } : Jvm.MethodName) ({ cls := "GorgeWire$Ride", name := "wears", desc := "(I)I" } : Jvm.MethodName)) ∈ gtb := gt5 3 rfl rfl
theorem w_1034 : (Jvm.Cond.selects "GorgeWire$Late" ({ cls := "GorgeWire$Ride", name := "wears", desc := "(I)I" } : Jvm.MethodName) ({ cls := "GorgeWire$Ride", name := "wears", desc := "(I)I" } : Jvm.MethodName)) ∈ gtb := gt5 4 rfl rfl
theorem w_1035 : (Jvm.Cond.selects "GorgeWire$Rolled" ({ cls := "GorgeWire$Ride", name := "wears", desc := "(I)I" } : Jvm.MethodName) ({ cls := "GorgeWire$Ride", name := "wears", desc := "(I)I" } : Jvm.MethodName)) ∈ gtb := gt5 5 rfl rfl
theorem w_1036 : (Jvm.Cond.selects "GorgeWire$Windy" ({ cls := "GorgeWire$Ride", name := "wears", desc := "(I)I" } : Jvm.MethodName) ({ cls := "GorgeWire$Windy", name := "wears", desc := "(I)I" } : Jvm.MethodName)) ∈ gtb := gt5 6 rfl rfl
theorem w_1037 : (Jvm.Cond.instanceMethod ({ cls := "GorgeWire$Windy", name := "wears", desc := "(I)I" } : Jvm.MethodName)) ∈ gtb := gt5 7 rfl rfl
theorem w_1038 : (Jvm.Cond.code ({ cls := "GorgeWire$Windy", name := "wears", desc := "(I)I" } : Jvm.MethodName) prog_11_method_3_code (2 : Nat) (Option.some Jvm.ClassFile.FieldType.int)) ∈ gtb := gt5 8 rfl rfl
theorem w_1039 : (Jvm.Cond.methodLink "GorgeWire$Windy" (21 : Nat) ({ cls := "GorgeWire$Row", name := "add", desc := "(I)V" } : Jvm.MethodName)) ∈ gtb := gt5 9 rfl rfl
theorem w_1040 : (Jvm.Cond.methodLink "GorgeWire$Windy" (27 : Nat) ({ cls := "GorgeWire$Ride", name := "wears", desc := "(I)I" } : Jvm.MethodName)) ∈ gtb := gt5 10 rfl rfl
theorem w_1041 : (Jvm.Cond.methodLink "GorgeWire$Windy" (30 : Nat) ({ cls := "GorgeWire$Windy", name := "hangs", desc := "(I)I" } : Jvm.MethodName)) ∈ gtb := gt5 11 rfl rfl
theorem w_1042 : (Jvm.Cond.sameMethod "GorgeWire$Windy" "GorgeWire$Ride" "hangs" "(I)I") ∈ gtb := gt5 12 rfl rfl
theorem w_1044 : (Jvm.Cond.selects "GorgeWire$Windy" ({ cls := "GorgeWire$Windy", name := "hangs", desc := "(I)I" } : Jvm.MethodName) ({ cls := "GorgeWire$Ride", name := "hangs", desc := "(I)I" } : Jvm.MethodName)) ∈ gtb := gt5 14 rfl rfl
theorem w_1045 : (Jvm.Cond.code ({ cls := "GorgeWire$Ride", name := "wears", desc := "(I)I" } : Jvm.MethodName) prog_7_method_8_code (2 : Nat) (Option.some Jvm.ClassFile.FieldType.int)) ∈ gtb := gt5 15 rfl rfl
theorem w_1046 : (Jvm.Cond.methodLink "GorgeWire$Ride" (51 : Nat) ({ cls := "GorgeWire$Ride", name := "rolls", desc := "(I)I" } : Jvm.MethodName)) ∈ gtb := gt5 16 rfl rfl
theorem w_1047 : (Jvm.Cond.methodLink "GorgeWire$Ride" (54 : Nat) ({ cls := "GorgeWire$Ride", name := "bears", desc := "(I)I" } : Jvm.MethodName)) ∈ gtb := gt5 17 rfl rfl
theorem w_1051 : (Jvm.Cond.code ({ cls := "GorgeWire", name := "trace", desc := "(I)I" } : Jvm.MethodName) prog_1_method_32_code (2 : Nat) (Option.some Jvm.ClassFile.FieldType.int)) ∈ gtb := gt5 21 rfl rfl
theorem w_1055 : (Jvm.Cond.code ({ cls := "GorgeWire", name := "sheet", desc := "(III)I" } : Jvm.MethodName) prog_1_method_33_code (4 : Nat) (Option.some Jvm.ClassFile.FieldType.int)) ∈ gtb := gt5 25 rfl rfl
theorem w_1056 : (Jvm.Cond.methodLink "GorgeWire" (258 : Nat) ({ cls := "GorgeWire$Row", name := "becomesZeros", desc := "(I)V" } : Jvm.MethodName)) ∈ gtb := gt5 26 rfl rfl
theorem w_1057 : (Jvm.Cond.instanceMethod ({ cls := "GorgeWire$Row", name := "becomesZeros", desc := "(I)V" } : Jvm.MethodName)) ∈ gtb := gt5 27 rfl rfl
theorem w_1058 : (Jvm.Cond.selects "GorgeWire$Row" ({ cls := "GorgeWire$Row", name := "becomesZeros", desc := "(I)V" } : Jvm.MethodName) ({ cls := "GorgeWire$Row", name := "becomesZeros", desc := "(I)V" } : Jvm.MethodName)) ∈ gtb := gt5 28 rfl rfl
theorem w_1059 : (Jvm.Cond.code ({ cls := "GorgeWire$Row", name := "becomesZeros", desc := "(I)V" } : Jvm.MethodName) prog_9_method_7_code (3 : Nat) (Option.none : Option Jvm.ClassFile.FieldType)) ∈ gtb := gt5 29 rfl rfl
theorem w_1064 : (Jvm.Cond.code ({ cls := "GorgeWire", name := "put", desc := "(III)I" } : Jvm.MethodName) prog_1_method_34_code (4 : Nat) (Option.some Jvm.ClassFile.FieldType.int)) ∈ gtb := gt5 34 rfl rfl
theorem w_1065 : (Jvm.Cond.methodLink "GorgeWire" (261 : Nat) ({ cls := "GorgeWire", name := "lowest", desc := "(II)I" } : Jvm.MethodName)) ∈ gtb := gt5 35 rfl rfl
theorem w_1066 : (Jvm.Cond.static ({ cls := "GorgeWire", name := "lowest", desc := "(II)I" } : Jvm.MethodName)) ∈ gtb := gt5 36 rfl rfl
theorem w_1067 : (Jvm.Cond.code ({ cls := "GorgeWire", name := "lowest", desc := "(II)I" } : Jvm.MethodName) prog_1_method_58_code (2 : Nat) (Option.some Jvm.ClassFile.FieldType.int)) ∈ gtb := gt5 37 rfl rfl
theorem w_1068 : (Jvm.Cond.methodLink "GorgeWire" (264 : Nat) ({ cls := "GorgeWire$Row", name := "becomes", desc := "(II)V" } : Jvm.MethodName)) ∈ gtb := gt5 38 rfl rfl
theorem w_1069 : (Jvm.Cond.instanceMethod ({ cls := "GorgeWire$Row", name := "becomes", desc := "(II)V" } : Jvm.MethodName)) ∈ gtb := gt5 39 rfl rfl
theorem w_1070 : (Jvm.Cond.selects "GorgeWire$Row" ({ cls := "GorgeWire$Row", name := "becomes", desc := "(II)V" } : Jvm.MethodName) ({ cls := "GorgeWire$Row", name := "becomes", desc := "(II)V" } : Jvm.MethodName)) ∈ gtb := gt5 40 rfl rfl
theorem w_1071 : (Jvm.Cond.code ({ cls := "GorgeWire$Row", name := "becomes", desc := "(II)V" } : Jvm.MethodName) prog_9_method_6_code (3 : Nat) (Option.none : Option Jvm.ClassFile.FieldType)) ∈ gtb := gt5 41 rfl rfl
theorem w_1075 : (Jvm.Cond.code ({ cls := "GorgeWire", name := "move", desc := "(IIIII)I" } : Jvm.MethodName) prog_1_method_35_code (6 : Nat) (Option.some Jvm.ClassFile.FieldType.int)) ∈ gtb := gt5 45 rfl rfl
theorem w_1076 : (Jvm.Cond.methodLink "GorgeWire" (265 : Nat) ({ cls := "GorgeWire$Row", name := "holds", desc := "(II)Z" } : Jvm.MethodName)) ∈ gtb := gt5 46 rfl rfl
theorem w_1077 : (Jvm.Cond.instanceMethod ({ cls := "GorgeWire$Row", name := "holds", desc := "(II)Z" } : Jvm.MethodName)) ∈ gtb := gt5 47 rfl rfl
theorem w_1078 : (Jvm.Cond.selects "GorgeWire$Row" ({ cls := "GorgeWire$Row", name := "holds", desc := "(II)Z" } : Jvm.MethodName) ({ cls := "GorgeWire$Row", name := "holds", desc := "(II)Z" } : Jvm.MethodName)) ∈ gtb := gt5 48 rfl rfl
theorem w_1079 : (Jvm.Cond.code ({ cls := "GorgeWire$Row", name := "holds", desc := "(II)Z" } : Jvm.MethodName) prog_9_method_8_code (3 : Nat) (Option.some Jvm.ClassFile.FieldType.boolean)) ∈ gtb := gt5 49 rfl rfl
theorem w_1083 : (Jvm.Cond.code ({ cls := "GorgeWire", name := "image", desc := "()I" } : Jvm.MethodName) prog_1_method_36_code (1 : Nat) (Option.some Jvm.ClassFile.FieldType.int)) ∈ gtb := gt5 53 rfl rfl
theorem w_1087 : (Jvm.Cond.code ({ cls := "GorgeWire", name := "restore", desc := "()I" } : Jvm.MethodName) prog_1_method_37_code (1 : Nat) (Option.some Jvm.ClassFile.FieldType.int)) ∈ gtb := gt5 57 rfl rfl
theorem w_1091 : (Jvm.Cond.code ({ cls := "GorgeWire", name := "tell", desc := "(I)I" } : Jvm.MethodName) prog_1_method_38_code (2 : Nat) (Option.some Jvm.ClassFile.FieldType.int)) ∈ gtb := gt5 61 rfl rfl
theorem w_1095 : (Jvm.Cond.code ({ cls := "GorgeWire", name := "check", desc := "(I)I" } : Jvm.MethodName) prog_1_method_39_code (3 : Nat) (Option.some Jvm.ClassFile.FieldType.int)) ∈ gtb := gt5 65 rfl rfl
theorem w_1099 : (Jvm.Cond.code ({ cls := "GorgeWire", name := "count", desc := "(I)I" } : Jvm.MethodName) prog_1_method_40_code (2 : Nat) (Option.some Jvm.ClassFile.FieldType.int)) ∈ gtb := gt5 69 rfl rfl
theorem w_1100 : (Jvm.Cond.methodLink "GorgeWire" (280 : Nat) ({ cls := "GorgeWire$State", name := "underWay", desc := "()I" } : Jvm.MethodName)) ∈ gtb := gt5 70 rfl rfl
theorem w_1101 : (Jvm.Cond.instanceMethod ({ cls := "GorgeWire$State", name := "underWay", desc := "()I" } : Jvm.MethodName)) ∈ gtb := gt5 71 rfl rfl
theorem w_1102 : (Jvm.Cond.selects "GorgeWire$State" ({ cls := "GorgeWire$State", name := "underWay", desc := "()I" } : Jvm.MethodName) ({ cls := "GorgeWire$State", name := "underWay", desc := "()I" } : Jvm.MethodName)) ∈ gtb := gt5 72 rfl rfl
theorem w_1103 : (Jvm.Cond.code ({ cls := "GorgeWire$State", name := "underWay", desc := "()I" } : Jvm.MethodName) prog_10_method_7_code (3 : Nat) (Option.some Jvm.ClassFile.FieldType.int)) ∈ gtb := gt5 73 rfl rfl
theorem w_1107 : (Jvm.Cond.code ({ cls := "GorgeWire", name := "told", desc := "(I)I" } : Jvm.MethodName) prog_1_method_41_code (2 : Nat) (Option.some Jvm.ClassFile.FieldType.int)) ∈ gtb := gt5 77 rfl rfl
theorem w_1109 : (Jvm.Cond.instantiable "GorgeWireModel" (27 : Nat)) ∈ gtb := gt5 79 rfl rfl
theorem w_1112 : (Jvm.Cond.code ({ cls := "GorgeWireModel", name := "<init>", desc := "()V" } : Jvm.MethodName) prog_14_method_1_code (1 : Nat) (Option.none : Option Jvm.ClassFile.FieldType)) ∈ gtb := gt5 82 rfl rfl
theorem w_1113 : (Jvm.Cond.methodLink "GorgeWireModel" (3 : Nat) ({ cls := "java/lang/Object", name := "<init>", desc := "()V" } : Jvm.MethodName)) ∈ gtb := gt5 83 rfl rfl
theorem w_1114 : (Jvm.Cond.constant "GorgeWireModel" (25 : Nat) (99999 : Int32)) ∈ gtb := gt5 84 rfl rfl
theorem w_1115 : (Jvm.Cond.classLink "GorgeWireModel" (29 : Nat) "java/lang/String") ∈ gtb := gt5 85 rfl rfl
theorem w_1119 : (Jvm.Cond.fieldLink "GorgeWireModel" (9 : Nat) "GorgeWireModel" "now" "[I") ∈ gtb := gt5 89 rfl rfl
theorem w_1120 : (Jvm.Cond.fieldLink "GorgeWireModel" (13 : Nat) "GorgeWireModel" "kept" "[I") ∈ gtb := gt5 90 rfl rfl
theorem w_1121 : (Jvm.Cond.fieldLink "GorgeWireModel" (16 : Nat) "GorgeWireModel" "aside" "[I") ∈ gtb := gt5 91 rfl rfl
theorem w_1122 : (Jvm.Cond.fieldLink "GorgeWireModel" (303 : Nat) "GorgeWireModel" "images" "I") ∈ gtb := gt5 92 rfl rfl
theorem w_1123 : (Jvm.Cond.fieldLink "GorgeWireModel" (19 : Nat) "GorgeWireModel" "errors" "[I") ∈ gtb := gt5 93 rfl rfl
theorem w_1124 : (Jvm.Cond.fieldLink "GorgeWireModel" (22 : Nat) "GorgeWireModel" "wireLeast" "[I") ∈ gtb := gt5 94 rfl rfl
theorem w_1125 : (Jvm.Cond.fieldLink "GorgeWireModel" (26 : Nat) "GorgeWireModel" "wireMost" "[I") ∈ gtb := gt5 95 rfl rfl
theorem w_1126 : (Jvm.Cond.fieldLink "GorgeWireModel" (35 : Nat) "GorgeWireModel" "NAMED" "[Ljava/lang/String;") ∈ gtb := gt5 96 rfl rfl
theorem w_1127 : (Jvm.Cond.fieldLink "GorgeWireModel" (164 : Nat) "GorgeWireModel" "at" "I") ∈ gtb := gt5 97 rfl rfl
theorem w_1128 : (Jvm.Cond.fieldLink "GorgeWireModel" (206 : Nat) "GorgeWireModel" "open" "I") ∈ gtb := gt5 98 rfl rfl
theorem w_1129 : (Jvm.Cond.fieldLink "GorgeWireModel" (196 : Nat) "GorgeWireModel" "use" "I") ∈ gtb := gt5 99 rfl rfl
theorem w_1130 : (Jvm.Cond.fieldLink "GorgeWireModel" (160 : Nat) "GorgeWireModel" "isWrong" "Z") ∈ gtb := gt5 100 rfl rfl
theorem w_1131 : (Jvm.Cond.fieldLink "GorgeWireModel" (39 : Nat) "GorgeWireModel" "code" "[I") ∈ gtb := gt5 101 rfl rfl
theorem w_1132 : (Jvm.Cond.fieldLink "GorgeWireModel" (171 : Nat) "GorgeWireModel" "coded" "I") ∈ gtb := gt5 102 rfl rfl
theorem w_1133 : (Jvm.Cond.fieldLink "GorgeWireModel" (42 : Nat) "GorgeWireModel" "named" "[I") ∈ gtb := gt5 103 rfl rfl
theorem w_1134 : (Jvm.Cond.fieldLink "GorgeWireModel" (45 : Nat) "GorgeWireModel" "pile" "[I") ∈ gtb := gt5 104 rfl rfl
theorem w_1135 : (Jvm.Cond.fieldLink "GorgeWireModel" (48 : Nat) "GorgeWireModel" "many" "[I") ∈ gtb := gt5 105 rfl rfl
theorem w_1136 : (Jvm.Cond.fieldLink "GorgeWireModel" (51 : Nat) "GorgeWireModel" "row" "[I") ∈ gtb := gt5 106 rfl rfl
theorem w_1137 : (Jvm.Cond.fieldLink "GorgeWireModel" (54 : Nat) "GorgeWireModel" "best" "[I") ∈ gtb := gt5 107 rfl rfl
theorem w_1138 : (Jvm.Cond.fieldLink "GorgeWireModel" (275 : Nat) "GorgeWireModel" "leastTime" "I") ∈ gtb := gt5 108 rfl rfl
theorem w_1139 : (Jvm.Cond.fieldLink "GorgeWireModel" (57 : Nat) "GorgeWireModel" "trace" "[I") ∈ gtb := gt5 109 rfl rfl
theorem w_1140 : (Jvm.Cond.fieldLink "GorgeWireModel" (282 : Nat) "GorgeWireModel" "traced" "I") ∈ gtb := gt5 110 rfl rfl
theorem w_1141 : (Jvm.Cond.fieldLink "GorgeWireModel" (285 : Nat) "GorgeWireModel" "speaker" "I") ∈ gtb := gt5 111 rfl rfl
theorem w_1142 : (Jvm.Cond.fieldLink "GorgeWireModel" (60 : Nat) "GorgeWireModel" "widths" "[I") ∈ gtb := gt5 112 rfl rfl
theorem w_1143 : (Jvm.Cond.fieldLink "GorgeWireModel" (63 : Nat) "GorgeWireModel" "sizes" "[I") ∈ gtb := gt5 113 rfl rfl
theorem w_1144 : (Jvm.Cond.fieldLink "GorgeWireModel" (66 : Nat) "GorgeWireModel" "numbers" "[I") ∈ gtb := gt5 114 rfl rfl
theorem w_1145 : (Jvm.Cond.fieldLink "GorgeWireModel" (69 : Nat) "GorgeWireModel" "carried" "[I") ∈ gtb := gt5 115 rfl rfl
theorem w_1204 : (Jvm.Cond.code ({ cls := "GorgeWireModel", name := "wire", desc := "(II)I" } : Jvm.MethodName) prog_14_method_9_code (5 : Nat) (Option.some Jvm.ClassFile.FieldType.int)) ∈ gtb := gt5 174 rfl rfl
theorem w_1205 : (Jvm.Cond.methodLink "GorgeWireModel" (86 : Nat) ({ cls := "GorgeWireModel", name := "within", desc := "(III)Z" } : Jvm.MethodName)) ∈ gtb := gt5 175 rfl rfl
theorem w_1206 : (Jvm.Cond.static ({ cls := "GorgeWireModel", name := "within", desc := "(III)Z" } : Jvm.MethodName)) ∈ gtb := gt5 176 rfl rfl
theorem w_1207 : (Jvm.Cond.code ({ cls := "GorgeWireModel", name := "within", desc := "(III)Z" } : Jvm.MethodName) prog_14_method_3_code (3 : Nat) (Option.some Jvm.ClassFile.FieldType.boolean)) ∈ gtb := gt5 177 rfl rfl
theorem w_1208 : (Jvm.Cond.constant "GorgeWireModel" (90 : Nat) (-1000000001 : Int32)) ∈ gtb := gt5 178 rfl rfl
theorem w_1209 : (Jvm.Cond.methodLink "GorgeWireModel" (91 : Nat) ({ cls := "GorgeWireModel", name := "finding", desc := "(I)I" } : Jvm.MethodName)) ∈ gtb := gt5 179 rfl rfl
theorem w_1211 : (Jvm.Cond.instanceMethod ({ cls := "GorgeWireModel", name := "finding", desc := "(I)I" } : Jvm.MethodName)) ∈ gtb := gt5 181 rfl rfl
theorem w_1212 : (Jvm.Cond.code ({ cls := "GorgeWireModel", name := "finding", desc := "(I)I" } : Jvm.MethodName) prog_14_method_2_code (2 : Nat) (Option.some Jvm.ClassFile.FieldType.int)) ∈ gtb := gt5 182 rfl rfl
theorem w_1213 : (Jvm.Cond.constant "GorgeWireModel" (72 : Nat) (-1000000000 : Int32)) ∈ gtb := gt5 183 rfl rfl
theorem w_1214 : (Jvm.Cond.methodLink "GorgeWireModel" (95 : Nat) ({ cls := "GorgeWireModel", name := "become", desc := "(II)I" } : Jvm.MethodName)) ∈ gtb := gt5 184 rfl rfl
theorem w_1216 : (Jvm.Cond.instanceMethod ({ cls := "GorgeWireModel", name := "become", desc := "(II)I" } : Jvm.MethodName)) ∈ gtb := gt5 186 rfl rfl
theorem w_1217 : (Jvm.Cond.code ({ cls := "GorgeWireModel", name := "become", desc := "(II)I" } : Jvm.MethodName) prog_14_method_6_code (4 : Nat) (Option.some Jvm.ClassFile.FieldType.int)) ∈ gtb := gt5 187 rfl rfl
theorem w_1218 : (Jvm.Cond.methodLink "GorgeWireModel" (98 : Nat) ({ cls := "GorgeWireModel", name := "of", desc := "(II)I" } : Jvm.MethodName)) ∈ gtb := gt5 188 rfl rfl
theorem w_1220 : (Jvm.Cond.instanceMethod ({ cls := "GorgeWireModel", name := "of", desc := "(II)I" } : Jvm.MethodName)) ∈ gtb := gt5 190 rfl rfl
theorem w_1221 : (Jvm.Cond.code ({ cls := "GorgeWireModel", name := "of", desc := "(II)I" } : Jvm.MethodName) prog_14_method_21_code (3 : Nat) (Option.some Jvm.ClassFile.FieldType.int)) ∈ gtb := gt5 191 rfl rfl
theorem w_1222 : (Jvm.Cond.methodLink "GorgeWireModel" (73 : Nat) ({ cls := "java/lang/Math", name := "min", desc := "(II)I" } : Jvm.MethodName)) ∈ gtb := gt5 192 rfl rfl
theorem w_1223 : (Jvm.Cond.methodLink "GorgeWireModel" (101 : Nat) ({ cls := "GorgeWireModel", name := "tells", desc := "(III)V" } : Jvm.MethodName)) ∈ gtb := gt5 193 rfl rfl
theorem w_1225 : (Jvm.Cond.instanceMethod ({ cls := "GorgeWireModel", name := "tells", desc := "(III)V" } : Jvm.MethodName)) ∈ gtb := gt5 195 rfl rfl
theorem w_1226 : (Jvm.Cond.code ({ cls := "GorgeWireModel", name := "tells", desc := "(III)V" } : Jvm.MethodName) prog_14_method_22_code (4 : Nat) (Option.none : Option Jvm.ClassFile.FieldType)) ∈ gtb := gt5 196 rfl rfl
theorem w_1230 : (Jvm.Cond.code ({ cls := "GorgeWireModel", name := "tight", desc := "()I" } : Jvm.MethodName) prog_14_method_11_code (1 : Nat) (Option.some Jvm.ClassFile.FieldType.int)) ∈ gtb := gt5 200 rfl rfl
theorem w_1231 : (Jvm.Cond.methodLink "GorgeWireModel" (105 : Nat) ({ cls := "GorgeWireModel", name := "tightOf", desc := "()I" } : Jvm.MethodName)) ∈ gtb := gt5 201 rfl rfl
theorem w_1233 : (Jvm.Cond.instanceMethod ({ cls := "GorgeWireModel", name := "tightOf", desc := "()I" } : Jvm.MethodName)) ∈ gtb := gt5 203 rfl rfl
theorem w_1234 : (Jvm.Cond.code ({ cls := "GorgeWireModel", name := "tightOf", desc := "()I" } : Jvm.MethodName) prog_14_method_10_code (1 : Nat) (Option.some Jvm.ClassFile.FieldType.int)) ∈ gtb := gt5 204 rfl rfl
theorem w_1235 : (Jvm.Cond.methodLink "GorgeWireModel" (79 : Nat) ({ cls := "java/lang/Math", name := "max", desc := "(II)I" } : Jvm.MethodName)) ∈ gtb := gt5 205 rfl rfl
theorem w_1239 : (Jvm.Cond.code ({ cls := "GorgeWireModel", name := "depth", desc := "(II)I" } : Jvm.MethodName) prog_14_method_16_code (3 : Nat) (Option.some Jvm.ClassFile.FieldType.int)) ∈ gtb := gt5 209 rfl rfl
theorem w_1240 : (Jvm.Cond.methodLink "GorgeWireModel" (118 : Nat) ({ cls := "GorgeWireModel", name := "isOn", desc := "(II)Z" } : Jvm.MethodName)) ∈ gtb := gt5 210 rfl rfl
theorem w_1242 : (Jvm.Cond.instanceMethod ({ cls := "GorgeWireModel", name := "isOn", desc := "(II)Z" } : Jvm.MethodName)) ∈ gtb := gt5 212 rfl rfl
theorem w_1243 : (Jvm.Cond.code ({ cls := "GorgeWireModel", name := "isOn", desc := "(II)Z" } : Jvm.MethodName) prog_14_method_15_code (3 : Nat) (Option.some Jvm.ClassFile.FieldType.boolean)) ∈ gtb := gt5 213 rfl rfl
theorem w_1244 : (Jvm.Cond.methodLink "GorgeWireModel" (113 : Nat) ({ cls := "GorgeWireModel", name := "depthOf", desc := "(II)I" } : Jvm.MethodName)) ∈ gtb := gt5 214 rfl rfl
theorem w_1246 : (Jvm.Cond.instanceMethod ({ cls := "GorgeWireModel", name := "depthOf", desc := "(II)I" } : Jvm.MethodName)) ∈ gtb := gt5 216 rfl rfl
theorem w_1247 : (Jvm.Cond.code ({ cls := "GorgeWireModel", name := "depthOf", desc := "(II)I" } : Jvm.MethodName) prog_14_method_12_code (11 : Nat) (Option.some Jvm.ClassFile.FieldType.int)) ∈ gtb := gt5 217 rfl rfl
theorem w_1248 : (Jvm.Cond.constantLong "GorgeWireModel" (109 : Nat) (1000 : Int64)) ∈ gtb := gt5 218 rfl rfl
theorem w_1249 : (Jvm.Cond.constantLong "GorgeWireModel" (111 : Nat) (500 : Int64)) ∈ gtb := gt5 219 rfl rfl
theorem w_1253 : (Jvm.Cond.code ({ cls := "GorgeWireModel", name := "steep", desc := "(II)I" } : Jvm.MethodName) prog_14_method_17_code (3 : Nat) (Option.some Jvm.ClassFile.FieldType.int)) ∈ gtb := gt5 223 rfl rfl
theorem w_1254 : (Jvm.Cond.methodLink "GorgeWireModel" (122 : Nat) ({ cls := "GorgeWireModel", name := "steepOf", desc := "(II)I" } : Jvm.MethodName)) ∈ gtb := gt5 224 rfl rfl
theorem w_1256 : (Jvm.Cond.instanceMethod ({ cls := "GorgeWireModel", name := "steepOf", desc := "(II)I" } : Jvm.MethodName)) ∈ gtb := gt5 226 rfl rfl
theorem w_1257 : (Jvm.Cond.code ({ cls := "GorgeWireModel", name := "steepOf", desc := "(II)I" } : Jvm.MethodName) prog_14_method_13_code (4 : Nat) (Option.some Jvm.ClassFile.FieldType.int)) ∈ gtb := gt5 227 rfl rfl
theorem w_1261 : (Jvm.Cond.code ({ cls := "GorgeWireModel", name := "pulled", desc := "(II)I" } : Jvm.MethodName) prog_14_method_18_code (3 : Nat) (Option.some Jvm.ClassFile.FieldType.int)) ∈ gtb := gt5 231 rfl rfl
theorem w_1262 : (Jvm.Cond.methodLink "GorgeWireModel" (125 : Nat) ({ cls := "GorgeWireModel", name := "pulledAt", desc := "(II)I" } : Jvm.MethodName)) ∈ gtb := gt5 232 rfl rfl
theorem w_1264 : (Jvm.Cond.instanceMethod ({ cls := "GorgeWireModel", name := "pulledAt", desc := "(II)I" } : Jvm.MethodName)) ∈ gtb := gt5 234 rfl rfl
theorem w_1265 : (Jvm.Cond.code ({ cls := "GorgeWireModel", name := "pulledAt", desc := "(II)I" } : Jvm.MethodName) prog_14_method_14_code (3 : Nat) (Option.some Jvm.ClassFile.FieldType.int)) ∈ gtb := gt5 235 rfl rfl
theorem w_1266 : (Jvm.Cond.constantLong "GorgeWireModel" (116 : Nat) (4 : Int64)) ∈ gtb := gt5 236 rfl rfl
theorem w_1270 : (Jvm.Cond.code ({ cls := "GorgeWireModel", name := "most", desc := "()I" } : Jvm.MethodName) prog_14_method_20_code (2 : Nat) (Option.some Jvm.ClassFile.FieldType.int)) ∈ gtb := gt6 0 rfl rfl
theorem w_1271 : (Jvm.Cond.methodLink "GorgeWireModel" (128 : Nat) ({ cls := "GorgeWireModel", name := "holds", desc := "(I)Z" } : Jvm.MethodName)) ∈ gtb := gt6 1 rfl rfl
theorem w_1273 : (Jvm.Cond.instanceMethod ({ cls := "GorgeWireModel", name := "holds", desc := "(I)Z" } : Jvm.MethodName)) ∈ gtb := gt6 3 rfl rfl
theorem w_1274 : (Jvm.Cond.code ({ cls := "GorgeWireModel", name := "holds", desc := "(I)Z" } : Jvm.MethodName) prog_14_method_19_code (4 : Nat) (Option.some Jvm.ClassFile.FieldType.boolean)) ∈ gtb := gt6 4 rfl rfl
theorem w_1275 : (Jvm.Cond.constant "GorgeWireModel" (132 : Nat) (-1000000002 : Int32)) ∈ gtb := gt6 5 rfl rfl
theorem w_1279 : (Jvm.Cond.code ({ cls := "GorgeWireModel", name := "ride", desc := "(III)I" } : Jvm.MethodName) prog_14_method_23_code (6 : Nat) (Option.some Jvm.ClassFile.FieldType.int)) ∈ gtb := gt6 9 rfl rfl
theorem w_1280 : (Jvm.Cond.methodLink "GorgeWireModel" (133 : Nat) ({ cls := "GorgeWireModel", name := "given", desc := "(IIIII)I" } : Jvm.MethodName)) ∈ gtb := gt6 10 rfl rfl
theorem w_1282 : (Jvm.Cond.instanceMethod ({ cls := "GorgeWireModel", name := "given", desc := "(IIIII)I" } : Jvm.MethodName)) ∈ gtb := gt6 12 rfl rfl
theorem w_1283 : (Jvm.Cond.code ({ cls := "GorgeWireModel", name := "given", desc := "(IIIII)I" } : Jvm.MethodName) prog_14_method_47_code (8 : Nat) (Option.some Jvm.ClassFile.FieldType.int)) ∈ gtb := gt6 13 rfl rfl
theorem w_1284 : (Jvm.Cond.methodLink "GorgeWireModel" (219 : Nat) ({ cls := "GorgeWireModel", name := "worked", desc := "(I)I" } : Jvm.MethodName)) ∈ gtb := gt6 14 rfl rfl
theorem w_1286 : (Jvm.Cond.instanceMethod ({ cls := "GorgeWireModel", name := "worked", desc := "(I)I" } : Jvm.MethodName)) ∈ gtb := gt6 16 rfl rfl
theorem w_1287 : (Jvm.Cond.code ({ cls := "GorgeWireModel", name := "worked", desc := "(I)I" } : Jvm.MethodName) prog_14_method_46_code (5 : Nat) (Option.some Jvm.ClassFile.FieldType.int)) ∈ gtb := gt6 17 rfl rfl
theorem w_1288 : (Jvm.Cond.methodLink "GorgeWireModel" (215 : Nat) ({ cls := "GorgeWireModel", name := "done", desc := "(III)I" } : Jvm.MethodName)) ∈ gtb := gt6 18 rfl rfl
theorem w_1289 : (Jvm.Cond.static ({ cls := "GorgeWireModel", name := "done", desc := "(III)I" } : Jvm.MethodName)) ∈ gtb := gt6 19 rfl rfl
theorem w_1290 : (Jvm.Cond.code ({ cls := "GorgeWireModel", name := "done", desc := "(III)I" } : Jvm.MethodName) prog_14_method_45_code (3 : Nat) (Option.some Jvm.ClassFile.FieldType.int)) ∈ gtb := gt6 20 rfl rfl
theorem w_1291 : (Jvm.Cond.methodLink "GorgeWireModel" (222 : Nat) ({ cls := "GorgeWireModel", name := "held", desc := "(III)I" } : Jvm.MethodName)) ∈ gtb := gt6 21 rfl rfl
theorem w_1292 : (Jvm.Cond.static ({ cls := "GorgeWireModel", name := "held", desc := "(III)I" } : Jvm.MethodName)) ∈ gtb := gt6 22 rfl rfl
theorem w_1293 : (Jvm.Cond.code ({ cls := "GorgeWireModel", name := "held", desc := "(III)I" } : Jvm.MethodName) prog_14_method_4_code (3 : Nat) (Option.some Jvm.ClassFile.FieldType.int)) ∈ gtb := gt6 23 rfl rfl
theorem w_1294 : (Jvm.Cond.constant "GorgeWireModel" (137 : Nat) (-1000000003 : Int32)) ∈ gtb := gt6 24 rfl rfl
theorem w_1295 : (Jvm.Cond.constant "GorgeWireModel" (138 : Nat) (-1000000004 : Int32)) ∈ gtb := gt6 25 rfl rfl
theorem w_1299 : (Jvm.Cond.code ({ cls := "GorgeWireModel", name := "ofRide", desc := "(II)I" } : Jvm.MethodName) prog_14_method_29_code (3 : Nat) (Option.some Jvm.ClassFile.FieldType.int)) ∈ gtb := gt6 29 rfl rfl
theorem w_1300 : (Jvm.Cond.methodLink "GorgeWireModel" (148 : Nat) ({ cls := "GorgeWireModel", name := "is", desc := "(II)Z" } : Jvm.MethodName)) ∈ gtb := gt6 30 rfl rfl
theorem w_1302 : (Jvm.Cond.instanceMethod ({ cls := "GorgeWireModel", name := "is", desc := "(II)Z" } : Jvm.MethodName)) ∈ gtb := gt6 32 rfl rfl
theorem w_1303 : (Jvm.Cond.code ({ cls := "GorgeWireModel", name := "is", desc := "(II)Z" } : Jvm.MethodName) prog_14_method_8_code (3 : Nat) (Option.some Jvm.ClassFile.FieldType.boolean)) ∈ gtb := gt6 33 rfl rfl
theorem w_1304 : (Jvm.Cond.methodLink "GorgeWireModel" (151 : Nat) ({ cls := "GorgeWireModel", name := "rideTold", desc := "(II)I" } : Jvm.MethodName)) ∈ gtb := gt6 34 rfl rfl
theorem w_1306 : (Jvm.Cond.instanceMethod ({ cls := "GorgeWireModel", name := "rideTold", desc := "(II)I" } : Jvm.MethodName)) ∈ gtb := gt6 36 rfl rfl
theorem w_1307 : (Jvm.Cond.code ({ cls := "GorgeWireModel", name := "rideTold", desc := "(II)I" } : Jvm.MethodName) prog_14_method_28_code (3 : Nat) (Option.some Jvm.ClassFile.FieldType.int)) ∈ gtb := gt6 37 rfl rfl
theorem w_1308 : (Jvm.Cond.methodLink "GorgeWireModel" (142 : Nat) ({ cls := "GorgeWireModel", name := "gainOf", desc := "(I)I" } : Jvm.MethodName)) ∈ gtb := gt6 38 rfl rfl
theorem w_1310 : (Jvm.Cond.instanceMethod ({ cls := "GorgeWireModel", name := "gainOf", desc := "(I)I" } : Jvm.MethodName)) ∈ gtb := gt6 40 rfl rfl
theorem w_1311 : (Jvm.Cond.code ({ cls := "GorgeWireModel", name := "gainOf", desc := "(I)I" } : Jvm.MethodName) prog_14_method_26_code (4 : Nat) (Option.some Jvm.ClassFile.FieldType.int)) ∈ gtb := gt6 41 rfl rfl
theorem w_1312 : (Jvm.Cond.methodLink "GorgeWireModel" (139 : Nat) ({ cls := "GorgeWireModel", name := "brakes", desc := "(I)I" } : Jvm.MethodName)) ∈ gtb := gt6 42 rfl rfl
theorem w_1314 : (Jvm.Cond.instanceMethod ({ cls := "GorgeWireModel", name := "brakes", desc := "(I)I" } : Jvm.MethodName)) ∈ gtb := gt6 44 rfl rfl
theorem w_1315 : (Jvm.Cond.code ({ cls := "GorgeWireModel", name := "brakes", desc := "(I)I" } : Jvm.MethodName) prog_14_method_25_code (3 : Nat) (Option.some Jvm.ClassFile.FieldType.int)) ∈ gtb := gt6 45 rfl rfl
theorem w_1316 : (Jvm.Cond.methodLink "GorgeWireModel" (145 : Nat) ({ cls := "GorgeWireModel", name := "rubsOf", desc := "(I)I" } : Jvm.MethodName)) ∈ gtb := gt6 46 rfl rfl
theorem w_1318 : (Jvm.Cond.instanceMethod ({ cls := "GorgeWireModel", name := "rubsOf", desc := "(I)I" } : Jvm.MethodName)) ∈ gtb := gt6 48 rfl rfl
theorem w_1319 : (Jvm.Cond.code ({ cls := "GorgeWireModel", name := "rubsOf", desc := "(I)I" } : Jvm.MethodName) prog_14_method_27_code (2 : Nat) (Option.some Jvm.ClassFile.FieldType.int)) ∈ gtb := gt6 49 rfl rfl
theorem w_1323 : (Jvm.Cond.code ({ cls := "GorgeWireModel", name := "as", desc := "(II)I" } : Jvm.MethodName) prog_14_method_31_code (4 : Nat) (Option.some Jvm.ClassFile.FieldType.int)) ∈ gtb := gt6 53 rfl rfl
theorem w_1324 : (Jvm.Cond.methodLink "GorgeWireModel" (154 : Nat) ({ cls := "GorgeWireModel", name := "above", desc := "(I)I" } : Jvm.MethodName)) ∈ gtb := gt6 54 rfl rfl
theorem w_1325 : (Jvm.Cond.static ({ cls := "GorgeWireModel", name := "above", desc := "(I)I" } : Jvm.MethodName)) ∈ gtb := gt6 55 rfl rfl
theorem w_1326 : (Jvm.Cond.code ({ cls := "GorgeWireModel", name := "above", desc := "(I)I" } : Jvm.MethodName) prog_14_method_30_code (1 : Nat) (Option.some Jvm.ClassFile.FieldType.int)) ∈ gtb := gt6 56 rfl rfl
theorem w_1327 : (Jvm.Cond.constant "GorgeWireModel" (157 : Nat) (-1000000005 : Int32)) ∈ gtb := gt6 57 rfl rfl
theorem w_1331 : (Jvm.Cond.code ({ cls := "GorgeWireModel", name := "start", desc := "(III)I" } : Jvm.MethodName) prog_14_method_32_code (5 : Nat) (Option.some Jvm.ClassFile.FieldType.int)) ∈ gtb := gt6 61 rfl rfl
theorem w_1335 : (Jvm.Cond.code ({ cls := "GorgeWireModel", name := "feed", desc := "(JI)I" } : Jvm.MethodName) prog_14_method_33_code (5 : Nat) (Option.some Jvm.ClassFile.FieldType.int)) ∈ gtb := gt6 65 rfl rfl
theorem w_1336 : (Jvm.Cond.constantLong "GorgeWireModel" (158 : Nat) (255 : Int64)) ∈ gtb := gt6 66 rfl rfl
theorem w_1340 : (Jvm.Cond.code ({ cls := "GorgeWireModel", name := "text", desc := "(I)I" } : Jvm.MethodName) prog_14_method_44_code (3 : Nat) (Option.some Jvm.ClassFile.FieldType.int)) ∈ gtb := gt6 70 rfl rfl
theorem w_1341 : (Jvm.Cond.methodLink "GorgeWireModel" (209 : Nat) ({ cls := "GorgeWireModel", name := "either", desc := "()V" } : Jvm.MethodName)) ∈ gtb := gt6 71 rfl rfl
theorem w_1343 : (Jvm.Cond.instanceMethod ({ cls := "GorgeWireModel", name := "either", desc := "()V" } : Jvm.MethodName)) ∈ gtb := gt6 73 rfl rfl
theorem w_1344 : (Jvm.Cond.code ({ cls := "GorgeWireModel", name := "either", desc := "()V" } : Jvm.MethodName) prog_14_method_37_code (1 : Nat) (Option.none : Option Jvm.ClassFile.FieldType)) ∈ gtb := gt6 74 rfl rfl
theorem w_1345 : (Jvm.Cond.methodLink "GorgeWireModel" (174 : Nat) ({ cls := "GorgeWireModel", name := "both", desc := "()V" } : Jvm.MethodName)) ∈ gtb := gt6 75 rfl rfl
theorem w_1347 : (Jvm.Cond.instanceMethod ({ cls := "GorgeWireModel", name := "both", desc := "()V" } : Jvm.MethodName)) ∈ gtb := gt6 77 rfl rfl
theorem w_1348 : (Jvm.Cond.code ({ cls := "GorgeWireModel", name := "both", desc := "()V" } : Jvm.MethodName) prog_14_method_38_code (1 : Nat) (Option.none : Option Jvm.ClassFile.FieldType)) ∈ gtb := gt6 78 rfl rfl
theorem w_1349 : (Jvm.Cond.methodLink "GorgeWireModel" (184 : Nat) ({ cls := "GorgeWireModel", name := "compared", desc := "()V" } : Jvm.MethodName)) ∈ gtb := gt6 79 rfl rfl
theorem w_1351 : (Jvm.Cond.instanceMethod ({ cls := "GorgeWireModel", name := "compared", desc := "()V" } : Jvm.MethodName)) ∈ gtb := gt6 81 rfl rfl
theorem w_1352 : (Jvm.Cond.code ({ cls := "GorgeWireModel", name := "compared", desc := "()V" } : Jvm.MethodName) prog_14_method_39_code (2 : Nat) (Option.none : Option Jvm.ClassFile.FieldType)) ∈ gtb := gt6 82 rfl rfl
theorem w_1353 : (Jvm.Cond.methodLink "GorgeWireModel" (187 : Nat) ({ cls := "GorgeWireModel", name := "sum", desc := "()V" } : Jvm.MethodName)) ∈ gtb := gt6 83 rfl rfl
theorem w_1355 : (Jvm.Cond.instanceMethod ({ cls := "GorgeWireModel", name := "sum", desc := "()V" } : Jvm.MethodName)) ∈ gtb := gt6 85 rfl rfl
theorem w_1356 : (Jvm.Cond.code ({ cls := "GorgeWireModel", name := "sum", desc := "()V" } : Jvm.MethodName) prog_14_method_40_code (2 : Nat) (Option.none : Option Jvm.ClassFile.FieldType)) ∈ gtb := gt6 86 rfl rfl
theorem w_1357 : (Jvm.Cond.methodLink "GorgeWireModel" (190 : Nat) ({ cls := "GorgeWireModel", name := "product", desc := "()V" } : Jvm.MethodName)) ∈ gtb := gt6 87 rfl rfl
theorem w_1359 : (Jvm.Cond.instanceMethod ({ cls := "GorgeWireModel", name := "product", desc := "()V" } : Jvm.MethodName)) ∈ gtb := gt6 89 rfl rfl
theorem w_1360 : (Jvm.Cond.code ({ cls := "GorgeWireModel", name := "product", desc := "()V" } : Jvm.MethodName) prog_14_method_41_code (2 : Nat) (Option.none : Option Jvm.ClassFile.FieldType)) ∈ gtb := gt6 90 rfl rfl
theorem w_1361 : (Jvm.Cond.methodLink "GorgeWireModel" (193 : Nat) ({ cls := "GorgeWireModel", name := "one", desc := "()V" } : Jvm.MethodName)) ∈ gtb := gt6 91 rfl rfl
theorem w_1363 : (Jvm.Cond.instanceMethod ({ cls := "GorgeWireModel", name := "one", desc := "()V" } : Jvm.MethodName)) ∈ gtb := gt6 93 rfl rfl
theorem w_1364 : (Jvm.Cond.code ({ cls := "GorgeWireModel", name := "one", desc := "()V" } : Jvm.MethodName) prog_14_method_43_code (4 : Nat) (Option.none : Option Jvm.ClassFile.FieldType)) ∈ gtb := gt6 94 rfl rfl
theorem w_1365 : (Jvm.Cond.methodLink "GorgeWireModel" (168 : Nat) ({ cls := "GorgeWireModel", name := "here", desc := "()I" } : Jvm.MethodName)) ∈ gtb := gt6 95 rfl rfl
theorem w_1367 : (Jvm.Cond.instanceMethod ({ cls := "GorgeWireModel", name := "here", desc := "()I" } : Jvm.MethodName)) ∈ gtb := gt6 97 rfl rfl
theorem w_1368 : (Jvm.Cond.code ({ cls := "GorgeWireModel", name := "here", desc := "()I" } : Jvm.MethodName) prog_14_method_34_code (1 : Nat) (Option.some Jvm.ClassFile.FieldType.int)) ∈ gtb := gt6 98 rfl rfl
theorem w_1369 : (Jvm.Cond.methodLink "GorgeWireModel" (180 : Nat) ({ cls := "GorgeWireModel", name := "codes", desc := "(I)V" } : Jvm.MethodName)) ∈ gtb := gt6 99 rfl rfl
theorem w_1371 : (Jvm.Cond.instanceMethod ({ cls := "GorgeWireModel", name := "codes", desc := "(I)V" } : Jvm.MethodName)) ∈ gtb := gt6 101 rfl rfl
theorem w_1372 : (Jvm.Cond.code ({ cls := "GorgeWireModel", name := "codes", desc := "(I)V" } : Jvm.MethodName) prog_14_method_36_code (2 : Nat) (Option.none : Option Jvm.ClassFile.FieldType)) ∈ gtb := gt6 102 rfl rfl
theorem w_1373 : (Jvm.Cond.methodLink "GorgeWireModel" (177 : Nat) ({ cls := "GorgeWireModel", name := "takes", desc := "(I)Z" } : Jvm.MethodName)) ∈ gtb := gt6 103 rfl rfl
theorem w_1375 : (Jvm.Cond.instanceMethod ({ cls := "GorgeWireModel", name := "takes", desc := "(I)Z" } : Jvm.MethodName)) ∈ gtb := gt6 105 rfl rfl
theorem w_1376 : (Jvm.Cond.code ({ cls := "GorgeWireModel", name := "takes", desc := "(I)Z" } : Jvm.MethodName) prog_14_method_35_code (3 : Nat) (Option.some Jvm.ClassFile.FieldType.boolean)) ∈ gtb := gt6 106 rfl rfl
theorem w_1377 : (Jvm.Cond.methodLink "GorgeWireModel" (212 : Nat) ({ cls := "GorgeWireModel", name := "nameOf", desc := "(I)I" } : Jvm.MethodName)) ∈ gtb := gt6 107 rfl rfl
theorem w_1379 : (Jvm.Cond.instanceMethod ({ cls := "GorgeWireModel", name := "nameOf", desc := "(I)I" } : Jvm.MethodName)) ∈ gtb := gt6 109 rfl rfl
theorem w_1380 : (Jvm.Cond.code ({ cls := "GorgeWireModel", name := "nameOf", desc := "(I)I" } : Jvm.MethodName) prog_14_method_42_code (4 : Nat) (Option.some Jvm.ClassFile.FieldType.int)) ∈ gtb := gt6 110 rfl rfl
theorem w_1386 : (Jvm.Cond.code ({ cls := "GorgeWireModel", name := "law", desc := "(IIIII)I" } : Jvm.MethodName) prog_14_method_48_code (6 : Nat) (Option.some Jvm.ClassFile.FieldType.int)) ∈ gtb := gt6 116 rfl rfl
theorem w_1390 : (Jvm.Cond.code ({ cls := "GorgeWireModel", name := "ticks", desc := "(I)I" } : Jvm.MethodName) prog_14_method_54_code (3 : Nat) (Option.some Jvm.ClassFile.FieldType.int)) ∈ gtb := gt6 120 rfl rfl
theorem w_1391 : (Jvm.Cond.methodLink "GorgeWireModel" (237 : Nat) ({ cls := "GorgeWireModel", name := "whyNot", desc := "(I)I" } : Jvm.MethodName)) ∈ gtb := gt6 121 rfl rfl
theorem w_1393 : (Jvm.Cond.instanceMethod ({ cls := "GorgeWireModel", name := "whyNot", desc := "(I)I" } : Jvm.MethodName)) ∈ gtb := gt6 123 rfl rfl
theorem w_1394 : (Jvm.Cond.code ({ cls := "GorgeWireModel", name := "whyNot", desc := "(I)I" } : Jvm.MethodName) prog_14_method_53_code (2 : Nat) (Option.some Jvm.ClassFile.FieldType.int)) ∈ gtb := gt6 124 rfl rfl
theorem w_1395 : (Jvm.Cond.methodLink "GorgeWireModel" (240 : Nat) ({ cls := "GorgeWireModel", name := "ticksGo", desc := "(I)V" } : Jvm.MethodName)) ∈ gtb := gt6 125 rfl rfl
theorem w_1397 : (Jvm.Cond.instanceMethod ({ cls := "GorgeWireModel", name := "ticksGo", desc := "(I)V" } : Jvm.MethodName)) ∈ gtb := gt6 127 rfl rfl
theorem w_1398 : (Jvm.Cond.code ({ cls := "GorgeWireModel", name := "ticksGo", desc := "(I)V" } : Jvm.MethodName) prog_14_method_52_code (3 : Nat) (Option.none : Option Jvm.ClassFile.FieldType)) ∈ gtb := gt6 128 rfl rfl
theorem w_1399 : (Jvm.Cond.methodLink "GorgeWireModel" (234 : Nat) ({ cls := "GorgeWireModel", name := "tick", desc := "()V" } : Jvm.MethodName)) ∈ gtb := gt6 129 rfl rfl
theorem w_1401 : (Jvm.Cond.instanceMethod ({ cls := "GorgeWireModel", name := "tick", desc := "()V" } : Jvm.MethodName)) ∈ gtb := gt6 131 rfl rfl
theorem w_1402 : (Jvm.Cond.code ({ cls := "GorgeWireModel", name := "tick", desc := "()V" } : Jvm.MethodName) prog_14_method_51_code (2 : Nat) (Option.none : Option Jvm.ClassFile.FieldType)) ∈ gtb := gt6 132 rfl rfl
theorem w_1403 : (Jvm.Cond.methodLink "GorgeWireModel" (228 : Nat) ({ cls := "GorgeWireModel", name := "isIn", desc := "(I)Z" } : Jvm.MethodName)) ∈ gtb := gt6 133 rfl rfl
theorem w_1405 : (Jvm.Cond.instanceMethod ({ cls := "GorgeWireModel", name := "isIn", desc := "(I)Z" } : Jvm.MethodName)) ∈ gtb := gt6 135 rfl rfl
theorem w_1406 : (Jvm.Cond.code ({ cls := "GorgeWireModel", name := "isIn", desc := "(I)Z" } : Jvm.MethodName) prog_14_method_24_code (2 : Nat) (Option.some Jvm.ClassFile.FieldType.boolean)) ∈ gtb := gt6 136 rfl rfl
theorem w_1407 : (Jvm.Cond.methodLink "GorgeWireModel" (231 : Nat) ({ cls := "GorgeWireModel", name := "goes", desc := "(I)V" } : Jvm.MethodName)) ∈ gtb := gt6 137 rfl rfl
theorem w_1409 : (Jvm.Cond.instanceMethod ({ cls := "GorgeWireModel", name := "goes", desc := "(I)V" } : Jvm.MethodName)) ∈ gtb := gt6 139 rfl rfl
theorem w_1410 : (Jvm.Cond.code ({ cls := "GorgeWireModel", name := "goes", desc := "(I)V" } : Jvm.MethodName) prog_14_method_50_code (4 : Nat) (Option.none : Option Jvm.ClassFile.FieldType)) ∈ gtb := gt6 140 rfl rfl
theorem w_1411 : (Jvm.Cond.methodLink "GorgeWireModel" (225 : Nat) ({ cls := "GorgeWireModel", name := "nearer", desc := "(II)I" } : Jvm.MethodName)) ∈ gtb := gt6 141 rfl rfl
theorem w_1412 : (Jvm.Cond.static ({ cls := "GorgeWireModel", name := "nearer", desc := "(II)I" } : Jvm.MethodName)) ∈ gtb := gt6 142 rfl rfl
theorem w_1413 : (Jvm.Cond.code ({ cls := "GorgeWireModel", name := "nearer", desc := "(II)I" } : Jvm.MethodName) prog_14_method_49_code (2 : Nat) (Option.some Jvm.ClassFile.FieldType.int)) ∈ gtb := gt6 143 rfl rfl
theorem w_1417 : (Jvm.Cond.code ({ cls := "GorgeWireModel", name := "gusts", desc := "(I)I" } : Jvm.MethodName) prog_14_method_56_code (4 : Nat) (Option.some Jvm.ClassFile.FieldType.int)) ∈ gtb := gt6 147 rfl rfl
theorem w_1418 : (Jvm.Cond.methodLink "GorgeWireModel" (244 : Nat) ({ cls := "GorgeWireModel", name := "drawn", desc := "(I)I" } : Jvm.MethodName)) ∈ gtb := gt6 148 rfl rfl
theorem w_1420 : (Jvm.Cond.instanceMethod ({ cls := "GorgeWireModel", name := "drawn", desc := "(I)I" } : Jvm.MethodName)) ∈ gtb := gt6 150 rfl rfl
theorem w_1421 : (Jvm.Cond.code ({ cls := "GorgeWireModel", name := "drawn", desc := "(I)I" } : Jvm.MethodName) prog_14_method_55_code (2 : Nat) (Option.some Jvm.ClassFile.FieldType.int)) ∈ gtb := gt6 151 rfl rfl
theorem w_1422 : (Jvm.Cond.constant "GorgeWireModel" (243 : Nat) (1103515245 : Int32)) ∈ gtb := gt6 152 rfl rfl
theorem w_1426 : (Jvm.Cond.code ({ cls := "GorgeWireModel", name := "then", desc := "(III)I" } : Jvm.MethodName) prog_14_method_58_code (4 : Nat) (Option.some Jvm.ClassFile.FieldType.int)) ∈ gtb := gt6 156 rfl rfl
theorem w_1427 : (Jvm.Cond.methodLink "GorgeWireModel" (247 : Nat) ({ cls := "GorgeWireModel", name := "isAhead", desc := "(I)Z" } : Jvm.MethodName)) ∈ gtb := gt6 157 rfl rfl
theorem w_1428 : (Jvm.Cond.static ({ cls := "GorgeWireModel", name := "isAhead", desc := "(I)Z" } : Jvm.MethodName)) ∈ gtb := gt6 158 rfl rfl
theorem w_1429 : (Jvm.Cond.code ({ cls := "GorgeWireModel", name := "isAhead", desc := "(I)Z" } : Jvm.MethodName) prog_14_method_57_code (1 : Nat) (Option.some Jvm.ClassFile.FieldType.boolean)) ∈ gtb := gt6 159 rfl rfl
theorem w_1430 : (Jvm.Cond.methodLink "GorgeWireModel" (82 : Nat) ({ cls := "GorgeWireModel", name := "copy", desc := "([I[I)V" } : Jvm.MethodName)) ∈ gtb := gt6 160 rfl rfl
theorem w_1431 : (Jvm.Cond.static ({ cls := "GorgeWireModel", name := "copy", desc := "([I[I)V" } : Jvm.MethodName)) ∈ gtb := gt6 161 rfl rfl
theorem w_1432 : (Jvm.Cond.code ({ cls := "GorgeWireModel", name := "copy", desc := "([I[I)V" } : Jvm.MethodName) prog_14_method_5_code (3 : Nat) (Option.none : Option Jvm.ClassFile.FieldType)) ∈ gtb := gt6 162 rfl rfl
theorem w_1433 : (Jvm.Cond.methodLink "GorgeWireModel" (250 : Nat) ({ cls := "GorgeWireModel", name := "back", desc := "(I)I" } : Jvm.MethodName)) ∈ gtb := gt6 163 rfl rfl
theorem w_1435 : (Jvm.Cond.instanceMethod ({ cls := "GorgeWireModel", name := "back", desc := "(I)I" } : Jvm.MethodName)) ∈ gtb := gt6 165 rfl rfl
theorem w_1436 : (Jvm.Cond.code ({ cls := "GorgeWireModel", name := "back", desc := "(I)I" } : Jvm.MethodName) prog_14_method_7_code (2 : Nat) (Option.some Jvm.ClassFile.FieldType.int)) ∈ gtb := gt6 166 rfl rfl
theorem w_1440 : (Jvm.Cond.code ({ cls := "GorgeWireModel", name := "strands", desc := "(I)I" } : Jvm.MethodName) prog_14_method_59_code (2 : Nat) (Option.some Jvm.ClassFile.FieldType.int)) ∈ gtb := gt6 170 rfl rfl
theorem w_1444 : (Jvm.Cond.code ({ cls := "GorgeWireModel", name := "stands", desc := "(I)I" } : Jvm.MethodName) prog_14_method_60_code (6 : Nat) (Option.some Jvm.ClassFile.FieldType.int)) ∈ gtb := gt6 174 rfl rfl
theorem w_1448 : (Jvm.Cond.code ({ cls := "GorgeWireModel", name := "comes", desc := "(I)I" } : Jvm.MethodName) prog_14_method_62_code (3 : Nat) (Option.some Jvm.ClassFile.FieldType.int)) ∈ gtb := gt6 178 rfl rfl
theorem w_1449 : (Jvm.Cond.methodLink "GorgeWireModel" (253 : Nat) ({ cls := "GorgeWireModel", name := "comesBy", desc := "(II)I" } : Jvm.MethodName)) ∈ gtb := gt6 179 rfl rfl
theorem w_1451 : (Jvm.Cond.instanceMethod ({ cls := "GorgeWireModel", name := "comesBy", desc := "(II)I" } : Jvm.MethodName)) ∈ gtb := gt6 181 rfl rfl
theorem w_1452 : (Jvm.Cond.code ({ cls := "GorgeWireModel", name := "comesBy", desc := "(II)I" } : Jvm.MethodName) prog_14_method_61_code (4 : Nat) (Option.some Jvm.ClassFile.FieldType.int)) ∈ gtb := gt6 182 rfl rfl
theorem w_1456 : (Jvm.Cond.code ({ cls := "GorgeWireModel", name := "snug", desc := "(III)I" } : Jvm.MethodName) prog_14_method_64_code (4 : Nat) (Option.some Jvm.ClassFile.FieldType.int)) ∈ gtb := gt6 186 rfl rfl
theorem w_1457 : (Jvm.Cond.methodLink "GorgeWireModel" (256 : Nat) ({ cls := "GorgeWireModel", name := "least", desc := "(IIIIIII)I" } : Jvm.MethodName)) ∈ gtb := gt6 187 rfl rfl
theorem w_1459 : (Jvm.Cond.instanceMethod ({ cls := "GorgeWireModel", name := "least", desc := "(IIIIIII)I" } : Jvm.MethodName)) ∈ gtb := gt6 189 rfl rfl
theorem w_1460 : (Jvm.Cond.code ({ cls := "GorgeWireModel", name := "least", desc := "(IIIIIII)I" } : Jvm.MethodName) prog_14_method_63_code (10 : Nat) (Option.some Jvm.ClassFile.FieldType.int)) ∈ gtb := gt6 190 rfl rfl
theorem w_1464 : (Jvm.Cond.code ({ cls := "GorgeWireModel", name := "lower", desc := "(II)I" } : Jvm.MethodName) prog_14_method_65_code (3 : Nat) (Option.some Jvm.ClassFile.FieldType.int)) ∈ gtb := gt6 194 rfl rfl
theorem w_1468 : (Jvm.Cond.code ({ cls := "GorgeWireModel", name := "line", desc := "(II)I" } : Jvm.MethodName) prog_14_method_68_code (3 : Nat) (Option.some Jvm.ClassFile.FieldType.int)) ∈ gtb := gt6 198 rfl rfl
theorem w_1469 : (Jvm.Cond.methodLink "GorgeWireModel" (260 : Nat) ({ cls := "GorgeWireModel", name := "isAsTold", desc := "(II)Z" } : Jvm.MethodName)) ∈ gtb := gt6 199 rfl rfl
theorem w_1470 : (Jvm.Cond.static ({ cls := "GorgeWireModel", name := "isAsTold", desc := "(II)Z" } : Jvm.MethodName)) ∈ gtb := gt6 200 rfl rfl
theorem w_1471 : (Jvm.Cond.code ({ cls := "GorgeWireModel", name := "isAsTold", desc := "(II)Z" } : Jvm.MethodName) prog_14_method_66_code (2 : Nat) (Option.some Jvm.ClassFile.FieldType.boolean)) ∈ gtb := gt6 201 rfl rfl
theorem w_1472 : (Jvm.Cond.methodLink "GorgeWireModel" (263 : Nat) ({ cls := "GorgeWireModel", name := "spins", desc := "(II)I" } : Jvm.MethodName)) ∈ gtb := gt6 202 rfl rfl
theorem w_1474 : (Jvm.Cond.instanceMethod ({ cls := "GorgeWireModel", name := "spins", desc := "(II)I" } : Jvm.MethodName)) ∈ gtb := gt6 204 rfl rfl
theorem w_1475 : (Jvm.Cond.code ({ cls := "GorgeWireModel", name := "spins", desc := "(II)I" } : Jvm.MethodName) prog_14_method_67_code (4 : Nat) (Option.some Jvm.ClassFile.FieldType.int)) ∈ gtb := gt6 205 rfl rfl
theorem w_1479 : (Jvm.Cond.code ({ cls := "GorgeWireModel", name := "lines", desc := "(I)I" } : Jvm.MethodName) prog_14_method_69_code (5 : Nat) (Option.some Jvm.ClassFile.FieldType.int)) ∈ gtb := gt6 209 rfl rfl
theorem w_1480 : (Jvm.Cond.methodLink "GorgeWireModel" (266 : Nat) ({ cls := "GorgeWireModel", name := "isSheet", desc := "(I)Z" } : Jvm.MethodName)) ∈ gtb := gt6 210 rfl rfl
theorem w_1481 : (Jvm.Cond.static ({ cls := "GorgeWireModel", name := "isSheet", desc := "(I)Z" } : Jvm.MethodName)) ∈ gtb := gt6 211 rfl rfl
theorem w_1482 : (Jvm.Cond.code ({ cls := "GorgeWireModel", name := "isSheet", desc := "(I)Z" } : Jvm.MethodName) prog_14_method_86_code (1 : Nat) (Option.some Jvm.ClassFile.FieldType.boolean)) ∈ gtb := gt6 212 rfl rfl
theorem w_1486 : (Jvm.Cond.code ({ cls := "GorgeWireModel", name := "over", desc := "(II)I" } : Jvm.MethodName) prog_14_method_72_code (6 : Nat) (Option.some Jvm.ClassFile.FieldType.int)) ∈ gtb := gt6 216 rfl rfl
theorem w_1487 : (Jvm.Cond.methodLink "GorgeWireModel" (272 : Nat) ({ cls := "GorgeWireModel", name := "findMany", desc := "(I)V" } : Jvm.MethodName)) ∈ gtb := gt6 217 rfl rfl
theorem w_1489 : (Jvm.Cond.instanceMethod ({ cls := "GorgeWireModel", name := "findMany", desc := "(I)V" } : Jvm.MethodName)) ∈ gtb := gt6 219 rfl rfl
theorem w_1490 : (Jvm.Cond.code ({ cls := "GorgeWireModel", name := "findMany", desc := "(I)V" } : Jvm.MethodName) prog_14_method_71_code (5 : Nat) (Option.none : Option Jvm.ClassFile.FieldType)) ∈ gtb := gt6 220 rfl rfl
theorem w_1491 : (Jvm.Cond.methodLink "GorgeWireModel" (269 : Nat) ({ cls := "GorgeWireModel", name := "pulls", desc := "(II)Z" } : Jvm.MethodName)) ∈ gtb := gt6 221 rfl rfl
theorem w_1493 : (Jvm.Cond.instanceMethod ({ cls := "GorgeWireModel", name := "pulls", desc := "(II)Z" } : Jvm.MethodName)) ∈ gtb := gt6 223 rfl rfl
theorem w_1494 : (Jvm.Cond.code ({ cls := "GorgeWireModel", name := "pulls", desc := "(II)Z" } : Jvm.MethodName) prog_14_method_70_code (3 : Nat) (Option.some Jvm.ClassFile.FieldType.boolean)) ∈ gtb := gt6 224 rfl rfl
theorem w_1498 : (Jvm.Cond.code ({ cls := "GorgeWireModel", name := "load", desc := "(II)I" } : Jvm.MethodName) prog_14_method_73_code (4 : Nat) (Option.some Jvm.ClassFile.FieldType.int)) ∈ gtb := gt6 228 rfl rfl
theorem w_1502 : (Jvm.Cond.code ({ cls := "GorgeWireModel", name := "unload", desc := "()I" } : Jvm.MethodName) prog_14_method_74_code (1 : Nat) (Option.some Jvm.ClassFile.FieldType.int)) ∈ gtb := gt6 232 rfl rfl
theorem w_1506 : (Jvm.Cond.code ({ cls := "GorgeWireModel", name := "order", desc := "(I)I" } : Jvm.MethodName) prog_14_method_76_code (2 : Nat) (Option.some Jvm.ClassFile.FieldType.int)) ∈ gtb := gt6 236 rfl rfl
theorem w_1507 : (Jvm.Cond.methodLink "GorgeWireModel" (278 : Nat) ({ cls := "GorgeWireModel", name := "orders", desc := "(IIII)V" } : Jvm.MethodName)) ∈ gtb := gt6 237 rfl rfl
theorem w_1509 : (Jvm.Cond.instanceMethod ({ cls := "GorgeWireModel", name := "orders", desc := "(IIII)V" } : Jvm.MethodName)) ∈ gtb := gt6 239 rfl rfl
theorem w_1510 : (Jvm.Cond.code ({ cls := "GorgeWireModel", name := "orders", desc := "(IIII)V" } : Jvm.MethodName) prog_14_method_75_code (7 : Nat) (Option.none : Option Jvm.ClassFile.FieldType)) ∈ gtb := gt7 0 rfl rfl
theorem w_1514 : (Jvm.Cond.code ({ cls := "GorgeWireModel", name := "bridge", desc := "(II)I" } : Jvm.MethodName) prog_14_method_77_code (3 : Nat) (Option.some Jvm.ClassFile.FieldType.int)) ∈ gtb := gt7 4 rfl rfl
theorem w_1518 : (Jvm.Cond.code ({ cls := "GorgeWireModel", name := "seed", desc := "(I)I" } : Jvm.MethodName) prog_14_method_78_code (2 : Nat) (Option.some Jvm.ClassFile.FieldType.int)) ∈ gtb := gt7 8 rfl rfl
theorem w_1522 : (Jvm.Cond.code ({ cls := "GorgeWireModel", name := "voice", desc := "(III)I" } : Jvm.MethodName) prog_14_method_84_code (4 : Nat) (Option.some Jvm.ClassFile.FieldType.int)) ∈ gtb := gt7 12 rfl rfl
theorem w_1523 : (Jvm.Cond.methodLink "GorgeWireModel" (300 : Nat) ({ cls := "GorgeWireModel", name := "voiced", desc := "(II)I" } : Jvm.MethodName)) ∈ gtb := gt7 13 rfl rfl
theorem w_1525 : (Jvm.Cond.instanceMethod ({ cls := "GorgeWireModel", name := "voiced", desc := "(II)I" } : Jvm.MethodName)) ∈ gtb := gt7 15 rfl rfl
theorem w_1526 : (Jvm.Cond.code ({ cls := "GorgeWireModel", name := "voiced", desc := "(II)I" } : Jvm.MethodName) prog_14_method_81_code (3 : Nat) (Option.some Jvm.ClassFile.FieldType.int)) ∈ gtb := gt7 16 rfl rfl
theorem w_1527 : (Jvm.Cond.methodLink "GorgeWireModel" (288 : Nat) ({ cls := "GorgeWireModel", name := "bodyFrom", desc := "(III)I" } : Jvm.MethodName)) ∈ gtb := gt7 17 rfl rfl
theorem w_1529 : (Jvm.Cond.instanceMethod ({ cls := "GorgeWireModel", name := "bodyFrom", desc := "(III)I" } : Jvm.MethodName)) ∈ gtb := gt7 19 rfl rfl
theorem w_1530 : (Jvm.Cond.code ({ cls := "GorgeWireModel", name := "bodyFrom", desc := "(III)I" } : Jvm.MethodName) prog_14_method_82_code (5 : Nat) (Option.some Jvm.ClassFile.FieldType.int)) ∈ gtb := gt7 20 rfl rfl
theorem w_1531 : (Jvm.Cond.methodLink "GorgeWireModel" (291 : Nat) ({ cls := "GorgeWireModel", name := "hasOwn", desc := "(II)Z" } : Jvm.MethodName)) ∈ gtb := gt7 21 rfl rfl
theorem w_1532 : (Jvm.Cond.static ({ cls := "GorgeWireModel", name := "hasOwn", desc := "(II)Z" } : Jvm.MethodName)) ∈ gtb := gt7 22 rfl rfl
theorem w_1533 : (Jvm.Cond.code ({ cls := "GorgeWireModel", name := "hasOwn", desc := "(II)Z" } : Jvm.MethodName) prog_14_method_80_code (2 : Nat) (Option.some Jvm.ClassFile.FieldType.boolean)) ∈ gtb := gt7 23 rfl rfl
theorem w_1534 : (Jvm.Cond.methodLink "GorgeWireModel" (294 : Nat) ({ cls := "GorgeWireModel", name := "body", desc := "(III)I" } : Jvm.MethodName)) ∈ gtb := gt7 24 rfl rfl
theorem w_1536 : (Jvm.Cond.instanceMethod ({ cls := "GorgeWireModel", name := "body", desc := "(III)I" } : Jvm.MethodName)) ∈ gtb := gt7 26 rfl rfl
theorem w_1537 : (Jvm.Cond.code ({ cls := "GorgeWireModel", name := "body", desc := "(III)I" } : Jvm.MethodName) prog_14_method_83_code (5 : Nat) (Option.some Jvm.ClassFile.FieldType.int)) ∈ gtb := gt7 27 rfl rfl
theorem w_1538 : (Jvm.Cond.methodLink "GorgeWireModel" (297 : Nat) ({ cls := "GorgeWireModel", name := "began", desc := "(I)V" } : Jvm.MethodName)) ∈ gtb := gt7 28 rfl rfl
theorem w_1540 : (Jvm.Cond.instanceMethod ({ cls := "GorgeWireModel", name := "began", desc := "(I)V" } : Jvm.MethodName)) ∈ gtb := gt7 30 rfl rfl
theorem w_1541 : (Jvm.Cond.code ({ cls := "GorgeWireModel", name := "began", desc := "(I)V" } : Jvm.MethodName) prog_14_method_79_code (2 : Nat) (Option.none : Option Jvm.ClassFile.FieldType)) ∈ gtb := gt7 31 rfl rfl
theorem w_1545 : (Jvm.Cond.code ({ cls := "GorgeWireModel", name := "trace", desc := "(I)I" } : Jvm.MethodName) prog_14_method_85_code (2 : Nat) (Option.some Jvm.ClassFile.FieldType.int)) ∈ gtb := gt7 35 rfl rfl
theorem w_1549 : (Jvm.Cond.code ({ cls := "GorgeWireModel", name := "sheet", desc := "(III)I" } : Jvm.MethodName) prog_14_method_87_code (5 : Nat) (Option.some Jvm.ClassFile.FieldType.int)) ∈ gtb := gt7 39 rfl rfl
theorem w_1553 : (Jvm.Cond.code ({ cls := "GorgeWireModel", name := "put", desc := "(III)I" } : Jvm.MethodName) prog_14_method_88_code (4 : Nat) (Option.some Jvm.ClassFile.FieldType.int)) ∈ gtb := gt7 43 rfl rfl
theorem w_1557 : (Jvm.Cond.code ({ cls := "GorgeWireModel", name := "move", desc := "(IIIII)I" } : Jvm.MethodName) prog_14_method_89_code (7 : Nat) (Option.some Jvm.ClassFile.FieldType.int)) ∈ gtb := gt7 47 rfl rfl
theorem w_1561 : (Jvm.Cond.code ({ cls := "GorgeWireModel", name := "image", desc := "()I" } : Jvm.MethodName) prog_14_method_90_code (1 : Nat) (Option.some Jvm.ClassFile.FieldType.int)) ∈ gtb := gt7 51 rfl rfl
theorem w_1565 : (Jvm.Cond.code ({ cls := "GorgeWireModel", name := "restore", desc := "()I" } : Jvm.MethodName) prog_14_method_91_code (1 : Nat) (Option.some Jvm.ClassFile.FieldType.int)) ∈ gtb := gt7 55 rfl rfl
theorem w_1569 : (Jvm.Cond.code ({ cls := "GorgeWireModel", name := "tell", desc := "(I)I" } : Jvm.MethodName) prog_14_method_92_code (2 : Nat) (Option.some Jvm.ClassFile.FieldType.int)) ∈ gtb := gt7 59 rfl rfl
theorem w_1573 : (Jvm.Cond.code ({ cls := "GorgeWireModel", name := "check", desc := "(I)I" } : Jvm.MethodName) prog_14_method_93_code (4 : Nat) (Option.some Jvm.ClassFile.FieldType.int)) ∈ gtb := gt7 63 rfl rfl
theorem w_1577 : (Jvm.Cond.code ({ cls := "GorgeWireModel", name := "count", desc := "(I)I" } : Jvm.MethodName) prog_14_method_94_code (4 : Nat) (Option.some Jvm.ClassFile.FieldType.int)) ∈ gtb := gt7 67 rfl rfl
theorem w_1581 : (Jvm.Cond.code ({ cls := "GorgeWireModel", name := "told", desc := "(I)I" } : Jvm.MethodName) prog_14_method_95_code (2 : Nat) (Option.some Jvm.ClassFile.FieldType.int)) ∈ gtb := gt7 71 rfl rfl
theorem w_1583 : (Jvm.Cond.sameMethod "GorgeWire$Rolled" "GorgeWire$Rolled" "gainOfKind" "(LGorgeWire$Wire;II)I") ∈ gtb := gt7 73 rfl rfl
theorem w_1584 : (Jvm.Cond.sameMethod "GorgeWire$Hauled" "GorgeWire$Hauled" "hangs" "(I)I") ∈ gtb := gt7 74 rfl rfl
theorem w_1585 : (Jvm.Cond.sameMethod "GorgeWire$Ride" "GorgeWire$Ride" "bears" "(I)I") ∈ gtb := gt7 75 rfl rfl
theorem w_1586 : (Jvm.Cond.selects "GorgeWire$Braked" ({ cls := "GorgeWire$Ride", name := "bears", desc := "(I)I" } : Jvm.MethodName) ({ cls := "GorgeWire$Braked", name := "bears", desc := "(I)I" } : Jvm.MethodName)) ∈ gtb := gt7 76 rfl rfl
theorem w_1587 : (Jvm.Cond.selects "GorgeWire$Greased" ({ cls := "GorgeWire$Ride", name := "bears", desc := "(I)I" } : Jvm.MethodName) ({ cls := "GorgeWire$Ride", name := "bears", desc := "(I)I" } : Jvm.MethodName)) ∈ gtb := gt7 77 rfl rfl
theorem w_1588 : (Jvm.Cond.selects "GorgeWire$Hauled" ({ cls := "GorgeWire$Ride", name := "bears", desc := "(I)I" } : Jvm.MethodName) ({ cls := "GorgeWire$Ride", name := "bears", desc := "(I)I" } : Jvm.MethodName)) ∈ gtb := gt7 78 rfl rfl
theorem w_1589 : (Jvm.Cond.selects "GorgeWire$Late" ({ cls := "GorgeWire$Ride", name := "bears", desc := "(I)I" } : Jvm.MethodName) ({ cls := "GorgeWire$Braked", name := "bears", desc := "(I)I" } : Jvm.MethodName)) ∈ gtb := gt7 79 rfl rfl
theorem w_1590 : (Jvm.Cond.selects "GorgeWire$Ride" ({ cls := "GorgeWire$Ride", name := "bears", desc := "(I)I" } : Jvm.MethodName) ({ cls := "GorgeWire$Ride", name := "bears", desc := "(I)I" } : Jvm.MethodName)) ∈ gtb := gt7 80 rfl rfl
theorem w_1591 : (Jvm.Cond.selects "GorgeWire$Rolled" ({ cls := "GorgeWire$Ride", name := "bears", desc := "(I)I" } : Jvm.MethodName) ({ cls := "GorgeWire$Ride", name := "bears", desc := "(I)I" } : Jvm.MethodName)) ∈ gtb := gt7 81 rfl rfl
theorem w_1592 : (Jvm.Cond.selects "GorgeWire$Windy" ({ cls := "GorgeWire$Ride", name := "bears", desc := "(I)I" } : Jvm.MethodName) ({ cls := "GorgeWire$Ride", name := "bears", desc := "(I)I" } : Jvm.MethodName)) ∈ gtb := gt7 82 rfl rfl
