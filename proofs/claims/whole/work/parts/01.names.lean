def lw_okq (q : MethodName × Nat) : Prop := (q.1.cls ≠ "java/lang/invoke/MethodHandle" ∧ q.1.cls ≠ "java/lang/invoke/VarHandle") ∧ Cond.instantiable q.1.cls q.2 ∈ tables_1 ∧ Cond.privateMethod q.1 ∈ tables_1 ∧ Cond.instanceMethod q.1 ∈ tables_1
theorem lw_p0 : lw_okq (⟨"GorgeWire", "fail", "(I)I"⟩, 13) := ⟨⟨by decide +kernel, by decide +kernel⟩, List.mem_of_getElem? (i := 22) (by decide +kernel), List.mem_of_getElem? (i := 289) (by decide +kernel), List.mem_of_getElem? (i := 290) (by decide +kernel)⟩
theorem lw_p1 : lw_okq (⟨"GorgeWire", "isOnWire", "(II)Z"⟩, 13) := ⟨⟨by decide +kernel, by decide +kernel⟩, List.mem_of_getElem? (i := 22) (by decide +kernel), List.mem_of_getElem? (i := 318) (by decide +kernel), List.mem_of_getElem? (i := 319) (by decide +kernel)⟩
theorem lw_p2 : lw_okq (⟨"GorgeWire$Wire", "spanBy", "()I"⟩, 1) := ⟨⟨by decide +kernel, by decide +kernel⟩, List.mem_of_getElem? (i := 81) (by decide +kernel), List.mem_of_getElem? (i := 327) (by decide +kernel), List.mem_of_getElem? (i := 328) (by decide +kernel)⟩
theorem lw_p3 : lw_okq (⟨"GorgeWire", "mayGo", "(I)Z"⟩, 13) := ⟨⟨by decide +kernel, by decide +kernel⟩, List.mem_of_getElem? (i := 22) (by decide +kernel), List.mem_of_getElem? (i := 368) (by decide +kernel), List.mem_of_getElem? (i := 369) (by decide +kernel)⟩
theorem lw_p4 : lw_okq (⟨"GorgeWire$Reader", "either", "(I)I"⟩, 5) := ⟨⟨by decide +kernel, by decide +kernel⟩, List.mem_of_getElem? (i := 30) (by decide +kernel), List.mem_of_getElem? (i := 382) (by decide +kernel), List.mem_of_getElem? (i := 383) (by decide +kernel)⟩
theorem lw_p5 : lw_okq (⟨"GorgeWire$Reader", "both", "(I)I"⟩, 5) := ⟨⟨by decide +kernel, by decide +kernel⟩, List.mem_of_getElem? (i := 30) (by decide +kernel), List.mem_of_getElem? (i := 386) (by decide +kernel), List.mem_of_getElem? (i := 387) (by decide +kernel)⟩
theorem lw_p6 : lw_okq (⟨"GorgeWire$Reader", "compared", "(I)I"⟩, 5) := ⟨⟨by decide +kernel, by decide +kernel⟩, List.mem_of_getElem? (i := 30) (by decide +kernel), List.mem_of_getElem? (i := 390) (by decide +kernel), List.mem_of_getElem? (i := 391) (by decide +kernel)⟩
theorem lw_p7 : lw_okq (⟨"GorgeWire$Reader", "sum", "(I)I"⟩, 5) := ⟨⟨by decide +kernel, by decide +kernel⟩, List.mem_of_getElem? (i := 30) (by decide +kernel), List.mem_of_getElem? (i := 394) (by decide +kernel), List.mem_of_getElem? (i := 395) (by decide +kernel)⟩
theorem lw_p8 : lw_okq (⟨"GorgeWire$Reader", "product", "(I)I"⟩, 5) := ⟨⟨by decide +kernel, by decide +kernel⟩, List.mem_of_getElem? (i := 30) (by decide +kernel), List.mem_of_getElem? (i := 398) (by decide +kernel), List.mem_of_getElem? (i := 399) (by decide +kernel)⟩
theorem lw_p9 : lw_okq (⟨"GorgeWire$Reader", "single", "(I)I"⟩, 5) := ⟨⟨by decide +kernel, by decide +kernel⟩, List.mem_of_getElem? (i := 30) (by decide +kernel), List.mem_of_getElem? (i := 402) (by decide +kernel), List.mem_of_getElem? (i := 403) (by decide +kernel)⟩
theorem lw_p10 : lw_okq (⟨"GorgeWire$Reader", "next", "()I"⟩, 5) := ⟨⟨by decide +kernel, by decide +kernel⟩, List.mem_of_getElem? (i := 30) (by decide +kernel), List.mem_of_getElem? (i := 406) (by decide +kernel), List.mem_of_getElem? (i := 407) (by decide +kernel)⟩
theorem lw_p11 : lw_okq (⟨"GorgeWire$Reader", "number", "()I"⟩, 5) := ⟨⟨by decide +kernel, by decide +kernel⟩, List.mem_of_getElem? (i := 30) (by decide +kernel), List.mem_of_getElem? (i := 411) (by decide +kernel), List.mem_of_getElem? (i := 412) (by decide +kernel)⟩
theorem lw_p12 : lw_okq (⟨"GorgeWire$Reader", "opened", "(I)I"⟩, 5) := ⟨⟨by decide +kernel, by decide +kernel⟩, List.mem_of_getElem? (i := 30) (by decide +kernel), List.mem_of_getElem? (i := 415) (by decide +kernel), List.mem_of_getElem? (i := 416) (by decide +kernel)⟩
theorem lw_p13 : lw_okq (⟨"GorgeWire$Reader", "takes", "(C)Z"⟩, 5) := ⟨⟨by decide +kernel, by decide +kernel⟩, List.mem_of_getElem? (i := 30) (by decide +kernel), List.mem_of_getElem? (i := 419) (by decide +kernel), List.mem_of_getElem? (i := 420) (by decide +kernel)⟩
theorem lw_p14 : lw_okq (⟨"GorgeWire$Reader", "stopHere", "()I"⟩, 5) := ⟨⟨by decide +kernel, by decide +kernel⟩, List.mem_of_getElem? (i := 30) (by decide +kernel), List.mem_of_getElem? (i := 426) (by decide +kernel), List.mem_of_getElem? (i := 427) (by decide +kernel)⟩
theorem lw_p15 : lw_okq (⟨"GorgeWire", "made", "(IIII)LGorgeWire$Ride;"⟩, 13) := ⟨⟨by decide +kernel, by decide +kernel⟩, List.mem_of_getElem? (i := 22) (by decide +kernel), List.mem_of_getElem? (i := 490) (by decide +kernel), List.mem_of_getElem? (i := 491) (by decide +kernel)⟩
def lw_privs_1 : List (MethodName × Nat) := [(⟨"GorgeWire", "fail", "(I)I"⟩, 13), (⟨"GorgeWire", "isOnWire", "(II)Z"⟩, 13), (⟨"GorgeWire$Wire", "spanBy", "()I"⟩, 1), (⟨"GorgeWire", "mayGo", "(I)Z"⟩, 13), (⟨"GorgeWire$Reader", "either", "(I)I"⟩, 5), (⟨"GorgeWire$Reader", "both", "(I)I"⟩, 5), (⟨"GorgeWire$Reader", "compared", "(I)I"⟩, 5), (⟨"GorgeWire$Reader", "sum", "(I)I"⟩, 5), (⟨"GorgeWire$Reader", "product", "(I)I"⟩, 5), (⟨"GorgeWire$Reader", "single", "(I)I"⟩, 5), (⟨"GorgeWire$Reader", "next", "()I"⟩, 5), (⟨"GorgeWire$Reader", "number", "()I"⟩, 5), (⟨"GorgeWire$Reader", "opened", "(I)I"⟩, 5), (⟨"GorgeWire$Reader", "takes", "(C)Z"⟩, 5), (⟨"GorgeWire$Reader", "stopHere", "()I"⟩, 5), (⟨"GorgeWire", "made", "(IIII)LGorgeWire$Ride;"⟩, 13)]
theorem lw_r1 : ∀ q ∈ lw_privs_1, lw_okq q := List.forall_mem_cons.mpr ⟨lw_p0, List.forall_mem_cons.mpr ⟨lw_p1, List.forall_mem_cons.mpr ⟨lw_p2, List.forall_mem_cons.mpr ⟨lw_p3, List.forall_mem_cons.mpr ⟨lw_p4, List.forall_mem_cons.mpr ⟨lw_p5, List.forall_mem_cons.mpr ⟨lw_p6, List.forall_mem_cons.mpr ⟨lw_p7, List.forall_mem_cons.mpr ⟨lw_p8, List.forall_mem_cons.mpr ⟨lw_p9, List.forall_mem_cons.mpr ⟨lw_p10, List.forall_mem_cons.mpr ⟨lw_p11, List.forall_mem_cons.mpr ⟨lw_p12, List.forall_mem_cons.mpr ⟨lw_p13, List.forall_mem_cons.mpr ⟨lw_p14, List.forall_mem_cons.mpr ⟨lw_p15, fun _ h => absurd h List.not_mem_nil⟩⟩⟩⟩⟩⟩⟩⟩⟩⟩⟩⟩⟩⟩⟩⟩
theorem lw_p16 : lw_okq (⟨"GorgeWire$State", "comeIn", "(I)V"⟩, 18) := ⟨⟨by decide +kernel, by decide +kernel⟩, List.mem_of_getElem? (i := 75) (by decide +kernel), List.mem_of_getElem? (i := 748) (by decide +kernel), List.mem_of_getElem? (i := 749) (by decide +kernel)⟩
theorem lw_p17 : lw_okq (⟨"GorgeWire$State", "wearStrands", "(I)V"⟩, 18) := ⟨⟨by decide +kernel, by decide +kernel⟩, List.mem_of_getElem? (i := 75) (by decide +kernel), List.mem_of_getElem? (i := 752) (by decide +kernel), List.mem_of_getElem? (i := 753) (by decide +kernel)⟩
theorem lw_p18 : lw_okq (⟨"GorgeWire", "lookAhead", "(I)V"⟩, 13) := ⟨⟨by decide +kernel, by decide +kernel⟩, List.mem_of_getElem? (i := 22) (by decide +kernel), List.mem_of_getElem? (i := 772) (by decide +kernel), List.mem_of_getElem? (i := 773) (by decide +kernel)⟩
theorem lw_p19 : lw_okq (⟨"GorgeWire", "leastBy", "(IIIIIII)I"⟩, 13) := ⟨⟨by decide +kernel, by decide +kernel⟩, List.mem_of_getElem? (i := 22) (by decide +kernel), List.mem_of_getElem? (i := 811) (by decide +kernel), List.mem_of_getElem? (i := 812) (by decide +kernel)⟩
theorem lw_p20 : lw_okq (⟨"GorgeWire", "addLine", "(II)I"⟩, 13) := ⟨⟨by decide +kernel, by decide +kernel⟩, List.mem_of_getElem? (i := 22) (by decide +kernel), List.mem_of_getElem? (i := 831) (by decide +kernel), List.mem_of_getElem? (i := 832) (by decide +kernel)⟩
theorem lw_p21 : lw_okq (⟨"GorgeWire", "findLinesToGo", "(I)V"⟩, 13) := ⟨⟨by decide +kernel, by decide +kernel⟩, List.mem_of_getElem? (i := 22) (by decide +kernel), List.mem_of_getElem? (i := 848) (by decide +kernel), List.mem_of_getElem? (i := 849) (by decide +kernel)⟩
theorem lw_p22 : lw_okq (⟨"GorgeWire", "nextOf", "(II)I"⟩, 13) := ⟨⟨by decide +kernel, by decide +kernel⟩, List.mem_of_getElem? (i := 22) (by decide +kernel), List.mem_of_getElem? (i := 852) (by decide +kernel), List.mem_of_getElem? (i := 853) (by decide +kernel)⟩
theorem lw_p23 : lw_okq (⟨"GorgeWire", "pulls", "(II)Z"⟩, 13) := ⟨⟨by decide +kernel, by decide +kernel⟩, List.mem_of_getElem? (i := 22) (by decide +kernel), List.mem_of_getElem? (i := 856) (by decide +kernel), List.mem_of_getElem? (i := 857) (by decide +kernel)⟩
theorem lw_p24 : lw_okq (⟨"GorgeWire", "lineOfRow", "(I)I"⟩, 13) := ⟨⟨by decide +kernel, by decide +kernel⟩, List.mem_of_getElem? (i := 22) (by decide +kernel), List.mem_of_getElem? (i := 860) (by decide +kernel), List.mem_of_getElem? (i := 861) (by decide +kernel)⟩
theorem lw_p25 : lw_okq (⟨"GorgeWire", "tryOrders", "(IIII)V"⟩, 13) := ⟨⟨by decide +kernel, by decide +kernel⟩, List.mem_of_getElem? (i := 22) (by decide +kernel), List.mem_of_getElem? (i := 877) (by decide +kernel), List.mem_of_getElem? (i := 878) (by decide +kernel)⟩
theorem lw_p26 : lw_okq (⟨"GorgeWireModel", "finding", "(I)I"⟩, 27) := ⟨⟨by decide +kernel, by decide +kernel⟩, List.mem_of_getElem? (i := 1039) (by decide +kernel), List.mem_of_getElem? (i := 1140) (by decide +kernel), List.mem_of_getElem? (i := 1141) (by decide +kernel)⟩
theorem lw_p27 : lw_okq (⟨"GorgeWireModel", "become", "(II)I"⟩, 27) := ⟨⟨by decide +kernel, by decide +kernel⟩, List.mem_of_getElem? (i := 1039) (by decide +kernel), List.mem_of_getElem? (i := 1145) (by decide +kernel), List.mem_of_getElem? (i := 1146) (by decide +kernel)⟩
theorem lw_p28 : lw_okq (⟨"GorgeWireModel", "of", "(II)I"⟩, 27) := ⟨⟨by decide +kernel, by decide +kernel⟩, List.mem_of_getElem? (i := 1039) (by decide +kernel), List.mem_of_getElem? (i := 1149) (by decide +kernel), List.mem_of_getElem? (i := 1150) (by decide +kernel)⟩
theorem lw_p29 : lw_okq (⟨"GorgeWireModel", "tells", "(III)V"⟩, 27) := ⟨⟨by decide +kernel, by decide +kernel⟩, List.mem_of_getElem? (i := 1039) (by decide +kernel), List.mem_of_getElem? (i := 1154) (by decide +kernel), List.mem_of_getElem? (i := 1155) (by decide +kernel)⟩
theorem lw_p30 : lw_okq (⟨"GorgeWireModel", "tightOf", "()I"⟩, 27) := ⟨⟨by decide +kernel, by decide +kernel⟩, List.mem_of_getElem? (i := 1039) (by decide +kernel), List.mem_of_getElem? (i := 1162) (by decide +kernel), List.mem_of_getElem? (i := 1163) (by decide +kernel)⟩
theorem lw_p31 : lw_okq (⟨"GorgeWireModel", "isOn", "(II)Z"⟩, 27) := ⟨⟨by decide +kernel, by decide +kernel⟩, List.mem_of_getElem? (i := 1039) (by decide +kernel), List.mem_of_getElem? (i := 1171) (by decide +kernel), List.mem_of_getElem? (i := 1172) (by decide +kernel)⟩
def lw_privs_2 : List (MethodName × Nat) := [(⟨"GorgeWire$State", "comeIn", "(I)V"⟩, 18), (⟨"GorgeWire$State", "wearStrands", "(I)V"⟩, 18), (⟨"GorgeWire", "lookAhead", "(I)V"⟩, 13), (⟨"GorgeWire", "leastBy", "(IIIIIII)I"⟩, 13), (⟨"GorgeWire", "addLine", "(II)I"⟩, 13), (⟨"GorgeWire", "findLinesToGo", "(I)V"⟩, 13), (⟨"GorgeWire", "nextOf", "(II)I"⟩, 13), (⟨"GorgeWire", "pulls", "(II)Z"⟩, 13), (⟨"GorgeWire", "lineOfRow", "(I)I"⟩, 13), (⟨"GorgeWire", "tryOrders", "(IIII)V"⟩, 13), (⟨"GorgeWireModel", "finding", "(I)I"⟩, 27), (⟨"GorgeWireModel", "become", "(II)I"⟩, 27), (⟨"GorgeWireModel", "of", "(II)I"⟩, 27), (⟨"GorgeWireModel", "tells", "(III)V"⟩, 27), (⟨"GorgeWireModel", "tightOf", "()I"⟩, 27), (⟨"GorgeWireModel", "isOn", "(II)Z"⟩, 27)]
theorem lw_r2 : ∀ q ∈ lw_privs_2, lw_okq q := List.forall_mem_cons.mpr ⟨lw_p16, List.forall_mem_cons.mpr ⟨lw_p17, List.forall_mem_cons.mpr ⟨lw_p18, List.forall_mem_cons.mpr ⟨lw_p19, List.forall_mem_cons.mpr ⟨lw_p20, List.forall_mem_cons.mpr ⟨lw_p21, List.forall_mem_cons.mpr ⟨lw_p22, List.forall_mem_cons.mpr ⟨lw_p23, List.forall_mem_cons.mpr ⟨lw_p24, List.forall_mem_cons.mpr ⟨lw_p25, List.forall_mem_cons.mpr ⟨lw_p26, List.forall_mem_cons.mpr ⟨lw_p27, List.forall_mem_cons.mpr ⟨lw_p28, List.forall_mem_cons.mpr ⟨lw_p29, List.forall_mem_cons.mpr ⟨lw_p30, List.forall_mem_cons.mpr ⟨lw_p31, fun _ h => absurd h List.not_mem_nil⟩⟩⟩⟩⟩⟩⟩⟩⟩⟩⟩⟩⟩⟩⟩⟩
theorem lw_p32 : lw_okq (⟨"GorgeWireModel", "depthOf", "(II)I"⟩, 27) := ⟨⟨by decide +kernel, by decide +kernel⟩, List.mem_of_getElem? (i := 1039) (by decide +kernel), List.mem_of_getElem? (i := 1175) (by decide +kernel), List.mem_of_getElem? (i := 1176) (by decide +kernel)⟩
theorem lw_p33 : lw_okq (⟨"GorgeWireModel", "steepOf", "(II)I"⟩, 27) := ⟨⟨by decide +kernel, by decide +kernel⟩, List.mem_of_getElem? (i := 1039) (by decide +kernel), List.mem_of_getElem? (i := 1185) (by decide +kernel), List.mem_of_getElem? (i := 1186) (by decide +kernel)⟩
theorem lw_p34 : lw_okq (⟨"GorgeWireModel", "pulledAt", "(II)I"⟩, 27) := ⟨⟨by decide +kernel, by decide +kernel⟩, List.mem_of_getElem? (i := 1039) (by decide +kernel), List.mem_of_getElem? (i := 1193) (by decide +kernel), List.mem_of_getElem? (i := 1194) (by decide +kernel)⟩
theorem lw_p35 : lw_okq (⟨"GorgeWireModel", "holds", "(I)Z"⟩, 27) := ⟨⟨by decide +kernel, by decide +kernel⟩, List.mem_of_getElem? (i := 1039) (by decide +kernel), List.mem_of_getElem? (i := 1202) (by decide +kernel), List.mem_of_getElem? (i := 1203) (by decide +kernel)⟩
theorem lw_p36 : lw_okq (⟨"GorgeWireModel", "given", "(IIIII)I"⟩, 27) := ⟨⟨by decide +kernel, by decide +kernel⟩, List.mem_of_getElem? (i := 1039) (by decide +kernel), List.mem_of_getElem? (i := 1211) (by decide +kernel), List.mem_of_getElem? (i := 1212) (by decide +kernel)⟩
theorem lw_p37 : lw_okq (⟨"GorgeWireModel", "worked", "(I)I"⟩, 27) := ⟨⟨by decide +kernel, by decide +kernel⟩, List.mem_of_getElem? (i := 1039) (by decide +kernel), List.mem_of_getElem? (i := 1215) (by decide +kernel), List.mem_of_getElem? (i := 1216) (by decide +kernel)⟩
theorem lw_p38 : lw_okq (⟨"GorgeWireModel", "is", "(II)Z"⟩, 27) := ⟨⟨by decide +kernel, by decide +kernel⟩, List.mem_of_getElem? (i := 1039) (by decide +kernel), List.mem_of_getElem? (i := 1231) (by decide +kernel), List.mem_of_getElem? (i := 1232) (by decide +kernel)⟩
theorem lw_p39 : lw_okq (⟨"GorgeWireModel", "rideTold", "(II)I"⟩, 27) := ⟨⟨by decide +kernel, by decide +kernel⟩, List.mem_of_getElem? (i := 1039) (by decide +kernel), List.mem_of_getElem? (i := 1235) (by decide +kernel), List.mem_of_getElem? (i := 1236) (by decide +kernel)⟩
theorem lw_p40 : lw_okq (⟨"GorgeWireModel", "gainOf", "(I)I"⟩, 27) := ⟨⟨by decide +kernel, by decide +kernel⟩, List.mem_of_getElem? (i := 1039) (by decide +kernel), List.mem_of_getElem? (i := 1239) (by decide +kernel), List.mem_of_getElem? (i := 1240) (by decide +kernel)⟩
theorem lw_p41 : lw_okq (⟨"GorgeWireModel", "brakes", "(I)I"⟩, 27) := ⟨⟨by decide +kernel, by decide +kernel⟩, List.mem_of_getElem? (i := 1039) (by decide +kernel), List.mem_of_getElem? (i := 1243) (by decide +kernel), List.mem_of_getElem? (i := 1244) (by decide +kernel)⟩
theorem lw_p42 : lw_okq (⟨"GorgeWireModel", "rubsOf", "(I)I"⟩, 27) := ⟨⟨by decide +kernel, by decide +kernel⟩, List.mem_of_getElem? (i := 1039) (by decide +kernel), List.mem_of_getElem? (i := 1247) (by decide +kernel), List.mem_of_getElem? (i := 1248) (by decide +kernel)⟩
theorem lw_p43 : lw_okq (⟨"GorgeWireModel", "either", "()V"⟩, 27) := ⟨⟨by decide +kernel, by decide +kernel⟩, List.mem_of_getElem? (i := 1039) (by decide +kernel), List.mem_of_getElem? (i := 1272) (by decide +kernel), List.mem_of_getElem? (i := 1273) (by decide +kernel)⟩
theorem lw_p44 : lw_okq (⟨"GorgeWireModel", "both", "()V"⟩, 27) := ⟨⟨by decide +kernel, by decide +kernel⟩, List.mem_of_getElem? (i := 1039) (by decide +kernel), List.mem_of_getElem? (i := 1276) (by decide +kernel), List.mem_of_getElem? (i := 1277) (by decide +kernel)⟩
theorem lw_p45 : lw_okq (⟨"GorgeWireModel", "compared", "()V"⟩, 27) := ⟨⟨by decide +kernel, by decide +kernel⟩, List.mem_of_getElem? (i := 1039) (by decide +kernel), List.mem_of_getElem? (i := 1280) (by decide +kernel), List.mem_of_getElem? (i := 1281) (by decide +kernel)⟩
theorem lw_p46 : lw_okq (⟨"GorgeWireModel", "sum", "()V"⟩, 27) := ⟨⟨by decide +kernel, by decide +kernel⟩, List.mem_of_getElem? (i := 1039) (by decide +kernel), List.mem_of_getElem? (i := 1284) (by decide +kernel), List.mem_of_getElem? (i := 1285) (by decide +kernel)⟩
theorem lw_p47 : lw_okq (⟨"GorgeWireModel", "product", "()V"⟩, 27) := ⟨⟨by decide +kernel, by decide +kernel⟩, List.mem_of_getElem? (i := 1039) (by decide +kernel), List.mem_of_getElem? (i := 1288) (by decide +kernel), List.mem_of_getElem? (i := 1289) (by decide +kernel)⟩
def lw_privs_3 : List (MethodName × Nat) := [(⟨"GorgeWireModel", "depthOf", "(II)I"⟩, 27), (⟨"GorgeWireModel", "steepOf", "(II)I"⟩, 27), (⟨"GorgeWireModel", "pulledAt", "(II)I"⟩, 27), (⟨"GorgeWireModel", "holds", "(I)Z"⟩, 27), (⟨"GorgeWireModel", "given", "(IIIII)I"⟩, 27), (⟨"GorgeWireModel", "worked", "(I)I"⟩, 27), (⟨"GorgeWireModel", "is", "(II)Z"⟩, 27), (⟨"GorgeWireModel", "rideTold", "(II)I"⟩, 27), (⟨"GorgeWireModel", "gainOf", "(I)I"⟩, 27), (⟨"GorgeWireModel", "brakes", "(I)I"⟩, 27), (⟨"GorgeWireModel", "rubsOf", "(I)I"⟩, 27), (⟨"GorgeWireModel", "either", "()V"⟩, 27), (⟨"GorgeWireModel", "both", "()V"⟩, 27), (⟨"GorgeWireModel", "compared", "()V"⟩, 27), (⟨"GorgeWireModel", "sum", "()V"⟩, 27), (⟨"GorgeWireModel", "product", "()V"⟩, 27)]
theorem lw_r3 : ∀ q ∈ lw_privs_3, lw_okq q := List.forall_mem_cons.mpr ⟨lw_p32, List.forall_mem_cons.mpr ⟨lw_p33, List.forall_mem_cons.mpr ⟨lw_p34, List.forall_mem_cons.mpr ⟨lw_p35, List.forall_mem_cons.mpr ⟨lw_p36, List.forall_mem_cons.mpr ⟨lw_p37, List.forall_mem_cons.mpr ⟨lw_p38, List.forall_mem_cons.mpr ⟨lw_p39, List.forall_mem_cons.mpr ⟨lw_p40, List.forall_mem_cons.mpr ⟨lw_p41, List.forall_mem_cons.mpr ⟨lw_p42, List.forall_mem_cons.mpr ⟨lw_p43, List.forall_mem_cons.mpr ⟨lw_p44, List.forall_mem_cons.mpr ⟨lw_p45, List.forall_mem_cons.mpr ⟨lw_p46, List.forall_mem_cons.mpr ⟨lw_p47, fun _ h => absurd h List.not_mem_nil⟩⟩⟩⟩⟩⟩⟩⟩⟩⟩⟩⟩⟩⟩⟩⟩
theorem lw_p48 : lw_okq (⟨"GorgeWireModel", "one", "()V"⟩, 27) := ⟨⟨by decide +kernel, by decide +kernel⟩, List.mem_of_getElem? (i := 1039) (by decide +kernel), List.mem_of_getElem? (i := 1292) (by decide +kernel), List.mem_of_getElem? (i := 1293) (by decide +kernel)⟩
theorem lw_p49 : lw_okq (⟨"GorgeWireModel", "here", "()I"⟩, 27) := ⟨⟨by decide +kernel, by decide +kernel⟩, List.mem_of_getElem? (i := 1039) (by decide +kernel), List.mem_of_getElem? (i := 1296) (by decide +kernel), List.mem_of_getElem? (i := 1297) (by decide +kernel)⟩
theorem lw_p50 : lw_okq (⟨"GorgeWireModel", "codes", "(I)V"⟩, 27) := ⟨⟨by decide +kernel, by decide +kernel⟩, List.mem_of_getElem? (i := 1039) (by decide +kernel), List.mem_of_getElem? (i := 1300) (by decide +kernel), List.mem_of_getElem? (i := 1301) (by decide +kernel)⟩
theorem lw_p51 : lw_okq (⟨"GorgeWireModel", "takes", "(I)Z"⟩, 27) := ⟨⟨by decide +kernel, by decide +kernel⟩, List.mem_of_getElem? (i := 1039) (by decide +kernel), List.mem_of_getElem? (i := 1304) (by decide +kernel), List.mem_of_getElem? (i := 1305) (by decide +kernel)⟩
theorem lw_p52 : lw_okq (⟨"GorgeWireModel", "nameOf", "(I)I"⟩, 27) := ⟨⟨by decide +kernel, by decide +kernel⟩, List.mem_of_getElem? (i := 1039) (by decide +kernel), List.mem_of_getElem? (i := 1308) (by decide +kernel), List.mem_of_getElem? (i := 1309) (by decide +kernel)⟩
theorem lw_p53 : lw_okq (⟨"GorgeWireModel", "whyNot", "(I)I"⟩, 27) := ⟨⟨by decide +kernel, by decide +kernel⟩, List.mem_of_getElem? (i := 1039) (by decide +kernel), List.mem_of_getElem? (i := 1322) (by decide +kernel), List.mem_of_getElem? (i := 1323) (by decide +kernel)⟩
theorem lw_p54 : lw_okq (⟨"GorgeWireModel", "ticksGo", "(I)V"⟩, 27) := ⟨⟨by decide +kernel, by decide +kernel⟩, List.mem_of_getElem? (i := 1039) (by decide +kernel), List.mem_of_getElem? (i := 1326) (by decide +kernel), List.mem_of_getElem? (i := 1327) (by decide +kernel)⟩
theorem lw_p55 : lw_okq (⟨"GorgeWireModel", "tick", "()V"⟩, 27) := ⟨⟨by decide +kernel, by decide +kernel⟩, List.mem_of_getElem? (i := 1039) (by decide +kernel), List.mem_of_getElem? (i := 1330) (by decide +kernel), List.mem_of_getElem? (i := 1331) (by decide +kernel)⟩
theorem lw_p56 : lw_okq (⟨"GorgeWireModel", "isIn", "(I)Z"⟩, 27) := ⟨⟨by decide +kernel, by decide +kernel⟩, List.mem_of_getElem? (i := 1039) (by decide +kernel), List.mem_of_getElem? (i := 1334) (by decide +kernel), List.mem_of_getElem? (i := 1335) (by decide +kernel)⟩
theorem lw_p57 : lw_okq (⟨"GorgeWireModel", "goes", "(I)V"⟩, 27) := ⟨⟨by decide +kernel, by decide +kernel⟩, List.mem_of_getElem? (i := 1039) (by decide +kernel), List.mem_of_getElem? (i := 1338) (by decide +kernel), List.mem_of_getElem? (i := 1339) (by decide +kernel)⟩
theorem lw_p58 : lw_okq (⟨"GorgeWireModel", "drawn", "(I)I"⟩, 27) := ⟨⟨by decide +kernel, by decide +kernel⟩, List.mem_of_getElem? (i := 1039) (by decide +kernel), List.mem_of_getElem? (i := 1349) (by decide +kernel), List.mem_of_getElem? (i := 1350) (by decide +kernel)⟩
theorem lw_p59 : lw_okq (⟨"GorgeWireModel", "back", "(I)I"⟩, 27) := ⟨⟨by decide +kernel, by decide +kernel⟩, List.mem_of_getElem? (i := 1039) (by decide +kernel), List.mem_of_getElem? (i := 1364) (by decide +kernel), List.mem_of_getElem? (i := 1365) (by decide +kernel)⟩
theorem lw_p60 : lw_okq (⟨"GorgeWireModel", "comesBy", "(II)I"⟩, 27) := ⟨⟨by decide +kernel, by decide +kernel⟩, List.mem_of_getElem? (i := 1039) (by decide +kernel), List.mem_of_getElem? (i := 1380) (by decide +kernel), List.mem_of_getElem? (i := 1381) (by decide +kernel)⟩
theorem lw_p61 : lw_okq (⟨"GorgeWireModel", "least", "(IIIIIII)I"⟩, 27) := ⟨⟨by decide +kernel, by decide +kernel⟩, List.mem_of_getElem? (i := 1039) (by decide +kernel), List.mem_of_getElem? (i := 1388) (by decide +kernel), List.mem_of_getElem? (i := 1389) (by decide +kernel)⟩
theorem lw_p62 : lw_okq (⟨"GorgeWireModel", "spins", "(II)I"⟩, 27) := ⟨⟨by decide +kernel, by decide +kernel⟩, List.mem_of_getElem? (i := 1039) (by decide +kernel), List.mem_of_getElem? (i := 1403) (by decide +kernel), List.mem_of_getElem? (i := 1404) (by decide +kernel)⟩
theorem lw_p63 : lw_okq (⟨"GorgeWireModel", "findMany", "(I)V"⟩, 27) := ⟨⟨by decide +kernel, by decide +kernel⟩, List.mem_of_getElem? (i := 1039) (by decide +kernel), List.mem_of_getElem? (i := 1418) (by decide +kernel), List.mem_of_getElem? (i := 1419) (by decide +kernel)⟩
def lw_privs_4 : List (MethodName × Nat) := [(⟨"GorgeWireModel", "one", "()V"⟩, 27), (⟨"GorgeWireModel", "here", "()I"⟩, 27), (⟨"GorgeWireModel", "codes", "(I)V"⟩, 27), (⟨"GorgeWireModel", "takes", "(I)Z"⟩, 27), (⟨"GorgeWireModel", "nameOf", "(I)I"⟩, 27), (⟨"GorgeWireModel", "whyNot", "(I)I"⟩, 27), (⟨"GorgeWireModel", "ticksGo", "(I)V"⟩, 27), (⟨"GorgeWireModel", "tick", "()V"⟩, 27), (⟨"GorgeWireModel", "isIn", "(I)Z"⟩, 27), (⟨"GorgeWireModel", "goes", "(I)V"⟩, 27), (⟨"GorgeWireModel", "drawn", "(I)I"⟩, 27), (⟨"GorgeWireModel", "back", "(I)I"⟩, 27), (⟨"GorgeWireModel", "comesBy", "(II)I"⟩, 27), (⟨"GorgeWireModel", "least", "(IIIIIII)I"⟩, 27), (⟨"GorgeWireModel", "spins", "(II)I"⟩, 27), (⟨"GorgeWireModel", "findMany", "(I)V"⟩, 27)]
theorem lw_r4 : ∀ q ∈ lw_privs_4, lw_okq q := List.forall_mem_cons.mpr ⟨lw_p48, List.forall_mem_cons.mpr ⟨lw_p49, List.forall_mem_cons.mpr ⟨lw_p50, List.forall_mem_cons.mpr ⟨lw_p51, List.forall_mem_cons.mpr ⟨lw_p52, List.forall_mem_cons.mpr ⟨lw_p53, List.forall_mem_cons.mpr ⟨lw_p54, List.forall_mem_cons.mpr ⟨lw_p55, List.forall_mem_cons.mpr ⟨lw_p56, List.forall_mem_cons.mpr ⟨lw_p57, List.forall_mem_cons.mpr ⟨lw_p58, List.forall_mem_cons.mpr ⟨lw_p59, List.forall_mem_cons.mpr ⟨lw_p60, List.forall_mem_cons.mpr ⟨lw_p61, List.forall_mem_cons.mpr ⟨lw_p62, List.forall_mem_cons.mpr ⟨lw_p63, fun _ h => absurd h List.not_mem_nil⟩⟩⟩⟩⟩⟩⟩⟩⟩⟩⟩⟩⟩⟩⟩⟩
theorem lw_p64 : lw_okq (⟨"GorgeWireModel", "pulls", "(II)Z"⟩, 27) := ⟨⟨by decide +kernel, by decide +kernel⟩, List.mem_of_getElem? (i := 1039) (by decide +kernel), List.mem_of_getElem? (i := 1422) (by decide +kernel), List.mem_of_getElem? (i := 1423) (by decide +kernel)⟩
theorem lw_p65 : lw_okq (⟨"GorgeWireModel", "orders", "(IIII)V"⟩, 27) := ⟨⟨by decide +kernel, by decide +kernel⟩, List.mem_of_getElem? (i := 1039) (by decide +kernel), List.mem_of_getElem? (i := 1438) (by decide +kernel), List.mem_of_getElem? (i := 1439) (by decide +kernel)⟩
theorem lw_p66 : lw_okq (⟨"GorgeWireModel", "voiced", "(II)I"⟩, 27) := ⟨⟨by decide +kernel, by decide +kernel⟩, List.mem_of_getElem? (i := 1039) (by decide +kernel), List.mem_of_getElem? (i := 1454) (by decide +kernel), List.mem_of_getElem? (i := 1455) (by decide +kernel)⟩
theorem lw_p67 : lw_okq (⟨"GorgeWireModel", "bodyFrom", "(III)I"⟩, 27) := ⟨⟨by decide +kernel, by decide +kernel⟩, List.mem_of_getElem? (i := 1039) (by decide +kernel), List.mem_of_getElem? (i := 1458) (by decide +kernel), List.mem_of_getElem? (i := 1459) (by decide +kernel)⟩
theorem lw_p68 : lw_okq (⟨"GorgeWireModel", "body", "(III)I"⟩, 27) := ⟨⟨by decide +kernel, by decide +kernel⟩, List.mem_of_getElem? (i := 1039) (by decide +kernel), List.mem_of_getElem? (i := 1465) (by decide +kernel), List.mem_of_getElem? (i := 1466) (by decide +kernel)⟩
theorem lw_p69 : lw_okq (⟨"GorgeWireModel", "began", "(I)V"⟩, 27) := ⟨⟨by decide +kernel, by decide +kernel⟩, List.mem_of_getElem? (i := 1039) (by decide +kernel), List.mem_of_getElem? (i := 1469) (by decide +kernel), List.mem_of_getElem? (i := 1470) (by decide +kernel)⟩
def lw_privs_5 : List (MethodName × Nat) := [(⟨"GorgeWireModel", "pulls", "(II)Z"⟩, 27), (⟨"GorgeWireModel", "orders", "(IIII)V"⟩, 27), (⟨"GorgeWireModel", "voiced", "(II)I"⟩, 27), (⟨"GorgeWireModel", "bodyFrom", "(III)I"⟩, 27), (⟨"GorgeWireModel", "body", "(III)I"⟩, 27), (⟨"GorgeWireModel", "began", "(I)V"⟩, 27)]
theorem lw_r5 : ∀ q ∈ lw_privs_5, lw_okq q := List.forall_mem_cons.mpr ⟨lw_p64, List.forall_mem_cons.mpr ⟨lw_p65, List.forall_mem_cons.mpr ⟨lw_p66, List.forall_mem_cons.mpr ⟨lw_p67, List.forall_mem_cons.mpr ⟨lw_p68, List.forall_mem_cons.mpr ⟨lw_p69, fun _ h => absurd h List.not_mem_nil⟩⟩⟩⟩⟩⟩
def lw_privs : List (MethodName × Nat) := lw_privs_1 ++ (lw_privs_2 ++ (lw_privs_3 ++ (lw_privs_4 ++ (lw_privs_5))))
def lw_tbl : List Cond := k2_sels lw_privs ++ tables_1
theorem lw_privs_ok : ∀ q ∈ lw_privs, lw_okq q := by
  show ∀ q ∈ lw_privs_1 ++ (lw_privs_2 ++ (lw_privs_3 ++ (lw_privs_4 ++ (lw_privs_5)))), lw_okq q
  exact List.forall_mem_append.mpr ⟨lw_r1, List.forall_mem_append.mpr ⟨lw_r2, List.forall_mem_append.mpr ⟨lw_r3, List.forall_mem_append.mpr ⟨lw_r4, lw_r5⟩⟩⟩⟩
def RX0 : String := "GorgeWire$Braked"
def TX0 : u_T := fun k => match k with
  | 0 => ("GorgeWire$Ride", "kind", "I", true)
  | 1 => ("GorgeWire$Ride", "number", "I", true)
  | 2 => ("GorgeWire$Ride", "weight", "I", true)
  | 3 => ("GorgeWire$Ride", "m", "I", true)
  | _ => ("GorgeWire$Ride", "traced", "LGorgeWire$Row;", true)
def tyX0 : Nat → FieldType := fun k => match k with
  | 0 => .int
  | 1 => .int
  | 2 => .int
  | 3 => .int
  | _ => .object "GorgeWire$Row"
abbrev wsX00 : List Cond := u_ws RX0 TX0 5
theorem nmX0 : ∀ a, a < 5 → ∀ b, b < 5 → a ≠ b → (TX0 a).2.1 ≠ (TX0 b).2.1 := by decide +kernel
theorem tyX0_ok : ∀ k, k < 5 → parseFieldDescriptor (TX0 k).2.2.1 = some (tyX0 k) := by decide +kernel
abbrev cX0_init : ByteArray := prog_2_method_1_code
def yX0_init : MethodName := ⟨RX0, "<init>", "(IIIILGorgeWire$Row;)V"⟩
abbrev cX0_gainOfKind : ByteArray := prog_2_method_2_code
def yX0_gainOfKind : MethodName := ⟨RX0, "gainOfKind", "(LGorgeWire$Wire;II)I"⟩
abbrev cX0_brakesAt : ByteArray := prog_2_method_3_code
def yX0_brakesAt : MethodName := ⟨RX0, "brakesAt", "(LGorgeWire$Wire;I)Z"⟩
abbrev cX0_bears : ByteArray := prog_2_method_4_code
def yX0_bears : MethodName := ⟨RX0, "bears", "(I)I"⟩
def RX1 : String := "GorgeWire$Greased"
def TX1 : u_T := fun k => match k with
  | 0 => ("GorgeWire$Ride", "kind", "I", true)
  | 1 => ("GorgeWire$Ride", "number", "I", true)
  | 2 => ("GorgeWire$Ride", "weight", "I", true)
  | 3 => ("GorgeWire$Ride", "m", "I", true)
  | _ => ("GorgeWire$Ride", "traced", "LGorgeWire$Row;", true)
def tyX1 : Nat → FieldType := fun k => match k with
  | 0 => .int
  | 1 => .int
  | 2 => .int
  | 3 => .int
  | _ => .object "GorgeWire$Row"
abbrev wsX10 : List Cond := u_ws RX1 TX1 5
theorem nmX1 : ∀ a, a < 5 → ∀ b, b < 5 → a ≠ b → (TX1 a).2.1 ≠ (TX1 b).2.1 := by decide +kernel
theorem tyX1_ok : ∀ k, k < 5 → parseFieldDescriptor (TX1 k).2.2.1 = some (tyX1 k) := by decide +kernel
abbrev cX1_init : ByteArray := prog_3_method_1_code
def yX1_init : MethodName := ⟨RX1, "<init>", "(IIIILGorgeWire$Row;)V"⟩
abbrev cX1_rubs : ByteArray := prog_3_method_2_code
def yX1_rubs : MethodName := ⟨RX1, "rubs", "(LGorgeWire$Wire;)I"⟩
abbrev cX1_hangs : ByteArray := prog_3_method_3_code
def yX1_hangs : MethodName := ⟨RX1, "hangs", "(I)I"⟩
abbrev cX1_wears : ByteArray := prog_3_method_4_code
def yX1_wears : MethodName := ⟨RX1, "wears", "(I)I"⟩
def RX2 : String := "GorgeWire$Hauled"
def TX2 : u_T := fun k => match k with
  | 0 => ("GorgeWire$Ride", "kind", "I", true)
  | 1 => ("GorgeWire$Ride", "number", "I", true)
  | 2 => ("GorgeWire$Ride", "weight", "I", true)
  | 3 => ("GorgeWire$Ride", "m", "I", true)
  | _ => ("GorgeWire$Ride", "traced", "LGorgeWire$Row;", true)
def tyX2 : Nat → FieldType := fun k => match k with
  | 0 => .int
  | 1 => .int
  | 2 => .int
  | 3 => .int
  | _ => .object "GorgeWire$Row"
abbrev wsX20 : List Cond := u_ws RX2 TX2 5
theorem nmX2 : ∀ a, a < 5 → ∀ b, b < 5 → a ≠ b → (TX2 a).2.1 ≠ (TX2 b).2.1 := by decide +kernel
theorem tyX2_ok : ∀ k, k < 5 → parseFieldDescriptor (TX2 k).2.2.1 = some (tyX2 k) := by decide +kernel
abbrev cX2_init : ByteArray := prog_4_method_1_code
def yX2_init : MethodName := ⟨RX2, "<init>", "(IIIILGorgeWire$Row;)V"⟩
abbrev cX2_gainOfKind : ByteArray := prog_4_method_2_code
def yX2_gainOfKind : MethodName := ⟨RX2, "gainOfKind", "(LGorgeWire$Wire;II)I"⟩
abbrev cX2_hangs : ByteArray := prog_4_method_3_code
def yX2_hangs : MethodName := ⟨RX2, "hangs", "(I)I"⟩
def RX3 : String := "GorgeWire$Late"
def TX3 : u_T := fun k => match k with
  | 0 => ("GorgeWire$Ride", "kind", "I", true)
  | 1 => ("GorgeWire$Ride", "number", "I", true)
  | 2 => ("GorgeWire$Ride", "weight", "I", true)
  | 3 => ("GorgeWire$Ride", "m", "I", true)
  | _ => ("GorgeWire$Ride", "traced", "LGorgeWire$Row;", true)
def tyX3 : Nat → FieldType := fun k => match k with
  | 0 => .int
  | 1 => .int
  | 2 => .int
  | 3 => .int
  | _ => .object "GorgeWire$Row"
abbrev wsX30 : List Cond := u_ws RX3 TX3 5
theorem nmX3 : ∀ a, a < 5 → ∀ b, b < 5 → a ≠ b → (TX3 a).2.1 ≠ (TX3 b).2.1 := by decide +kernel
theorem tyX3_ok : ∀ k, k < 5 → parseFieldDescriptor (TX3 k).2.2.1 = some (tyX3 k) := by decide +kernel
abbrev cX3_init : ByteArray := prog_5_method_1_code
def yX3_init : MethodName := ⟨RX3, "<init>", "(IIIILGorgeWire$Row;)V"⟩
abbrev cX3_brakesAt : ByteArray := prog_5_method_2_code
def yX3_brakesAt : MethodName := ⟨RX3, "brakesAt", "(LGorgeWire$Wire;I)Z"⟩
abbrev cX3_rolls : ByteArray := prog_5_method_3_code
def yX3_rolls : MethodName := ⟨RX3, "rolls", "(I)I"⟩
def RX4 : String := "GorgeWire$Reader"
def TX4 : u_T := fun k => match k with
  | 0 => ("GorgeWire$Reader", "values", "[I", true)
  | 1 => ("GorgeWire$Reader", "signs", "LGorgeWire$Row;", false)
  | 2 => ("GorgeWire$Reader", "names", "Ljava/lang/String;", false)
  | 3 => ("GorgeWire$Reader", "place", "I", false)
  | _ => ("GorgeWire$Reader", "fault", "I", false)
def tyX4 : Nat → FieldType := fun k => match k with
  | 0 => .array .int
  | 1 => .object "GorgeWire$Row"
  | 2 => .object "java/lang/String"
  | 3 => .int
  | _ => .int
abbrev wsX40 : List Cond := u_ws RX4 TX4 5
theorem nmX4 : ∀ a, a < 5 → ∀ b, b < 5 → a ≠ b → (TX4 a).2.1 ≠ (TX4 b).2.1 := by decide +kernel
theorem tyX4_ok : ∀ k, k < 5 → parseFieldDescriptor (TX4 k).2.2.1 = some (tyX4 k) := by decide +kernel
abbrev cX4_init : ByteArray := prog_6_method_1_code
def yX4_init : MethodName := ⟨RX4, "<init>", "()V"⟩
abbrev cX4_faultOf : ByteArray := prog_6_method_2_code
def yX4_faultOf : MethodName := ⟨RX4, "faultOf", "(LGorgeWire$Row;I)I"⟩
abbrev cX4_gives : ByteArray := prog_6_method_3_code
def yX4_gives : MethodName := ⟨RX4, "gives", "(LGorgeWire$Row;IIIII)I"⟩
abbrev cX4_next : ByteArray := prog_6_method_4_code
def yX4_next : MethodName := ⟨RX4, "next", "()I"⟩
abbrev cX4_takes : ByteArray := prog_6_method_5_code
def yX4_takes : MethodName := ⟨RX4, "takes", "(C)Z"⟩
abbrev cX4_stopHere : ByteArray := prog_6_method_6_code
def yX4_stopHere : MethodName := ⟨RX4, "stopHere", "()I"⟩
abbrev cX4_truth : ByteArray := prog_6_method_7_code
def yX4_truth : MethodName := ⟨RX4, "truth", "(Z)I"⟩
abbrev cX4_either : ByteArray := prog_6_method_8_code
def yX4_either : MethodName := ⟨RX4, "either", "(I)I"⟩
abbrev cX4_both : ByteArray := prog_6_method_9_code
def yX4_both : MethodName := ⟨RX4, "both", "(I)I"⟩
abbrev cX4_compared : ByteArray := prog_6_method_10_code
def yX4_compared : MethodName := ⟨RX4, "compared", "(I)I"⟩
abbrev cX4_sum : ByteArray := prog_6_method_11_code
def yX4_sum : MethodName := ⟨RX4, "sum", "(I)I"⟩
abbrev cX4_product : ByteArray := prog_6_method_12_code
def yX4_product : MethodName := ⟨RX4, "product", "(I)I"⟩
abbrev cX4_single : ByteArray := prog_6_method_13_code
def yX4_single : MethodName := ⟨RX4, "single", "(I)I"⟩
abbrev cX4_opened : ByteArray := prog_6_method_14_code
def yX4_opened : MethodName := ⟨RX4, "opened", "(I)I"⟩
abbrev cX4_number : ByteArray := prog_6_method_15_code
def yX4_number : MethodName := ⟨RX4, "number", "()I"⟩
def RX5 : String := "GorgeWire$Ride"
def TX5 : u_T := fun k => match k with
  | 0 => ("GorgeWire$Ride", "kind", "I", true)
  | 1 => ("GorgeWire$Ride", "number", "I", true)
  | 2 => ("GorgeWire$Ride", "weight", "I", true)
  | 3 => ("GorgeWire$Ride", "m", "I", true)
  | _ => ("GorgeWire$Ride", "traced", "LGorgeWire$Row;", true)
def tyX5 : Nat → FieldType := fun k => match k with
  | 0 => .int
  | 1 => .int
  | 2 => .int
  | 3 => .int
  | _ => .object "GorgeWire$Row"
abbrev wsX50 : List Cond := u_ws RX5 TX5 5
theorem nmX5 : ∀ a, a < 5 → ∀ b, b < 5 → a ≠ b → (TX5 a).2.1 ≠ (TX5 b).2.1 := by decide +kernel
theorem tyX5_ok : ∀ k, k < 5 → parseFieldDescriptor (TX5 k).2.2.1 = some (tyX5 k) := by decide +kernel
abbrev cX5_init : ByteArray := prog_7_method_1_code
def yX5_init : MethodName := ⟨RX5, "<init>", "(IIIILGorgeWire$Row;)V"⟩
abbrev cX5_gain : ByteArray := prog_7_method_2_code
def yX5_gain : MethodName := ⟨RX5, "gain", "(LGorgeWire$Wire;II)I"⟩
abbrev cX5_gainOfKind : ByteArray := prog_7_method_3_code
def yX5_gainOfKind : MethodName := ⟨RX5, "gainOfKind", "(LGorgeWire$Wire;II)I"⟩
abbrev cX5_rubs : ByteArray := prog_7_method_4_code
def yX5_rubs : MethodName := ⟨RX5, "rubs", "(LGorgeWire$Wire;)I"⟩
abbrev cX5_hangs : ByteArray := prog_7_method_5_code
def yX5_hangs : MethodName := ⟨RX5, "hangs", "(I)I"⟩
abbrev cX5_rolls : ByteArray := prog_7_method_6_code
def yX5_rolls : MethodName := ⟨RX5, "rolls", "(I)I"⟩
abbrev cX5_bears : ByteArray := prog_7_method_7_code
def yX5_bears : MethodName := ⟨RX5, "bears", "(I)I"⟩
abbrev cX5_wears : ByteArray := prog_7_method_8_code
def yX5_wears : MethodName := ⟨RX5, "wears", "(I)I"⟩
def RX6 : String := "GorgeWire$Rolled"
def TX6 : u_T := fun k => match k with
  | 0 => ("GorgeWire$Ride", "kind", "I", true)
  | 1 => ("GorgeWire$Ride", "number", "I", true)
  | 2 => ("GorgeWire$Ride", "weight", "I", true)
  | 3 => ("GorgeWire$Ride", "m", "I", true)
  | _ => ("GorgeWire$Ride", "traced", "LGorgeWire$Row;", true)
def tyX6 : Nat → FieldType := fun k => match k with
  | 0 => .int
  | 1 => .int
  | 2 => .int
  | 3 => .int
  | _ => .object "GorgeWire$Row"
abbrev wsX60 : List Cond := u_ws RX6 TX6 5
theorem nmX6 : ∀ a, a < 5 → ∀ b, b < 5 → a ≠ b → (TX6 a).2.1 ≠ (TX6 b).2.1 := by decide +kernel
theorem tyX6_ok : ∀ k, k < 5 → parseFieldDescriptor (TX6 k).2.2.1 = some (tyX6 k) := by decide +kernel
abbrev cX6_init : ByteArray := prog_8_method_1_code
def yX6_init : MethodName := ⟨RX6, "<init>", "(IIIILGorgeWire$Row;)V"⟩
abbrev cX6_gainOfKind : ByteArray := prog_8_method_2_code
def yX6_gainOfKind : MethodName := ⟨RX6, "gainOfKind", "(LGorgeWire$Wire;II)I"⟩
abbrev cX6_rolls : ByteArray := prog_8_method_3_code
def yX6_rolls : MethodName := ⟨RX6, "rolls", "(I)I"⟩
def RX7 : String := "GorgeWire$Row"
def TX7 : u_T := fun k => match k with
  | 0 => ("GorgeWire$Row", "numbers", "[I", true)
  | _ => ("GorgeWire$Row", "size", "I", false)
def tyX7 : Nat → FieldType := fun k => match k with
  | 0 => .array .int
  | _ => .int
abbrev wsX70 : List Cond := u_ws RX7 TX7 2
theorem nmX7 : ∀ a, a < 2 → ∀ b, b < 2 → a ≠ b → (TX7 a).2.1 ≠ (TX7 b).2.1 := by decide +kernel
theorem tyX7_ok : ∀ k, k < 2 → parseFieldDescriptor (TX7 k).2.2.1 = some (tyX7 k) := by decide +kernel
abbrev cX7_init : ByteArray := prog_9_method_1_code
def yX7_init : MethodName := ⟨RX7, "<init>", "(I)V"⟩
abbrev cX7_isFull : ByteArray := prog_9_method_2_code
def yX7_isFull : MethodName := ⟨RX7, "isFull", "()Z"⟩
abbrev cX7_add : ByteArray := prog_9_method_3_code
def yX7_add : MethodName := ⟨RX7, "add", "(I)V"⟩
abbrev cX7_addSigns : ByteArray := prog_9_method_4_code
def yX7_addSigns : MethodName := ⟨RX7, "addSigns", "(Ljava/lang/String;)V"⟩
abbrev cX7_at : ByteArray := prog_9_method_5_code
def yX7_at : MethodName := ⟨RX7, "at", "(I)I"⟩
abbrev cX7_becomes : ByteArray := prog_9_method_6_code
def yX7_becomes : MethodName := ⟨RX7, "becomes", "(II)V"⟩
abbrev cX7_becomesZeros : ByteArray := prog_9_method_7_code
def yX7_becomesZeros : MethodName := ⟨RX7, "becomesZeros", "(I)V"⟩
abbrev cX7_holds : ByteArray := prog_9_method_8_code
def yX7_holds : MethodName := ⟨RX7, "holds", "(II)Z"⟩
abbrev cX7_clear : ByteArray := prog_9_method_9_code
def yX7_clear : MethodName := ⟨RX7, "clear", "()V"⟩
abbrev cX7_copyFrom : ByteArray := prog_9_method_10_code
def yX7_copyFrom : MethodName := ⟨RX7, "copyFrom", "(LGorgeWire$Row;)V"⟩
def RX8 : String := "GorgeWire$State"
def TX8 : u_T := fun k => match k with
  | 0 => ("GorgeWire$State", "reader", "LGorgeWire$Reader;", true)
  | 1 => ("GorgeWire$State", "wire", "LGorgeWire$Wire;", true)
  | 2 => ("GorgeWire$State", "rides", "[LGorgeWire$Ride;", true)
  | 3 => ("GorgeWire$State", "place", "[I", true)
  | 4 => ("GorgeWire$State", "pace", "[I", true)
  | 5 => ("GorgeWire$State", "came", "[I", true)
  | 6 => ("GorgeWire$State", "in", "[Z", true)
  | 7 => ("GorgeWire$State", "riders", "I", false)
  | 8 => ("GorgeWire$State", "now", "I", false)
  | 9 => ("GorgeWire$State", "z", "I", false)
  | 10 => ("GorgeWire$State", "tape", "LGorgeWire$Row;", true)
  | 11 => ("GorgeWire$State", "wearText", "LGorgeWire$Row;", true)
  | 12 => ("GorgeWire$State", "goesText", "LGorgeWire$Row;", true)
  | 13 => ("GorgeWire$State", "strong", "LGorgeWire$Row;", true)
  | 14 => ("GorgeWire$State", "thick", "LGorgeWire$Row;", true)
  | 15 => ("GorgeWire$State", "times", "LGorgeWire$Row;", true)
  | 16 => ("GorgeWire$State", "sides", "LGorgeWire$Row;", true)
  | _ => ("GorgeWire$State", "waiting", "LGorgeWire$Row;", true)
def tyX8 : Nat → FieldType := fun k => match k with
  | 0 => .object "GorgeWire$Reader"
  | 1 => .object "GorgeWire$Wire"
  | 2 => .array (.object "GorgeWire$Ride")
  | 3 => .array .int
  | 4 => .array .int
  | 5 => .array .int
  | 6 => .array .boolean
  | 7 => .int
  | 8 => .int
  | 9 => .int
  | 10 => .object "GorgeWire$Row"
  | 11 => .object "GorgeWire$Row"
  | 12 => .object "GorgeWire$Row"
  | 13 => .object "GorgeWire$Row"
  | 14 => .object "GorgeWire$Row"
  | 15 => .object "GorgeWire$Row"
  | 16 => .object "GorgeWire$Row"
  | _ => .object "GorgeWire$Row"
abbrev wsX80 : List Cond := u_ws RX8 TX8 18
theorem nmX8 : ∀ a, a < 18 → ∀ b, b < 18 → a ≠ b → (TX8 a).2.1 ≠ (TX8 b).2.1 := by decide +kernel
theorem tyX8_ok : ∀ k, k < 18 → parseFieldDescriptor (TX8 k).2.2.1 = some (tyX8 k) := by decide +kernel
abbrev cX8_init : ByteArray := prog_10_method_1_code
def yX8_init : MethodName := ⟨RX8, "<init>", "(LGorgeWire$Reader;)V"⟩
abbrev cX8_copyFrom : ByteArray := prog_10_method_2_code
def yX8_copyFrom : MethodName := ⟨RX8, "copyFrom", "(LGorgeWire$State;)V"⟩
abbrev cX8_copyRide : ByteArray := prog_10_method_3_code
def yX8_copyRide : MethodName := ⟨RX8, "copyRide", "(LGorgeWire$State;I)V"⟩
abbrev cX8_rideAt : ByteArray := prog_10_method_4_code
def yX8_rideAt : MethodName := ⟨RX8, "rideAt", "(I)LGorgeWire$Ride;"⟩
abbrev cX8_addRide : ByteArray := prog_10_method_5_code
def yX8_addRide : MethodName := ⟨RX8, "addRide", "(LGorgeWire$Ride;)I"⟩
abbrev cX8_factOf : ByteArray := prog_10_method_6_code
def yX8_factOf : MethodName := ⟨RX8, "factOf", "(II)I"⟩
abbrev cX8_underWay : ByteArray := prog_10_method_7_code
def yX8_underWay : MethodName := ⟨RX8, "underWay", "()I"⟩
abbrev cX8_keepPlacesOnWire : ByteArray := prog_10_method_8_code
def yX8_keepPlacesOnWire : MethodName := ⟨RX8, "keepPlacesOnWire", "()V"⟩
abbrev cX8_textOf : ByteArray := prog_10_method_9_code
def yX8_textOf : MethodName := ⟨RX8, "textOf", "(I)LGorgeWire$Row;"⟩
abbrev cX8_draw : ByteArray := prog_10_method_10_code
def yX8_draw : MethodName := ⟨RX8, "draw", "()I"⟩
abbrev cX8_pass : ByteArray := prog_10_method_11_code
def yX8_pass : MethodName := ⟨RX8, "pass", "(I)V"⟩
abbrev cX8_goesOn : ByteArray := prog_10_method_12_code
def yX8_goesOn : MethodName := ⟨RX8, "goesOn", "(I)Z"⟩
abbrev cX8_rubbed : ByteArray := prog_10_method_13_code
def yX8_rubbed : MethodName := ⟨RX8, "rubbed", "(II)I"⟩
abbrev cX8_comeIn : ByteArray := prog_10_method_14_code
def yX8_comeIn : MethodName := ⟨RX8, "comeIn", "(I)V"⟩
abbrev cX8_wearStrands : ByteArray := prog_10_method_15_code
def yX8_wearStrands : MethodName := ⟨RX8, "wearStrands", "(I)V"⟩
abbrev cX8_comesWithin : ByteArray := prog_10_method_16_code
def yX8_comesWithin : MethodName := ⟨RX8, "comesWithin", "(II)I"⟩
def RX9 : String := "GorgeWire$Windy"
def TX9 : u_T := fun k => match k with
  | 0 => ("GorgeWire$Ride", "kind", "I", true)
  | 1 => ("GorgeWire$Ride", "number", "I", true)
  | 2 => ("GorgeWire$Ride", "weight", "I", true)
  | 3 => ("GorgeWire$Ride", "m", "I", true)
  | _ => ("GorgeWire$Ride", "traced", "LGorgeWire$Row;", true)
def tyX9 : Nat → FieldType := fun k => match k with
  | 0 => .int
  | 1 => .int
  | 2 => .int
  | 3 => .int
  | _ => .object "GorgeWire$Row"
abbrev wsX90 : List Cond := u_ws RX9 TX9 5
theorem nmX9 : ∀ a, a < 5 → ∀ b, b < 5 → a ≠ b → (TX9 a).2.1 ≠ (TX9 b).2.1 := by decide +kernel
theorem tyX9_ok : ∀ k, k < 5 → parseFieldDescriptor (TX9 k).2.2.1 = some (tyX9 k) := by decide +kernel
abbrev cX9_init : ByteArray := prog_11_method_1_code
def yX9_init : MethodName := ⟨RX9, "<init>", "(IIIILGorgeWire$Row;)V"⟩
abbrev cX9_gainOfKind : ByteArray := prog_11_method_2_code
def yX9_gainOfKind : MethodName := ⟨RX9, "gainOfKind", "(LGorgeWire$Wire;II)I"⟩
abbrev cX9_wears : ByteArray := prog_11_method_3_code
def yX9_wears : MethodName := ⟨RX9, "wears", "(I)I"⟩
def RX10 : String := "GorgeWire$Wire"
def TX10 : u_T := fun k => match k with
  | _ => ("GorgeWire$Wire", "values", "[I", true)
def tyX10 : Nat → FieldType := fun k => match k with
  | _ => .array .int
abbrev wsX100 : List Cond := u_ws RX10 TX10 1
theorem nmX10 : ∀ a, a < 1 → ∀ b, b < 1 → a ≠ b → (TX10 a).2.1 ≠ (TX10 b).2.1 := by decide +kernel
theorem tyX10_ok : ∀ k, k < 1 → parseFieldDescriptor (TX10 k).2.2.1 = some (tyX10 k) := by decide +kernel
abbrev cX10_init : ByteArray := prog_12_method_1_code
def yX10_init : MethodName := ⟨RX10, "<init>", "()V"⟩
abbrev cX10_allows : ByteArray := prog_12_method_2_code
def yX10_allows : MethodName := ⟨RX10, "allows", "(II)Z"⟩
abbrev cX10_of : ByteArray := prog_12_method_3_code
def yX10_of : MethodName := ⟨RX10, "of", "(I)I"⟩
abbrev cX10_becomes : ByteArray := prog_12_method_4_code
def yX10_becomes : MethodName := ⟨RX10, "becomes", "(II)V"⟩
abbrev cX10_copyFrom : ByteArray := prog_12_method_5_code
def yX10_copyFrom : MethodName := ⟨RX10, "copyFrom", "(LGorgeWire$Wire;)V"⟩
abbrev cX10_end : ByteArray := prog_12_method_6_code
def yX10_end : MethodName := ⟨RX10, "end", "()I"⟩
abbrev cX10_taut : ByteArray := prog_12_method_7_code
def yX10_taut : MethodName := ⟨RX10, "taut", "()I"⟩
abbrev cX10_spanBy : ByteArray := prog_12_method_8_code
def yX10_spanBy : MethodName := ⟨RX10, "spanBy", "()I"⟩
abbrev cX10_depthAt : ByteArray := prog_12_method_9_code
def yX10_depthAt : MethodName := ⟨RX10, "depthAt", "(II)I"⟩
abbrev cX10_steepAt : ByteArray := prog_12_method_10_code
def yX10_steepAt : MethodName := ⟨RX10, "steepAt", "(II)I"⟩
abbrev cX10_pulledAt : ByteArray := prog_12_method_11_code
def yX10_pulledAt : MethodName := ⟨RX10, "pulledAt", "(II)I"⟩
def RX11 : String := "GorgeWire"
def TX11 : u_T := fun k => match k with
  | 0 => ("GorgeWire", "reader", "LGorgeWire$Reader;", true)
  | 1 => ("GorgeWire", "live", "LGorgeWire$State;", true)
  | 2 => ("GorgeWire", "ahead", "LGorgeWire$State;", true)
  | 3 => ("GorgeWire", "kept", "LGorgeWire$State;", true)
  | 4 => ("GorgeWire", "timesKept", "I", false)
  | 5 => ("GorgeWire", "answered", "[I", true)
  | 6 => ("GorgeWire", "traced", "LGorgeWire$Row;", true)
  | 7 => ("GorgeWire", "sheets", "[LGorgeWire$Row;", true)
  | 8 => ("GorgeWire", "bitsOf", "[I", true)
  | 9 => ("GorgeWire", "toGo", "[I", true)
  | 10 => ("GorgeWire", "tried", "[I", true)
  | 11 => ("GorgeWire", "best", "[I", true)
  | _ => ("GorgeWire", "bestTime", "I", false)
def tyX11 : Nat → FieldType := fun k => match k with
  | 0 => .object "GorgeWire$Reader"
  | 1 => .object "GorgeWire$State"
  | 2 => .object "GorgeWire$State"
  | 3 => .object "GorgeWire$State"
  | 4 => .int
  | 5 => .array .int
  | 6 => .object "GorgeWire$Row"
  | 7 => .array (.object "GorgeWire$Row")
  | 8 => .array .int
  | 9 => .array .int
  | 10 => .array .int
  | 11 => .array .int
  | _ => .int
abbrev wsX110 : List Cond := u_ws RX11 TX11 13
theorem nmX11 : ∀ a, a < 13 → ∀ b, b < 13 → a ≠ b → (TX11 a).2.1 ≠ (TX11 b).2.1 := by decide +kernel
theorem tyX11_ok : ∀ k, k < 13 → parseFieldDescriptor (TX11 k).2.2.1 = some (tyX11 k) := by decide +kernel
abbrev cX11_init : ByteArray := prog_1_method_1_code
def yX11_init : MethodName := ⟨RX11, "<init>", "()V"⟩
abbrev cX11_wire : ByteArray := prog_1_method_2_code
def yX11_wire : MethodName := ⟨RX11, "wire", "(II)I"⟩
abbrev cX11_depth : ByteArray := prog_1_method_3_code
def yX11_depth : MethodName := ⟨RX11, "depth", "(II)I"⟩
abbrev cX11_steep : ByteArray := prog_1_method_4_code
def yX11_steep : MethodName := ⟨RX11, "steep", "(II)I"⟩
abbrev cX11_pulled : ByteArray := prog_1_method_5_code
def yX11_pulled : MethodName := ⟨RX11, "pulled", "(II)I"⟩
abbrev cX11_most : ByteArray := prog_1_method_6_code
def yX11_most : MethodName := ⟨RX11, "most", "()I"⟩
abbrev cX11_tight : ByteArray := prog_1_method_7_code
def yX11_tight : MethodName := ⟨RX11, "tight", "()I"⟩
abbrev cX11_ride : ByteArray := prog_1_method_8_code
def yX11_ride : MethodName := ⟨RX11, "ride", "(III)I"⟩
abbrev cX11_ofRide : ByteArray := prog_1_method_9_code
def yX11_ofRide : MethodName := ⟨RX11, "ofRide", "(II)I"⟩
abbrev cX11_as : ByteArray := prog_1_method_10_code
def yX11_as : MethodName := ⟨RX11, "as", "(II)I"⟩
abbrev cX11_start : ByteArray := prog_1_method_11_code
def yX11_start : MethodName := ⟨RX11, "start", "(III)I"⟩
abbrev cX11_feed : ByteArray := prog_1_method_12_code
def yX11_feed : MethodName := ⟨RX11, "feed", "(JI)I"⟩
abbrev cX11_text : ByteArray := prog_1_method_13_code
def yX11_text : MethodName := ⟨RX11, "text", "(I)I"⟩
abbrev cX11_law : ByteArray := prog_1_method_14_code
def yX11_law : MethodName := ⟨RX11, "law", "(IIIII)I"⟩
abbrev cX11_ticks : ByteArray := prog_1_method_15_code
def yX11_ticks : MethodName := ⟨RX11, "ticks", "(I)I"⟩
abbrev cX11_gusts : ByteArray := prog_1_method_16_code
def yX11_gusts : MethodName := ⟨RX11, "gusts", "(I)I"⟩
abbrev cX11_then : ByteArray := prog_1_method_17_code
def yX11_then : MethodName := ⟨RX11, "then", "(III)I"⟩
abbrev cX11_strands : ByteArray := prog_1_method_18_code
def yX11_strands : MethodName := ⟨RX11, "strands", "(I)I"⟩
abbrev cX11_stands : ByteArray := prog_1_method_19_code
def yX11_stands : MethodName := ⟨RX11, "stands", "(I)I"⟩
abbrev cX11_comes : ByteArray := prog_1_method_20_code
def yX11_comes : MethodName := ⟨RX11, "comes", "(I)I"⟩
abbrev cX11_snug : ByteArray := prog_1_method_21_code
def yX11_snug : MethodName := ⟨RX11, "snug", "(III)I"⟩
abbrev cX11_lower : ByteArray := prog_1_method_22_code
def yX11_lower : MethodName := ⟨RX11, "lower", "(II)I"⟩
abbrev cX11_line : ByteArray := prog_1_method_23_code
def yX11_line : MethodName := ⟨RX11, "line", "(II)I"⟩
abbrev cX11_lines : ByteArray := prog_1_method_24_code
def yX11_lines : MethodName := ⟨RX11, "lines", "(I)I"⟩
abbrev cX11_over : ByteArray := prog_1_method_25_code
def yX11_over : MethodName := ⟨RX11, "over", "(II)I"⟩
abbrev cX11_load : ByteArray := prog_1_method_26_code
def yX11_load : MethodName := ⟨RX11, "load", "(II)I"⟩
abbrev cX11_unload : ByteArray := prog_1_method_27_code
def yX11_unload : MethodName := ⟨RX11, "unload", "()I"⟩
abbrev cX11_order : ByteArray := prog_1_method_28_code
def yX11_order : MethodName := ⟨RX11, "order", "(I)I"⟩
abbrev cX11_bridge : ByteArray := prog_1_method_29_code
def yX11_bridge : MethodName := ⟨RX11, "bridge", "(II)I"⟩
abbrev cX11_seed : ByteArray := prog_1_method_30_code
def yX11_seed : MethodName := ⟨RX11, "seed", "(I)I"⟩
abbrev cX11_voice : ByteArray := prog_1_method_31_code
def yX11_voice : MethodName := ⟨RX11, "voice", "(III)I"⟩
abbrev cX11_trace : ByteArray := prog_1_method_32_code
def yX11_trace : MethodName := ⟨RX11, "trace", "(I)I"⟩
abbrev cX11_sheet : ByteArray := prog_1_method_33_code
def yX11_sheet : MethodName := ⟨RX11, "sheet", "(III)I"⟩
abbrev cX11_put : ByteArray := prog_1_method_34_code
def yX11_put : MethodName := ⟨RX11, "put", "(III)I"⟩
abbrev cX11_move : ByteArray := prog_1_method_35_code
def yX11_move : MethodName := ⟨RX11, "move", "(IIIII)I"⟩
abbrev cX11_image : ByteArray := prog_1_method_36_code
def yX11_image : MethodName := ⟨RX11, "image", "()I"⟩
abbrev cX11_restore : ByteArray := prog_1_method_37_code
def yX11_restore : MethodName := ⟨RX11, "restore", "()I"⟩
abbrev cX11_tell : ByteArray := prog_1_method_38_code
def yX11_tell : MethodName := ⟨RX11, "tell", "(I)I"⟩
abbrev cX11_check : ByteArray := prog_1_method_39_code
def yX11_check : MethodName := ⟨RX11, "check", "(I)I"⟩
abbrev cX11_count : ByteArray := prog_1_method_40_code
def yX11_count : MethodName := ⟨RX11, "count", "(I)I"⟩
abbrev cX11_told : ByteArray := prog_1_method_41_code
def yX11_told : MethodName := ⟨RX11, "told", "(I)I"⟩
abbrev cX11_fail : ByteArray := prog_1_method_42_code
def yX11_fail : MethodName := ⟨RX11, "fail", "(I)I"⟩
abbrev cX11_within : ByteArray := prog_1_method_43_code
def yX11_within : MethodName := ⟨RX11, "within", "(III)Z"⟩
abbrev cX11_held : ByteArray := prog_1_method_44_code
def yX11_held : MethodName := ⟨RX11, "held", "(III)I"⟩
abbrev cX11_isOnWire : ByteArray := prog_1_method_45_code
def yX11_isOnWire : MethodName := ⟨RX11, "isOnWire", "(II)Z"⟩
abbrev cX11_mayGo : ByteArray := prog_1_method_46_code
def yX11_mayGo : MethodName := ⟨RX11, "mayGo", "(I)Z"⟩
abbrev cX11_made : ByteArray := prog_1_method_47_code
def yX11_made : MethodName := ⟨RX11, "made", "(IIII)LGorgeWire$Ride;"⟩
abbrev cX11_isOf : ByteArray := prog_1_method_48_code
def yX11_isOf : MethodName := ⟨RX11, "isOf", "(LGorgeWire$Ride;I)Z"⟩
abbrev cX11_lookAhead : ByteArray := prog_1_method_49_code
def yX11_lookAhead : MethodName := ⟨RX11, "lookAhead", "(I)V"⟩
abbrev cX11_leastBy : ByteArray := prog_1_method_50_code
def yX11_leastBy : MethodName := ⟨RX11, "leastBy", "(IIIIIII)I"⟩
abbrev cX11_isLine : ByteArray := prog_1_method_51_code
def yX11_isLine : MethodName := ⟨RX11, "isLine", "(II)Z"⟩
abbrev cX11_addLine : ByteArray := prog_1_method_52_code
def yX11_addLine : MethodName := ⟨RX11, "addLine", "(II)I"⟩
abbrev cX11_pulls : ByteArray := prog_1_method_53_code
def yX11_pulls : MethodName := ⟨RX11, "pulls", "(II)Z"⟩
abbrev cX11_findLinesToGo : ByteArray := prog_1_method_54_code
def yX11_findLinesToGo : MethodName := ⟨RX11, "findLinesToGo", "(I)V"⟩
abbrev cX11_nextOf : ByteArray := prog_1_method_55_code
def yX11_nextOf : MethodName := ⟨RX11, "nextOf", "(II)I"⟩
abbrev cX11_lineOfRow : ByteArray := prog_1_method_56_code
def yX11_lineOfRow : MethodName := ⟨RX11, "lineOfRow", "(I)I"⟩
abbrev cX11_tryOrders : ByteArray := prog_1_method_57_code
def yX11_tryOrders : MethodName := ⟨RX11, "tryOrders", "(IIII)V"⟩
abbrev cX11_lowest : ByteArray := prog_1_method_58_code
def yX11_lowest : MethodName := ⟨RX11, "lowest", "(II)I"⟩
def RX12 : String := "GorgeWireModel"
def TX12 : u_T := fun k => match k with
  | 0 => ("GorgeWireModel", "now", "[I", true)
  | 1 => ("GorgeWireModel", "kept", "[I", true)
  | 2 => ("GorgeWireModel", "aside", "[I", true)
  | 3 => ("GorgeWireModel", "images", "I", false)
  | 4 => ("GorgeWireModel", "errors", "[I", true)
  | 5 => ("GorgeWireModel", "wireLeast", "[I", true)
  | 6 => ("GorgeWireModel", "wireMost", "[I", true)
  | 7 => ("GorgeWireModel", "NAMED", "[Ljava/lang/String;", true)
  | 8 => ("GorgeWireModel", "at", "I", false)
  | 9 => ("GorgeWireModel", "open", "I", false)
  | 10 => ("GorgeWireModel", "use", "I", false)
  | 11 => ("GorgeWireModel", "isWrong", "Z", false)
  | 12 => ("GorgeWireModel", "code", "[I", true)
  | 13 => ("GorgeWireModel", "coded", "I", false)
  | 14 => ("GorgeWireModel", "named", "[I", true)
  | 15 => ("GorgeWireModel", "pile", "[I", true)
  | 16 => ("GorgeWireModel", "many", "[I", true)
  | 17 => ("GorgeWireModel", "row", "[I", true)
  | 18 => ("GorgeWireModel", "best", "[I", true)
  | 19 => ("GorgeWireModel", "leastTime", "I", false)
  | 20 => ("GorgeWireModel", "trace", "[I", true)
  | 21 => ("GorgeWireModel", "traced", "I", false)
  | 22 => ("GorgeWireModel", "speaker", "I", false)
  | 23 => ("GorgeWireModel", "widths", "[I", true)
  | 24 => ("GorgeWireModel", "sizes", "[I", true)
  | 25 => ("GorgeWireModel", "numbers", "[I", true)
  | _ => ("GorgeWireModel", "carried", "[I", true)
def tyX12 : Nat → FieldType := fun k => match k with
  | 0 => .array .int
  | 1 => .array .int
  | 2 => .array .int
  | 3 => .int
  | 4 => .array .int
  | 5 => .array .int
  | 6 => .array .int
  | 7 => .array (.object "java/lang/String")
  | 8 => .int
  | 9 => .int
  | 10 => .int
  | 11 => .boolean
  | 12 => .array .int
  | 13 => .int
  | 14 => .array .int
  | 15 => .array .int
  | 16 => .array .int
  | 17 => .array .int
  | 18 => .array .int
  | 19 => .int
  | 20 => .array .int
  | 21 => .int
  | 22 => .int
  | 23 => .array .int
  | 24 => .array .int
  | 25 => .array .int
  | _ => .array .int
abbrev wsX120 : List Cond := u_ws RX12 TX12 27
theorem nmX12 : ∀ a, a < 27 → ∀ b, b < 27 → a ≠ b → (TX12 a).2.1 ≠ (TX12 b).2.1 := by decide +kernel
theorem tyX12_ok : ∀ k, k < 27 → parseFieldDescriptor (TX12 k).2.2.1 = some (tyX12 k) := by decide +kernel
abbrev cX12_init : ByteArray := prog_14_method_1_code
def yX12_init : MethodName := ⟨RX12, "<init>", "()V"⟩
abbrev cX12_finding : ByteArray := prog_14_method_2_code
def yX12_finding : MethodName := ⟨RX12, "finding", "(I)I"⟩
abbrev cX12_within : ByteArray := prog_14_method_3_code
def yX12_within : MethodName := ⟨RX12, "within", "(III)Z"⟩
abbrev cX12_held : ByteArray := prog_14_method_4_code
def yX12_held : MethodName := ⟨RX12, "held", "(III)I"⟩
abbrev cX12_copy : ByteArray := prog_14_method_5_code
def yX12_copy : MethodName := ⟨RX12, "copy", "([I[I)V"⟩
abbrev cX12_become : ByteArray := prog_14_method_6_code
def yX12_become : MethodName := ⟨RX12, "become", "(II)I"⟩
abbrev cX12_back : ByteArray := prog_14_method_7_code
def yX12_back : MethodName := ⟨RX12, "back", "(I)I"⟩
abbrev cX12_is : ByteArray := prog_14_method_8_code
def yX12_is : MethodName := ⟨RX12, "is", "(II)Z"⟩
abbrev cX12_wire : ByteArray := prog_14_method_9_code
def yX12_wire : MethodName := ⟨RX12, "wire", "(II)I"⟩
abbrev cX12_tightOf : ByteArray := prog_14_method_10_code
def yX12_tightOf : MethodName := ⟨RX12, "tightOf", "()I"⟩
abbrev cX12_tight : ByteArray := prog_14_method_11_code
def yX12_tight : MethodName := ⟨RX12, "tight", "()I"⟩
abbrev cX12_depthOf : ByteArray := prog_14_method_12_code
def yX12_depthOf : MethodName := ⟨RX12, "depthOf", "(II)I"⟩
abbrev cX12_steepOf : ByteArray := prog_14_method_13_code
def yX12_steepOf : MethodName := ⟨RX12, "steepOf", "(II)I"⟩
abbrev cX12_pulledAt : ByteArray := prog_14_method_14_code
def yX12_pulledAt : MethodName := ⟨RX12, "pulledAt", "(II)I"⟩
abbrev cX12_isOn : ByteArray := prog_14_method_15_code
def yX12_isOn : MethodName := ⟨RX12, "isOn", "(II)Z"⟩
abbrev cX12_depth : ByteArray := prog_14_method_16_code
def yX12_depth : MethodName := ⟨RX12, "depth", "(II)I"⟩
abbrev cX12_steep : ByteArray := prog_14_method_17_code
def yX12_steep : MethodName := ⟨RX12, "steep", "(II)I"⟩
abbrev cX12_pulled : ByteArray := prog_14_method_18_code
def yX12_pulled : MethodName := ⟨RX12, "pulled", "(II)I"⟩
abbrev cX12_holds : ByteArray := prog_14_method_19_code
def yX12_holds : MethodName := ⟨RX12, "holds", "(I)Z"⟩
abbrev cX12_most : ByteArray := prog_14_method_20_code
def yX12_most : MethodName := ⟨RX12, "most", "()I"⟩
abbrev cX12_of : ByteArray := prog_14_method_21_code
def yX12_of : MethodName := ⟨RX12, "of", "(II)I"⟩
abbrev cX12_tells : ByteArray := prog_14_method_22_code
def yX12_tells : MethodName := ⟨RX12, "tells", "(III)V"⟩
abbrev cX12_ride : ByteArray := prog_14_method_23_code
def yX12_ride : MethodName := ⟨RX12, "ride", "(III)I"⟩
abbrev cX12_isIn : ByteArray := prog_14_method_24_code
def yX12_isIn : MethodName := ⟨RX12, "isIn", "(I)Z"⟩
abbrev cX12_brakes : ByteArray := prog_14_method_25_code
def yX12_brakes : MethodName := ⟨RX12, "brakes", "(I)I"⟩
abbrev cX12_gainOf : ByteArray := prog_14_method_26_code
def yX12_gainOf : MethodName := ⟨RX12, "gainOf", "(I)I"⟩
abbrev cX12_rubsOf : ByteArray := prog_14_method_27_code
def yX12_rubsOf : MethodName := ⟨RX12, "rubsOf", "(I)I"⟩
abbrev cX12_rideTold : ByteArray := prog_14_method_28_code
def yX12_rideTold : MethodName := ⟨RX12, "rideTold", "(II)I"⟩
abbrev cX12_ofRide : ByteArray := prog_14_method_29_code
def yX12_ofRide : MethodName := ⟨RX12, "ofRide", "(II)I"⟩
abbrev cX12_above : ByteArray := prog_14_method_30_code
def yX12_above : MethodName := ⟨RX12, "above", "(I)I"⟩
abbrev cX12_as : ByteArray := prog_14_method_31_code
def yX12_as : MethodName := ⟨RX12, "as", "(II)I"⟩
abbrev cX12_start : ByteArray := prog_14_method_32_code
def yX12_start : MethodName := ⟨RX12, "start", "(III)I"⟩
abbrev cX12_feed : ByteArray := prog_14_method_33_code
def yX12_feed : MethodName := ⟨RX12, "feed", "(JI)I"⟩
abbrev cX12_here : ByteArray := prog_14_method_34_code
def yX12_here : MethodName := ⟨RX12, "here", "()I"⟩
abbrev cX12_takes : ByteArray := prog_14_method_35_code
def yX12_takes : MethodName := ⟨RX12, "takes", "(I)Z"⟩
abbrev cX12_codes : ByteArray := prog_14_method_36_code
def yX12_codes : MethodName := ⟨RX12, "codes", "(I)V"⟩
abbrev cX12_either : ByteArray := prog_14_method_37_code
def yX12_either : MethodName := ⟨RX12, "either", "()V"⟩
abbrev cX12_both : ByteArray := prog_14_method_38_code
def yX12_both : MethodName := ⟨RX12, "both", "()V"⟩
abbrev cX12_compared : ByteArray := prog_14_method_39_code
def yX12_compared : MethodName := ⟨RX12, "compared", "()V"⟩
abbrev cX12_sum : ByteArray := prog_14_method_40_code
def yX12_sum : MethodName := ⟨RX12, "sum", "()V"⟩
abbrev cX12_product : ByteArray := prog_14_method_41_code
def yX12_product : MethodName := ⟨RX12, "product", "()V"⟩
abbrev cX12_nameOf : ByteArray := prog_14_method_42_code
def yX12_nameOf : MethodName := ⟨RX12, "nameOf", "(I)I"⟩
abbrev cX12_one : ByteArray := prog_14_method_43_code
def yX12_one : MethodName := ⟨RX12, "one", "()V"⟩
abbrev cX12_text : ByteArray := prog_14_method_44_code
def yX12_text : MethodName := ⟨RX12, "text", "(I)I"⟩
abbrev cX12_done : ByteArray := prog_14_method_45_code
def yX12_done : MethodName := ⟨RX12, "done", "(III)I"⟩
abbrev cX12_worked : ByteArray := prog_14_method_46_code
def yX12_worked : MethodName := ⟨RX12, "worked", "(I)I"⟩
abbrev cX12_given : ByteArray := prog_14_method_47_code
def yX12_given : MethodName := ⟨RX12, "given", "(IIIII)I"⟩
abbrev cX12_law : ByteArray := prog_14_method_48_code
def yX12_law : MethodName := ⟨RX12, "law", "(IIIII)I"⟩
abbrev cX12_nearer : ByteArray := prog_14_method_49_code
def yX12_nearer : MethodName := ⟨RX12, "nearer", "(II)I"⟩
abbrev cX12_goes : ByteArray := prog_14_method_50_code
def yX12_goes : MethodName := ⟨RX12, "goes", "(I)V"⟩
abbrev cX12_tick : ByteArray := prog_14_method_51_code
def yX12_tick : MethodName := ⟨RX12, "tick", "()V"⟩
abbrev cX12_ticksGo : ByteArray := prog_14_method_52_code
def yX12_ticksGo : MethodName := ⟨RX12, "ticksGo", "(I)V"⟩
abbrev cX12_whyNot : ByteArray := prog_14_method_53_code
def yX12_whyNot : MethodName := ⟨RX12, "whyNot", "(I)I"⟩
abbrev cX12_ticks : ByteArray := prog_14_method_54_code
def yX12_ticks : MethodName := ⟨RX12, "ticks", "(I)I"⟩
abbrev cX12_drawn : ByteArray := prog_14_method_55_code
def yX12_drawn : MethodName := ⟨RX12, "drawn", "(I)I"⟩
abbrev cX12_gusts : ByteArray := prog_14_method_56_code
def yX12_gusts : MethodName := ⟨RX12, "gusts", "(I)I"⟩
abbrev cX12_isAhead : ByteArray := prog_14_method_57_code
def yX12_isAhead : MethodName := ⟨RX12, "isAhead", "(I)Z"⟩
abbrev cX12_then : ByteArray := prog_14_method_58_code
def yX12_then : MethodName := ⟨RX12, "then", "(III)I"⟩
abbrev cX12_strands : ByteArray := prog_14_method_59_code
def yX12_strands : MethodName := ⟨RX12, "strands", "(I)I"⟩
abbrev cX12_stands : ByteArray := prog_14_method_60_code
def yX12_stands : MethodName := ⟨RX12, "stands", "(I)I"⟩
abbrev cX12_comesBy : ByteArray := prog_14_method_61_code
def yX12_comesBy : MethodName := ⟨RX12, "comesBy", "(II)I"⟩
abbrev cX12_comes : ByteArray := prog_14_method_62_code
def yX12_comes : MethodName := ⟨RX12, "comes", "(I)I"⟩
abbrev cX12_least : ByteArray := prog_14_method_63_code
def yX12_least : MethodName := ⟨RX12, "least", "(IIIIIII)I"⟩
abbrev cX12_snug : ByteArray := prog_14_method_64_code
def yX12_snug : MethodName := ⟨RX12, "snug", "(III)I"⟩
abbrev cX12_lower : ByteArray := prog_14_method_65_code
def yX12_lower : MethodName := ⟨RX12, "lower", "(II)I"⟩
abbrev cX12_isAsTold : ByteArray := prog_14_method_66_code
def yX12_isAsTold : MethodName := ⟨RX12, "isAsTold", "(II)Z"⟩
abbrev cX12_spins : ByteArray := prog_14_method_67_code
def yX12_spins : MethodName := ⟨RX12, "spins", "(II)I"⟩
abbrev cX12_line : ByteArray := prog_14_method_68_code
def yX12_line : MethodName := ⟨RX12, "line", "(II)I"⟩
abbrev cX12_lines : ByteArray := prog_14_method_69_code
def yX12_lines : MethodName := ⟨RX12, "lines", "(I)I"⟩
abbrev cX12_pulls : ByteArray := prog_14_method_70_code
def yX12_pulls : MethodName := ⟨RX12, "pulls", "(II)Z"⟩
abbrev cX12_findMany : ByteArray := prog_14_method_71_code
def yX12_findMany : MethodName := ⟨RX12, "findMany", "(I)V"⟩
abbrev cX12_over : ByteArray := prog_14_method_72_code
def yX12_over : MethodName := ⟨RX12, "over", "(II)I"⟩
abbrev cX12_load : ByteArray := prog_14_method_73_code
def yX12_load : MethodName := ⟨RX12, "load", "(II)I"⟩
abbrev cX12_unload : ByteArray := prog_14_method_74_code
def yX12_unload : MethodName := ⟨RX12, "unload", "()I"⟩
abbrev cX12_orders : ByteArray := prog_14_method_75_code
def yX12_orders : MethodName := ⟨RX12, "orders", "(IIII)V"⟩
abbrev cX12_order : ByteArray := prog_14_method_76_code
def yX12_order : MethodName := ⟨RX12, "order", "(I)I"⟩
abbrev cX12_bridge : ByteArray := prog_14_method_77_code
def yX12_bridge : MethodName := ⟨RX12, "bridge", "(II)I"⟩
abbrev cX12_seed : ByteArray := prog_14_method_78_code
def yX12_seed : MethodName := ⟨RX12, "seed", "(I)I"⟩
abbrev cX12_began : ByteArray := prog_14_method_79_code
def yX12_began : MethodName := ⟨RX12, "began", "(I)V"⟩
abbrev cX12_hasOwn : ByteArray := prog_14_method_80_code
def yX12_hasOwn : MethodName := ⟨RX12, "hasOwn", "(II)Z"⟩
abbrev cX12_voiced : ByteArray := prog_14_method_81_code
def yX12_voiced : MethodName := ⟨RX12, "voiced", "(II)I"⟩
abbrev cX12_bodyFrom : ByteArray := prog_14_method_82_code
def yX12_bodyFrom : MethodName := ⟨RX12, "bodyFrom", "(III)I"⟩
abbrev cX12_body : ByteArray := prog_14_method_83_code
def yX12_body : MethodName := ⟨RX12, "body", "(III)I"⟩
abbrev cX12_voice : ByteArray := prog_14_method_84_code
def yX12_voice : MethodName := ⟨RX12, "voice", "(III)I"⟩
abbrev cX12_trace : ByteArray := prog_14_method_85_code
def yX12_trace : MethodName := ⟨RX12, "trace", "(I)I"⟩
abbrev cX12_isSheet : ByteArray := prog_14_method_86_code
def yX12_isSheet : MethodName := ⟨RX12, "isSheet", "(I)Z"⟩
abbrev cX12_sheet : ByteArray := prog_14_method_87_code
def yX12_sheet : MethodName := ⟨RX12, "sheet", "(III)I"⟩
abbrev cX12_put : ByteArray := prog_14_method_88_code
def yX12_put : MethodName := ⟨RX12, "put", "(III)I"⟩
abbrev cX12_move : ByteArray := prog_14_method_89_code
def yX12_move : MethodName := ⟨RX12, "move", "(IIIII)I"⟩
abbrev cX12_image : ByteArray := prog_14_method_90_code
def yX12_image : MethodName := ⟨RX12, "image", "()I"⟩
abbrev cX12_restore : ByteArray := prog_14_method_91_code
def yX12_restore : MethodName := ⟨RX12, "restore", "()I"⟩
abbrev cX12_tell : ByteArray := prog_14_method_92_code
def yX12_tell : MethodName := ⟨RX12, "tell", "(I)I"⟩
abbrev cX12_check : ByteArray := prog_14_method_93_code
def yX12_check : MethodName := ⟨RX12, "check", "(I)I"⟩
abbrev cX12_count : ByteArray := prog_14_method_94_code
def yX12_count : MethodName := ⟨RX12, "count", "(I)I"⟩
abbrev cX12_told : ByteArray := prog_14_method_95_code
def yX12_told : MethodName := ⟨RX12, "told", "(I)I"⟩
def RJ11 : String := "java/lang/Character"
def TJ11 : u_T := fun k => match k with
  | _ => ("", "", "", false)
def tyJ11 : Nat → FieldType := fun k => match k with
  | _ => .int
abbrev wsJ110 : List Cond := u_ws RJ11 TJ11 0
abbrev cJ11_isValidCodePoint_9a6ad : ByteArray := prog_15_method_11_code
def yJ11_isValidCodePoint_9a6ad : MethodName := ⟨RJ11, "isValidCodePoint", "(I)Z"⟩
abbrev cJ11_highSurrogate_5068e : ByteArray := prog_15_method_28_code
def yJ11_highSurrogate_5068e : MethodName := ⟨RJ11, "highSurrogate", "(I)C"⟩
abbrev cJ11_lowSurrogate_5068e : ByteArray := prog_15_method_29_code
def yJ11_lowSurrogate_5068e : MethodName := ⟨RJ11, "lowSurrogate", "(I)C"⟩
def RJ9 : String := "java/lang/Math"
def TJ9 : u_T := fun k => match k with
  | _ => ("", "", "", false)
def tyJ9 : Nat → FieldType := fun k => match k with
  | _ => .int
abbrev wsJ90 : List Cond := u_ws RJ9 TJ9 0
abbrev cJ9_max_7cf53 : ByteArray := prog_17_method_65_code
def yJ9_max_7cf53 : MethodName := ⟨RJ9, "max", "(II)I"⟩
abbrev cJ9_min_7cf53 : ByteArray := prog_17_method_69_code
def yJ9_min_7cf53 : MethodName := ⟨RJ9, "min", "(II)I"⟩
def RJ0 : String := "java/lang/String"
def TJ0 : u_T := fun k => match k with
  | _ => ("", "", "", false)
def tyJ0 : Nat → FieldType := fun k => match k with
  | _ => .int
abbrev wsJ00 : List Cond := u_ws RJ0 TJ0 0
abbrev cJ0_length_8abf5 : ByteArray := prog_18_method_54_code
def yJ0_length_8abf5 : MethodName := ⟨RJ0, "length", "()I"⟩
abbrev cJ0_charAt_5068e : ByteArray := prog_18_method_56_code
def yJ0_charAt_5068e : MethodName := ⟨RJ0, "charAt", "(I)C"⟩
abbrev cJ0_indexOf_0f7a4 : ByteArray := prog_18_method_79_code
def yJ0_indexOf_0f7a4 : MethodName := ⟨RJ0, "indexOf", "(I)I"⟩
abbrev cJ0_indexOf_7cf53 : ByteArray := prog_18_method_80_code
def yJ0_indexOf_7cf53 : MethodName := ⟨RJ0, "indexOf", "(II)I"⟩
abbrev cJ0_coder_7d493 : ByteArray := prog_18_method_152_code
def yJ0_coder_7d493 : MethodName := ⟨RJ0, "coder", "()B"⟩
abbrev cJ0_isLatin1_aae02 : ByteArray := prog_18_method_154_code
def yJ0_isLatin1_aae02 : MethodName := ⟨RJ0, "isLatin1", "()Z"⟩
abbrev cJ0_checkIndex_df160 : ByteArray := prog_18_method_155_code
def yJ0_checkIndex_df160 : MethodName := ⟨RJ0, "checkIndex", "(II)V"⟩
abbrev cJ0_checkBoundsBeginEnd_23922 : ByteArray := prog_18_method_158_code
def yJ0_checkBoundsBeginEnd_23922 : MethodName := ⟨RJ0, "checkBoundsBeginEnd", "(III)V"⟩
def RJ1 : String := "java/lang/StringLatin1"
def TJ1 : u_T := fun k => match k with
  | _ => ("", "", "", false)
def tyJ1 : Nat → FieldType := fun k => match k with
  | _ => .int
abbrev wsJ10 : List Cond := u_ws RJ1 TJ1 0
abbrev cJ1_charAt_3b067 : ByteArray := prog_19_method_2_code
def yJ1_charAt_3b067 : MethodName := ⟨RJ1, "charAt", "([BI)C"⟩
abbrev cJ1_canEncode_9a6ad : ByteArray := prog_19_method_4_code
def yJ1_canEncode_9a6ad : MethodName := ⟨RJ1, "canEncode", "(I)Z"⟩
abbrev cJ1_indexOf_4cfef : ByteArray := prog_19_method_22_code
def yJ1_indexOf_4cfef : MethodName := ⟨RJ1, "indexOf", "([BIII)I"⟩
abbrev cJ1_indexOfChar_4cfef : ByteArray := prog_19_method_23_code
def yJ1_indexOfChar_4cfef : MethodName := ⟨RJ1, "indexOfChar", "([BIII)I"⟩
def RJ2 : String := "java/lang/StringUTF16"
def TJ2 : u_T := fun k => match k with
  | _ => ("", "", "", false)
def tyJ2 : Nat → FieldType := fun k => match k with
  | _ => .int
abbrev wsJ20 : List Cond := u_ws RJ2 TJ2 0
abbrev cJ2_getChar_3b067 : ByteArray := prog_20_method_5_code
def yJ2_getChar_3b067 : MethodName := ⟨RJ2, "getChar", "([BI)C"⟩
abbrev cJ2_length_9d52b : ByteArray := prog_20_method_6_code
def yJ2_length_9d52b : MethodName := ⟨RJ2, "length", "([B)I"⟩
abbrev cJ2_indexOf_4cfef : ByteArray := prog_20_method_40_code
def yJ2_indexOf_4cfef : MethodName := ⟨RJ2, "indexOf", "([BIII)I"⟩
abbrev cJ2_indexOfChar_4cfef : ByteArray := prog_20_method_47_code
def yJ2_indexOfChar_4cfef : MethodName := ⟨RJ2, "indexOfChar", "([BIII)I"⟩
abbrev cJ2_indexOfCharUnsafe_4cfef : ByteArray := prog_20_method_48_code
def yJ2_indexOfCharUnsafe_4cfef : MethodName := ⟨RJ2, "indexOfCharUnsafe", "([BIII)I"⟩
abbrev cJ2_indexOfSupplementary_4cfef : ByteArray := prog_20_method_49_code
def yJ2_indexOfSupplementary_4cfef : MethodName := ⟨RJ2, "indexOfSupplementary", "([BIII)I"⟩
abbrev cJ2_charAt_3b067 : ByteArray := prog_20_method_83_code
def yJ2_charAt_3b067 : MethodName := ⟨RJ2, "charAt", "([BI)C"⟩
abbrev cJ2_checkIndex_2214a : ByteArray := prog_20_method_91_code
def yJ2_checkIndex_2214a : MethodName := ⟨RJ2, "checkIndex", "(I[B)V"⟩
abbrev cJ2_checkBoundsBeginEnd_d044e : ByteArray := prog_20_method_93_code
def yJ2_checkBoundsBeginEnd_d044e : MethodName := ⟨RJ2, "checkBoundsBeginEnd", "(II[B)V"⟩
def RJ10 : String := "java/lang/System"
def TJ10 : u_T := fun k => match k with
  | _ => ("", "", "", false)
def tyJ10 : Nat → FieldType := fun k => match k with
  | _ => .int
abbrev wsJ100 : List Cond := u_ws RJ10 TJ10 0
def RJ3 : String := "jdk/internal/util/Preconditions"
def TJ3 : u_T := fun k => match k with
  | _ => ("", "", "", false)
def tyJ3 : Nat → FieldType := fun k => match k with
  | _ => .int
abbrev wsJ30 : List Cond := u_ws RJ3 TJ3 0
abbrev cJ3_checkIndex_8e157 : ByteArray := prog_22_method_11_code
def yJ3_checkIndex_8e157 : MethodName := ⟨RJ3, "checkIndex", "(IILjava/util/function/BiFunction;)I"⟩
abbrev cJ3_checkFromToIndex_8c36e : ByteArray := prog_22_method_12_code
def yJ3_checkFromToIndex_8c36e : MethodName := ⟨RJ3, "checkFromToIndex", "(IIILjava/util/function/BiFunction;)I"⟩
def RL : String := "GorgeWireLaw"
abbrev cL_law : ByteArray := code
def yL_law : MethodName := ⟨RL, "law", "([I)Z"⟩
abbrev vwCl : List vw_C := [(RX0, TX0, 5), (RX1, TX1, 5), (RX2, TX2, 5), (RX3, TX3, 5), (RX4, TX4, 5), (RX5, TX5, 5), (RX6, TX6, 5), (RX7, TX7, 2), (RX8, TX8, 18), (RX9, TX9, 5), (RX10, TX10, 1), (RX11, TX11, 13), (RX12, TX12, 27)]
