/-! the law itself: its words, rows and call sites -/
theorem w_90 : (Jvm.Cond.classLink "GorgeWireLaw" (7 : Nat) "GorgeWire") ∈ gtb := gt1 21 rfl rfl
theorem w_92 : (Jvm.Cond.methodLink "GorgeWireLaw" (9 : Nat) ({ cls := "GorgeWire", name := "<init>", desc := "()V" } : Jvm.MethodName)) ∈ gtb := gt1 23 rfl rfl
theorem w_93 : (Jvm.Cond.instanceMethod ({ cls := "GorgeWire", name := "<init>", desc := "()V" } : Jvm.MethodName)) ∈ gtb := gt1 24 rfl rfl
theorem w_343 : (Jvm.Cond.methodLink "GorgeWireLaw" (13 : Nat) ({ cls := "GorgeWire", name := "wire", desc := "(II)I" } : Jvm.MethodName)) ∈ gtb := gt2 34 rfl rfl
theorem w_344 : (Jvm.Cond.instanceMethod ({ cls := "GorgeWire", name := "wire", desc := "(II)I" } : Jvm.MethodName)) ∈ gtb := gt2 35 rfl rfl
theorem w_345 : (Jvm.Cond.selects "GorgeWire" ({ cls := "GorgeWire", name := "wire", desc := "(II)I" } : Jvm.MethodName) ({ cls := "GorgeWire", name := "wire", desc := "(II)I" } : Jvm.MethodName)) ∈ gtb := gt2 36 rfl rfl
theorem w_382 : (Jvm.Cond.methodLink "GorgeWireLaw" (18 : Nat) ({ cls := "GorgeWire", name := "depth", desc := "(II)I" } : Jvm.MethodName)) ∈ gtb := gt2 73 rfl rfl
theorem w_383 : (Jvm.Cond.instanceMethod ({ cls := "GorgeWire", name := "depth", desc := "(II)I" } : Jvm.MethodName)) ∈ gtb := gt2 74 rfl rfl
theorem w_384 : (Jvm.Cond.selects "GorgeWire" ({ cls := "GorgeWire", name := "depth", desc := "(II)I" } : Jvm.MethodName) ({ cls := "GorgeWire", name := "depth", desc := "(II)I" } : Jvm.MethodName)) ∈ gtb := gt2 75 rfl rfl
theorem w_401 : (Jvm.Cond.methodLink "GorgeWireLaw" (22 : Nat) ({ cls := "GorgeWire", name := "steep", desc := "(II)I" } : Jvm.MethodName)) ∈ gtb := gt2 92 rfl rfl
theorem w_402 : (Jvm.Cond.instanceMethod ({ cls := "GorgeWire", name := "steep", desc := "(II)I" } : Jvm.MethodName)) ∈ gtb := gt2 93 rfl rfl
theorem w_403 : (Jvm.Cond.selects "GorgeWire" ({ cls := "GorgeWire", name := "steep", desc := "(II)I" } : Jvm.MethodName) ({ cls := "GorgeWire", name := "steep", desc := "(II)I" } : Jvm.MethodName)) ∈ gtb := gt2 94 rfl rfl
theorem w_411 : (Jvm.Cond.methodLink "GorgeWireLaw" (26 : Nat) ({ cls := "GorgeWire", name := "pulled", desc := "(II)I" } : Jvm.MethodName)) ∈ gtb := gt2 102 rfl rfl
theorem w_412 : (Jvm.Cond.instanceMethod ({ cls := "GorgeWire", name := "pulled", desc := "(II)I" } : Jvm.MethodName)) ∈ gtb := gt2 103 rfl rfl
theorem w_413 : (Jvm.Cond.selects "GorgeWire" ({ cls := "GorgeWire", name := "pulled", desc := "(II)I" } : Jvm.MethodName) ({ cls := "GorgeWire", name := "pulled", desc := "(II)I" } : Jvm.MethodName)) ∈ gtb := gt2 104 rfl rfl
theorem w_419 : (Jvm.Cond.methodLink "GorgeWireLaw" (30 : Nat) ({ cls := "GorgeWire", name := "most", desc := "()I" } : Jvm.MethodName)) ∈ gtb := gt2 110 rfl rfl
theorem w_420 : (Jvm.Cond.instanceMethod ({ cls := "GorgeWire", name := "most", desc := "()I" } : Jvm.MethodName)) ∈ gtb := gt2 111 rfl rfl
theorem w_421 : (Jvm.Cond.selects "GorgeWire" ({ cls := "GorgeWire", name := "most", desc := "()I" } : Jvm.MethodName) ({ cls := "GorgeWire", name := "most", desc := "()I" } : Jvm.MethodName)) ∈ gtb := gt2 112 rfl rfl
theorem w_423 : (Jvm.Cond.methodLink "GorgeWireLaw" (35 : Nat) ({ cls := "GorgeWire", name := "tight", desc := "()I" } : Jvm.MethodName)) ∈ gtb := gt2 114 rfl rfl
theorem w_424 : (Jvm.Cond.instanceMethod ({ cls := "GorgeWire", name := "tight", desc := "()I" } : Jvm.MethodName)) ∈ gtb := gt2 115 rfl rfl
theorem w_425 : (Jvm.Cond.selects "GorgeWire" ({ cls := "GorgeWire", name := "tight", desc := "()I" } : Jvm.MethodName) ({ cls := "GorgeWire", name := "tight", desc := "()I" } : Jvm.MethodName)) ∈ gtb := gt2 116 rfl rfl
theorem w_428 : (Jvm.Cond.methodLink "GorgeWireLaw" (39 : Nat) ({ cls := "GorgeWire", name := "ride", desc := "(III)I" } : Jvm.MethodName)) ∈ gtb := gt2 119 rfl rfl
theorem w_429 : (Jvm.Cond.instanceMethod ({ cls := "GorgeWire", name := "ride", desc := "(III)I" } : Jvm.MethodName)) ∈ gtb := gt2 120 rfl rfl
theorem w_430 : (Jvm.Cond.selects "GorgeWire" ({ cls := "GorgeWire", name := "ride", desc := "(III)I" } : Jvm.MethodName) ({ cls := "GorgeWire", name := "ride", desc := "(III)I" } : Jvm.MethodName)) ∈ gtb := gt2 121 rfl rfl
theorem w_678 : (Jvm.Cond.methodLink "GorgeWireLaw" (44 : Nat) ({ cls := "GorgeWire", name := "ofRide", desc := "(II)I" } : Jvm.MethodName)) ∈ gtb := gt3 129 rfl rfl
theorem w_679 : (Jvm.Cond.instanceMethod ({ cls := "GorgeWire", name := "ofRide", desc := "(II)I" } : Jvm.MethodName)) ∈ gtb := gt3 130 rfl rfl
theorem w_680 : (Jvm.Cond.selects "GorgeWire" ({ cls := "GorgeWire", name := "ofRide", desc := "(II)I" } : Jvm.MethodName) ({ cls := "GorgeWire", name := "ofRide", desc := "(II)I" } : Jvm.MethodName)) ∈ gtb := gt3 131 rfl rfl
theorem w_752 : (Jvm.Cond.methodLink "GorgeWireLaw" (48 : Nat) ({ cls := "GorgeWire", name := "as", desc := "(II)I" } : Jvm.MethodName)) ∈ gtb := gt3 203 rfl rfl
theorem w_753 : (Jvm.Cond.instanceMethod ({ cls := "GorgeWire", name := "as", desc := "(II)I" } : Jvm.MethodName)) ∈ gtb := gt3 204 rfl rfl
theorem w_754 : (Jvm.Cond.selects "GorgeWire" ({ cls := "GorgeWire", name := "as", desc := "(II)I" } : Jvm.MethodName) ({ cls := "GorgeWire", name := "as", desc := "(II)I" } : Jvm.MethodName)) ∈ gtb := gt3 205 rfl rfl
theorem w_759 : (Jvm.Cond.methodLink "GorgeWireLaw" (52 : Nat) ({ cls := "GorgeWire", name := "start", desc := "(III)I" } : Jvm.MethodName)) ∈ gtb := gt3 210 rfl rfl
theorem w_760 : (Jvm.Cond.instanceMethod ({ cls := "GorgeWire", name := "start", desc := "(III)I" } : Jvm.MethodName)) ∈ gtb := gt3 211 rfl rfl
theorem w_761 : (Jvm.Cond.selects "GorgeWire" ({ cls := "GorgeWire", name := "start", desc := "(III)I" } : Jvm.MethodName) ({ cls := "GorgeWire", name := "start", desc := "(III)I" } : Jvm.MethodName)) ∈ gtb := gt3 212 rfl rfl
theorem w_764 : (Jvm.Cond.methodLink "GorgeWireLaw" (58 : Nat) ({ cls := "GorgeWire", name := "feed", desc := "(JI)I" } : Jvm.MethodName)) ∈ gtb := gt3 215 rfl rfl
theorem w_765 : (Jvm.Cond.instanceMethod ({ cls := "GorgeWire", name := "feed", desc := "(JI)I" } : Jvm.MethodName)) ∈ gtb := gt3 216 rfl rfl
theorem w_766 : (Jvm.Cond.selects "GorgeWire" ({ cls := "GorgeWire", name := "feed", desc := "(JI)I" } : Jvm.MethodName) ({ cls := "GorgeWire", name := "feed", desc := "(JI)I" } : Jvm.MethodName)) ∈ gtb := gt3 217 rfl rfl
theorem w_769 : (Jvm.Cond.methodLink "GorgeWireLaw" (63 : Nat) ({ cls := "GorgeWire", name := "text", desc := "(I)I" } : Jvm.MethodName)) ∈ gtb := gt3 220 rfl rfl
theorem w_770 : (Jvm.Cond.instanceMethod ({ cls := "GorgeWire", name := "text", desc := "(I)I" } : Jvm.MethodName)) ∈ gtb := gt3 221 rfl rfl
theorem w_771 : (Jvm.Cond.selects "GorgeWire" ({ cls := "GorgeWire", name := "text", desc := "(I)I" } : Jvm.MethodName) ({ cls := "GorgeWire", name := "text", desc := "(I)I" } : Jvm.MethodName)) ∈ gtb := gt3 222 rfl rfl
theorem w_790 : (Jvm.Cond.methodLink "GorgeWireLaw" (68 : Nat) ({ cls := "GorgeWire", name := "law", desc := "(IIIII)I" } : Jvm.MethodName)) ∈ gtb := gt4 1 rfl rfl
theorem w_791 : (Jvm.Cond.instanceMethod ({ cls := "GorgeWire", name := "law", desc := "(IIIII)I" } : Jvm.MethodName)) ∈ gtb := gt4 2 rfl rfl
theorem w_792 : (Jvm.Cond.selects "GorgeWire" ({ cls := "GorgeWire", name := "law", desc := "(IIIII)I" } : Jvm.MethodName) ({ cls := "GorgeWire", name := "law", desc := "(IIIII)I" } : Jvm.MethodName)) ∈ gtb := gt4 3 rfl rfl
theorem w_794 : (Jvm.Cond.methodLink "GorgeWireLaw" (73 : Nat) ({ cls := "GorgeWire", name := "ticks", desc := "(I)I" } : Jvm.MethodName)) ∈ gtb := gt4 5 rfl rfl
theorem w_795 : (Jvm.Cond.instanceMethod ({ cls := "GorgeWire", name := "ticks", desc := "(I)I" } : Jvm.MethodName)) ∈ gtb := gt4 6 rfl rfl
theorem w_796 : (Jvm.Cond.selects "GorgeWire" ({ cls := "GorgeWire", name := "ticks", desc := "(I)I" } : Jvm.MethodName) ({ cls := "GorgeWire", name := "ticks", desc := "(I)I" } : Jvm.MethodName)) ∈ gtb := gt4 7 rfl rfl
theorem w_823 : (Jvm.Cond.methodLink "GorgeWireLaw" (77 : Nat) ({ cls := "GorgeWire", name := "gusts", desc := "(I)I" } : Jvm.MethodName)) ∈ gtb := gt4 34 rfl rfl
theorem w_824 : (Jvm.Cond.instanceMethod ({ cls := "GorgeWire", name := "gusts", desc := "(I)I" } : Jvm.MethodName)) ∈ gtb := gt4 35 rfl rfl
theorem w_825 : (Jvm.Cond.selects "GorgeWire" ({ cls := "GorgeWire", name := "gusts", desc := "(I)I" } : Jvm.MethodName) ({ cls := "GorgeWire", name := "gusts", desc := "(I)I" } : Jvm.MethodName)) ∈ gtb := gt4 36 rfl rfl
theorem w_832 : (Jvm.Cond.methodLink "GorgeWireLaw" (81 : Nat) ({ cls := "GorgeWire", name := "then", desc := "(III)I" } : Jvm.MethodName)) ∈ gtb := gt4 43 rfl rfl
theorem w_833 : (Jvm.Cond.instanceMethod ({ cls := "GorgeWire", name := "then", desc := "(III)I" } : Jvm.MethodName)) ∈ gtb := gt4 44 rfl rfl
theorem w_834 : (Jvm.Cond.selects "GorgeWire" ({ cls := "GorgeWire", name := "then", desc := "(III)I" } : Jvm.MethodName) ({ cls := "GorgeWire", name := "then", desc := "(III)I" } : Jvm.MethodName)) ∈ gtb := gt4 45 rfl rfl
theorem w_854 : (Jvm.Cond.methodLink "GorgeWireLaw" (85 : Nat) ({ cls := "GorgeWire", name := "strands", desc := "(I)I" } : Jvm.MethodName)) ∈ gtb := gt4 65 rfl rfl
theorem w_855 : (Jvm.Cond.instanceMethod ({ cls := "GorgeWire", name := "strands", desc := "(I)I" } : Jvm.MethodName)) ∈ gtb := gt4 66 rfl rfl
theorem w_856 : (Jvm.Cond.selects "GorgeWire" ({ cls := "GorgeWire", name := "strands", desc := "(I)I" } : Jvm.MethodName) ({ cls := "GorgeWire", name := "strands", desc := "(I)I" } : Jvm.MethodName)) ∈ gtb := gt4 67 rfl rfl
theorem w_858 : (Jvm.Cond.methodLink "GorgeWireLaw" (89 : Nat) ({ cls := "GorgeWire", name := "stands", desc := "(I)I" } : Jvm.MethodName)) ∈ gtb := gt4 69 rfl rfl
theorem w_859 : (Jvm.Cond.instanceMethod ({ cls := "GorgeWire", name := "stands", desc := "(I)I" } : Jvm.MethodName)) ∈ gtb := gt4 70 rfl rfl
theorem w_860 : (Jvm.Cond.selects "GorgeWire" ({ cls := "GorgeWire", name := "stands", desc := "(I)I" } : Jvm.MethodName) ({ cls := "GorgeWire", name := "stands", desc := "(I)I" } : Jvm.MethodName)) ∈ gtb := gt4 71 rfl rfl
theorem w_863 : (Jvm.Cond.methodLink "GorgeWireLaw" (93 : Nat) ({ cls := "GorgeWire", name := "comes", desc := "(I)I" } : Jvm.MethodName)) ∈ gtb := gt4 74 rfl rfl
theorem w_864 : (Jvm.Cond.instanceMethod ({ cls := "GorgeWire", name := "comes", desc := "(I)I" } : Jvm.MethodName)) ∈ gtb := gt4 75 rfl rfl
theorem w_865 : (Jvm.Cond.selects "GorgeWire" ({ cls := "GorgeWire", name := "comes", desc := "(I)I" } : Jvm.MethodName) ({ cls := "GorgeWire", name := "comes", desc := "(I)I" } : Jvm.MethodName)) ∈ gtb := gt4 76 rfl rfl
theorem w_871 : (Jvm.Cond.methodLink "GorgeWireLaw" (97 : Nat) ({ cls := "GorgeWire", name := "snug", desc := "(III)I" } : Jvm.MethodName)) ∈ gtb := gt4 82 rfl rfl
theorem w_872 : (Jvm.Cond.instanceMethod ({ cls := "GorgeWire", name := "snug", desc := "(III)I" } : Jvm.MethodName)) ∈ gtb := gt4 83 rfl rfl
theorem w_873 : (Jvm.Cond.selects "GorgeWire" ({ cls := "GorgeWire", name := "snug", desc := "(III)I" } : Jvm.MethodName) ({ cls := "GorgeWire", name := "snug", desc := "(III)I" } : Jvm.MethodName)) ∈ gtb := gt4 84 rfl rfl
theorem w_880 : (Jvm.Cond.methodLink "GorgeWireLaw" (101 : Nat) ({ cls := "GorgeWire", name := "lower", desc := "(II)I" } : Jvm.MethodName)) ∈ gtb := gt4 91 rfl rfl
theorem w_881 : (Jvm.Cond.instanceMethod ({ cls := "GorgeWire", name := "lower", desc := "(II)I" } : Jvm.MethodName)) ∈ gtb := gt4 92 rfl rfl
theorem w_882 : (Jvm.Cond.selects "GorgeWire" ({ cls := "GorgeWire", name := "lower", desc := "(II)I" } : Jvm.MethodName) ({ cls := "GorgeWire", name := "lower", desc := "(II)I" } : Jvm.MethodName)) ∈ gtb := gt4 93 rfl rfl
theorem w_884 : (Jvm.Cond.methodLink "GorgeWireLaw" (105 : Nat) ({ cls := "GorgeWire", name := "line", desc := "(II)I" } : Jvm.MethodName)) ∈ gtb := gt4 95 rfl rfl
theorem w_885 : (Jvm.Cond.instanceMethod ({ cls := "GorgeWire", name := "line", desc := "(II)I" } : Jvm.MethodName)) ∈ gtb := gt4 96 rfl rfl
theorem w_886 : (Jvm.Cond.selects "GorgeWire" ({ cls := "GorgeWire", name := "line", desc := "(II)I" } : Jvm.MethodName) ({ cls := "GorgeWire", name := "line", desc := "(II)I" } : Jvm.MethodName)) ∈ gtb := gt4 97 rfl rfl
theorem w_899 : (Jvm.Cond.methodLink "GorgeWireLaw" (109 : Nat) ({ cls := "GorgeWire", name := "lines", desc := "(I)I" } : Jvm.MethodName)) ∈ gtb := gt4 110 rfl rfl
theorem w_900 : (Jvm.Cond.instanceMethod ({ cls := "GorgeWire", name := "lines", desc := "(I)I" } : Jvm.MethodName)) ∈ gtb := gt4 111 rfl rfl
theorem w_901 : (Jvm.Cond.selects "GorgeWire" ({ cls := "GorgeWire", name := "lines", desc := "(I)I" } : Jvm.MethodName) ({ cls := "GorgeWire", name := "lines", desc := "(I)I" } : Jvm.MethodName)) ∈ gtb := gt4 112 rfl rfl
theorem w_908 : (Jvm.Cond.methodLink "GorgeWireLaw" (113 : Nat) ({ cls := "GorgeWire", name := "over", desc := "(II)I" } : Jvm.MethodName)) ∈ gtb := gt4 119 rfl rfl
theorem w_909 : (Jvm.Cond.instanceMethod ({ cls := "GorgeWire", name := "over", desc := "(II)I" } : Jvm.MethodName)) ∈ gtb := gt4 120 rfl rfl
theorem w_910 : (Jvm.Cond.selects "GorgeWire" ({ cls := "GorgeWire", name := "over", desc := "(II)I" } : Jvm.MethodName) ({ cls := "GorgeWire", name := "over", desc := "(II)I" } : Jvm.MethodName)) ∈ gtb := gt4 121 rfl rfl
theorem w_928 : (Jvm.Cond.methodLink "GorgeWireLaw" (117 : Nat) ({ cls := "GorgeWire", name := "load", desc := "(II)I" } : Jvm.MethodName)) ∈ gtb := gt4 139 rfl rfl
theorem w_929 : (Jvm.Cond.instanceMethod ({ cls := "GorgeWire", name := "load", desc := "(II)I" } : Jvm.MethodName)) ∈ gtb := gt4 140 rfl rfl
theorem w_930 : (Jvm.Cond.selects "GorgeWire" ({ cls := "GorgeWire", name := "load", desc := "(II)I" } : Jvm.MethodName) ({ cls := "GorgeWire", name := "load", desc := "(II)I" } : Jvm.MethodName)) ∈ gtb := gt4 141 rfl rfl
theorem w_932 : (Jvm.Cond.methodLink "GorgeWireLaw" (121 : Nat) ({ cls := "GorgeWire", name := "unload", desc := "()I" } : Jvm.MethodName)) ∈ gtb := gt4 143 rfl rfl
theorem w_933 : (Jvm.Cond.instanceMethod ({ cls := "GorgeWire", name := "unload", desc := "()I" } : Jvm.MethodName)) ∈ gtb := gt4 144 rfl rfl
theorem w_934 : (Jvm.Cond.selects "GorgeWire" ({ cls := "GorgeWire", name := "unload", desc := "()I" } : Jvm.MethodName) ({ cls := "GorgeWire", name := "unload", desc := "()I" } : Jvm.MethodName)) ∈ gtb := gt4 145 rfl rfl
theorem w_936 : (Jvm.Cond.methodLink "GorgeWireLaw" (125 : Nat) ({ cls := "GorgeWire", name := "order", desc := "(I)I" } : Jvm.MethodName)) ∈ gtb := gt4 147 rfl rfl
theorem w_937 : (Jvm.Cond.instanceMethod ({ cls := "GorgeWire", name := "order", desc := "(I)I" } : Jvm.MethodName)) ∈ gtb := gt4 148 rfl rfl
theorem w_938 : (Jvm.Cond.selects "GorgeWire" ({ cls := "GorgeWire", name := "order", desc := "(I)I" } : Jvm.MethodName) ({ cls := "GorgeWire", name := "order", desc := "(I)I" } : Jvm.MethodName)) ∈ gtb := gt4 149 rfl rfl
theorem w_946 : (Jvm.Cond.methodLink "GorgeWireLaw" (129 : Nat) ({ cls := "GorgeWire", name := "bridge", desc := "(II)I" } : Jvm.MethodName)) ∈ gtb := gt4 157 rfl rfl
theorem w_947 : (Jvm.Cond.instanceMethod ({ cls := "GorgeWire", name := "bridge", desc := "(II)I" } : Jvm.MethodName)) ∈ gtb := gt4 158 rfl rfl
theorem w_948 : (Jvm.Cond.selects "GorgeWire" ({ cls := "GorgeWire", name := "bridge", desc := "(II)I" } : Jvm.MethodName) ({ cls := "GorgeWire", name := "bridge", desc := "(II)I" } : Jvm.MethodName)) ∈ gtb := gt4 159 rfl rfl
theorem w_950 : (Jvm.Cond.methodLink "GorgeWireLaw" (133 : Nat) ({ cls := "GorgeWire", name := "seed", desc := "(I)I" } : Jvm.MethodName)) ∈ gtb := gt4 161 rfl rfl
theorem w_951 : (Jvm.Cond.instanceMethod ({ cls := "GorgeWire", name := "seed", desc := "(I)I" } : Jvm.MethodName)) ∈ gtb := gt4 162 rfl rfl
theorem w_952 : (Jvm.Cond.selects "GorgeWire" ({ cls := "GorgeWire", name := "seed", desc := "(I)I" } : Jvm.MethodName) ({ cls := "GorgeWire", name := "seed", desc := "(I)I" } : Jvm.MethodName)) ∈ gtb := gt4 163 rfl rfl
theorem w_954 : (Jvm.Cond.methodLink "GorgeWireLaw" (137 : Nat) ({ cls := "GorgeWire", name := "voice", desc := "(III)I" } : Jvm.MethodName)) ∈ gtb := gt4 165 rfl rfl
theorem w_955 : (Jvm.Cond.instanceMethod ({ cls := "GorgeWire", name := "voice", desc := "(III)I" } : Jvm.MethodName)) ∈ gtb := gt4 166 rfl rfl
theorem w_956 : (Jvm.Cond.selects "GorgeWire" ({ cls := "GorgeWire", name := "voice", desc := "(III)I" } : Jvm.MethodName) ({ cls := "GorgeWire", name := "voice", desc := "(III)I" } : Jvm.MethodName)) ∈ gtb := gt4 167 rfl rfl
theorem w_1043 : (Jvm.Cond.methodLink "GorgeWireLaw" (141 : Nat) ({ cls := "GorgeWire", name := "trace", desc := "(I)I" } : Jvm.MethodName)) ∈ gtb := gt5 14 rfl rfl
theorem w_1044 : (Jvm.Cond.instanceMethod ({ cls := "GorgeWire", name := "trace", desc := "(I)I" } : Jvm.MethodName)) ∈ gtb := gt5 15 rfl rfl
theorem w_1045 : (Jvm.Cond.selects "GorgeWire" ({ cls := "GorgeWire", name := "trace", desc := "(I)I" } : Jvm.MethodName) ({ cls := "GorgeWire", name := "trace", desc := "(I)I" } : Jvm.MethodName)) ∈ gtb := gt5 16 rfl rfl
theorem w_1047 : (Jvm.Cond.methodLink "GorgeWireLaw" (145 : Nat) ({ cls := "GorgeWire", name := "sheet", desc := "(III)I" } : Jvm.MethodName)) ∈ gtb := gt5 18 rfl rfl
theorem w_1048 : (Jvm.Cond.instanceMethod ({ cls := "GorgeWire", name := "sheet", desc := "(III)I" } : Jvm.MethodName)) ∈ gtb := gt5 19 rfl rfl
theorem w_1049 : (Jvm.Cond.selects "GorgeWire" ({ cls := "GorgeWire", name := "sheet", desc := "(III)I" } : Jvm.MethodName) ({ cls := "GorgeWire", name := "sheet", desc := "(III)I" } : Jvm.MethodName)) ∈ gtb := gt5 20 rfl rfl
theorem w_1056 : (Jvm.Cond.methodLink "GorgeWireLaw" (149 : Nat) ({ cls := "GorgeWire", name := "put", desc := "(III)I" } : Jvm.MethodName)) ∈ gtb := gt5 27 rfl rfl
theorem w_1057 : (Jvm.Cond.instanceMethod ({ cls := "GorgeWire", name := "put", desc := "(III)I" } : Jvm.MethodName)) ∈ gtb := gt5 28 rfl rfl
theorem w_1058 : (Jvm.Cond.selects "GorgeWire" ({ cls := "GorgeWire", name := "put", desc := "(III)I" } : Jvm.MethodName) ({ cls := "GorgeWire", name := "put", desc := "(III)I" } : Jvm.MethodName)) ∈ gtb := gt5 29 rfl rfl
theorem w_1067 : (Jvm.Cond.methodLink "GorgeWireLaw" (153 : Nat) ({ cls := "GorgeWire", name := "move", desc := "(IIIII)I" } : Jvm.MethodName)) ∈ gtb := gt5 38 rfl rfl
theorem w_1068 : (Jvm.Cond.instanceMethod ({ cls := "GorgeWire", name := "move", desc := "(IIIII)I" } : Jvm.MethodName)) ∈ gtb := gt5 39 rfl rfl
theorem w_1069 : (Jvm.Cond.selects "GorgeWire" ({ cls := "GorgeWire", name := "move", desc := "(IIIII)I" } : Jvm.MethodName) ({ cls := "GorgeWire", name := "move", desc := "(IIIII)I" } : Jvm.MethodName)) ∈ gtb := gt5 40 rfl rfl
theorem w_1075 : (Jvm.Cond.methodLink "GorgeWireLaw" (157 : Nat) ({ cls := "GorgeWire", name := "image", desc := "()I" } : Jvm.MethodName)) ∈ gtb := gt5 46 rfl rfl
theorem w_1076 : (Jvm.Cond.instanceMethod ({ cls := "GorgeWire", name := "image", desc := "()I" } : Jvm.MethodName)) ∈ gtb := gt5 47 rfl rfl
theorem w_1077 : (Jvm.Cond.selects "GorgeWire" ({ cls := "GorgeWire", name := "image", desc := "()I" } : Jvm.MethodName) ({ cls := "GorgeWire", name := "image", desc := "()I" } : Jvm.MethodName)) ∈ gtb := gt5 48 rfl rfl
theorem w_1079 : (Jvm.Cond.methodLink "GorgeWireLaw" (161 : Nat) ({ cls := "GorgeWire", name := "restore", desc := "()I" } : Jvm.MethodName)) ∈ gtb := gt5 50 rfl rfl
theorem w_1080 : (Jvm.Cond.instanceMethod ({ cls := "GorgeWire", name := "restore", desc := "()I" } : Jvm.MethodName)) ∈ gtb := gt5 51 rfl rfl
theorem w_1081 : (Jvm.Cond.selects "GorgeWire" ({ cls := "GorgeWire", name := "restore", desc := "()I" } : Jvm.MethodName) ({ cls := "GorgeWire", name := "restore", desc := "()I" } : Jvm.MethodName)) ∈ gtb := gt5 52 rfl rfl
theorem w_1083 : (Jvm.Cond.methodLink "GorgeWireLaw" (165 : Nat) ({ cls := "GorgeWire", name := "tell", desc := "(I)I" } : Jvm.MethodName)) ∈ gtb := gt5 54 rfl rfl
theorem w_1084 : (Jvm.Cond.instanceMethod ({ cls := "GorgeWire", name := "tell", desc := "(I)I" } : Jvm.MethodName)) ∈ gtb := gt5 55 rfl rfl
theorem w_1085 : (Jvm.Cond.selects "GorgeWire" ({ cls := "GorgeWire", name := "tell", desc := "(I)I" } : Jvm.MethodName) ({ cls := "GorgeWire", name := "tell", desc := "(I)I" } : Jvm.MethodName)) ∈ gtb := gt5 56 rfl rfl
theorem w_1087 : (Jvm.Cond.methodLink "GorgeWireLaw" (169 : Nat) ({ cls := "GorgeWire", name := "check", desc := "(I)I" } : Jvm.MethodName)) ∈ gtb := gt5 58 rfl rfl
theorem w_1088 : (Jvm.Cond.instanceMethod ({ cls := "GorgeWire", name := "check", desc := "(I)I" } : Jvm.MethodName)) ∈ gtb := gt5 59 rfl rfl
theorem w_1089 : (Jvm.Cond.selects "GorgeWire" ({ cls := "GorgeWire", name := "check", desc := "(I)I" } : Jvm.MethodName) ({ cls := "GorgeWire", name := "check", desc := "(I)I" } : Jvm.MethodName)) ∈ gtb := gt5 60 rfl rfl
theorem w_1091 : (Jvm.Cond.methodLink "GorgeWireLaw" (173 : Nat) ({ cls := "GorgeWire", name := "count", desc := "(I)I" } : Jvm.MethodName)) ∈ gtb := gt5 62 rfl rfl
theorem w_1092 : (Jvm.Cond.instanceMethod ({ cls := "GorgeWire", name := "count", desc := "(I)I" } : Jvm.MethodName)) ∈ gtb := gt5 63 rfl rfl
theorem w_1093 : (Jvm.Cond.selects "GorgeWire" ({ cls := "GorgeWire", name := "count", desc := "(I)I" } : Jvm.MethodName) ({ cls := "GorgeWire", name := "count", desc := "(I)I" } : Jvm.MethodName)) ∈ gtb := gt5 64 rfl rfl
theorem w_1099 : (Jvm.Cond.methodLink "GorgeWireLaw" (177 : Nat) ({ cls := "GorgeWire", name := "told", desc := "(I)I" } : Jvm.MethodName)) ∈ gtb := gt5 70 rfl rfl
theorem w_1100 : (Jvm.Cond.instanceMethod ({ cls := "GorgeWire", name := "told", desc := "(I)I" } : Jvm.MethodName)) ∈ gtb := gt5 71 rfl rfl
theorem w_1101 : (Jvm.Cond.selects "GorgeWire" ({ cls := "GorgeWire", name := "told", desc := "(I)I" } : Jvm.MethodName) ({ cls := "GorgeWire", name := "told", desc := "(I)I" } : Jvm.MethodName)) ∈ gtb := gt5 72 rfl rfl
theorem w_1103 : (Jvm.Cond.classLink "GorgeWireLaw" (10 : Nat) "GorgeWireModel") ∈ gtb := gt5 74 rfl rfl
theorem w_1105 : (Jvm.Cond.methodLink "GorgeWireLaw" (12 : Nat) ({ cls := "GorgeWireModel", name := "<init>", desc := "()V" } : Jvm.MethodName)) ∈ gtb := gt5 76 rfl rfl
theorem w_1106 : (Jvm.Cond.instanceMethod ({ cls := "GorgeWireModel", name := "<init>", desc := "()V" } : Jvm.MethodName)) ∈ gtb := gt5 77 rfl rfl
theorem w_1196 : (Jvm.Cond.methodLink "GorgeWireLaw" (17 : Nat) ({ cls := "GorgeWireModel", name := "wire", desc := "(II)I" } : Jvm.MethodName)) ∈ gtb := gt5 167 rfl rfl
theorem w_1197 : (Jvm.Cond.instanceMethod ({ cls := "GorgeWireModel", name := "wire", desc := "(II)I" } : Jvm.MethodName)) ∈ gtb := gt5 168 rfl rfl
theorem w_1198 : (Jvm.Cond.selects "GorgeWireModel" ({ cls := "GorgeWireModel", name := "wire", desc := "(II)I" } : Jvm.MethodName) ({ cls := "GorgeWireModel", name := "wire", desc := "(II)I" } : Jvm.MethodName)) ∈ gtb := gt5 169 rfl rfl
theorem w_1222 : (Jvm.Cond.methodLink "GorgeWireLaw" (38 : Nat) ({ cls := "GorgeWireModel", name := "tight", desc := "()I" } : Jvm.MethodName)) ∈ gtb := gt5 193 rfl rfl
theorem w_1223 : (Jvm.Cond.instanceMethod ({ cls := "GorgeWireModel", name := "tight", desc := "()I" } : Jvm.MethodName)) ∈ gtb := gt5 194 rfl rfl
theorem w_1224 : (Jvm.Cond.selects "GorgeWireModel" ({ cls := "GorgeWireModel", name := "tight", desc := "()I" } : Jvm.MethodName) ({ cls := "GorgeWireModel", name := "tight", desc := "()I" } : Jvm.MethodName)) ∈ gtb := gt5 195 rfl rfl
theorem w_1231 : (Jvm.Cond.methodLink "GorgeWireLaw" (21 : Nat) ({ cls := "GorgeWireModel", name := "depth", desc := "(II)I" } : Jvm.MethodName)) ∈ gtb := gt5 202 rfl rfl
theorem w_1232 : (Jvm.Cond.instanceMethod ({ cls := "GorgeWireModel", name := "depth", desc := "(II)I" } : Jvm.MethodName)) ∈ gtb := gt5 203 rfl rfl
theorem w_1233 : (Jvm.Cond.selects "GorgeWireModel" ({ cls := "GorgeWireModel", name := "depth", desc := "(II)I" } : Jvm.MethodName) ({ cls := "GorgeWireModel", name := "depth", desc := "(II)I" } : Jvm.MethodName)) ∈ gtb := gt5 204 rfl rfl
theorem w_1245 : (Jvm.Cond.methodLink "GorgeWireLaw" (25 : Nat) ({ cls := "GorgeWireModel", name := "steep", desc := "(II)I" } : Jvm.MethodName)) ∈ gtb := gt5 216 rfl rfl
theorem w_1246 : (Jvm.Cond.instanceMethod ({ cls := "GorgeWireModel", name := "steep", desc := "(II)I" } : Jvm.MethodName)) ∈ gtb := gt5 217 rfl rfl
theorem w_1247 : (Jvm.Cond.selects "GorgeWireModel" ({ cls := "GorgeWireModel", name := "steep", desc := "(II)I" } : Jvm.MethodName) ({ cls := "GorgeWireModel", name := "steep", desc := "(II)I" } : Jvm.MethodName)) ∈ gtb := gt5 218 rfl rfl
theorem w_1253 : (Jvm.Cond.methodLink "GorgeWireLaw" (29 : Nat) ({ cls := "GorgeWireModel", name := "pulled", desc := "(II)I" } : Jvm.MethodName)) ∈ gtb := gt5 224 rfl rfl
theorem w_1254 : (Jvm.Cond.instanceMethod ({ cls := "GorgeWireModel", name := "pulled", desc := "(II)I" } : Jvm.MethodName)) ∈ gtb := gt5 225 rfl rfl
theorem w_1255 : (Jvm.Cond.selects "GorgeWireModel" ({ cls := "GorgeWireModel", name := "pulled", desc := "(II)I" } : Jvm.MethodName) ({ cls := "GorgeWireModel", name := "pulled", desc := "(II)I" } : Jvm.MethodName)) ∈ gtb := gt5 226 rfl rfl
theorem w_1262 : (Jvm.Cond.methodLink "GorgeWireLaw" (34 : Nat) ({ cls := "GorgeWireModel", name := "most", desc := "()I" } : Jvm.MethodName)) ∈ gtb := gt5 233 rfl rfl
theorem w_1263 : (Jvm.Cond.instanceMethod ({ cls := "GorgeWireModel", name := "most", desc := "()I" } : Jvm.MethodName)) ∈ gtb := gt5 234 rfl rfl
theorem w_1264 : (Jvm.Cond.selects "GorgeWireModel" ({ cls := "GorgeWireModel", name := "most", desc := "()I" } : Jvm.MethodName) ({ cls := "GorgeWireModel", name := "most", desc := "()I" } : Jvm.MethodName)) ∈ gtb := gt5 235 rfl rfl
theorem w_1271 : (Jvm.Cond.methodLink "GorgeWireLaw" (43 : Nat) ({ cls := "GorgeWireModel", name := "ride", desc := "(III)I" } : Jvm.MethodName)) ∈ gtb := gt6 2 rfl rfl
theorem w_1272 : (Jvm.Cond.instanceMethod ({ cls := "GorgeWireModel", name := "ride", desc := "(III)I" } : Jvm.MethodName)) ∈ gtb := gt6 3 rfl rfl
theorem w_1273 : (Jvm.Cond.selects "GorgeWireModel" ({ cls := "GorgeWireModel", name := "ride", desc := "(III)I" } : Jvm.MethodName) ({ cls := "GorgeWireModel", name := "ride", desc := "(III)I" } : Jvm.MethodName)) ∈ gtb := gt6 4 rfl rfl
theorem w_1291 : (Jvm.Cond.methodLink "GorgeWireLaw" (47 : Nat) ({ cls := "GorgeWireModel", name := "ofRide", desc := "(II)I" } : Jvm.MethodName)) ∈ gtb := gt6 22 rfl rfl
theorem w_1292 : (Jvm.Cond.instanceMethod ({ cls := "GorgeWireModel", name := "ofRide", desc := "(II)I" } : Jvm.MethodName)) ∈ gtb := gt6 23 rfl rfl
theorem w_1293 : (Jvm.Cond.selects "GorgeWireModel" ({ cls := "GorgeWireModel", name := "ofRide", desc := "(II)I" } : Jvm.MethodName) ({ cls := "GorgeWireModel", name := "ofRide", desc := "(II)I" } : Jvm.MethodName)) ∈ gtb := gt6 24 rfl rfl
theorem w_1315 : (Jvm.Cond.methodLink "GorgeWireLaw" (51 : Nat) ({ cls := "GorgeWireModel", name := "as", desc := "(II)I" } : Jvm.MethodName)) ∈ gtb := gt6 46 rfl rfl
theorem w_1316 : (Jvm.Cond.instanceMethod ({ cls := "GorgeWireModel", name := "as", desc := "(II)I" } : Jvm.MethodName)) ∈ gtb := gt6 47 rfl rfl
theorem w_1317 : (Jvm.Cond.selects "GorgeWireModel" ({ cls := "GorgeWireModel", name := "as", desc := "(II)I" } : Jvm.MethodName) ({ cls := "GorgeWireModel", name := "as", desc := "(II)I" } : Jvm.MethodName)) ∈ gtb := gt6 48 rfl rfl
theorem w_1323 : (Jvm.Cond.methodLink "GorgeWireLaw" (55 : Nat) ({ cls := "GorgeWireModel", name := "start", desc := "(III)I" } : Jvm.MethodName)) ∈ gtb := gt6 54 rfl rfl
theorem w_1324 : (Jvm.Cond.instanceMethod ({ cls := "GorgeWireModel", name := "start", desc := "(III)I" } : Jvm.MethodName)) ∈ gtb := gt6 55 rfl rfl
theorem w_1325 : (Jvm.Cond.selects "GorgeWireModel" ({ cls := "GorgeWireModel", name := "start", desc := "(III)I" } : Jvm.MethodName) ({ cls := "GorgeWireModel", name := "start", desc := "(III)I" } : Jvm.MethodName)) ∈ gtb := gt6 56 rfl rfl
theorem w_1327 : (Jvm.Cond.methodLink "GorgeWireLaw" (62 : Nat) ({ cls := "GorgeWireModel", name := "feed", desc := "(JI)I" } : Jvm.MethodName)) ∈ gtb := gt6 58 rfl rfl
theorem w_1328 : (Jvm.Cond.instanceMethod ({ cls := "GorgeWireModel", name := "feed", desc := "(JI)I" } : Jvm.MethodName)) ∈ gtb := gt6 59 rfl rfl
theorem w_1329 : (Jvm.Cond.selects "GorgeWireModel" ({ cls := "GorgeWireModel", name := "feed", desc := "(JI)I" } : Jvm.MethodName) ({ cls := "GorgeWireModel", name := "feed", desc := "(JI)I" } : Jvm.MethodName)) ∈ gtb := gt6 60 rfl rfl
theorem w_1332 : (Jvm.Cond.methodLink "GorgeWireLaw" (67 : Nat) ({ cls := "GorgeWireModel", name := "text", desc := "(I)I" } : Jvm.MethodName)) ∈ gtb := gt6 63 rfl rfl
theorem w_1333 : (Jvm.Cond.instanceMethod ({ cls := "GorgeWireModel", name := "text", desc := "(I)I" } : Jvm.MethodName)) ∈ gtb := gt6 64 rfl rfl
theorem w_1334 : (Jvm.Cond.selects "GorgeWireModel" ({ cls := "GorgeWireModel", name := "text", desc := "(I)I" } : Jvm.MethodName) ({ cls := "GorgeWireModel", name := "text", desc := "(I)I" } : Jvm.MethodName)) ∈ gtb := gt6 65 rfl rfl
theorem w_1378 : (Jvm.Cond.methodLink "GorgeWireLaw" (72 : Nat) ({ cls := "GorgeWireModel", name := "law", desc := "(IIIII)I" } : Jvm.MethodName)) ∈ gtb := gt6 109 rfl rfl
theorem w_1379 : (Jvm.Cond.instanceMethod ({ cls := "GorgeWireModel", name := "law", desc := "(IIIII)I" } : Jvm.MethodName)) ∈ gtb := gt6 110 rfl rfl
theorem w_1380 : (Jvm.Cond.selects "GorgeWireModel" ({ cls := "GorgeWireModel", name := "law", desc := "(IIIII)I" } : Jvm.MethodName) ({ cls := "GorgeWireModel", name := "law", desc := "(IIIII)I" } : Jvm.MethodName)) ∈ gtb := gt6 111 rfl rfl
theorem w_1382 : (Jvm.Cond.methodLink "GorgeWireLaw" (76 : Nat) ({ cls := "GorgeWireModel", name := "ticks", desc := "(I)I" } : Jvm.MethodName)) ∈ gtb := gt6 113 rfl rfl
theorem w_1383 : (Jvm.Cond.instanceMethod ({ cls := "GorgeWireModel", name := "ticks", desc := "(I)I" } : Jvm.MethodName)) ∈ gtb := gt6 114 rfl rfl
theorem w_1384 : (Jvm.Cond.selects "GorgeWireModel" ({ cls := "GorgeWireModel", name := "ticks", desc := "(I)I" } : Jvm.MethodName) ({ cls := "GorgeWireModel", name := "ticks", desc := "(I)I" } : Jvm.MethodName)) ∈ gtb := gt6 115 rfl rfl
theorem w_1409 : (Jvm.Cond.methodLink "GorgeWireLaw" (80 : Nat) ({ cls := "GorgeWireModel", name := "gusts", desc := "(I)I" } : Jvm.MethodName)) ∈ gtb := gt6 140 rfl rfl
theorem w_1410 : (Jvm.Cond.instanceMethod ({ cls := "GorgeWireModel", name := "gusts", desc := "(I)I" } : Jvm.MethodName)) ∈ gtb := gt6 141 rfl rfl
theorem w_1411 : (Jvm.Cond.selects "GorgeWireModel" ({ cls := "GorgeWireModel", name := "gusts", desc := "(I)I" } : Jvm.MethodName) ({ cls := "GorgeWireModel", name := "gusts", desc := "(I)I" } : Jvm.MethodName)) ∈ gtb := gt6 142 rfl rfl
theorem w_1418 : (Jvm.Cond.methodLink "GorgeWireLaw" (84 : Nat) ({ cls := "GorgeWireModel", name := "then", desc := "(III)I" } : Jvm.MethodName)) ∈ gtb := gt6 149 rfl rfl
theorem w_1419 : (Jvm.Cond.instanceMethod ({ cls := "GorgeWireModel", name := "then", desc := "(III)I" } : Jvm.MethodName)) ∈ gtb := gt6 150 rfl rfl
theorem w_1420 : (Jvm.Cond.selects "GorgeWireModel" ({ cls := "GorgeWireModel", name := "then", desc := "(III)I" } : Jvm.MethodName) ({ cls := "GorgeWireModel", name := "then", desc := "(III)I" } : Jvm.MethodName)) ∈ gtb := gt6 151 rfl rfl
theorem w_1432 : (Jvm.Cond.methodLink "GorgeWireLaw" (88 : Nat) ({ cls := "GorgeWireModel", name := "strands", desc := "(I)I" } : Jvm.MethodName)) ∈ gtb := gt6 163 rfl rfl
theorem w_1433 : (Jvm.Cond.instanceMethod ({ cls := "GorgeWireModel", name := "strands", desc := "(I)I" } : Jvm.MethodName)) ∈ gtb := gt6 164 rfl rfl
theorem w_1434 : (Jvm.Cond.selects "GorgeWireModel" ({ cls := "GorgeWireModel", name := "strands", desc := "(I)I" } : Jvm.MethodName) ({ cls := "GorgeWireModel", name := "strands", desc := "(I)I" } : Jvm.MethodName)) ∈ gtb := gt6 165 rfl rfl
theorem w_1436 : (Jvm.Cond.methodLink "GorgeWireLaw" (92 : Nat) ({ cls := "GorgeWireModel", name := "stands", desc := "(I)I" } : Jvm.MethodName)) ∈ gtb := gt6 167 rfl rfl
theorem w_1437 : (Jvm.Cond.instanceMethod ({ cls := "GorgeWireModel", name := "stands", desc := "(I)I" } : Jvm.MethodName)) ∈ gtb := gt6 168 rfl rfl
theorem w_1438 : (Jvm.Cond.selects "GorgeWireModel" ({ cls := "GorgeWireModel", name := "stands", desc := "(I)I" } : Jvm.MethodName) ({ cls := "GorgeWireModel", name := "stands", desc := "(I)I" } : Jvm.MethodName)) ∈ gtb := gt6 169 rfl rfl
theorem w_1440 : (Jvm.Cond.methodLink "GorgeWireLaw" (96 : Nat) ({ cls := "GorgeWireModel", name := "comes", desc := "(I)I" } : Jvm.MethodName)) ∈ gtb := gt6 171 rfl rfl
theorem w_1441 : (Jvm.Cond.instanceMethod ({ cls := "GorgeWireModel", name := "comes", desc := "(I)I" } : Jvm.MethodName)) ∈ gtb := gt6 172 rfl rfl
theorem w_1442 : (Jvm.Cond.selects "GorgeWireModel" ({ cls := "GorgeWireModel", name := "comes", desc := "(I)I" } : Jvm.MethodName) ({ cls := "GorgeWireModel", name := "comes", desc := "(I)I" } : Jvm.MethodName)) ∈ gtb := gt6 173 rfl rfl
theorem w_1448 : (Jvm.Cond.methodLink "GorgeWireLaw" (100 : Nat) ({ cls := "GorgeWireModel", name := "snug", desc := "(III)I" } : Jvm.MethodName)) ∈ gtb := gt6 179 rfl rfl
theorem w_1449 : (Jvm.Cond.instanceMethod ({ cls := "GorgeWireModel", name := "snug", desc := "(III)I" } : Jvm.MethodName)) ∈ gtb := gt6 180 rfl rfl
theorem w_1450 : (Jvm.Cond.selects "GorgeWireModel" ({ cls := "GorgeWireModel", name := "snug", desc := "(III)I" } : Jvm.MethodName) ({ cls := "GorgeWireModel", name := "snug", desc := "(III)I" } : Jvm.MethodName)) ∈ gtb := gt6 181 rfl rfl
theorem w_1456 : (Jvm.Cond.methodLink "GorgeWireLaw" (104 : Nat) ({ cls := "GorgeWireModel", name := "lower", desc := "(II)I" } : Jvm.MethodName)) ∈ gtb := gt6 187 rfl rfl
theorem w_1457 : (Jvm.Cond.instanceMethod ({ cls := "GorgeWireModel", name := "lower", desc := "(II)I" } : Jvm.MethodName)) ∈ gtb := gt6 188 rfl rfl
theorem w_1458 : (Jvm.Cond.selects "GorgeWireModel" ({ cls := "GorgeWireModel", name := "lower", desc := "(II)I" } : Jvm.MethodName) ({ cls := "GorgeWireModel", name := "lower", desc := "(II)I" } : Jvm.MethodName)) ∈ gtb := gt6 189 rfl rfl
theorem w_1460 : (Jvm.Cond.methodLink "GorgeWireLaw" (108 : Nat) ({ cls := "GorgeWireModel", name := "line", desc := "(II)I" } : Jvm.MethodName)) ∈ gtb := gt6 191 rfl rfl
theorem w_1461 : (Jvm.Cond.instanceMethod ({ cls := "GorgeWireModel", name := "line", desc := "(II)I" } : Jvm.MethodName)) ∈ gtb := gt6 192 rfl rfl
theorem w_1462 : (Jvm.Cond.selects "GorgeWireModel" ({ cls := "GorgeWireModel", name := "line", desc := "(II)I" } : Jvm.MethodName) ({ cls := "GorgeWireModel", name := "line", desc := "(II)I" } : Jvm.MethodName)) ∈ gtb := gt6 193 rfl rfl
theorem w_1471 : (Jvm.Cond.methodLink "GorgeWireLaw" (112 : Nat) ({ cls := "GorgeWireModel", name := "lines", desc := "(I)I" } : Jvm.MethodName)) ∈ gtb := gt6 202 rfl rfl
theorem w_1472 : (Jvm.Cond.instanceMethod ({ cls := "GorgeWireModel", name := "lines", desc := "(I)I" } : Jvm.MethodName)) ∈ gtb := gt6 203 rfl rfl
theorem w_1473 : (Jvm.Cond.selects "GorgeWireModel" ({ cls := "GorgeWireModel", name := "lines", desc := "(I)I" } : Jvm.MethodName) ({ cls := "GorgeWireModel", name := "lines", desc := "(I)I" } : Jvm.MethodName)) ∈ gtb := gt6 204 rfl rfl
theorem w_1478 : (Jvm.Cond.methodLink "GorgeWireLaw" (116 : Nat) ({ cls := "GorgeWireModel", name := "over", desc := "(II)I" } : Jvm.MethodName)) ∈ gtb := gt6 209 rfl rfl
theorem w_1479 : (Jvm.Cond.instanceMethod ({ cls := "GorgeWireModel", name := "over", desc := "(II)I" } : Jvm.MethodName)) ∈ gtb := gt6 210 rfl rfl
theorem w_1480 : (Jvm.Cond.selects "GorgeWireModel" ({ cls := "GorgeWireModel", name := "over", desc := "(II)I" } : Jvm.MethodName) ({ cls := "GorgeWireModel", name := "over", desc := "(II)I" } : Jvm.MethodName)) ∈ gtb := gt6 211 rfl rfl
theorem w_1490 : (Jvm.Cond.methodLink "GorgeWireLaw" (120 : Nat) ({ cls := "GorgeWireModel", name := "load", desc := "(II)I" } : Jvm.MethodName)) ∈ gtb := gt6 221 rfl rfl
theorem w_1491 : (Jvm.Cond.instanceMethod ({ cls := "GorgeWireModel", name := "load", desc := "(II)I" } : Jvm.MethodName)) ∈ gtb := gt6 222 rfl rfl
theorem w_1492 : (Jvm.Cond.selects "GorgeWireModel" ({ cls := "GorgeWireModel", name := "load", desc := "(II)I" } : Jvm.MethodName) ({ cls := "GorgeWireModel", name := "load", desc := "(II)I" } : Jvm.MethodName)) ∈ gtb := gt6 223 rfl rfl
theorem w_1494 : (Jvm.Cond.methodLink "GorgeWireLaw" (124 : Nat) ({ cls := "GorgeWireModel", name := "unload", desc := "()I" } : Jvm.MethodName)) ∈ gtb := gt6 225 rfl rfl
theorem w_1495 : (Jvm.Cond.instanceMethod ({ cls := "GorgeWireModel", name := "unload", desc := "()I" } : Jvm.MethodName)) ∈ gtb := gt6 226 rfl rfl
theorem w_1496 : (Jvm.Cond.selects "GorgeWireModel" ({ cls := "GorgeWireModel", name := "unload", desc := "()I" } : Jvm.MethodName) ({ cls := "GorgeWireModel", name := "unload", desc := "()I" } : Jvm.MethodName)) ∈ gtb := gt6 227 rfl rfl
theorem w_1498 : (Jvm.Cond.methodLink "GorgeWireLaw" (128 : Nat) ({ cls := "GorgeWireModel", name := "order", desc := "(I)I" } : Jvm.MethodName)) ∈ gtb := gt6 229 rfl rfl
theorem w_1499 : (Jvm.Cond.instanceMethod ({ cls := "GorgeWireModel", name := "order", desc := "(I)I" } : Jvm.MethodName)) ∈ gtb := gt6 230 rfl rfl
theorem w_1500 : (Jvm.Cond.selects "GorgeWireModel" ({ cls := "GorgeWireModel", name := "order", desc := "(I)I" } : Jvm.MethodName) ({ cls := "GorgeWireModel", name := "order", desc := "(I)I" } : Jvm.MethodName)) ∈ gtb := gt6 231 rfl rfl
theorem w_1506 : (Jvm.Cond.methodLink "GorgeWireLaw" (132 : Nat) ({ cls := "GorgeWireModel", name := "bridge", desc := "(II)I" } : Jvm.MethodName)) ∈ gtb := gt6 237 rfl rfl
theorem w_1507 : (Jvm.Cond.instanceMethod ({ cls := "GorgeWireModel", name := "bridge", desc := "(II)I" } : Jvm.MethodName)) ∈ gtb := gt6 238 rfl rfl
theorem w_1508 : (Jvm.Cond.selects "GorgeWireModel" ({ cls := "GorgeWireModel", name := "bridge", desc := "(II)I" } : Jvm.MethodName) ({ cls := "GorgeWireModel", name := "bridge", desc := "(II)I" } : Jvm.MethodName)) ∈ gtb := gt6 239 rfl rfl
theorem w_1510 : (Jvm.Cond.methodLink "GorgeWireLaw" (136 : Nat) ({ cls := "GorgeWireModel", name := "seed", desc := "(I)I" } : Jvm.MethodName)) ∈ gtb := gt7 1 rfl rfl
theorem w_1511 : (Jvm.Cond.instanceMethod ({ cls := "GorgeWireModel", name := "seed", desc := "(I)I" } : Jvm.MethodName)) ∈ gtb := gt7 2 rfl rfl
theorem w_1512 : (Jvm.Cond.selects "GorgeWireModel" ({ cls := "GorgeWireModel", name := "seed", desc := "(I)I" } : Jvm.MethodName) ({ cls := "GorgeWireModel", name := "seed", desc := "(I)I" } : Jvm.MethodName)) ∈ gtb := gt7 3 rfl rfl
theorem w_1514 : (Jvm.Cond.methodLink "GorgeWireLaw" (140 : Nat) ({ cls := "GorgeWireModel", name := "voice", desc := "(III)I" } : Jvm.MethodName)) ∈ gtb := gt7 5 rfl rfl
theorem w_1515 : (Jvm.Cond.instanceMethod ({ cls := "GorgeWireModel", name := "voice", desc := "(III)I" } : Jvm.MethodName)) ∈ gtb := gt7 6 rfl rfl
theorem w_1516 : (Jvm.Cond.selects "GorgeWireModel" ({ cls := "GorgeWireModel", name := "voice", desc := "(III)I" } : Jvm.MethodName) ({ cls := "GorgeWireModel", name := "voice", desc := "(III)I" } : Jvm.MethodName)) ∈ gtb := gt7 7 rfl rfl
theorem w_1537 : (Jvm.Cond.methodLink "GorgeWireLaw" (144 : Nat) ({ cls := "GorgeWireModel", name := "trace", desc := "(I)I" } : Jvm.MethodName)) ∈ gtb := gt7 28 rfl rfl
theorem w_1538 : (Jvm.Cond.instanceMethod ({ cls := "GorgeWireModel", name := "trace", desc := "(I)I" } : Jvm.MethodName)) ∈ gtb := gt7 29 rfl rfl
theorem w_1539 : (Jvm.Cond.selects "GorgeWireModel" ({ cls := "GorgeWireModel", name := "trace", desc := "(I)I" } : Jvm.MethodName) ({ cls := "GorgeWireModel", name := "trace", desc := "(I)I" } : Jvm.MethodName)) ∈ gtb := gt7 30 rfl rfl
theorem w_1541 : (Jvm.Cond.methodLink "GorgeWireLaw" (148 : Nat) ({ cls := "GorgeWireModel", name := "sheet", desc := "(III)I" } : Jvm.MethodName)) ∈ gtb := gt7 32 rfl rfl
theorem w_1542 : (Jvm.Cond.instanceMethod ({ cls := "GorgeWireModel", name := "sheet", desc := "(III)I" } : Jvm.MethodName)) ∈ gtb := gt7 33 rfl rfl
theorem w_1543 : (Jvm.Cond.selects "GorgeWireModel" ({ cls := "GorgeWireModel", name := "sheet", desc := "(III)I" } : Jvm.MethodName) ({ cls := "GorgeWireModel", name := "sheet", desc := "(III)I" } : Jvm.MethodName)) ∈ gtb := gt7 34 rfl rfl
theorem w_1545 : (Jvm.Cond.methodLink "GorgeWireLaw" (152 : Nat) ({ cls := "GorgeWireModel", name := "put", desc := "(III)I" } : Jvm.MethodName)) ∈ gtb := gt7 36 rfl rfl
theorem w_1546 : (Jvm.Cond.instanceMethod ({ cls := "GorgeWireModel", name := "put", desc := "(III)I" } : Jvm.MethodName)) ∈ gtb := gt7 37 rfl rfl
theorem w_1547 : (Jvm.Cond.selects "GorgeWireModel" ({ cls := "GorgeWireModel", name := "put", desc := "(III)I" } : Jvm.MethodName) ({ cls := "GorgeWireModel", name := "put", desc := "(III)I" } : Jvm.MethodName)) ∈ gtb := gt7 38 rfl rfl
theorem w_1549 : (Jvm.Cond.methodLink "GorgeWireLaw" (156 : Nat) ({ cls := "GorgeWireModel", name := "move", desc := "(IIIII)I" } : Jvm.MethodName)) ∈ gtb := gt7 40 rfl rfl
theorem w_1550 : (Jvm.Cond.instanceMethod ({ cls := "GorgeWireModel", name := "move", desc := "(IIIII)I" } : Jvm.MethodName)) ∈ gtb := gt7 41 rfl rfl
theorem w_1551 : (Jvm.Cond.selects "GorgeWireModel" ({ cls := "GorgeWireModel", name := "move", desc := "(IIIII)I" } : Jvm.MethodName) ({ cls := "GorgeWireModel", name := "move", desc := "(IIIII)I" } : Jvm.MethodName)) ∈ gtb := gt7 42 rfl rfl
theorem w_1553 : (Jvm.Cond.methodLink "GorgeWireLaw" (160 : Nat) ({ cls := "GorgeWireModel", name := "image", desc := "()I" } : Jvm.MethodName)) ∈ gtb := gt7 44 rfl rfl
theorem w_1554 : (Jvm.Cond.instanceMethod ({ cls := "GorgeWireModel", name := "image", desc := "()I" } : Jvm.MethodName)) ∈ gtb := gt7 45 rfl rfl
theorem w_1555 : (Jvm.Cond.selects "GorgeWireModel" ({ cls := "GorgeWireModel", name := "image", desc := "()I" } : Jvm.MethodName) ({ cls := "GorgeWireModel", name := "image", desc := "()I" } : Jvm.MethodName)) ∈ gtb := gt7 46 rfl rfl
theorem w_1557 : (Jvm.Cond.methodLink "GorgeWireLaw" (164 : Nat) ({ cls := "GorgeWireModel", name := "restore", desc := "()I" } : Jvm.MethodName)) ∈ gtb := gt7 48 rfl rfl
theorem w_1558 : (Jvm.Cond.instanceMethod ({ cls := "GorgeWireModel", name := "restore", desc := "()I" } : Jvm.MethodName)) ∈ gtb := gt7 49 rfl rfl
theorem w_1559 : (Jvm.Cond.selects "GorgeWireModel" ({ cls := "GorgeWireModel", name := "restore", desc := "()I" } : Jvm.MethodName) ({ cls := "GorgeWireModel", name := "restore", desc := "()I" } : Jvm.MethodName)) ∈ gtb := gt7 50 rfl rfl
theorem w_1561 : (Jvm.Cond.methodLink "GorgeWireLaw" (168 : Nat) ({ cls := "GorgeWireModel", name := "tell", desc := "(I)I" } : Jvm.MethodName)) ∈ gtb := gt7 52 rfl rfl
theorem w_1562 : (Jvm.Cond.instanceMethod ({ cls := "GorgeWireModel", name := "tell", desc := "(I)I" } : Jvm.MethodName)) ∈ gtb := gt7 53 rfl rfl
theorem w_1563 : (Jvm.Cond.selects "GorgeWireModel" ({ cls := "GorgeWireModel", name := "tell", desc := "(I)I" } : Jvm.MethodName) ({ cls := "GorgeWireModel", name := "tell", desc := "(I)I" } : Jvm.MethodName)) ∈ gtb := gt7 54 rfl rfl
theorem w_1565 : (Jvm.Cond.methodLink "GorgeWireLaw" (172 : Nat) ({ cls := "GorgeWireModel", name := "check", desc := "(I)I" } : Jvm.MethodName)) ∈ gtb := gt7 56 rfl rfl
theorem w_1566 : (Jvm.Cond.instanceMethod ({ cls := "GorgeWireModel", name := "check", desc := "(I)I" } : Jvm.MethodName)) ∈ gtb := gt7 57 rfl rfl
theorem w_1567 : (Jvm.Cond.selects "GorgeWireModel" ({ cls := "GorgeWireModel", name := "check", desc := "(I)I" } : Jvm.MethodName) ({ cls := "GorgeWireModel", name := "check", desc := "(I)I" } : Jvm.MethodName)) ∈ gtb := gt7 58 rfl rfl
theorem w_1569 : (Jvm.Cond.methodLink "GorgeWireLaw" (176 : Nat) ({ cls := "GorgeWireModel", name := "count", desc := "(I)I" } : Jvm.MethodName)) ∈ gtb := gt7 60 rfl rfl
theorem w_1570 : (Jvm.Cond.instanceMethod ({ cls := "GorgeWireModel", name := "count", desc := "(I)I" } : Jvm.MethodName)) ∈ gtb := gt7 61 rfl rfl
theorem w_1571 : (Jvm.Cond.selects "GorgeWireModel" ({ cls := "GorgeWireModel", name := "count", desc := "(I)I" } : Jvm.MethodName) ({ cls := "GorgeWireModel", name := "count", desc := "(I)I" } : Jvm.MethodName)) ∈ gtb := gt7 62 rfl rfl
theorem w_1573 : (Jvm.Cond.methodLink "GorgeWireLaw" (180 : Nat) ({ cls := "GorgeWireModel", name := "told", desc := "(I)I" } : Jvm.MethodName)) ∈ gtb := gt7 64 rfl rfl
theorem w_1574 : (Jvm.Cond.instanceMethod ({ cls := "GorgeWireModel", name := "told", desc := "(I)I" } : Jvm.MethodName)) ∈ gtb := gt7 65 rfl rfl
theorem w_1575 : (Jvm.Cond.selects "GorgeWireModel" ({ cls := "GorgeWireModel", name := "told", desc := "(I)I" } : Jvm.MethodName) ({ cls := "GorgeWireModel", name := "told", desc := "(I)I" } : Jvm.MethodName)) ∈ gtb := gt7 66 rfl rfl
theorem w_1577 : (Jvm.Cond.constantLong "GorgeWireLaw" (56 : Nat) (4294967295 : Int64)) ∈ gtb := gt7 68 rfl rfl
abbrev mL_law : MD := (x, code, 4, ret)
theorem dL_law_0 : decode code 0 = .ok (.new 7, 3) := by decide +kernel
theorem dL_law_3 : decode code 3 = .ok (.dup, 1) := by decide +kernel
theorem dL_law_4 : decode code 4 = .ok (.invokespecial 9, 3) := by decide +kernel
theorem dL_law_7 : decode code 7 = .ok (.astore_n 1, 1) := by decide +kernel
theorem dL_law_8 : decode code 8 = .ok (.new 10, 3) := by decide +kernel
theorem dL_law_11 : decode code 11 = .ok (.dup, 1) := by decide +kernel
theorem dL_law_12 : decode code 12 = .ok (.invokespecial 12, 3) := by decide +kernel
theorem dL_law_15 : decode code 15 = .ok (.astore_n 2, 1) := by decide +kernel
theorem dL_law_16 : decode code 16 = .ok (.iconst 0, 1) := by decide +kernel
theorem dL_law_17 : decode code 17 = .ok (.istore_n 3, 1) := by decide +kernel
theorem dL_law_18 : decode code 18 = .ok (.iload_n 3, 1) := by decide +kernel
theorem dL_law_19 : decode code 19 = .ok (.aload_n 0, 1) := by decide +kernel
theorem dL_law_20 : decode code 20 = .ok (.arraylength, 1) := by decide +kernel
theorem dL_law_21 : decode code 21 = .ok (.bipush 6, 2) := by decide +kernel
theorem dL_law_23 : decode code 23 = .ok (.isub, 1) := by decide +kernel
theorem dL_law_24 : decode code 24 = .ok (.if_icmp .gt 1430, 3) := by decide +kernel
theorem dL_law_27 : decode code 27 = .ok (.aload_n 0, 1) := by decide +kernel
theorem dL_law_28 : decode code 28 = .ok (.iload_n 3, 1) := by decide +kernel
theorem dL_law_29 : decode code 29 = .ok (.iaload, 1) := by decide +kernel
theorem dL_law_30 : decode code 30 = .ok (.bipush 63, 2) := by decide +kernel
theorem dL_law_32 : decode code 32 = .ok (.iand, 1) := by decide +kernel
theorem dL_law_33 : decode code 33 = .ok (.tableswitch 1415 0 39 #[175, 208, 241, 274, 307, 320, 333, 376, 409, 442, 485, 548, 571, 634, 657, 680, 723, 746, 769, 792, 835, 868, 901, 924, 957, 990, 1003, 1026, 1059, 1082, 1125, 1148, 1191, 1234, 1297, 1310, 1323, 1346, 1369, 1392], 175) := by decide +kernel
theorem dL_law_208 : decode code 208 = .ok (.aload_n 1, 1) := by decide +kernel
theorem dL_law_209 : decode code 209 = .ok (.aload_n 0, 1) := by decide +kernel
theorem dL_law_210 : decode code 210 = .ok (.iload_n 3, 1) := by decide +kernel
theorem dL_law_211 : decode code 211 = .ok (.iconst 1, 1) := by decide +kernel
theorem dL_law_212 : decode code 212 = .ok (.iadd, 1) := by decide +kernel
theorem dL_law_213 : decode code 213 = .ok (.iaload, 1) := by decide +kernel
theorem dL_law_214 : decode code 214 = .ok (.aload_n 0, 1) := by decide +kernel
theorem dL_law_215 : decode code 215 = .ok (.iload_n 3, 1) := by decide +kernel
theorem dL_law_216 : decode code 216 = .ok (.iconst 2, 1) := by decide +kernel
theorem dL_law_217 : decode code 217 = .ok (.iadd, 1) := by decide +kernel
theorem dL_law_218 : decode code 218 = .ok (.iaload, 1) := by decide +kernel
theorem dL_law_219 : decode code 219 = .ok (.invokevirtual 13, 3) := by decide +kernel
theorem dL_law_222 : decode code 222 = .ok (.aload_n 2, 1) := by decide +kernel
theorem dL_law_223 : decode code 223 = .ok (.aload_n 0, 1) := by decide +kernel
theorem dL_law_224 : decode code 224 = .ok (.iload_n 3, 1) := by decide +kernel
theorem dL_law_225 : decode code 225 = .ok (.iconst 1, 1) := by decide +kernel
theorem dL_law_226 : decode code 226 = .ok (.iadd, 1) := by decide +kernel
theorem dL_law_227 : decode code 227 = .ok (.iaload, 1) := by decide +kernel
theorem dL_law_228 : decode code 228 = .ok (.aload_n 0, 1) := by decide +kernel
theorem dL_law_229 : decode code 229 = .ok (.iload_n 3, 1) := by decide +kernel
theorem dL_law_230 : decode code 230 = .ok (.iconst 2, 1) := by decide +kernel
theorem dL_law_231 : decode code 231 = .ok (.iadd, 1) := by decide +kernel
theorem dL_law_232 : decode code 232 = .ok (.iaload, 1) := by decide +kernel
theorem dL_law_233 : decode code 233 = .ok (.invokevirtual 17, 3) := by decide +kernel
theorem dL_law_236 : decode code 236 = .ok (.if_icmp .eq 1212, 3) := by decide +kernel
theorem dL_law_239 : decode code 239 = .ok (.iconst 0, 1) := by decide +kernel
theorem dL_law_240 : decode code 240 = .ok (.ireturn, 1) := by decide +kernel
theorem dL_law_241 : decode code 241 = .ok (.aload_n 1, 1) := by decide +kernel
theorem dL_law_242 : decode code 242 = .ok (.aload_n 0, 1) := by decide +kernel
theorem dL_law_243 : decode code 243 = .ok (.iload_n 3, 1) := by decide +kernel
theorem dL_law_244 : decode code 244 = .ok (.iconst 1, 1) := by decide +kernel
theorem dL_law_245 : decode code 245 = .ok (.iadd, 1) := by decide +kernel
theorem dL_law_246 : decode code 246 = .ok (.iaload, 1) := by decide +kernel
theorem dL_law_247 : decode code 247 = .ok (.aload_n 0, 1) := by decide +kernel
theorem dL_law_248 : decode code 248 = .ok (.iload_n 3, 1) := by decide +kernel
theorem dL_law_249 : decode code 249 = .ok (.iconst 2, 1) := by decide +kernel
theorem dL_law_250 : decode code 250 = .ok (.iadd, 1) := by decide +kernel
theorem dL_law_251 : decode code 251 = .ok (.iaload, 1) := by decide +kernel
theorem dL_law_252 : decode code 252 = .ok (.invokevirtual 18, 3) := by decide +kernel
theorem dL_law_255 : decode code 255 = .ok (.aload_n 2, 1) := by decide +kernel
theorem dL_law_256 : decode code 256 = .ok (.aload_n 0, 1) := by decide +kernel
theorem dL_law_257 : decode code 257 = .ok (.iload_n 3, 1) := by decide +kernel
theorem dL_law_258 : decode code 258 = .ok (.iconst 1, 1) := by decide +kernel
theorem dL_law_259 : decode code 259 = .ok (.iadd, 1) := by decide +kernel
theorem dL_law_260 : decode code 260 = .ok (.iaload, 1) := by decide +kernel
theorem dL_law_261 : decode code 261 = .ok (.aload_n 0, 1) := by decide +kernel
theorem dL_law_262 : decode code 262 = .ok (.iload_n 3, 1) := by decide +kernel
theorem dL_law_263 : decode code 263 = .ok (.iconst 2, 1) := by decide +kernel
theorem dL_law_264 : decode code 264 = .ok (.iadd, 1) := by decide +kernel
theorem dL_law_265 : decode code 265 = .ok (.iaload, 1) := by decide +kernel
theorem dL_law_266 : decode code 266 = .ok (.invokevirtual 21, 3) := by decide +kernel
theorem dL_law_269 : decode code 269 = .ok (.if_icmp .eq 1179, 3) := by decide +kernel
theorem dL_law_272 : decode code 272 = .ok (.iconst 0, 1) := by decide +kernel
theorem dL_law_273 : decode code 273 = .ok (.ireturn, 1) := by decide +kernel
theorem dL_law_274 : decode code 274 = .ok (.aload_n 1, 1) := by decide +kernel
theorem dL_law_275 : decode code 275 = .ok (.aload_n 0, 1) := by decide +kernel
theorem dL_law_276 : decode code 276 = .ok (.iload_n 3, 1) := by decide +kernel
theorem dL_law_277 : decode code 277 = .ok (.iconst 1, 1) := by decide +kernel
theorem dL_law_278 : decode code 278 = .ok (.iadd, 1) := by decide +kernel
theorem dL_law_279 : decode code 279 = .ok (.iaload, 1) := by decide +kernel
theorem dL_law_280 : decode code 280 = .ok (.aload_n 0, 1) := by decide +kernel
theorem dL_law_281 : decode code 281 = .ok (.iload_n 3, 1) := by decide +kernel
theorem dL_law_282 : decode code 282 = .ok (.iconst 2, 1) := by decide +kernel
theorem dL_law_283 : decode code 283 = .ok (.iadd, 1) := by decide +kernel
theorem dL_law_284 : decode code 284 = .ok (.iaload, 1) := by decide +kernel
theorem dL_law_285 : decode code 285 = .ok (.invokevirtual 22, 3) := by decide +kernel
theorem dL_law_288 : decode code 288 = .ok (.aload_n 2, 1) := by decide +kernel
theorem dL_law_289 : decode code 289 = .ok (.aload_n 0, 1) := by decide +kernel
theorem dL_law_290 : decode code 290 = .ok (.iload_n 3, 1) := by decide +kernel
theorem dL_law_291 : decode code 291 = .ok (.iconst 1, 1) := by decide +kernel
theorem dL_law_292 : decode code 292 = .ok (.iadd, 1) := by decide +kernel
theorem dL_law_293 : decode code 293 = .ok (.iaload, 1) := by decide +kernel
theorem dL_law_294 : decode code 294 = .ok (.aload_n 0, 1) := by decide +kernel
theorem dL_law_295 : decode code 295 = .ok (.iload_n 3, 1) := by decide +kernel
theorem dL_law_296 : decode code 296 = .ok (.iconst 2, 1) := by decide +kernel
theorem dL_law_297 : decode code 297 = .ok (.iadd, 1) := by decide +kernel
theorem dL_law_298 : decode code 298 = .ok (.iaload, 1) := by decide +kernel
theorem dL_law_299 : decode code 299 = .ok (.invokevirtual 25, 3) := by decide +kernel
theorem dL_law_302 : decode code 302 = .ok (.if_icmp .eq 1146, 3) := by decide +kernel
theorem dL_law_305 : decode code 305 = .ok (.iconst 0, 1) := by decide +kernel
theorem dL_law_306 : decode code 306 = .ok (.ireturn, 1) := by decide +kernel
theorem dL_law_307 : decode code 307 = .ok (.aload_n 1, 1) := by decide +kernel
theorem dL_law_308 : decode code 308 = .ok (.aload_n 0, 1) := by decide +kernel
theorem dL_law_309 : decode code 309 = .ok (.iload_n 3, 1) := by decide +kernel
theorem dL_law_310 : decode code 310 = .ok (.iconst 1, 1) := by decide +kernel
theorem dL_law_311 : decode code 311 = .ok (.iadd, 1) := by decide +kernel
theorem dL_law_312 : decode code 312 = .ok (.iaload, 1) := by decide +kernel
theorem dL_law_313 : decode code 313 = .ok (.aload_n 0, 1) := by decide +kernel
theorem dL_law_314 : decode code 314 = .ok (.iload_n 3, 1) := by decide +kernel
theorem dL_law_315 : decode code 315 = .ok (.iconst 2, 1) := by decide +kernel
theorem dL_law_316 : decode code 316 = .ok (.iadd, 1) := by decide +kernel
theorem dL_law_317 : decode code 317 = .ok (.iaload, 1) := by decide +kernel
theorem dL_law_318 : decode code 318 = .ok (.invokevirtual 26, 3) := by decide +kernel
theorem dL_law_321 : decode code 321 = .ok (.aload_n 2, 1) := by decide +kernel
theorem dL_law_322 : decode code 322 = .ok (.aload_n 0, 1) := by decide +kernel
theorem dL_law_323 : decode code 323 = .ok (.iload_n 3, 1) := by decide +kernel
theorem dL_law_324 : decode code 324 = .ok (.iconst 1, 1) := by decide +kernel
theorem dL_law_325 : decode code 325 = .ok (.iadd, 1) := by decide +kernel
theorem dL_law_326 : decode code 326 = .ok (.iaload, 1) := by decide +kernel
theorem dL_law_327 : decode code 327 = .ok (.aload_n 0, 1) := by decide +kernel
theorem dL_law_328 : decode code 328 = .ok (.iload_n 3, 1) := by decide +kernel
theorem dL_law_329 : decode code 329 = .ok (.iconst 2, 1) := by decide +kernel
theorem dL_law_330 : decode code 330 = .ok (.iadd, 1) := by decide +kernel
theorem dL_law_331 : decode code 331 = .ok (.iaload, 1) := by decide +kernel
theorem dL_law_332 : decode code 332 = .ok (.invokevirtual 29, 3) := by decide +kernel
theorem dL_law_335 : decode code 335 = .ok (.if_icmp .eq 1113, 3) := by decide +kernel
theorem dL_law_338 : decode code 338 = .ok (.iconst 0, 1) := by decide +kernel
theorem dL_law_339 : decode code 339 = .ok (.ireturn, 1) := by decide +kernel
theorem dL_law_340 : decode code 340 = .ok (.aload_n 1, 1) := by decide +kernel
theorem dL_law_341 : decode code 341 = .ok (.invokevirtual 30, 3) := by decide +kernel
theorem dL_law_344 : decode code 344 = .ok (.aload_n 2, 1) := by decide +kernel
theorem dL_law_345 : decode code 345 = .ok (.invokevirtual 34, 3) := by decide +kernel
theorem dL_law_348 : decode code 348 = .ok (.if_icmp .eq 1100, 3) := by decide +kernel
theorem dL_law_351 : decode code 351 = .ok (.iconst 0, 1) := by decide +kernel
theorem dL_law_352 : decode code 352 = .ok (.ireturn, 1) := by decide +kernel
theorem dL_law_353 : decode code 353 = .ok (.aload_n 1, 1) := by decide +kernel
theorem dL_law_354 : decode code 354 = .ok (.invokevirtual 35, 3) := by decide +kernel
theorem dL_law_357 : decode code 357 = .ok (.aload_n 2, 1) := by decide +kernel
theorem dL_law_358 : decode code 358 = .ok (.invokevirtual 38, 3) := by decide +kernel
theorem dL_law_361 : decode code 361 = .ok (.if_icmp .eq 1087, 3) := by decide +kernel
theorem dL_law_364 : decode code 364 = .ok (.iconst 0, 1) := by decide +kernel
theorem dL_law_365 : decode code 365 = .ok (.ireturn, 1) := by decide +kernel
theorem dL_law_366 : decode code 366 = .ok (.aload_n 1, 1) := by decide +kernel
theorem dL_law_367 : decode code 367 = .ok (.aload_n 0, 1) := by decide +kernel
theorem dL_law_368 : decode code 368 = .ok (.iload_n 3, 1) := by decide +kernel
theorem dL_law_369 : decode code 369 = .ok (.iconst 1, 1) := by decide +kernel
theorem dL_law_370 : decode code 370 = .ok (.iadd, 1) := by decide +kernel
theorem dL_law_371 : decode code 371 = .ok (.iaload, 1) := by decide +kernel
theorem dL_law_372 : decode code 372 = .ok (.aload_n 0, 1) := by decide +kernel
theorem dL_law_373 : decode code 373 = .ok (.iload_n 3, 1) := by decide +kernel
theorem dL_law_374 : decode code 374 = .ok (.iconst 2, 1) := by decide +kernel
theorem dL_law_375 : decode code 375 = .ok (.iadd, 1) := by decide +kernel
theorem dL_law_376 : decode code 376 = .ok (.iaload, 1) := by decide +kernel
theorem dL_law_377 : decode code 377 = .ok (.aload_n 0, 1) := by decide +kernel
theorem dL_law_378 : decode code 378 = .ok (.iload_n 3, 1) := by decide +kernel
theorem dL_law_379 : decode code 379 = .ok (.iconst 3, 1) := by decide +kernel
theorem dL_law_380 : decode code 380 = .ok (.iadd, 1) := by decide +kernel
theorem dL_law_381 : decode code 381 = .ok (.iaload, 1) := by decide +kernel
theorem dL_law_382 : decode code 382 = .ok (.invokevirtual 39, 3) := by decide +kernel
theorem dL_law_385 : decode code 385 = .ok (.aload_n 2, 1) := by decide +kernel
theorem dL_law_386 : decode code 386 = .ok (.aload_n 0, 1) := by decide +kernel
theorem dL_law_387 : decode code 387 = .ok (.iload_n 3, 1) := by decide +kernel
theorem dL_law_388 : decode code 388 = .ok (.iconst 1, 1) := by decide +kernel
theorem dL_law_389 : decode code 389 = .ok (.iadd, 1) := by decide +kernel
theorem dL_law_390 : decode code 390 = .ok (.iaload, 1) := by decide +kernel
theorem dL_law_391 : decode code 391 = .ok (.aload_n 0, 1) := by decide +kernel
theorem dL_law_392 : decode code 392 = .ok (.iload_n 3, 1) := by decide +kernel
theorem dL_law_393 : decode code 393 = .ok (.iconst 2, 1) := by decide +kernel
theorem dL_law_394 : decode code 394 = .ok (.iadd, 1) := by decide +kernel
theorem dL_law_395 : decode code 395 = .ok (.iaload, 1) := by decide +kernel
theorem dL_law_396 : decode code 396 = .ok (.aload_n 0, 1) := by decide +kernel
theorem dL_law_397 : decode code 397 = .ok (.iload_n 3, 1) := by decide +kernel
theorem dL_law_398 : decode code 398 = .ok (.iconst 3, 1) := by decide +kernel
theorem dL_law_399 : decode code 399 = .ok (.iadd, 1) := by decide +kernel
theorem dL_law_400 : decode code 400 = .ok (.iaload, 1) := by decide +kernel
theorem dL_law_401 : decode code 401 = .ok (.invokevirtual 43, 3) := by decide +kernel
theorem dL_law_404 : decode code 404 = .ok (.if_icmp .eq 1044, 3) := by decide +kernel
theorem dL_law_407 : decode code 407 = .ok (.iconst 0, 1) := by decide +kernel
theorem dL_law_408 : decode code 408 = .ok (.ireturn, 1) := by decide +kernel
theorem dL_law_409 : decode code 409 = .ok (.aload_n 1, 1) := by decide +kernel
theorem dL_law_410 : decode code 410 = .ok (.aload_n 0, 1) := by decide +kernel
theorem dL_law_411 : decode code 411 = .ok (.iload_n 3, 1) := by decide +kernel
theorem dL_law_412 : decode code 412 = .ok (.iconst 1, 1) := by decide +kernel
theorem dL_law_413 : decode code 413 = .ok (.iadd, 1) := by decide +kernel
theorem dL_law_414 : decode code 414 = .ok (.iaload, 1) := by decide +kernel
theorem dL_law_415 : decode code 415 = .ok (.aload_n 0, 1) := by decide +kernel
theorem dL_law_416 : decode code 416 = .ok (.iload_n 3, 1) := by decide +kernel
theorem dL_law_417 : decode code 417 = .ok (.iconst 2, 1) := by decide +kernel
theorem dL_law_418 : decode code 418 = .ok (.iadd, 1) := by decide +kernel
theorem dL_law_419 : decode code 419 = .ok (.iaload, 1) := by decide +kernel
theorem dL_law_420 : decode code 420 = .ok (.invokevirtual 44, 3) := by decide +kernel
theorem dL_law_423 : decode code 423 = .ok (.aload_n 2, 1) := by decide +kernel
theorem dL_law_424 : decode code 424 = .ok (.aload_n 0, 1) := by decide +kernel
theorem dL_law_425 : decode code 425 = .ok (.iload_n 3, 1) := by decide +kernel
theorem dL_law_426 : decode code 426 = .ok (.iconst 1, 1) := by decide +kernel
theorem dL_law_427 : decode code 427 = .ok (.iadd, 1) := by decide +kernel
theorem dL_law_428 : decode code 428 = .ok (.iaload, 1) := by decide +kernel
theorem dL_law_429 : decode code 429 = .ok (.aload_n 0, 1) := by decide +kernel
theorem dL_law_430 : decode code 430 = .ok (.iload_n 3, 1) := by decide +kernel
theorem dL_law_431 : decode code 431 = .ok (.iconst 2, 1) := by decide +kernel
theorem dL_law_432 : decode code 432 = .ok (.iadd, 1) := by decide +kernel
theorem dL_law_433 : decode code 433 = .ok (.iaload, 1) := by decide +kernel
theorem dL_law_434 : decode code 434 = .ok (.invokevirtual 47, 3) := by decide +kernel
theorem dL_law_437 : decode code 437 = .ok (.if_icmp .eq 1011, 3) := by decide +kernel
theorem dL_law_440 : decode code 440 = .ok (.iconst 0, 1) := by decide +kernel
theorem dL_law_441 : decode code 441 = .ok (.ireturn, 1) := by decide +kernel
theorem dL_law_442 : decode code 442 = .ok (.aload_n 1, 1) := by decide +kernel
theorem dL_law_443 : decode code 443 = .ok (.aload_n 0, 1) := by decide +kernel
theorem dL_law_444 : decode code 444 = .ok (.iload_n 3, 1) := by decide +kernel
theorem dL_law_445 : decode code 445 = .ok (.iconst 1, 1) := by decide +kernel
theorem dL_law_446 : decode code 446 = .ok (.iadd, 1) := by decide +kernel
theorem dL_law_447 : decode code 447 = .ok (.iaload, 1) := by decide +kernel
theorem dL_law_448 : decode code 448 = .ok (.aload_n 0, 1) := by decide +kernel
theorem dL_law_449 : decode code 449 = .ok (.iload_n 3, 1) := by decide +kernel
theorem dL_law_450 : decode code 450 = .ok (.iconst 2, 1) := by decide +kernel
theorem dL_law_451 : decode code 451 = .ok (.iadd, 1) := by decide +kernel
theorem dL_law_452 : decode code 452 = .ok (.iaload, 1) := by decide +kernel
theorem dL_law_453 : decode code 453 = .ok (.invokevirtual 48, 3) := by decide +kernel
theorem dL_law_456 : decode code 456 = .ok (.aload_n 2, 1) := by decide +kernel
theorem dL_law_457 : decode code 457 = .ok (.aload_n 0, 1) := by decide +kernel
theorem dL_law_458 : decode code 458 = .ok (.iload_n 3, 1) := by decide +kernel
theorem dL_law_459 : decode code 459 = .ok (.iconst 1, 1) := by decide +kernel
theorem dL_law_460 : decode code 460 = .ok (.iadd, 1) := by decide +kernel
theorem dL_law_461 : decode code 461 = .ok (.iaload, 1) := by decide +kernel
theorem dL_law_462 : decode code 462 = .ok (.aload_n 0, 1) := by decide +kernel
theorem dL_law_463 : decode code 463 = .ok (.iload_n 3, 1) := by decide +kernel
theorem dL_law_464 : decode code 464 = .ok (.iconst 2, 1) := by decide +kernel
theorem dL_law_465 : decode code 465 = .ok (.iadd, 1) := by decide +kernel
theorem dL_law_466 : decode code 466 = .ok (.iaload, 1) := by decide +kernel
theorem dL_law_467 : decode code 467 = .ok (.invokevirtual 51, 3) := by decide +kernel
theorem dL_law_470 : decode code 470 = .ok (.if_icmp .eq 978, 3) := by decide +kernel
theorem dL_law_473 : decode code 473 = .ok (.iconst 0, 1) := by decide +kernel
theorem dL_law_474 : decode code 474 = .ok (.ireturn, 1) := by decide +kernel
theorem dL_law_475 : decode code 475 = .ok (.aload_n 1, 1) := by decide +kernel
theorem dL_law_476 : decode code 476 = .ok (.aload_n 0, 1) := by decide +kernel
theorem dL_law_477 : decode code 477 = .ok (.iload_n 3, 1) := by decide +kernel
theorem dL_law_478 : decode code 478 = .ok (.iconst 1, 1) := by decide +kernel
theorem dL_law_479 : decode code 479 = .ok (.iadd, 1) := by decide +kernel
theorem dL_law_480 : decode code 480 = .ok (.iaload, 1) := by decide +kernel
theorem dL_law_481 : decode code 481 = .ok (.aload_n 0, 1) := by decide +kernel
theorem dL_law_482 : decode code 482 = .ok (.iload_n 3, 1) := by decide +kernel
theorem dL_law_483 : decode code 483 = .ok (.iconst 2, 1) := by decide +kernel
theorem dL_law_484 : decode code 484 = .ok (.iadd, 1) := by decide +kernel
theorem dL_law_485 : decode code 485 = .ok (.iaload, 1) := by decide +kernel
theorem dL_law_486 : decode code 486 = .ok (.aload_n 0, 1) := by decide +kernel
theorem dL_law_487 : decode code 487 = .ok (.iload_n 3, 1) := by decide +kernel
theorem dL_law_488 : decode code 488 = .ok (.iconst 3, 1) := by decide +kernel
theorem dL_law_489 : decode code 489 = .ok (.iadd, 1) := by decide +kernel
theorem dL_law_490 : decode code 490 = .ok (.iaload, 1) := by decide +kernel
theorem dL_law_491 : decode code 491 = .ok (.invokevirtual 52, 3) := by decide +kernel
theorem dL_law_494 : decode code 494 = .ok (.aload_n 2, 1) := by decide +kernel
theorem dL_law_495 : decode code 495 = .ok (.aload_n 0, 1) := by decide +kernel
theorem dL_law_496 : decode code 496 = .ok (.iload_n 3, 1) := by decide +kernel
theorem dL_law_497 : decode code 497 = .ok (.iconst 1, 1) := by decide +kernel
theorem dL_law_498 : decode code 498 = .ok (.iadd, 1) := by decide +kernel
theorem dL_law_499 : decode code 499 = .ok (.iaload, 1) := by decide +kernel
theorem dL_law_500 : decode code 500 = .ok (.aload_n 0, 1) := by decide +kernel
theorem dL_law_501 : decode code 501 = .ok (.iload_n 3, 1) := by decide +kernel
theorem dL_law_502 : decode code 502 = .ok (.iconst 2, 1) := by decide +kernel
theorem dL_law_503 : decode code 503 = .ok (.iadd, 1) := by decide +kernel
theorem dL_law_504 : decode code 504 = .ok (.iaload, 1) := by decide +kernel
theorem dL_law_505 : decode code 505 = .ok (.aload_n 0, 1) := by decide +kernel
theorem dL_law_506 : decode code 506 = .ok (.iload_n 3, 1) := by decide +kernel
theorem dL_law_507 : decode code 507 = .ok (.iconst 3, 1) := by decide +kernel
theorem dL_law_508 : decode code 508 = .ok (.iadd, 1) := by decide +kernel
theorem dL_law_509 : decode code 509 = .ok (.iaload, 1) := by decide +kernel
theorem dL_law_510 : decode code 510 = .ok (.invokevirtual 55, 3) := by decide +kernel
theorem dL_law_513 : decode code 513 = .ok (.if_icmp .eq 935, 3) := by decide +kernel
theorem dL_law_516 : decode code 516 = .ok (.iconst 0, 1) := by decide +kernel
theorem dL_law_517 : decode code 517 = .ok (.ireturn, 1) := by decide +kernel
theorem dL_law_518 : decode code 518 = .ok (.aload_n 1, 1) := by decide +kernel
theorem dL_law_519 : decode code 519 = .ok (.aload_n 0, 1) := by decide +kernel
theorem dL_law_520 : decode code 520 = .ok (.iload_n 3, 1) := by decide +kernel
theorem dL_law_521 : decode code 521 = .ok (.iconst 1, 1) := by decide +kernel
theorem dL_law_522 : decode code 522 = .ok (.iadd, 1) := by decide +kernel
theorem dL_law_523 : decode code 523 = .ok (.iaload, 1) := by decide +kernel
theorem dL_law_524 : decode code 524 = .ok (.i2l, 1) := by decide +kernel
theorem dL_law_525 : decode code 525 = .ok (.bipush 32, 2) := by decide +kernel
theorem dL_law_527 : decode code 527 = .ok (.lshl, 1) := by decide +kernel
theorem dL_law_528 : decode code 528 = .ok (.aload_n 0, 1) := by decide +kernel
theorem dL_law_529 : decode code 529 = .ok (.iload_n 3, 1) := by decide +kernel
theorem dL_law_530 : decode code 530 = .ok (.iconst 2, 1) := by decide +kernel
theorem dL_law_531 : decode code 531 = .ok (.iadd, 1) := by decide +kernel
theorem dL_law_532 : decode code 532 = .ok (.iaload, 1) := by decide +kernel
theorem dL_law_533 : decode code 533 = .ok (.i2l, 1) := by decide +kernel
theorem dL_law_534 : decode code 534 = .ok (.ldc2_w 56, 3) := by decide +kernel
theorem dL_law_537 : decode code 537 = .ok (.land, 1) := by decide +kernel
theorem dL_law_538 : decode code 538 = .ok (.lor, 1) := by decide +kernel
theorem dL_law_539 : decode code 539 = .ok (.aload_n 0, 1) := by decide +kernel
theorem dL_law_540 : decode code 540 = .ok (.iload_n 3, 1) := by decide +kernel
theorem dL_law_541 : decode code 541 = .ok (.iconst 3, 1) := by decide +kernel
theorem dL_law_542 : decode code 542 = .ok (.iadd, 1) := by decide +kernel
theorem dL_law_543 : decode code 543 = .ok (.iaload, 1) := by decide +kernel
theorem dL_law_544 : decode code 544 = .ok (.invokevirtual 58, 3) := by decide +kernel
theorem dL_law_547 : decode code 547 = .ok (.aload_n 2, 1) := by decide +kernel
theorem dL_law_548 : decode code 548 = .ok (.aload_n 0, 1) := by decide +kernel
theorem dL_law_549 : decode code 549 = .ok (.iload_n 3, 1) := by decide +kernel
theorem dL_law_550 : decode code 550 = .ok (.iconst 1, 1) := by decide +kernel
theorem dL_law_551 : decode code 551 = .ok (.iadd, 1) := by decide +kernel
theorem dL_law_552 : decode code 552 = .ok (.iaload, 1) := by decide +kernel
theorem dL_law_553 : decode code 553 = .ok (.i2l, 1) := by decide +kernel
theorem dL_law_554 : decode code 554 = .ok (.bipush 32, 2) := by decide +kernel
theorem dL_law_556 : decode code 556 = .ok (.lshl, 1) := by decide +kernel
theorem dL_law_557 : decode code 557 = .ok (.aload_n 0, 1) := by decide +kernel
theorem dL_law_558 : decode code 558 = .ok (.iload_n 3, 1) := by decide +kernel
theorem dL_law_559 : decode code 559 = .ok (.iconst 2, 1) := by decide +kernel
theorem dL_law_560 : decode code 560 = .ok (.iadd, 1) := by decide +kernel
theorem dL_law_561 : decode code 561 = .ok (.iaload, 1) := by decide +kernel
theorem dL_law_562 : decode code 562 = .ok (.i2l, 1) := by decide +kernel
theorem dL_law_563 : decode code 563 = .ok (.ldc2_w 56, 3) := by decide +kernel
theorem dL_law_566 : decode code 566 = .ok (.land, 1) := by decide +kernel
theorem dL_law_567 : decode code 567 = .ok (.lor, 1) := by decide +kernel
theorem dL_law_568 : decode code 568 = .ok (.aload_n 0, 1) := by decide +kernel
theorem dL_law_569 : decode code 569 = .ok (.iload_n 3, 1) := by decide +kernel
theorem dL_law_570 : decode code 570 = .ok (.iconst 3, 1) := by decide +kernel
theorem dL_law_571 : decode code 571 = .ok (.iadd, 1) := by decide +kernel
theorem dL_law_572 : decode code 572 = .ok (.iaload, 1) := by decide +kernel
theorem dL_law_573 : decode code 573 = .ok (.invokevirtual 62, 3) := by decide +kernel
theorem dL_law_576 : decode code 576 = .ok (.if_icmp .eq 872, 3) := by decide +kernel
theorem dL_law_579 : decode code 579 = .ok (.iconst 0, 1) := by decide +kernel
theorem dL_law_580 : decode code 580 = .ok (.ireturn, 1) := by decide +kernel
theorem dL_law_581 : decode code 581 = .ok (.aload_n 1, 1) := by decide +kernel
theorem dL_law_582 : decode code 582 = .ok (.aload_n 0, 1) := by decide +kernel
theorem dL_law_583 : decode code 583 = .ok (.iload_n 3, 1) := by decide +kernel
theorem dL_law_584 : decode code 584 = .ok (.iconst 1, 1) := by decide +kernel
theorem dL_law_585 : decode code 585 = .ok (.iadd, 1) := by decide +kernel
theorem dL_law_586 : decode code 586 = .ok (.iaload, 1) := by decide +kernel
theorem dL_law_587 : decode code 587 = .ok (.invokevirtual 63, 3) := by decide +kernel
theorem dL_law_590 : decode code 590 = .ok (.aload_n 2, 1) := by decide +kernel
theorem dL_law_591 : decode code 591 = .ok (.aload_n 0, 1) := by decide +kernel
theorem dL_law_592 : decode code 592 = .ok (.iload_n 3, 1) := by decide +kernel
theorem dL_law_593 : decode code 593 = .ok (.iconst 1, 1) := by decide +kernel
theorem dL_law_594 : decode code 594 = .ok (.iadd, 1) := by decide +kernel
theorem dL_law_595 : decode code 595 = .ok (.iaload, 1) := by decide +kernel
theorem dL_law_596 : decode code 596 = .ok (.invokevirtual 67, 3) := by decide +kernel
theorem dL_law_599 : decode code 599 = .ok (.if_icmp .eq 849, 3) := by decide +kernel
theorem dL_law_602 : decode code 602 = .ok (.iconst 0, 1) := by decide +kernel
theorem dL_law_603 : decode code 603 = .ok (.ireturn, 1) := by decide +kernel
theorem dL_law_604 : decode code 604 = .ok (.aload_n 1, 1) := by decide +kernel
theorem dL_law_605 : decode code 605 = .ok (.aload_n 0, 1) := by decide +kernel
theorem dL_law_606 : decode code 606 = .ok (.iload_n 3, 1) := by decide +kernel
theorem dL_law_607 : decode code 607 = .ok (.iconst 1, 1) := by decide +kernel
theorem dL_law_608 : decode code 608 = .ok (.iadd, 1) := by decide +kernel
theorem dL_law_609 : decode code 609 = .ok (.iaload, 1) := by decide +kernel
theorem dL_law_610 : decode code 610 = .ok (.aload_n 0, 1) := by decide +kernel
theorem dL_law_611 : decode code 611 = .ok (.iload_n 3, 1) := by decide +kernel
theorem dL_law_612 : decode code 612 = .ok (.iconst 2, 1) := by decide +kernel
theorem dL_law_613 : decode code 613 = .ok (.iadd, 1) := by decide +kernel
theorem dL_law_614 : decode code 614 = .ok (.iaload, 1) := by decide +kernel
theorem dL_law_615 : decode code 615 = .ok (.aload_n 0, 1) := by decide +kernel
theorem dL_law_616 : decode code 616 = .ok (.iload_n 3, 1) := by decide +kernel
theorem dL_law_617 : decode code 617 = .ok (.iconst 3, 1) := by decide +kernel
theorem dL_law_618 : decode code 618 = .ok (.iadd, 1) := by decide +kernel
theorem dL_law_619 : decode code 619 = .ok (.iaload, 1) := by decide +kernel
theorem dL_law_620 : decode code 620 = .ok (.aload_n 0, 1) := by decide +kernel
theorem dL_law_621 : decode code 621 = .ok (.iload_n 3, 1) := by decide +kernel
theorem dL_law_622 : decode code 622 = .ok (.iconst 4, 1) := by decide +kernel
theorem dL_law_623 : decode code 623 = .ok (.iadd, 1) := by decide +kernel
theorem dL_law_624 : decode code 624 = .ok (.iaload, 1) := by decide +kernel
theorem dL_law_625 : decode code 625 = .ok (.aload_n 0, 1) := by decide +kernel
theorem dL_law_626 : decode code 626 = .ok (.iload_n 3, 1) := by decide +kernel
theorem dL_law_627 : decode code 627 = .ok (.iconst 5, 1) := by decide +kernel
theorem dL_law_628 : decode code 628 = .ok (.iadd, 1) := by decide +kernel
theorem dL_law_629 : decode code 629 = .ok (.iaload, 1) := by decide +kernel
theorem dL_law_630 : decode code 630 = .ok (.invokevirtual 68, 3) := by decide +kernel
theorem dL_law_633 : decode code 633 = .ok (.aload_n 2, 1) := by decide +kernel
theorem dL_law_634 : decode code 634 = .ok (.aload_n 0, 1) := by decide +kernel
theorem dL_law_635 : decode code 635 = .ok (.iload_n 3, 1) := by decide +kernel
theorem dL_law_636 : decode code 636 = .ok (.iconst 1, 1) := by decide +kernel
theorem dL_law_637 : decode code 637 = .ok (.iadd, 1) := by decide +kernel
theorem dL_law_638 : decode code 638 = .ok (.iaload, 1) := by decide +kernel
theorem dL_law_639 : decode code 639 = .ok (.aload_n 0, 1) := by decide +kernel
theorem dL_law_640 : decode code 640 = .ok (.iload_n 3, 1) := by decide +kernel
theorem dL_law_641 : decode code 641 = .ok (.iconst 2, 1) := by decide +kernel
theorem dL_law_642 : decode code 642 = .ok (.iadd, 1) := by decide +kernel
theorem dL_law_643 : decode code 643 = .ok (.iaload, 1) := by decide +kernel
theorem dL_law_644 : decode code 644 = .ok (.aload_n 0, 1) := by decide +kernel
theorem dL_law_645 : decode code 645 = .ok (.iload_n 3, 1) := by decide +kernel
theorem dL_law_646 : decode code 646 = .ok (.iconst 3, 1) := by decide +kernel
theorem dL_law_647 : decode code 647 = .ok (.iadd, 1) := by decide +kernel
theorem dL_law_648 : decode code 648 = .ok (.iaload, 1) := by decide +kernel
theorem dL_law_649 : decode code 649 = .ok (.aload_n 0, 1) := by decide +kernel
theorem dL_law_650 : decode code 650 = .ok (.iload_n 3, 1) := by decide +kernel
theorem dL_law_651 : decode code 651 = .ok (.iconst 4, 1) := by decide +kernel
theorem dL_law_652 : decode code 652 = .ok (.iadd, 1) := by decide +kernel
theorem dL_law_653 : decode code 653 = .ok (.iaload, 1) := by decide +kernel
theorem dL_law_654 : decode code 654 = .ok (.aload_n 0, 1) := by decide +kernel
theorem dL_law_655 : decode code 655 = .ok (.iload_n 3, 1) := by decide +kernel
theorem dL_law_656 : decode code 656 = .ok (.iconst 5, 1) := by decide +kernel
theorem dL_law_657 : decode code 657 = .ok (.iadd, 1) := by decide +kernel
theorem dL_law_658 : decode code 658 = .ok (.iaload, 1) := by decide +kernel
theorem dL_law_659 : decode code 659 = .ok (.invokevirtual 72, 3) := by decide +kernel
theorem dL_law_662 : decode code 662 = .ok (.if_icmp .eq 786, 3) := by decide +kernel
theorem dL_law_665 : decode code 665 = .ok (.iconst 0, 1) := by decide +kernel
theorem dL_law_666 : decode code 666 = .ok (.ireturn, 1) := by decide +kernel
theorem dL_law_667 : decode code 667 = .ok (.aload_n 1, 1) := by decide +kernel
theorem dL_law_668 : decode code 668 = .ok (.aload_n 0, 1) := by decide +kernel
theorem dL_law_669 : decode code 669 = .ok (.iload_n 3, 1) := by decide +kernel
theorem dL_law_670 : decode code 670 = .ok (.iconst 1, 1) := by decide +kernel
theorem dL_law_671 : decode code 671 = .ok (.iadd, 1) := by decide +kernel
theorem dL_law_672 : decode code 672 = .ok (.iaload, 1) := by decide +kernel
theorem dL_law_673 : decode code 673 = .ok (.invokevirtual 73, 3) := by decide +kernel
theorem dL_law_676 : decode code 676 = .ok (.aload_n 2, 1) := by decide +kernel
theorem dL_law_677 : decode code 677 = .ok (.aload_n 0, 1) := by decide +kernel
theorem dL_law_678 : decode code 678 = .ok (.iload_n 3, 1) := by decide +kernel
theorem dL_law_679 : decode code 679 = .ok (.iconst 1, 1) := by decide +kernel
theorem dL_law_680 : decode code 680 = .ok (.iadd, 1) := by decide +kernel
theorem dL_law_681 : decode code 681 = .ok (.iaload, 1) := by decide +kernel
theorem dL_law_682 : decode code 682 = .ok (.invokevirtual 76, 3) := by decide +kernel
theorem dL_law_685 : decode code 685 = .ok (.if_icmp .eq 763, 3) := by decide +kernel
theorem dL_law_688 : decode code 688 = .ok (.iconst 0, 1) := by decide +kernel
theorem dL_law_689 : decode code 689 = .ok (.ireturn, 1) := by decide +kernel
theorem dL_law_690 : decode code 690 = .ok (.aload_n 1, 1) := by decide +kernel
theorem dL_law_691 : decode code 691 = .ok (.aload_n 0, 1) := by decide +kernel
theorem dL_law_692 : decode code 692 = .ok (.iload_n 3, 1) := by decide +kernel
theorem dL_law_693 : decode code 693 = .ok (.iconst 1, 1) := by decide +kernel
theorem dL_law_694 : decode code 694 = .ok (.iadd, 1) := by decide +kernel
theorem dL_law_695 : decode code 695 = .ok (.iaload, 1) := by decide +kernel
theorem dL_law_696 : decode code 696 = .ok (.invokevirtual 77, 3) := by decide +kernel
theorem dL_law_699 : decode code 699 = .ok (.aload_n 2, 1) := by decide +kernel
theorem dL_law_700 : decode code 700 = .ok (.aload_n 0, 1) := by decide +kernel
theorem dL_law_701 : decode code 701 = .ok (.iload_n 3, 1) := by decide +kernel
theorem dL_law_702 : decode code 702 = .ok (.iconst 1, 1) := by decide +kernel
theorem dL_law_703 : decode code 703 = .ok (.iadd, 1) := by decide +kernel
theorem dL_law_704 : decode code 704 = .ok (.iaload, 1) := by decide +kernel
theorem dL_law_705 : decode code 705 = .ok (.invokevirtual 80, 3) := by decide +kernel
theorem dL_law_708 : decode code 708 = .ok (.if_icmp .eq 740, 3) := by decide +kernel
theorem dL_law_711 : decode code 711 = .ok (.iconst 0, 1) := by decide +kernel
theorem dL_law_712 : decode code 712 = .ok (.ireturn, 1) := by decide +kernel
theorem dL_law_713 : decode code 713 = .ok (.aload_n 1, 1) := by decide +kernel
theorem dL_law_714 : decode code 714 = .ok (.aload_n 0, 1) := by decide +kernel
theorem dL_law_715 : decode code 715 = .ok (.iload_n 3, 1) := by decide +kernel
theorem dL_law_716 : decode code 716 = .ok (.iconst 1, 1) := by decide +kernel
theorem dL_law_717 : decode code 717 = .ok (.iadd, 1) := by decide +kernel
theorem dL_law_718 : decode code 718 = .ok (.iaload, 1) := by decide +kernel
theorem dL_law_719 : decode code 719 = .ok (.aload_n 0, 1) := by decide +kernel
theorem dL_law_720 : decode code 720 = .ok (.iload_n 3, 1) := by decide +kernel
theorem dL_law_721 : decode code 721 = .ok (.iconst 2, 1) := by decide +kernel
theorem dL_law_722 : decode code 722 = .ok (.iadd, 1) := by decide +kernel
theorem dL_law_723 : decode code 723 = .ok (.iaload, 1) := by decide +kernel
theorem dL_law_724 : decode code 724 = .ok (.aload_n 0, 1) := by decide +kernel
theorem dL_law_725 : decode code 725 = .ok (.iload_n 3, 1) := by decide +kernel
theorem dL_law_726 : decode code 726 = .ok (.iconst 3, 1) := by decide +kernel
theorem dL_law_727 : decode code 727 = .ok (.iadd, 1) := by decide +kernel
theorem dL_law_728 : decode code 728 = .ok (.iaload, 1) := by decide +kernel
theorem dL_law_729 : decode code 729 = .ok (.invokevirtual 81, 3) := by decide +kernel
theorem dL_law_732 : decode code 732 = .ok (.aload_n 2, 1) := by decide +kernel
theorem dL_law_733 : decode code 733 = .ok (.aload_n 0, 1) := by decide +kernel
theorem dL_law_734 : decode code 734 = .ok (.iload_n 3, 1) := by decide +kernel
theorem dL_law_735 : decode code 735 = .ok (.iconst 1, 1) := by decide +kernel
theorem dL_law_736 : decode code 736 = .ok (.iadd, 1) := by decide +kernel
theorem dL_law_737 : decode code 737 = .ok (.iaload, 1) := by decide +kernel
theorem dL_law_738 : decode code 738 = .ok (.aload_n 0, 1) := by decide +kernel
theorem dL_law_739 : decode code 739 = .ok (.iload_n 3, 1) := by decide +kernel
theorem dL_law_740 : decode code 740 = .ok (.iconst 2, 1) := by decide +kernel
theorem dL_law_741 : decode code 741 = .ok (.iadd, 1) := by decide +kernel
theorem dL_law_742 : decode code 742 = .ok (.iaload, 1) := by decide +kernel
theorem dL_law_743 : decode code 743 = .ok (.aload_n 0, 1) := by decide +kernel
theorem dL_law_744 : decode code 744 = .ok (.iload_n 3, 1) := by decide +kernel
theorem dL_law_745 : decode code 745 = .ok (.iconst 3, 1) := by decide +kernel
theorem dL_law_746 : decode code 746 = .ok (.iadd, 1) := by decide +kernel
theorem dL_law_747 : decode code 747 = .ok (.iaload, 1) := by decide +kernel
theorem dL_law_748 : decode code 748 = .ok (.invokevirtual 84, 3) := by decide +kernel
theorem dL_law_751 : decode code 751 = .ok (.if_icmp .eq 697, 3) := by decide +kernel
theorem dL_law_754 : decode code 754 = .ok (.iconst 0, 1) := by decide +kernel
theorem dL_law_755 : decode code 755 = .ok (.ireturn, 1) := by decide +kernel
theorem dL_law_756 : decode code 756 = .ok (.aload_n 1, 1) := by decide +kernel
theorem dL_law_757 : decode code 757 = .ok (.aload_n 0, 1) := by decide +kernel
theorem dL_law_758 : decode code 758 = .ok (.iload_n 3, 1) := by decide +kernel
theorem dL_law_759 : decode code 759 = .ok (.iconst 1, 1) := by decide +kernel
theorem dL_law_760 : decode code 760 = .ok (.iadd, 1) := by decide +kernel
theorem dL_law_761 : decode code 761 = .ok (.iaload, 1) := by decide +kernel
theorem dL_law_762 : decode code 762 = .ok (.invokevirtual 85, 3) := by decide +kernel
theorem dL_law_765 : decode code 765 = .ok (.aload_n 2, 1) := by decide +kernel
theorem dL_law_766 : decode code 766 = .ok (.aload_n 0, 1) := by decide +kernel
theorem dL_law_767 : decode code 767 = .ok (.iload_n 3, 1) := by decide +kernel
theorem dL_law_768 : decode code 768 = .ok (.iconst 1, 1) := by decide +kernel
theorem dL_law_769 : decode code 769 = .ok (.iadd, 1) := by decide +kernel
theorem dL_law_770 : decode code 770 = .ok (.iaload, 1) := by decide +kernel
theorem dL_law_771 : decode code 771 = .ok (.invokevirtual 88, 3) := by decide +kernel
theorem dL_law_774 : decode code 774 = .ok (.if_icmp .eq 674, 3) := by decide +kernel
theorem dL_law_777 : decode code 777 = .ok (.iconst 0, 1) := by decide +kernel
theorem dL_law_778 : decode code 778 = .ok (.ireturn, 1) := by decide +kernel
theorem dL_law_779 : decode code 779 = .ok (.aload_n 1, 1) := by decide +kernel
theorem dL_law_780 : decode code 780 = .ok (.aload_n 0, 1) := by decide +kernel
theorem dL_law_781 : decode code 781 = .ok (.iload_n 3, 1) := by decide +kernel
theorem dL_law_782 : decode code 782 = .ok (.iconst 1, 1) := by decide +kernel
theorem dL_law_783 : decode code 783 = .ok (.iadd, 1) := by decide +kernel
theorem dL_law_784 : decode code 784 = .ok (.iaload, 1) := by decide +kernel
theorem dL_law_785 : decode code 785 = .ok (.invokevirtual 89, 3) := by decide +kernel
theorem dL_law_788 : decode code 788 = .ok (.aload_n 2, 1) := by decide +kernel
theorem dL_law_789 : decode code 789 = .ok (.aload_n 0, 1) := by decide +kernel
theorem dL_law_790 : decode code 790 = .ok (.iload_n 3, 1) := by decide +kernel
theorem dL_law_791 : decode code 791 = .ok (.iconst 1, 1) := by decide +kernel
theorem dL_law_792 : decode code 792 = .ok (.iadd, 1) := by decide +kernel
theorem dL_law_793 : decode code 793 = .ok (.iaload, 1) := by decide +kernel
theorem dL_law_794 : decode code 794 = .ok (.invokevirtual 92, 3) := by decide +kernel
theorem dL_law_797 : decode code 797 = .ok (.if_icmp .eq 651, 3) := by decide +kernel
theorem dL_law_800 : decode code 800 = .ok (.iconst 0, 1) := by decide +kernel
theorem dL_law_801 : decode code 801 = .ok (.ireturn, 1) := by decide +kernel
theorem dL_law_802 : decode code 802 = .ok (.aload_n 1, 1) := by decide +kernel
theorem dL_law_803 : decode code 803 = .ok (.aload_n 0, 1) := by decide +kernel
theorem dL_law_804 : decode code 804 = .ok (.iload_n 3, 1) := by decide +kernel
theorem dL_law_805 : decode code 805 = .ok (.iconst 1, 1) := by decide +kernel
theorem dL_law_806 : decode code 806 = .ok (.iadd, 1) := by decide +kernel
theorem dL_law_807 : decode code 807 = .ok (.iaload, 1) := by decide +kernel
theorem dL_law_808 : decode code 808 = .ok (.invokevirtual 93, 3) := by decide +kernel
theorem dL_law_811 : decode code 811 = .ok (.aload_n 2, 1) := by decide +kernel
theorem dL_law_812 : decode code 812 = .ok (.aload_n 0, 1) := by decide +kernel
theorem dL_law_813 : decode code 813 = .ok (.iload_n 3, 1) := by decide +kernel
theorem dL_law_814 : decode code 814 = .ok (.iconst 1, 1) := by decide +kernel
theorem dL_law_815 : decode code 815 = .ok (.iadd, 1) := by decide +kernel
theorem dL_law_816 : decode code 816 = .ok (.iaload, 1) := by decide +kernel
theorem dL_law_817 : decode code 817 = .ok (.invokevirtual 96, 3) := by decide +kernel
theorem dL_law_820 : decode code 820 = .ok (.if_icmp .eq 628, 3) := by decide +kernel
theorem dL_law_823 : decode code 823 = .ok (.iconst 0, 1) := by decide +kernel
theorem dL_law_824 : decode code 824 = .ok (.ireturn, 1) := by decide +kernel
theorem dL_law_825 : decode code 825 = .ok (.aload_n 1, 1) := by decide +kernel
theorem dL_law_826 : decode code 826 = .ok (.aload_n 0, 1) := by decide +kernel
theorem dL_law_827 : decode code 827 = .ok (.iload_n 3, 1) := by decide +kernel
theorem dL_law_828 : decode code 828 = .ok (.iconst 1, 1) := by decide +kernel
theorem dL_law_829 : decode code 829 = .ok (.iadd, 1) := by decide +kernel
theorem dL_law_830 : decode code 830 = .ok (.iaload, 1) := by decide +kernel
theorem dL_law_831 : decode code 831 = .ok (.aload_n 0, 1) := by decide +kernel
theorem dL_law_832 : decode code 832 = .ok (.iload_n 3, 1) := by decide +kernel
theorem dL_law_833 : decode code 833 = .ok (.iconst 2, 1) := by decide +kernel
theorem dL_law_834 : decode code 834 = .ok (.iadd, 1) := by decide +kernel
theorem dL_law_835 : decode code 835 = .ok (.iaload, 1) := by decide +kernel
theorem dL_law_836 : decode code 836 = .ok (.aload_n 0, 1) := by decide +kernel
theorem dL_law_837 : decode code 837 = .ok (.iload_n 3, 1) := by decide +kernel
theorem dL_law_838 : decode code 838 = .ok (.iconst 3, 1) := by decide +kernel
theorem dL_law_839 : decode code 839 = .ok (.iadd, 1) := by decide +kernel
theorem dL_law_840 : decode code 840 = .ok (.iaload, 1) := by decide +kernel
theorem dL_law_841 : decode code 841 = .ok (.invokevirtual 97, 3) := by decide +kernel
theorem dL_law_844 : decode code 844 = .ok (.aload_n 2, 1) := by decide +kernel
theorem dL_law_845 : decode code 845 = .ok (.aload_n 0, 1) := by decide +kernel
theorem dL_law_846 : decode code 846 = .ok (.iload_n 3, 1) := by decide +kernel
theorem dL_law_847 : decode code 847 = .ok (.iconst 1, 1) := by decide +kernel
theorem dL_law_848 : decode code 848 = .ok (.iadd, 1) := by decide +kernel
theorem dL_law_849 : decode code 849 = .ok (.iaload, 1) := by decide +kernel
theorem dL_law_850 : decode code 850 = .ok (.aload_n 0, 1) := by decide +kernel
theorem dL_law_851 : decode code 851 = .ok (.iload_n 3, 1) := by decide +kernel
theorem dL_law_852 : decode code 852 = .ok (.iconst 2, 1) := by decide +kernel
theorem dL_law_853 : decode code 853 = .ok (.iadd, 1) := by decide +kernel
theorem dL_law_854 : decode code 854 = .ok (.iaload, 1) := by decide +kernel
theorem dL_law_855 : decode code 855 = .ok (.aload_n 0, 1) := by decide +kernel
theorem dL_law_856 : decode code 856 = .ok (.iload_n 3, 1) := by decide +kernel
theorem dL_law_857 : decode code 857 = .ok (.iconst 3, 1) := by decide +kernel
theorem dL_law_858 : decode code 858 = .ok (.iadd, 1) := by decide +kernel
theorem dL_law_859 : decode code 859 = .ok (.iaload, 1) := by decide +kernel
theorem dL_law_860 : decode code 860 = .ok (.invokevirtual 100, 3) := by decide +kernel
theorem dL_law_863 : decode code 863 = .ok (.if_icmp .eq 585, 3) := by decide +kernel
theorem dL_law_866 : decode code 866 = .ok (.iconst 0, 1) := by decide +kernel
theorem dL_law_867 : decode code 867 = .ok (.ireturn, 1) := by decide +kernel
theorem dL_law_868 : decode code 868 = .ok (.aload_n 1, 1) := by decide +kernel
theorem dL_law_869 : decode code 869 = .ok (.aload_n 0, 1) := by decide +kernel
theorem dL_law_870 : decode code 870 = .ok (.iload_n 3, 1) := by decide +kernel
theorem dL_law_871 : decode code 871 = .ok (.iconst 1, 1) := by decide +kernel
theorem dL_law_872 : decode code 872 = .ok (.iadd, 1) := by decide +kernel
theorem dL_law_873 : decode code 873 = .ok (.iaload, 1) := by decide +kernel
theorem dL_law_874 : decode code 874 = .ok (.aload_n 0, 1) := by decide +kernel
theorem dL_law_875 : decode code 875 = .ok (.iload_n 3, 1) := by decide +kernel
theorem dL_law_876 : decode code 876 = .ok (.iconst 2, 1) := by decide +kernel
theorem dL_law_877 : decode code 877 = .ok (.iadd, 1) := by decide +kernel
theorem dL_law_878 : decode code 878 = .ok (.iaload, 1) := by decide +kernel
theorem dL_law_879 : decode code 879 = .ok (.invokevirtual 101, 3) := by decide +kernel
theorem dL_law_882 : decode code 882 = .ok (.aload_n 2, 1) := by decide +kernel
theorem dL_law_883 : decode code 883 = .ok (.aload_n 0, 1) := by decide +kernel
theorem dL_law_884 : decode code 884 = .ok (.iload_n 3, 1) := by decide +kernel
theorem dL_law_885 : decode code 885 = .ok (.iconst 1, 1) := by decide +kernel
theorem dL_law_886 : decode code 886 = .ok (.iadd, 1) := by decide +kernel
theorem dL_law_887 : decode code 887 = .ok (.iaload, 1) := by decide +kernel
theorem dL_law_888 : decode code 888 = .ok (.aload_n 0, 1) := by decide +kernel
theorem dL_law_889 : decode code 889 = .ok (.iload_n 3, 1) := by decide +kernel
theorem dL_law_890 : decode code 890 = .ok (.iconst 2, 1) := by decide +kernel
theorem dL_law_891 : decode code 891 = .ok (.iadd, 1) := by decide +kernel
theorem dL_law_892 : decode code 892 = .ok (.iaload, 1) := by decide +kernel
theorem dL_law_893 : decode code 893 = .ok (.invokevirtual 104, 3) := by decide +kernel
theorem dL_law_896 : decode code 896 = .ok (.if_icmp .eq 552, 3) := by decide +kernel
theorem dL_law_899 : decode code 899 = .ok (.iconst 0, 1) := by decide +kernel
theorem dL_law_900 : decode code 900 = .ok (.ireturn, 1) := by decide +kernel
theorem dL_law_901 : decode code 901 = .ok (.aload_n 1, 1) := by decide +kernel
theorem dL_law_902 : decode code 902 = .ok (.aload_n 0, 1) := by decide +kernel
theorem dL_law_903 : decode code 903 = .ok (.iload_n 3, 1) := by decide +kernel
theorem dL_law_904 : decode code 904 = .ok (.iconst 1, 1) := by decide +kernel
theorem dL_law_905 : decode code 905 = .ok (.iadd, 1) := by decide +kernel
theorem dL_law_906 : decode code 906 = .ok (.iaload, 1) := by decide +kernel
theorem dL_law_907 : decode code 907 = .ok (.aload_n 0, 1) := by decide +kernel
theorem dL_law_908 : decode code 908 = .ok (.iload_n 3, 1) := by decide +kernel
theorem dL_law_909 : decode code 909 = .ok (.iconst 2, 1) := by decide +kernel
theorem dL_law_910 : decode code 910 = .ok (.iadd, 1) := by decide +kernel
theorem dL_law_911 : decode code 911 = .ok (.iaload, 1) := by decide +kernel
theorem dL_law_912 : decode code 912 = .ok (.invokevirtual 105, 3) := by decide +kernel
theorem dL_law_915 : decode code 915 = .ok (.aload_n 2, 1) := by decide +kernel
theorem dL_law_916 : decode code 916 = .ok (.aload_n 0, 1) := by decide +kernel
theorem dL_law_917 : decode code 917 = .ok (.iload_n 3, 1) := by decide +kernel
theorem dL_law_918 : decode code 918 = .ok (.iconst 1, 1) := by decide +kernel
theorem dL_law_919 : decode code 919 = .ok (.iadd, 1) := by decide +kernel
theorem dL_law_920 : decode code 920 = .ok (.iaload, 1) := by decide +kernel
theorem dL_law_921 : decode code 921 = .ok (.aload_n 0, 1) := by decide +kernel
theorem dL_law_922 : decode code 922 = .ok (.iload_n 3, 1) := by decide +kernel
theorem dL_law_923 : decode code 923 = .ok (.iconst 2, 1) := by decide +kernel
theorem dL_law_924 : decode code 924 = .ok (.iadd, 1) := by decide +kernel
theorem dL_law_925 : decode code 925 = .ok (.iaload, 1) := by decide +kernel
theorem dL_law_926 : decode code 926 = .ok (.invokevirtual 108, 3) := by decide +kernel
theorem dL_law_929 : decode code 929 = .ok (.if_icmp .eq 519, 3) := by decide +kernel
theorem dL_law_932 : decode code 932 = .ok (.iconst 0, 1) := by decide +kernel
theorem dL_law_933 : decode code 933 = .ok (.ireturn, 1) := by decide +kernel
theorem dL_law_934 : decode code 934 = .ok (.aload_n 1, 1) := by decide +kernel
theorem dL_law_935 : decode code 935 = .ok (.aload_n 0, 1) := by decide +kernel
theorem dL_law_936 : decode code 936 = .ok (.iload_n 3, 1) := by decide +kernel
theorem dL_law_937 : decode code 937 = .ok (.iconst 1, 1) := by decide +kernel
theorem dL_law_938 : decode code 938 = .ok (.iadd, 1) := by decide +kernel
theorem dL_law_939 : decode code 939 = .ok (.iaload, 1) := by decide +kernel
theorem dL_law_940 : decode code 940 = .ok (.invokevirtual 109, 3) := by decide +kernel
theorem dL_law_943 : decode code 943 = .ok (.aload_n 2, 1) := by decide +kernel
theorem dL_law_944 : decode code 944 = .ok (.aload_n 0, 1) := by decide +kernel
theorem dL_law_945 : decode code 945 = .ok (.iload_n 3, 1) := by decide +kernel
theorem dL_law_946 : decode code 946 = .ok (.iconst 1, 1) := by decide +kernel
theorem dL_law_947 : decode code 947 = .ok (.iadd, 1) := by decide +kernel
theorem dL_law_948 : decode code 948 = .ok (.iaload, 1) := by decide +kernel
theorem dL_law_949 : decode code 949 = .ok (.invokevirtual 112, 3) := by decide +kernel
theorem dL_law_952 : decode code 952 = .ok (.if_icmp .eq 496, 3) := by decide +kernel
theorem dL_law_955 : decode code 955 = .ok (.iconst 0, 1) := by decide +kernel
theorem dL_law_956 : decode code 956 = .ok (.ireturn, 1) := by decide +kernel
theorem dL_law_957 : decode code 957 = .ok (.aload_n 1, 1) := by decide +kernel
theorem dL_law_958 : decode code 958 = .ok (.aload_n 0, 1) := by decide +kernel
theorem dL_law_959 : decode code 959 = .ok (.iload_n 3, 1) := by decide +kernel
theorem dL_law_960 : decode code 960 = .ok (.iconst 1, 1) := by decide +kernel
theorem dL_law_961 : decode code 961 = .ok (.iadd, 1) := by decide +kernel
theorem dL_law_962 : decode code 962 = .ok (.iaload, 1) := by decide +kernel
theorem dL_law_963 : decode code 963 = .ok (.aload_n 0, 1) := by decide +kernel
theorem dL_law_964 : decode code 964 = .ok (.iload_n 3, 1) := by decide +kernel
theorem dL_law_965 : decode code 965 = .ok (.iconst 2, 1) := by decide +kernel
theorem dL_law_966 : decode code 966 = .ok (.iadd, 1) := by decide +kernel
theorem dL_law_967 : decode code 967 = .ok (.iaload, 1) := by decide +kernel
theorem dL_law_968 : decode code 968 = .ok (.invokevirtual 113, 3) := by decide +kernel
theorem dL_law_971 : decode code 971 = .ok (.aload_n 2, 1) := by decide +kernel
theorem dL_law_972 : decode code 972 = .ok (.aload_n 0, 1) := by decide +kernel
theorem dL_law_973 : decode code 973 = .ok (.iload_n 3, 1) := by decide +kernel
theorem dL_law_974 : decode code 974 = .ok (.iconst 1, 1) := by decide +kernel
theorem dL_law_975 : decode code 975 = .ok (.iadd, 1) := by decide +kernel
theorem dL_law_976 : decode code 976 = .ok (.iaload, 1) := by decide +kernel
theorem dL_law_977 : decode code 977 = .ok (.aload_n 0, 1) := by decide +kernel
theorem dL_law_978 : decode code 978 = .ok (.iload_n 3, 1) := by decide +kernel
theorem dL_law_979 : decode code 979 = .ok (.iconst 2, 1) := by decide +kernel
theorem dL_law_980 : decode code 980 = .ok (.iadd, 1) := by decide +kernel
theorem dL_law_981 : decode code 981 = .ok (.iaload, 1) := by decide +kernel
theorem dL_law_982 : decode code 982 = .ok (.invokevirtual 116, 3) := by decide +kernel
theorem dL_law_985 : decode code 985 = .ok (.if_icmp .eq 463, 3) := by decide +kernel
theorem dL_law_988 : decode code 988 = .ok (.iconst 0, 1) := by decide +kernel
theorem dL_law_989 : decode code 989 = .ok (.ireturn, 1) := by decide +kernel
theorem dL_law_990 : decode code 990 = .ok (.aload_n 1, 1) := by decide +kernel
theorem dL_law_991 : decode code 991 = .ok (.aload_n 0, 1) := by decide +kernel
theorem dL_law_992 : decode code 992 = .ok (.iload_n 3, 1) := by decide +kernel
theorem dL_law_993 : decode code 993 = .ok (.iconst 1, 1) := by decide +kernel
theorem dL_law_994 : decode code 994 = .ok (.iadd, 1) := by decide +kernel
theorem dL_law_995 : decode code 995 = .ok (.iaload, 1) := by decide +kernel
theorem dL_law_996 : decode code 996 = .ok (.aload_n 0, 1) := by decide +kernel
theorem dL_law_997 : decode code 997 = .ok (.iload_n 3, 1) := by decide +kernel
theorem dL_law_998 : decode code 998 = .ok (.iconst 2, 1) := by decide +kernel
theorem dL_law_999 : decode code 999 = .ok (.iadd, 1) := by decide +kernel
theorem dL_law_1000 : decode code 1000 = .ok (.iaload, 1) := by decide +kernel
theorem dL_law_1001 : decode code 1001 = .ok (.invokevirtual 117, 3) := by decide +kernel
theorem dL_law_1004 : decode code 1004 = .ok (.aload_n 2, 1) := by decide +kernel
theorem dL_law_1005 : decode code 1005 = .ok (.aload_n 0, 1) := by decide +kernel
theorem dL_law_1006 : decode code 1006 = .ok (.iload_n 3, 1) := by decide +kernel
theorem dL_law_1007 : decode code 1007 = .ok (.iconst 1, 1) := by decide +kernel
theorem dL_law_1008 : decode code 1008 = .ok (.iadd, 1) := by decide +kernel
theorem dL_law_1009 : decode code 1009 = .ok (.iaload, 1) := by decide +kernel
theorem dL_law_1010 : decode code 1010 = .ok (.aload_n 0, 1) := by decide +kernel
theorem dL_law_1011 : decode code 1011 = .ok (.iload_n 3, 1) := by decide +kernel
theorem dL_law_1012 : decode code 1012 = .ok (.iconst 2, 1) := by decide +kernel
theorem dL_law_1013 : decode code 1013 = .ok (.iadd, 1) := by decide +kernel
theorem dL_law_1014 : decode code 1014 = .ok (.iaload, 1) := by decide +kernel
theorem dL_law_1015 : decode code 1015 = .ok (.invokevirtual 120, 3) := by decide +kernel
theorem dL_law_1018 : decode code 1018 = .ok (.if_icmp .eq 430, 3) := by decide +kernel
theorem dL_law_1021 : decode code 1021 = .ok (.iconst 0, 1) := by decide +kernel
theorem dL_law_1022 : decode code 1022 = .ok (.ireturn, 1) := by decide +kernel
theorem dL_law_1023 : decode code 1023 = .ok (.aload_n 1, 1) := by decide +kernel
theorem dL_law_1024 : decode code 1024 = .ok (.invokevirtual 121, 3) := by decide +kernel
theorem dL_law_1027 : decode code 1027 = .ok (.aload_n 2, 1) := by decide +kernel
theorem dL_law_1028 : decode code 1028 = .ok (.invokevirtual 124, 3) := by decide +kernel
theorem dL_law_1031 : decode code 1031 = .ok (.if_icmp .eq 417, 3) := by decide +kernel
theorem dL_law_1034 : decode code 1034 = .ok (.iconst 0, 1) := by decide +kernel
theorem dL_law_1035 : decode code 1035 = .ok (.ireturn, 1) := by decide +kernel
theorem dL_law_1036 : decode code 1036 = .ok (.aload_n 1, 1) := by decide +kernel
theorem dL_law_1037 : decode code 1037 = .ok (.aload_n 0, 1) := by decide +kernel
theorem dL_law_1038 : decode code 1038 = .ok (.iload_n 3, 1) := by decide +kernel
theorem dL_law_1039 : decode code 1039 = .ok (.iconst 1, 1) := by decide +kernel
theorem dL_law_1040 : decode code 1040 = .ok (.iadd, 1) := by decide +kernel
theorem dL_law_1041 : decode code 1041 = .ok (.iaload, 1) := by decide +kernel
theorem dL_law_1042 : decode code 1042 = .ok (.invokevirtual 125, 3) := by decide +kernel
theorem dL_law_1045 : decode code 1045 = .ok (.aload_n 2, 1) := by decide +kernel
theorem dL_law_1046 : decode code 1046 = .ok (.aload_n 0, 1) := by decide +kernel
theorem dL_law_1047 : decode code 1047 = .ok (.iload_n 3, 1) := by decide +kernel
theorem dL_law_1048 : decode code 1048 = .ok (.iconst 1, 1) := by decide +kernel
theorem dL_law_1049 : decode code 1049 = .ok (.iadd, 1) := by decide +kernel
theorem dL_law_1050 : decode code 1050 = .ok (.iaload, 1) := by decide +kernel
theorem dL_law_1051 : decode code 1051 = .ok (.invokevirtual 128, 3) := by decide +kernel
theorem dL_law_1054 : decode code 1054 = .ok (.if_icmp .eq 394, 3) := by decide +kernel
theorem dL_law_1057 : decode code 1057 = .ok (.iconst 0, 1) := by decide +kernel
theorem dL_law_1058 : decode code 1058 = .ok (.ireturn, 1) := by decide +kernel
theorem dL_law_1059 : decode code 1059 = .ok (.aload_n 1, 1) := by decide +kernel
theorem dL_law_1060 : decode code 1060 = .ok (.aload_n 0, 1) := by decide +kernel
theorem dL_law_1061 : decode code 1061 = .ok (.iload_n 3, 1) := by decide +kernel
theorem dL_law_1062 : decode code 1062 = .ok (.iconst 1, 1) := by decide +kernel
theorem dL_law_1063 : decode code 1063 = .ok (.iadd, 1) := by decide +kernel
theorem dL_law_1064 : decode code 1064 = .ok (.iaload, 1) := by decide +kernel
theorem dL_law_1065 : decode code 1065 = .ok (.aload_n 0, 1) := by decide +kernel
theorem dL_law_1066 : decode code 1066 = .ok (.iload_n 3, 1) := by decide +kernel
theorem dL_law_1067 : decode code 1067 = .ok (.iconst 2, 1) := by decide +kernel
theorem dL_law_1068 : decode code 1068 = .ok (.iadd, 1) := by decide +kernel
theorem dL_law_1069 : decode code 1069 = .ok (.iaload, 1) := by decide +kernel
theorem dL_law_1070 : decode code 1070 = .ok (.invokevirtual 129, 3) := by decide +kernel
theorem dL_law_1073 : decode code 1073 = .ok (.aload_n 2, 1) := by decide +kernel
theorem dL_law_1074 : decode code 1074 = .ok (.aload_n 0, 1) := by decide +kernel
theorem dL_law_1075 : decode code 1075 = .ok (.iload_n 3, 1) := by decide +kernel
theorem dL_law_1076 : decode code 1076 = .ok (.iconst 1, 1) := by decide +kernel
theorem dL_law_1077 : decode code 1077 = .ok (.iadd, 1) := by decide +kernel
theorem dL_law_1078 : decode code 1078 = .ok (.iaload, 1) := by decide +kernel
theorem dL_law_1079 : decode code 1079 = .ok (.aload_n 0, 1) := by decide +kernel
theorem dL_law_1080 : decode code 1080 = .ok (.iload_n 3, 1) := by decide +kernel
theorem dL_law_1081 : decode code 1081 = .ok (.iconst 2, 1) := by decide +kernel
theorem dL_law_1082 : decode code 1082 = .ok (.iadd, 1) := by decide +kernel
theorem dL_law_1083 : decode code 1083 = .ok (.iaload, 1) := by decide +kernel
theorem dL_law_1084 : decode code 1084 = .ok (.invokevirtual 132, 3) := by decide +kernel
theorem dL_law_1087 : decode code 1087 = .ok (.if_icmp .eq 361, 3) := by decide +kernel
theorem dL_law_1090 : decode code 1090 = .ok (.iconst 0, 1) := by decide +kernel
theorem dL_law_1091 : decode code 1091 = .ok (.ireturn, 1) := by decide +kernel
theorem dL_law_1092 : decode code 1092 = .ok (.aload_n 1, 1) := by decide +kernel
theorem dL_law_1093 : decode code 1093 = .ok (.aload_n 0, 1) := by decide +kernel
theorem dL_law_1094 : decode code 1094 = .ok (.iload_n 3, 1) := by decide +kernel
theorem dL_law_1095 : decode code 1095 = .ok (.iconst 1, 1) := by decide +kernel
theorem dL_law_1096 : decode code 1096 = .ok (.iadd, 1) := by decide +kernel
theorem dL_law_1097 : decode code 1097 = .ok (.iaload, 1) := by decide +kernel
theorem dL_law_1098 : decode code 1098 = .ok (.invokevirtual 133, 3) := by decide +kernel
theorem dL_law_1101 : decode code 1101 = .ok (.aload_n 2, 1) := by decide +kernel
theorem dL_law_1102 : decode code 1102 = .ok (.aload_n 0, 1) := by decide +kernel
theorem dL_law_1103 : decode code 1103 = .ok (.iload_n 3, 1) := by decide +kernel
theorem dL_law_1104 : decode code 1104 = .ok (.iconst 1, 1) := by decide +kernel
theorem dL_law_1105 : decode code 1105 = .ok (.iadd, 1) := by decide +kernel
theorem dL_law_1106 : decode code 1106 = .ok (.iaload, 1) := by decide +kernel
theorem dL_law_1107 : decode code 1107 = .ok (.invokevirtual 136, 3) := by decide +kernel
theorem dL_law_1110 : decode code 1110 = .ok (.if_icmp .eq 338, 3) := by decide +kernel
theorem dL_law_1113 : decode code 1113 = .ok (.iconst 0, 1) := by decide +kernel
theorem dL_law_1114 : decode code 1114 = .ok (.ireturn, 1) := by decide +kernel
theorem dL_law_1115 : decode code 1115 = .ok (.aload_n 1, 1) := by decide +kernel
theorem dL_law_1116 : decode code 1116 = .ok (.aload_n 0, 1) := by decide +kernel
theorem dL_law_1117 : decode code 1117 = .ok (.iload_n 3, 1) := by decide +kernel
theorem dL_law_1118 : decode code 1118 = .ok (.iconst 1, 1) := by decide +kernel
theorem dL_law_1119 : decode code 1119 = .ok (.iadd, 1) := by decide +kernel
theorem dL_law_1120 : decode code 1120 = .ok (.iaload, 1) := by decide +kernel
theorem dL_law_1121 : decode code 1121 = .ok (.aload_n 0, 1) := by decide +kernel
theorem dL_law_1122 : decode code 1122 = .ok (.iload_n 3, 1) := by decide +kernel
theorem dL_law_1123 : decode code 1123 = .ok (.iconst 2, 1) := by decide +kernel
theorem dL_law_1124 : decode code 1124 = .ok (.iadd, 1) := by decide +kernel
theorem dL_law_1125 : decode code 1125 = .ok (.iaload, 1) := by decide +kernel
theorem dL_law_1126 : decode code 1126 = .ok (.aload_n 0, 1) := by decide +kernel
theorem dL_law_1127 : decode code 1127 = .ok (.iload_n 3, 1) := by decide +kernel
theorem dL_law_1128 : decode code 1128 = .ok (.iconst 3, 1) := by decide +kernel
theorem dL_law_1129 : decode code 1129 = .ok (.iadd, 1) := by decide +kernel
theorem dL_law_1130 : decode code 1130 = .ok (.iaload, 1) := by decide +kernel
theorem dL_law_1131 : decode code 1131 = .ok (.invokevirtual 137, 3) := by decide +kernel
theorem dL_law_1134 : decode code 1134 = .ok (.aload_n 2, 1) := by decide +kernel
theorem dL_law_1135 : decode code 1135 = .ok (.aload_n 0, 1) := by decide +kernel
theorem dL_law_1136 : decode code 1136 = .ok (.iload_n 3, 1) := by decide +kernel
theorem dL_law_1137 : decode code 1137 = .ok (.iconst 1, 1) := by decide +kernel
theorem dL_law_1138 : decode code 1138 = .ok (.iadd, 1) := by decide +kernel
theorem dL_law_1139 : decode code 1139 = .ok (.iaload, 1) := by decide +kernel
theorem dL_law_1140 : decode code 1140 = .ok (.aload_n 0, 1) := by decide +kernel
theorem dL_law_1141 : decode code 1141 = .ok (.iload_n 3, 1) := by decide +kernel
theorem dL_law_1142 : decode code 1142 = .ok (.iconst 2, 1) := by decide +kernel
theorem dL_law_1143 : decode code 1143 = .ok (.iadd, 1) := by decide +kernel
theorem dL_law_1144 : decode code 1144 = .ok (.iaload, 1) := by decide +kernel
theorem dL_law_1145 : decode code 1145 = .ok (.aload_n 0, 1) := by decide +kernel
theorem dL_law_1146 : decode code 1146 = .ok (.iload_n 3, 1) := by decide +kernel
theorem dL_law_1147 : decode code 1147 = .ok (.iconst 3, 1) := by decide +kernel
theorem dL_law_1148 : decode code 1148 = .ok (.iadd, 1) := by decide +kernel
theorem dL_law_1149 : decode code 1149 = .ok (.iaload, 1) := by decide +kernel
theorem dL_law_1150 : decode code 1150 = .ok (.invokevirtual 140, 3) := by decide +kernel
theorem dL_law_1153 : decode code 1153 = .ok (.if_icmp .eq 295, 3) := by decide +kernel
theorem dL_law_1156 : decode code 1156 = .ok (.iconst 0, 1) := by decide +kernel
theorem dL_law_1157 : decode code 1157 = .ok (.ireturn, 1) := by decide +kernel
theorem dL_law_1158 : decode code 1158 = .ok (.aload_n 1, 1) := by decide +kernel
theorem dL_law_1159 : decode code 1159 = .ok (.aload_n 0, 1) := by decide +kernel
theorem dL_law_1160 : decode code 1160 = .ok (.iload_n 3, 1) := by decide +kernel
theorem dL_law_1161 : decode code 1161 = .ok (.iconst 1, 1) := by decide +kernel
theorem dL_law_1162 : decode code 1162 = .ok (.iadd, 1) := by decide +kernel
theorem dL_law_1163 : decode code 1163 = .ok (.iaload, 1) := by decide +kernel
theorem dL_law_1164 : decode code 1164 = .ok (.invokevirtual 141, 3) := by decide +kernel
theorem dL_law_1167 : decode code 1167 = .ok (.aload_n 2, 1) := by decide +kernel
theorem dL_law_1168 : decode code 1168 = .ok (.aload_n 0, 1) := by decide +kernel
theorem dL_law_1169 : decode code 1169 = .ok (.iload_n 3, 1) := by decide +kernel
theorem dL_law_1170 : decode code 1170 = .ok (.iconst 1, 1) := by decide +kernel
theorem dL_law_1171 : decode code 1171 = .ok (.iadd, 1) := by decide +kernel
theorem dL_law_1172 : decode code 1172 = .ok (.iaload, 1) := by decide +kernel
theorem dL_law_1173 : decode code 1173 = .ok (.invokevirtual 144, 3) := by decide +kernel
theorem dL_law_1176 : decode code 1176 = .ok (.if_icmp .eq 272, 3) := by decide +kernel
theorem dL_law_1179 : decode code 1179 = .ok (.iconst 0, 1) := by decide +kernel
theorem dL_law_1180 : decode code 1180 = .ok (.ireturn, 1) := by decide +kernel
theorem dL_law_1181 : decode code 1181 = .ok (.aload_n 1, 1) := by decide +kernel
theorem dL_law_1182 : decode code 1182 = .ok (.aload_n 0, 1) := by decide +kernel
theorem dL_law_1183 : decode code 1183 = .ok (.iload_n 3, 1) := by decide +kernel
theorem dL_law_1184 : decode code 1184 = .ok (.iconst 1, 1) := by decide +kernel
theorem dL_law_1185 : decode code 1185 = .ok (.iadd, 1) := by decide +kernel
theorem dL_law_1186 : decode code 1186 = .ok (.iaload, 1) := by decide +kernel
theorem dL_law_1187 : decode code 1187 = .ok (.aload_n 0, 1) := by decide +kernel
theorem dL_law_1188 : decode code 1188 = .ok (.iload_n 3, 1) := by decide +kernel
theorem dL_law_1189 : decode code 1189 = .ok (.iconst 2, 1) := by decide +kernel
theorem dL_law_1190 : decode code 1190 = .ok (.iadd, 1) := by decide +kernel
theorem dL_law_1191 : decode code 1191 = .ok (.iaload, 1) := by decide +kernel
theorem dL_law_1192 : decode code 1192 = .ok (.aload_n 0, 1) := by decide +kernel
theorem dL_law_1193 : decode code 1193 = .ok (.iload_n 3, 1) := by decide +kernel
theorem dL_law_1194 : decode code 1194 = .ok (.iconst 3, 1) := by decide +kernel
theorem dL_law_1195 : decode code 1195 = .ok (.iadd, 1) := by decide +kernel
theorem dL_law_1196 : decode code 1196 = .ok (.iaload, 1) := by decide +kernel
theorem dL_law_1197 : decode code 1197 = .ok (.invokevirtual 145, 3) := by decide +kernel
theorem dL_law_1200 : decode code 1200 = .ok (.aload_n 2, 1) := by decide +kernel
theorem dL_law_1201 : decode code 1201 = .ok (.aload_n 0, 1) := by decide +kernel
theorem dL_law_1202 : decode code 1202 = .ok (.iload_n 3, 1) := by decide +kernel
theorem dL_law_1203 : decode code 1203 = .ok (.iconst 1, 1) := by decide +kernel
theorem dL_law_1204 : decode code 1204 = .ok (.iadd, 1) := by decide +kernel
theorem dL_law_1205 : decode code 1205 = .ok (.iaload, 1) := by decide +kernel
theorem dL_law_1206 : decode code 1206 = .ok (.aload_n 0, 1) := by decide +kernel
theorem dL_law_1207 : decode code 1207 = .ok (.iload_n 3, 1) := by decide +kernel
theorem dL_law_1208 : decode code 1208 = .ok (.iconst 2, 1) := by decide +kernel
theorem dL_law_1209 : decode code 1209 = .ok (.iadd, 1) := by decide +kernel
theorem dL_law_1210 : decode code 1210 = .ok (.iaload, 1) := by decide +kernel
theorem dL_law_1211 : decode code 1211 = .ok (.aload_n 0, 1) := by decide +kernel
theorem dL_law_1212 : decode code 1212 = .ok (.iload_n 3, 1) := by decide +kernel
theorem dL_law_1213 : decode code 1213 = .ok (.iconst 3, 1) := by decide +kernel
theorem dL_law_1214 : decode code 1214 = .ok (.iadd, 1) := by decide +kernel
theorem dL_law_1215 : decode code 1215 = .ok (.iaload, 1) := by decide +kernel
theorem dL_law_1216 : decode code 1216 = .ok (.invokevirtual 148, 3) := by decide +kernel
theorem dL_law_1219 : decode code 1219 = .ok (.if_icmp .eq 229, 3) := by decide +kernel
theorem dL_law_1222 : decode code 1222 = .ok (.iconst 0, 1) := by decide +kernel
theorem dL_law_1223 : decode code 1223 = .ok (.ireturn, 1) := by decide +kernel
theorem dL_law_1224 : decode code 1224 = .ok (.aload_n 1, 1) := by decide +kernel
theorem dL_law_1225 : decode code 1225 = .ok (.aload_n 0, 1) := by decide +kernel
theorem dL_law_1226 : decode code 1226 = .ok (.iload_n 3, 1) := by decide +kernel
theorem dL_law_1227 : decode code 1227 = .ok (.iconst 1, 1) := by decide +kernel
theorem dL_law_1228 : decode code 1228 = .ok (.iadd, 1) := by decide +kernel
theorem dL_law_1229 : decode code 1229 = .ok (.iaload, 1) := by decide +kernel
theorem dL_law_1230 : decode code 1230 = .ok (.aload_n 0, 1) := by decide +kernel
theorem dL_law_1231 : decode code 1231 = .ok (.iload_n 3, 1) := by decide +kernel
theorem dL_law_1232 : decode code 1232 = .ok (.iconst 2, 1) := by decide +kernel
theorem dL_law_1233 : decode code 1233 = .ok (.iadd, 1) := by decide +kernel
theorem dL_law_1234 : decode code 1234 = .ok (.iaload, 1) := by decide +kernel
theorem dL_law_1235 : decode code 1235 = .ok (.aload_n 0, 1) := by decide +kernel
theorem dL_law_1236 : decode code 1236 = .ok (.iload_n 3, 1) := by decide +kernel
theorem dL_law_1237 : decode code 1237 = .ok (.iconst 3, 1) := by decide +kernel
theorem dL_law_1238 : decode code 1238 = .ok (.iadd, 1) := by decide +kernel
theorem dL_law_1239 : decode code 1239 = .ok (.iaload, 1) := by decide +kernel
theorem dL_law_1240 : decode code 1240 = .ok (.invokevirtual 149, 3) := by decide +kernel
theorem dL_law_1243 : decode code 1243 = .ok (.aload_n 2, 1) := by decide +kernel
theorem dL_law_1244 : decode code 1244 = .ok (.aload_n 0, 1) := by decide +kernel
theorem dL_law_1245 : decode code 1245 = .ok (.iload_n 3, 1) := by decide +kernel
theorem dL_law_1246 : decode code 1246 = .ok (.iconst 1, 1) := by decide +kernel
theorem dL_law_1247 : decode code 1247 = .ok (.iadd, 1) := by decide +kernel
theorem dL_law_1248 : decode code 1248 = .ok (.iaload, 1) := by decide +kernel
theorem dL_law_1249 : decode code 1249 = .ok (.aload_n 0, 1) := by decide +kernel
theorem dL_law_1250 : decode code 1250 = .ok (.iload_n 3, 1) := by decide +kernel
theorem dL_law_1251 : decode code 1251 = .ok (.iconst 2, 1) := by decide +kernel
theorem dL_law_1252 : decode code 1252 = .ok (.iadd, 1) := by decide +kernel
theorem dL_law_1253 : decode code 1253 = .ok (.iaload, 1) := by decide +kernel
theorem dL_law_1254 : decode code 1254 = .ok (.aload_n 0, 1) := by decide +kernel
theorem dL_law_1255 : decode code 1255 = .ok (.iload_n 3, 1) := by decide +kernel
theorem dL_law_1256 : decode code 1256 = .ok (.iconst 3, 1) := by decide +kernel
theorem dL_law_1257 : decode code 1257 = .ok (.iadd, 1) := by decide +kernel
theorem dL_law_1258 : decode code 1258 = .ok (.iaload, 1) := by decide +kernel
theorem dL_law_1259 : decode code 1259 = .ok (.invokevirtual 152, 3) := by decide +kernel
theorem dL_law_1262 : decode code 1262 = .ok (.if_icmp .eq 186, 3) := by decide +kernel
theorem dL_law_1265 : decode code 1265 = .ok (.iconst 0, 1) := by decide +kernel
theorem dL_law_1266 : decode code 1266 = .ok (.ireturn, 1) := by decide +kernel
theorem dL_law_1267 : decode code 1267 = .ok (.aload_n 1, 1) := by decide +kernel
theorem dL_law_1268 : decode code 1268 = .ok (.aload_n 0, 1) := by decide +kernel
theorem dL_law_1269 : decode code 1269 = .ok (.iload_n 3, 1) := by decide +kernel
theorem dL_law_1270 : decode code 1270 = .ok (.iconst 1, 1) := by decide +kernel
theorem dL_law_1271 : decode code 1271 = .ok (.iadd, 1) := by decide +kernel
theorem dL_law_1272 : decode code 1272 = .ok (.iaload, 1) := by decide +kernel
theorem dL_law_1273 : decode code 1273 = .ok (.aload_n 0, 1) := by decide +kernel
theorem dL_law_1274 : decode code 1274 = .ok (.iload_n 3, 1) := by decide +kernel
theorem dL_law_1275 : decode code 1275 = .ok (.iconst 2, 1) := by decide +kernel
theorem dL_law_1276 : decode code 1276 = .ok (.iadd, 1) := by decide +kernel
theorem dL_law_1277 : decode code 1277 = .ok (.iaload, 1) := by decide +kernel
theorem dL_law_1278 : decode code 1278 = .ok (.aload_n 0, 1) := by decide +kernel
theorem dL_law_1279 : decode code 1279 = .ok (.iload_n 3, 1) := by decide +kernel
theorem dL_law_1280 : decode code 1280 = .ok (.iconst 3, 1) := by decide +kernel
theorem dL_law_1281 : decode code 1281 = .ok (.iadd, 1) := by decide +kernel
theorem dL_law_1282 : decode code 1282 = .ok (.iaload, 1) := by decide +kernel
theorem dL_law_1283 : decode code 1283 = .ok (.aload_n 0, 1) := by decide +kernel
theorem dL_law_1284 : decode code 1284 = .ok (.iload_n 3, 1) := by decide +kernel
theorem dL_law_1285 : decode code 1285 = .ok (.iconst 4, 1) := by decide +kernel
theorem dL_law_1286 : decode code 1286 = .ok (.iadd, 1) := by decide +kernel
theorem dL_law_1287 : decode code 1287 = .ok (.iaload, 1) := by decide +kernel
theorem dL_law_1288 : decode code 1288 = .ok (.aload_n 0, 1) := by decide +kernel
theorem dL_law_1289 : decode code 1289 = .ok (.iload_n 3, 1) := by decide +kernel
theorem dL_law_1290 : decode code 1290 = .ok (.iconst 5, 1) := by decide +kernel
theorem dL_law_1291 : decode code 1291 = .ok (.iadd, 1) := by decide +kernel
theorem dL_law_1292 : decode code 1292 = .ok (.iaload, 1) := by decide +kernel
theorem dL_law_1293 : decode code 1293 = .ok (.invokevirtual 153, 3) := by decide +kernel
theorem dL_law_1296 : decode code 1296 = .ok (.aload_n 2, 1) := by decide +kernel
theorem dL_law_1297 : decode code 1297 = .ok (.aload_n 0, 1) := by decide +kernel
theorem dL_law_1298 : decode code 1298 = .ok (.iload_n 3, 1) := by decide +kernel
theorem dL_law_1299 : decode code 1299 = .ok (.iconst 1, 1) := by decide +kernel
theorem dL_law_1300 : decode code 1300 = .ok (.iadd, 1) := by decide +kernel
theorem dL_law_1301 : decode code 1301 = .ok (.iaload, 1) := by decide +kernel
theorem dL_law_1302 : decode code 1302 = .ok (.aload_n 0, 1) := by decide +kernel
theorem dL_law_1303 : decode code 1303 = .ok (.iload_n 3, 1) := by decide +kernel
theorem dL_law_1304 : decode code 1304 = .ok (.iconst 2, 1) := by decide +kernel
theorem dL_law_1305 : decode code 1305 = .ok (.iadd, 1) := by decide +kernel
theorem dL_law_1306 : decode code 1306 = .ok (.iaload, 1) := by decide +kernel
theorem dL_law_1307 : decode code 1307 = .ok (.aload_n 0, 1) := by decide +kernel
theorem dL_law_1308 : decode code 1308 = .ok (.iload_n 3, 1) := by decide +kernel
theorem dL_law_1309 : decode code 1309 = .ok (.iconst 3, 1) := by decide +kernel
theorem dL_law_1310 : decode code 1310 = .ok (.iadd, 1) := by decide +kernel
theorem dL_law_1311 : decode code 1311 = .ok (.iaload, 1) := by decide +kernel
theorem dL_law_1312 : decode code 1312 = .ok (.aload_n 0, 1) := by decide +kernel
theorem dL_law_1313 : decode code 1313 = .ok (.iload_n 3, 1) := by decide +kernel
theorem dL_law_1314 : decode code 1314 = .ok (.iconst 4, 1) := by decide +kernel
theorem dL_law_1315 : decode code 1315 = .ok (.iadd, 1) := by decide +kernel
theorem dL_law_1316 : decode code 1316 = .ok (.iaload, 1) := by decide +kernel
theorem dL_law_1317 : decode code 1317 = .ok (.aload_n 0, 1) := by decide +kernel
theorem dL_law_1318 : decode code 1318 = .ok (.iload_n 3, 1) := by decide +kernel
theorem dL_law_1319 : decode code 1319 = .ok (.iconst 5, 1) := by decide +kernel
theorem dL_law_1320 : decode code 1320 = .ok (.iadd, 1) := by decide +kernel
theorem dL_law_1321 : decode code 1321 = .ok (.iaload, 1) := by decide +kernel
theorem dL_law_1322 : decode code 1322 = .ok (.invokevirtual 156, 3) := by decide +kernel
theorem dL_law_1325 : decode code 1325 = .ok (.if_icmp .eq 123, 3) := by decide +kernel
theorem dL_law_1328 : decode code 1328 = .ok (.iconst 0, 1) := by decide +kernel
theorem dL_law_1329 : decode code 1329 = .ok (.ireturn, 1) := by decide +kernel
theorem dL_law_1330 : decode code 1330 = .ok (.aload_n 1, 1) := by decide +kernel
theorem dL_law_1331 : decode code 1331 = .ok (.invokevirtual 157, 3) := by decide +kernel
theorem dL_law_1334 : decode code 1334 = .ok (.aload_n 2, 1) := by decide +kernel
theorem dL_law_1335 : decode code 1335 = .ok (.invokevirtual 160, 3) := by decide +kernel
theorem dL_law_1338 : decode code 1338 = .ok (.if_icmp .eq 110, 3) := by decide +kernel
theorem dL_law_1341 : decode code 1341 = .ok (.iconst 0, 1) := by decide +kernel
theorem dL_law_1342 : decode code 1342 = .ok (.ireturn, 1) := by decide +kernel
theorem dL_law_1343 : decode code 1343 = .ok (.aload_n 1, 1) := by decide +kernel
theorem dL_law_1344 : decode code 1344 = .ok (.invokevirtual 161, 3) := by decide +kernel
theorem dL_law_1347 : decode code 1347 = .ok (.aload_n 2, 1) := by decide +kernel
theorem dL_law_1348 : decode code 1348 = .ok (.invokevirtual 164, 3) := by decide +kernel
theorem dL_law_1351 : decode code 1351 = .ok (.if_icmp .eq 97, 3) := by decide +kernel
theorem dL_law_1354 : decode code 1354 = .ok (.iconst 0, 1) := by decide +kernel
theorem dL_law_1355 : decode code 1355 = .ok (.ireturn, 1) := by decide +kernel
theorem dL_law_1356 : decode code 1356 = .ok (.aload_n 1, 1) := by decide +kernel
theorem dL_law_1357 : decode code 1357 = .ok (.aload_n 0, 1) := by decide +kernel
theorem dL_law_1358 : decode code 1358 = .ok (.iload_n 3, 1) := by decide +kernel
theorem dL_law_1359 : decode code 1359 = .ok (.iconst 1, 1) := by decide +kernel
theorem dL_law_1360 : decode code 1360 = .ok (.iadd, 1) := by decide +kernel
theorem dL_law_1361 : decode code 1361 = .ok (.iaload, 1) := by decide +kernel
theorem dL_law_1362 : decode code 1362 = .ok (.invokevirtual 165, 3) := by decide +kernel
theorem dL_law_1365 : decode code 1365 = .ok (.aload_n 2, 1) := by decide +kernel
theorem dL_law_1366 : decode code 1366 = .ok (.aload_n 0, 1) := by decide +kernel
theorem dL_law_1367 : decode code 1367 = .ok (.iload_n 3, 1) := by decide +kernel
theorem dL_law_1368 : decode code 1368 = .ok (.iconst 1, 1) := by decide +kernel
theorem dL_law_1369 : decode code 1369 = .ok (.iadd, 1) := by decide +kernel
theorem dL_law_1370 : decode code 1370 = .ok (.iaload, 1) := by decide +kernel
theorem dL_law_1371 : decode code 1371 = .ok (.invokevirtual 168, 3) := by decide +kernel
theorem dL_law_1374 : decode code 1374 = .ok (.if_icmp .eq 74, 3) := by decide +kernel
theorem dL_law_1377 : decode code 1377 = .ok (.iconst 0, 1) := by decide +kernel
theorem dL_law_1378 : decode code 1378 = .ok (.ireturn, 1) := by decide +kernel
theorem dL_law_1379 : decode code 1379 = .ok (.aload_n 1, 1) := by decide +kernel
theorem dL_law_1380 : decode code 1380 = .ok (.aload_n 0, 1) := by decide +kernel
theorem dL_law_1381 : decode code 1381 = .ok (.iload_n 3, 1) := by decide +kernel
theorem dL_law_1382 : decode code 1382 = .ok (.iconst 1, 1) := by decide +kernel
theorem dL_law_1383 : decode code 1383 = .ok (.iadd, 1) := by decide +kernel
theorem dL_law_1384 : decode code 1384 = .ok (.iaload, 1) := by decide +kernel
theorem dL_law_1385 : decode code 1385 = .ok (.invokevirtual 169, 3) := by decide +kernel
theorem dL_law_1388 : decode code 1388 = .ok (.aload_n 2, 1) := by decide +kernel
theorem dL_law_1389 : decode code 1389 = .ok (.aload_n 0, 1) := by decide +kernel
theorem dL_law_1390 : decode code 1390 = .ok (.iload_n 3, 1) := by decide +kernel
theorem dL_law_1391 : decode code 1391 = .ok (.iconst 1, 1) := by decide +kernel
theorem dL_law_1392 : decode code 1392 = .ok (.iadd, 1) := by decide +kernel
theorem dL_law_1393 : decode code 1393 = .ok (.iaload, 1) := by decide +kernel
theorem dL_law_1394 : decode code 1394 = .ok (.invokevirtual 172, 3) := by decide +kernel
theorem dL_law_1397 : decode code 1397 = .ok (.if_icmp .eq 51, 3) := by decide +kernel
theorem dL_law_1400 : decode code 1400 = .ok (.iconst 0, 1) := by decide +kernel
theorem dL_law_1401 : decode code 1401 = .ok (.ireturn, 1) := by decide +kernel
theorem dL_law_1402 : decode code 1402 = .ok (.aload_n 1, 1) := by decide +kernel
theorem dL_law_1403 : decode code 1403 = .ok (.aload_n 0, 1) := by decide +kernel
theorem dL_law_1404 : decode code 1404 = .ok (.iload_n 3, 1) := by decide +kernel
theorem dL_law_1405 : decode code 1405 = .ok (.iconst 1, 1) := by decide +kernel
theorem dL_law_1406 : decode code 1406 = .ok (.iadd, 1) := by decide +kernel
theorem dL_law_1407 : decode code 1407 = .ok (.iaload, 1) := by decide +kernel
theorem dL_law_1408 : decode code 1408 = .ok (.invokevirtual 173, 3) := by decide +kernel
theorem dL_law_1411 : decode code 1411 = .ok (.aload_n 2, 1) := by decide +kernel
theorem dL_law_1412 : decode code 1412 = .ok (.aload_n 0, 1) := by decide +kernel
theorem dL_law_1413 : decode code 1413 = .ok (.iload_n 3, 1) := by decide +kernel
theorem dL_law_1414 : decode code 1414 = .ok (.iconst 1, 1) := by decide +kernel
theorem dL_law_1415 : decode code 1415 = .ok (.iadd, 1) := by decide +kernel
theorem dL_law_1416 : decode code 1416 = .ok (.iaload, 1) := by decide +kernel
theorem dL_law_1417 : decode code 1417 = .ok (.invokevirtual 176, 3) := by decide +kernel
theorem dL_law_1420 : decode code 1420 = .ok (.if_icmp .eq 28, 3) := by decide +kernel
theorem dL_law_1423 : decode code 1423 = .ok (.iconst 0, 1) := by decide +kernel
theorem dL_law_1424 : decode code 1424 = .ok (.ireturn, 1) := by decide +kernel
theorem dL_law_1425 : decode code 1425 = .ok (.aload_n 1, 1) := by decide +kernel
theorem dL_law_1426 : decode code 1426 = .ok (.aload_n 0, 1) := by decide +kernel
theorem dL_law_1427 : decode code 1427 = .ok (.iload_n 3, 1) := by decide +kernel
theorem dL_law_1428 : decode code 1428 = .ok (.iconst 1, 1) := by decide +kernel
theorem dL_law_1429 : decode code 1429 = .ok (.iadd, 1) := by decide +kernel
theorem dL_law_1430 : decode code 1430 = .ok (.iaload, 1) := by decide +kernel
theorem dL_law_1431 : decode code 1431 = .ok (.invokevirtual 177, 3) := by decide +kernel
theorem dL_law_1434 : decode code 1434 = .ok (.aload_n 2, 1) := by decide +kernel
theorem dL_law_1435 : decode code 1435 = .ok (.aload_n 0, 1) := by decide +kernel
theorem dL_law_1436 : decode code 1436 = .ok (.iload_n 3, 1) := by decide +kernel
theorem dL_law_1437 : decode code 1437 = .ok (.iconst 1, 1) := by decide +kernel
theorem dL_law_1438 : decode code 1438 = .ok (.iadd, 1) := by decide +kernel
theorem dL_law_1439 : decode code 1439 = .ok (.iaload, 1) := by decide +kernel
theorem dL_law_1440 : decode code 1440 = .ok (.invokevirtual 180, 3) := by decide +kernel
theorem dL_law_1443 : decode code 1443 = .ok (.if_icmp .eq 5, 3) := by decide +kernel
theorem dL_law_1446 : decode code 1446 = .ok (.iconst 0, 1) := by decide +kernel
theorem dL_law_1447 : decode code 1447 = .ok (.ireturn, 1) := by decide +kernel
theorem dL_law_1448 : decode code 1448 = .ok (.iinc 3 6, 3) := by decide +kernel
theorem dL_law_1451 : decode code 1451 = .ok (.goto (-1433), 3) := by decide +kernel
theorem dL_law_1454 : decode code 1454 = .ok (.iconst 1, 1) := by decide +kernel
theorem dL_law_1455 : decode code 1455 = .ok (.ireturn, 1) := by decide +kernel
theorem k_L_law_4 {Γ : GE} {d rc rs mc ms mc' ms' : Nat} {QQ : List Frame → Array Value → State → State → Prop} {lv : List (Option Value)} {st : List Value} {g : Sh} {P : HP} {I : HI} {b : Nat} (hd : 1 ≤ d) (hc : catS st ≤ 8) (hM : MM Γ mX11_init (d - 1) mc' ms' (.ref b :: []) g P I (fun v g' P' I' => E Γ mL_law d mc ms QQ rc rs 7 lv (v.toList ++ st) g' P' I')) : E Γ mL_law d mc ms QQ (mc' + rc) (ms' + rs) 4 lv (.ref b :: st) g P I := E_callI [] rfl dL_law_4 cc_X11_init rfl rfl w_92 w_93 rfl hc (by omega) hM
theorem k_L_law_12 {Γ : GE} {d rc rs mc ms mc' ms' : Nat} {QQ : List Frame → Array Value → State → State → Prop} {lv : List (Option Value)} {st : List Value} {g : Sh} {P : HP} {I : HI} {b : Nat} (hd : 1 ≤ d) (hc : catS st ≤ 8) (hM : MM Γ mX12_init (d - 1) mc' ms' (.ref b :: []) g P I (fun v g' P' I' => E Γ mL_law d mc ms QQ rc rs 15 lv (v.toList ++ st) g' P' I')) : E Γ mL_law d mc ms QQ (mc' + rc) (ms' + rs) 12 lv (.ref b :: st) g P I := E_callI [] rfl dL_law_12 cc_X12_init rfl rfl w_1105 w_1106 rfl hc (by omega) hM
theorem k_L_law_219 {Γ : GE} {d rc rs mc ms mc' ms' : Nat} {QQ : List Frame → Array Value → State → State → Prop} {lv : List (Option Value)} {st : List Value} {g : Sh} {P : HP} {I : HI} {b : Nat} {x0 x1 : Value} (hd : 1 ≤ d) (hc : catS st ≤ 8) (hb : Cel g b 11) (hM : MM Γ mX11_wire (d - 1) mc' ms' (.ref b :: [x0, x1]) g P I (fun v g' P' I' => E Γ mL_law d mc ms QQ rc rs 222 lv (v.toList ++ st) g' P' I')) : E Γ mL_law d mc ms QQ (mc' + rc) (ms' + rs) 219 lv (x1 :: x0 :: .ref b :: st) g P I := E_callV [x0, x1] rfl dL_law_219 cc_X11_wire w_343 w_344 w_345 (ci := 11) rfl rfl hc (by omega) hb.1 hb.2.1 hb.2.2 hM
theorem k_L_law_233 {Γ : GE} {d rc rs mc ms mc' ms' : Nat} {QQ : List Frame → Array Value → State → State → Prop} {lv : List (Option Value)} {st : List Value} {g : Sh} {P : HP} {I : HI} {b : Nat} {x0 x1 : Value} (hd : 1 ≤ d) (hc : catS st ≤ 8) (hb : Cel g b 12) (hM : MM Γ mX12_wire (d - 1) mc' ms' (.ref b :: [x0, x1]) g P I (fun v g' P' I' => E Γ mL_law d mc ms QQ rc rs 236 lv (v.toList ++ st) g' P' I')) : E Γ mL_law d mc ms QQ (mc' + rc) (ms' + rs) 233 lv (x1 :: x0 :: .ref b :: st) g P I := E_callV [x0, x1] rfl dL_law_233 cc_X12_wire w_1196 w_1197 w_1198 (ci := 12) rfl rfl hc (by omega) hb.1 hb.2.1 hb.2.2 hM
theorem k_L_law_252 {Γ : GE} {d rc rs mc ms mc' ms' : Nat} {QQ : List Frame → Array Value → State → State → Prop} {lv : List (Option Value)} {st : List Value} {g : Sh} {P : HP} {I : HI} {b : Nat} {x0 x1 : Value} (hd : 1 ≤ d) (hc : catS st ≤ 8) (hb : Cel g b 11) (hM : MM Γ mX11_depth (d - 1) mc' ms' (.ref b :: [x0, x1]) g P I (fun v g' P' I' => E Γ mL_law d mc ms QQ rc rs 255 lv (v.toList ++ st) g' P' I')) : E Γ mL_law d mc ms QQ (mc' + rc) (ms' + rs) 252 lv (x1 :: x0 :: .ref b :: st) g P I := E_callV [x0, x1] rfl dL_law_252 cc_X11_depth w_382 w_383 w_384 (ci := 11) rfl rfl hc (by omega) hb.1 hb.2.1 hb.2.2 hM
theorem k_L_law_266 {Γ : GE} {d rc rs mc ms mc' ms' : Nat} {QQ : List Frame → Array Value → State → State → Prop} {lv : List (Option Value)} {st : List Value} {g : Sh} {P : HP} {I : HI} {b : Nat} {x0 x1 : Value} (hd : 1 ≤ d) (hc : catS st ≤ 8) (hb : Cel g b 12) (hM : MM Γ mX12_depth (d - 1) mc' ms' (.ref b :: [x0, x1]) g P I (fun v g' P' I' => E Γ mL_law d mc ms QQ rc rs 269 lv (v.toList ++ st) g' P' I')) : E Γ mL_law d mc ms QQ (mc' + rc) (ms' + rs) 266 lv (x1 :: x0 :: .ref b :: st) g P I := E_callV [x0, x1] rfl dL_law_266 cc_X12_depth w_1231 w_1232 w_1233 (ci := 12) rfl rfl hc (by omega) hb.1 hb.2.1 hb.2.2 hM
theorem k_L_law_285 {Γ : GE} {d rc rs mc ms mc' ms' : Nat} {QQ : List Frame → Array Value → State → State → Prop} {lv : List (Option Value)} {st : List Value} {g : Sh} {P : HP} {I : HI} {b : Nat} {x0 x1 : Value} (hd : 1 ≤ d) (hc : catS st ≤ 8) (hb : Cel g b 11) (hM : MM Γ mX11_steep (d - 1) mc' ms' (.ref b :: [x0, x1]) g P I (fun v g' P' I' => E Γ mL_law d mc ms QQ rc rs 288 lv (v.toList ++ st) g' P' I')) : E Γ mL_law d mc ms QQ (mc' + rc) (ms' + rs) 285 lv (x1 :: x0 :: .ref b :: st) g P I := E_callV [x0, x1] rfl dL_law_285 cc_X11_steep w_401 w_402 w_403 (ci := 11) rfl rfl hc (by omega) hb.1 hb.2.1 hb.2.2 hM
theorem k_L_law_299 {Γ : GE} {d rc rs mc ms mc' ms' : Nat} {QQ : List Frame → Array Value → State → State → Prop} {lv : List (Option Value)} {st : List Value} {g : Sh} {P : HP} {I : HI} {b : Nat} {x0 x1 : Value} (hd : 1 ≤ d) (hc : catS st ≤ 8) (hb : Cel g b 12) (hM : MM Γ mX12_steep (d - 1) mc' ms' (.ref b :: [x0, x1]) g P I (fun v g' P' I' => E Γ mL_law d mc ms QQ rc rs 302 lv (v.toList ++ st) g' P' I')) : E Γ mL_law d mc ms QQ (mc' + rc) (ms' + rs) 299 lv (x1 :: x0 :: .ref b :: st) g P I := E_callV [x0, x1] rfl dL_law_299 cc_X12_steep w_1245 w_1246 w_1247 (ci := 12) rfl rfl hc (by omega) hb.1 hb.2.1 hb.2.2 hM
theorem k_L_law_318 {Γ : GE} {d rc rs mc ms mc' ms' : Nat} {QQ : List Frame → Array Value → State → State → Prop} {lv : List (Option Value)} {st : List Value} {g : Sh} {P : HP} {I : HI} {b : Nat} {x0 x1 : Value} (hd : 1 ≤ d) (hc : catS st ≤ 8) (hb : Cel g b 11) (hM : MM Γ mX11_pulled (d - 1) mc' ms' (.ref b :: [x0, x1]) g P I (fun v g' P' I' => E Γ mL_law d mc ms QQ rc rs 321 lv (v.toList ++ st) g' P' I')) : E Γ mL_law d mc ms QQ (mc' + rc) (ms' + rs) 318 lv (x1 :: x0 :: .ref b :: st) g P I := E_callV [x0, x1] rfl dL_law_318 cc_X11_pulled w_411 w_412 w_413 (ci := 11) rfl rfl hc (by omega) hb.1 hb.2.1 hb.2.2 hM
theorem k_L_law_332 {Γ : GE} {d rc rs mc ms mc' ms' : Nat} {QQ : List Frame → Array Value → State → State → Prop} {lv : List (Option Value)} {st : List Value} {g : Sh} {P : HP} {I : HI} {b : Nat} {x0 x1 : Value} (hd : 1 ≤ d) (hc : catS st ≤ 8) (hb : Cel g b 12) (hM : MM Γ mX12_pulled (d - 1) mc' ms' (.ref b :: [x0, x1]) g P I (fun v g' P' I' => E Γ mL_law d mc ms QQ rc rs 335 lv (v.toList ++ st) g' P' I')) : E Γ mL_law d mc ms QQ (mc' + rc) (ms' + rs) 332 lv (x1 :: x0 :: .ref b :: st) g P I := E_callV [x0, x1] rfl dL_law_332 cc_X12_pulled w_1253 w_1254 w_1255 (ci := 12) rfl rfl hc (by omega) hb.1 hb.2.1 hb.2.2 hM
theorem k_L_law_341 {Γ : GE} {d rc rs mc ms mc' ms' : Nat} {QQ : List Frame → Array Value → State → State → Prop} {lv : List (Option Value)} {st : List Value} {g : Sh} {P : HP} {I : HI} {b : Nat} (hd : 1 ≤ d) (hc : catS st ≤ 8) (hb : Cel g b 11) (hM : MM Γ mX11_most (d - 1) mc' ms' (.ref b :: []) g P I (fun v g' P' I' => E Γ mL_law d mc ms QQ rc rs 344 lv (v.toList ++ st) g' P' I')) : E Γ mL_law d mc ms QQ (mc' + rc) (ms' + rs) 341 lv (.ref b :: st) g P I := E_callV [] rfl dL_law_341 cc_X11_most w_419 w_420 w_421 (ci := 11) rfl rfl hc (by omega) hb.1 hb.2.1 hb.2.2 hM
theorem k_L_law_345 {Γ : GE} {d rc rs mc ms mc' ms' : Nat} {QQ : List Frame → Array Value → State → State → Prop} {lv : List (Option Value)} {st : List Value} {g : Sh} {P : HP} {I : HI} {b : Nat} (hd : 1 ≤ d) (hc : catS st ≤ 8) (hb : Cel g b 12) (hM : MM Γ mX12_most (d - 1) mc' ms' (.ref b :: []) g P I (fun v g' P' I' => E Γ mL_law d mc ms QQ rc rs 348 lv (v.toList ++ st) g' P' I')) : E Γ mL_law d mc ms QQ (mc' + rc) (ms' + rs) 345 lv (.ref b :: st) g P I := E_callV [] rfl dL_law_345 cc_X12_most w_1262 w_1263 w_1264 (ci := 12) rfl rfl hc (by omega) hb.1 hb.2.1 hb.2.2 hM
theorem k_L_law_354 {Γ : GE} {d rc rs mc ms mc' ms' : Nat} {QQ : List Frame → Array Value → State → State → Prop} {lv : List (Option Value)} {st : List Value} {g : Sh} {P : HP} {I : HI} {b : Nat} (hd : 1 ≤ d) (hc : catS st ≤ 8) (hb : Cel g b 11) (hM : MM Γ mX11_tight (d - 1) mc' ms' (.ref b :: []) g P I (fun v g' P' I' => E Γ mL_law d mc ms QQ rc rs 357 lv (v.toList ++ st) g' P' I')) : E Γ mL_law d mc ms QQ (mc' + rc) (ms' + rs) 354 lv (.ref b :: st) g P I := E_callV [] rfl dL_law_354 cc_X11_tight w_423 w_424 w_425 (ci := 11) rfl rfl hc (by omega) hb.1 hb.2.1 hb.2.2 hM
theorem k_L_law_358 {Γ : GE} {d rc rs mc ms mc' ms' : Nat} {QQ : List Frame → Array Value → State → State → Prop} {lv : List (Option Value)} {st : List Value} {g : Sh} {P : HP} {I : HI} {b : Nat} (hd : 1 ≤ d) (hc : catS st ≤ 8) (hb : Cel g b 12) (hM : MM Γ mX12_tight (d - 1) mc' ms' (.ref b :: []) g P I (fun v g' P' I' => E Γ mL_law d mc ms QQ rc rs 361 lv (v.toList ++ st) g' P' I')) : E Γ mL_law d mc ms QQ (mc' + rc) (ms' + rs) 358 lv (.ref b :: st) g P I := E_callV [] rfl dL_law_358 cc_X12_tight w_1222 w_1223 w_1224 (ci := 12) rfl rfl hc (by omega) hb.1 hb.2.1 hb.2.2 hM
theorem k_L_law_382 {Γ : GE} {d rc rs mc ms mc' ms' : Nat} {QQ : List Frame → Array Value → State → State → Prop} {lv : List (Option Value)} {st : List Value} {g : Sh} {P : HP} {I : HI} {b : Nat} {x0 x1 x2 : Value} (hd : 1 ≤ d) (hc : catS st ≤ 8) (hb : Cel g b 11) (hM : MM Γ mX11_ride (d - 1) mc' ms' (.ref b :: [x0, x1, x2]) g P I (fun v g' P' I' => E Γ mL_law d mc ms QQ rc rs 385 lv (v.toList ++ st) g' P' I')) : E Γ mL_law d mc ms QQ (mc' + rc) (ms' + rs) 382 lv (x2 :: x1 :: x0 :: .ref b :: st) g P I := E_callV [x0, x1, x2] rfl dL_law_382 cc_X11_ride w_428 w_429 w_430 (ci := 11) rfl rfl hc (by omega) hb.1 hb.2.1 hb.2.2 hM
theorem k_L_law_401 {Γ : GE} {d rc rs mc ms mc' ms' : Nat} {QQ : List Frame → Array Value → State → State → Prop} {lv : List (Option Value)} {st : List Value} {g : Sh} {P : HP} {I : HI} {b : Nat} {x0 x1 x2 : Value} (hd : 1 ≤ d) (hc : catS st ≤ 8) (hb : Cel g b 12) (hM : MM Γ mX12_ride (d - 1) mc' ms' (.ref b :: [x0, x1, x2]) g P I (fun v g' P' I' => E Γ mL_law d mc ms QQ rc rs 404 lv (v.toList ++ st) g' P' I')) : E Γ mL_law d mc ms QQ (mc' + rc) (ms' + rs) 401 lv (x2 :: x1 :: x0 :: .ref b :: st) g P I := E_callV [x0, x1, x2] rfl dL_law_401 cc_X12_ride w_1271 w_1272 w_1273 (ci := 12) rfl rfl hc (by omega) hb.1 hb.2.1 hb.2.2 hM
theorem k_L_law_420 {Γ : GE} {d rc rs mc ms mc' ms' : Nat} {QQ : List Frame → Array Value → State → State → Prop} {lv : List (Option Value)} {st : List Value} {g : Sh} {P : HP} {I : HI} {b : Nat} {x0 x1 : Value} (hd : 1 ≤ d) (hc : catS st ≤ 8) (hb : Cel g b 11) (hM : MM Γ mX11_ofRide (d - 1) mc' ms' (.ref b :: [x0, x1]) g P I (fun v g' P' I' => E Γ mL_law d mc ms QQ rc rs 423 lv (v.toList ++ st) g' P' I')) : E Γ mL_law d mc ms QQ (mc' + rc) (ms' + rs) 420 lv (x1 :: x0 :: .ref b :: st) g P I := E_callV [x0, x1] rfl dL_law_420 cc_X11_ofRide w_678 w_679 w_680 (ci := 11) rfl rfl hc (by omega) hb.1 hb.2.1 hb.2.2 hM
theorem k_L_law_434 {Γ : GE} {d rc rs mc ms mc' ms' : Nat} {QQ : List Frame → Array Value → State → State → Prop} {lv : List (Option Value)} {st : List Value} {g : Sh} {P : HP} {I : HI} {b : Nat} {x0 x1 : Value} (hd : 1 ≤ d) (hc : catS st ≤ 8) (hb : Cel g b 12) (hM : MM Γ mX12_ofRide (d - 1) mc' ms' (.ref b :: [x0, x1]) g P I (fun v g' P' I' => E Γ mL_law d mc ms QQ rc rs 437 lv (v.toList ++ st) g' P' I')) : E Γ mL_law d mc ms QQ (mc' + rc) (ms' + rs) 434 lv (x1 :: x0 :: .ref b :: st) g P I := E_callV [x0, x1] rfl dL_law_434 cc_X12_ofRide w_1291 w_1292 w_1293 (ci := 12) rfl rfl hc (by omega) hb.1 hb.2.1 hb.2.2 hM
theorem k_L_law_453 {Γ : GE} {d rc rs mc ms mc' ms' : Nat} {QQ : List Frame → Array Value → State → State → Prop} {lv : List (Option Value)} {st : List Value} {g : Sh} {P : HP} {I : HI} {b : Nat} {x0 x1 : Value} (hd : 1 ≤ d) (hc : catS st ≤ 8) (hb : Cel g b 11) (hM : MM Γ mX11_as (d - 1) mc' ms' (.ref b :: [x0, x1]) g P I (fun v g' P' I' => E Γ mL_law d mc ms QQ rc rs 456 lv (v.toList ++ st) g' P' I')) : E Γ mL_law d mc ms QQ (mc' + rc) (ms' + rs) 453 lv (x1 :: x0 :: .ref b :: st) g P I := E_callV [x0, x1] rfl dL_law_453 cc_X11_as w_752 w_753 w_754 (ci := 11) rfl rfl hc (by omega) hb.1 hb.2.1 hb.2.2 hM
theorem k_L_law_467 {Γ : GE} {d rc rs mc ms mc' ms' : Nat} {QQ : List Frame → Array Value → State → State → Prop} {lv : List (Option Value)} {st : List Value} {g : Sh} {P : HP} {I : HI} {b : Nat} {x0 x1 : Value} (hd : 1 ≤ d) (hc : catS st ≤ 8) (hb : Cel g b 12) (hM : MM Γ mX12_as (d - 1) mc' ms' (.ref b :: [x0, x1]) g P I (fun v g' P' I' => E Γ mL_law d mc ms QQ rc rs 470 lv (v.toList ++ st) g' P' I')) : E Γ mL_law d mc ms QQ (mc' + rc) (ms' + rs) 467 lv (x1 :: x0 :: .ref b :: st) g P I := E_callV [x0, x1] rfl dL_law_467 cc_X12_as w_1315 w_1316 w_1317 (ci := 12) rfl rfl hc (by omega) hb.1 hb.2.1 hb.2.2 hM
theorem k_L_law_491 {Γ : GE} {d rc rs mc ms mc' ms' : Nat} {QQ : List Frame → Array Value → State → State → Prop} {lv : List (Option Value)} {st : List Value} {g : Sh} {P : HP} {I : HI} {b : Nat} {x0 x1 x2 : Value} (hd : 1 ≤ d) (hc : catS st ≤ 8) (hb : Cel g b 11) (hM : MM Γ mX11_start (d - 1) mc' ms' (.ref b :: [x0, x1, x2]) g P I (fun v g' P' I' => E Γ mL_law d mc ms QQ rc rs 494 lv (v.toList ++ st) g' P' I')) : E Γ mL_law d mc ms QQ (mc' + rc) (ms' + rs) 491 lv (x2 :: x1 :: x0 :: .ref b :: st) g P I := E_callV [x0, x1, x2] rfl dL_law_491 cc_X11_start w_759 w_760 w_761 (ci := 11) rfl rfl hc (by omega) hb.1 hb.2.1 hb.2.2 hM
theorem k_L_law_510 {Γ : GE} {d rc rs mc ms mc' ms' : Nat} {QQ : List Frame → Array Value → State → State → Prop} {lv : List (Option Value)} {st : List Value} {g : Sh} {P : HP} {I : HI} {b : Nat} {x0 x1 x2 : Value} (hd : 1 ≤ d) (hc : catS st ≤ 8) (hb : Cel g b 12) (hM : MM Γ mX12_start (d - 1) mc' ms' (.ref b :: [x0, x1, x2]) g P I (fun v g' P' I' => E Γ mL_law d mc ms QQ rc rs 513 lv (v.toList ++ st) g' P' I')) : E Γ mL_law d mc ms QQ (mc' + rc) (ms' + rs) 510 lv (x2 :: x1 :: x0 :: .ref b :: st) g P I := E_callV [x0, x1, x2] rfl dL_law_510 cc_X12_start w_1323 w_1324 w_1325 (ci := 12) rfl rfl hc (by omega) hb.1 hb.2.1 hb.2.2 hM
theorem k_L_law_544 {Γ : GE} {d rc rs mc ms mc' ms' : Nat} {QQ : List Frame → Array Value → State → State → Prop} {lv : List (Option Value)} {st : List Value} {g : Sh} {P : HP} {I : HI} {b : Nat} {x0 x1 : Value} (hd : 1 ≤ d) (hc : catS st ≤ 8) (hb : Cel g b 11) (hM : MM Γ mX11_feed (d - 1) mc' ms' (.ref b :: [x0, x1]) g P I (fun v g' P' I' => E Γ mL_law d mc ms QQ rc rs 547 lv (v.toList ++ st) g' P' I')) : E Γ mL_law d mc ms QQ (mc' + rc) (ms' + rs) 544 lv (x1 :: x0 :: .ref b :: st) g P I := E_callV [x0, x1] rfl dL_law_544 cc_X11_feed w_764 w_765 w_766 (ci := 11) rfl rfl hc (by omega) hb.1 hb.2.1 hb.2.2 hM
theorem k_L_law_573 {Γ : GE} {d rc rs mc ms mc' ms' : Nat} {QQ : List Frame → Array Value → State → State → Prop} {lv : List (Option Value)} {st : List Value} {g : Sh} {P : HP} {I : HI} {b : Nat} {x0 x1 : Value} (hd : 1 ≤ d) (hc : catS st ≤ 8) (hb : Cel g b 12) (hM : MM Γ mX12_feed (d - 1) mc' ms' (.ref b :: [x0, x1]) g P I (fun v g' P' I' => E Γ mL_law d mc ms QQ rc rs 576 lv (v.toList ++ st) g' P' I')) : E Γ mL_law d mc ms QQ (mc' + rc) (ms' + rs) 573 lv (x1 :: x0 :: .ref b :: st) g P I := E_callV [x0, x1] rfl dL_law_573 cc_X12_feed w_1327 w_1328 w_1329 (ci := 12) rfl rfl hc (by omega) hb.1 hb.2.1 hb.2.2 hM
theorem k_L_law_587 {Γ : GE} {d rc rs mc ms mc' ms' : Nat} {QQ : List Frame → Array Value → State → State → Prop} {lv : List (Option Value)} {st : List Value} {g : Sh} {P : HP} {I : HI} {b : Nat} {x0 : Value} (hd : 1 ≤ d) (hc : catS st ≤ 8) (hb : Cel g b 11) (hM : MM Γ mX11_text (d - 1) mc' ms' (.ref b :: [x0]) g P I (fun v g' P' I' => E Γ mL_law d mc ms QQ rc rs 590 lv (v.toList ++ st) g' P' I')) : E Γ mL_law d mc ms QQ (mc' + rc) (ms' + rs) 587 lv (x0 :: .ref b :: st) g P I := E_callV [x0] rfl dL_law_587 cc_X11_text w_769 w_770 w_771 (ci := 11) rfl rfl hc (by omega) hb.1 hb.2.1 hb.2.2 hM
theorem k_L_law_596 {Γ : GE} {d rc rs mc ms mc' ms' : Nat} {QQ : List Frame → Array Value → State → State → Prop} {lv : List (Option Value)} {st : List Value} {g : Sh} {P : HP} {I : HI} {b : Nat} {x0 : Value} (hd : 1 ≤ d) (hc : catS st ≤ 8) (hb : Cel g b 12) (hM : MM Γ mX12_text (d - 1) mc' ms' (.ref b :: [x0]) g P I (fun v g' P' I' => E Γ mL_law d mc ms QQ rc rs 599 lv (v.toList ++ st) g' P' I')) : E Γ mL_law d mc ms QQ (mc' + rc) (ms' + rs) 596 lv (x0 :: .ref b :: st) g P I := E_callV [x0] rfl dL_law_596 cc_X12_text w_1332 w_1333 w_1334 (ci := 12) rfl rfl hc (by omega) hb.1 hb.2.1 hb.2.2 hM
theorem k_L_law_630 {Γ : GE} {d rc rs mc ms mc' ms' : Nat} {QQ : List Frame → Array Value → State → State → Prop} {lv : List (Option Value)} {st : List Value} {g : Sh} {P : HP} {I : HI} {b : Nat} {x0 x1 x2 x3 x4 : Value} (hd : 1 ≤ d) (hc : catS st ≤ 8) (hb : Cel g b 11) (hM : MM Γ mX11_law (d - 1) mc' ms' (.ref b :: [x0, x1, x2, x3, x4]) g P I (fun v g' P' I' => E Γ mL_law d mc ms QQ rc rs 633 lv (v.toList ++ st) g' P' I')) : E Γ mL_law d mc ms QQ (mc' + rc) (ms' + rs) 630 lv (x4 :: x3 :: x2 :: x1 :: x0 :: .ref b :: st) g P I := E_callV [x0, x1, x2, x3, x4] rfl dL_law_630 cc_X11_law w_790 w_791 w_792 (ci := 11) rfl rfl hc (by omega) hb.1 hb.2.1 hb.2.2 hM
theorem k_L_law_659 {Γ : GE} {d rc rs mc ms mc' ms' : Nat} {QQ : List Frame → Array Value → State → State → Prop} {lv : List (Option Value)} {st : List Value} {g : Sh} {P : HP} {I : HI} {b : Nat} {x0 x1 x2 x3 x4 : Value} (hd : 1 ≤ d) (hc : catS st ≤ 8) (hb : Cel g b 12) (hM : MM Γ mX12_law (d - 1) mc' ms' (.ref b :: [x0, x1, x2, x3, x4]) g P I (fun v g' P' I' => E Γ mL_law d mc ms QQ rc rs 662 lv (v.toList ++ st) g' P' I')) : E Γ mL_law d mc ms QQ (mc' + rc) (ms' + rs) 659 lv (x4 :: x3 :: x2 :: x1 :: x0 :: .ref b :: st) g P I := E_callV [x0, x1, x2, x3, x4] rfl dL_law_659 cc_X12_law w_1378 w_1379 w_1380 (ci := 12) rfl rfl hc (by omega) hb.1 hb.2.1 hb.2.2 hM
theorem k_L_law_673 {Γ : GE} {d rc rs mc ms mc' ms' : Nat} {QQ : List Frame → Array Value → State → State → Prop} {lv : List (Option Value)} {st : List Value} {g : Sh} {P : HP} {I : HI} {b : Nat} {x0 : Value} (hd : 1 ≤ d) (hc : catS st ≤ 8) (hb : Cel g b 11) (hM : MM Γ mX11_ticks (d - 1) mc' ms' (.ref b :: [x0]) g P I (fun v g' P' I' => E Γ mL_law d mc ms QQ rc rs 676 lv (v.toList ++ st) g' P' I')) : E Γ mL_law d mc ms QQ (mc' + rc) (ms' + rs) 673 lv (x0 :: .ref b :: st) g P I := E_callV [x0] rfl dL_law_673 cc_X11_ticks w_794 w_795 w_796 (ci := 11) rfl rfl hc (by omega) hb.1 hb.2.1 hb.2.2 hM
theorem k_L_law_682 {Γ : GE} {d rc rs mc ms mc' ms' : Nat} {QQ : List Frame → Array Value → State → State → Prop} {lv : List (Option Value)} {st : List Value} {g : Sh} {P : HP} {I : HI} {b : Nat} {x0 : Value} (hd : 1 ≤ d) (hc : catS st ≤ 8) (hb : Cel g b 12) (hM : MM Γ mX12_ticks (d - 1) mc' ms' (.ref b :: [x0]) g P I (fun v g' P' I' => E Γ mL_law d mc ms QQ rc rs 685 lv (v.toList ++ st) g' P' I')) : E Γ mL_law d mc ms QQ (mc' + rc) (ms' + rs) 682 lv (x0 :: .ref b :: st) g P I := E_callV [x0] rfl dL_law_682 cc_X12_ticks w_1382 w_1383 w_1384 (ci := 12) rfl rfl hc (by omega) hb.1 hb.2.1 hb.2.2 hM
theorem k_L_law_696 {Γ : GE} {d rc rs mc ms mc' ms' : Nat} {QQ : List Frame → Array Value → State → State → Prop} {lv : List (Option Value)} {st : List Value} {g : Sh} {P : HP} {I : HI} {b : Nat} {x0 : Value} (hd : 1 ≤ d) (hc : catS st ≤ 8) (hb : Cel g b 11) (hM : MM Γ mX11_gusts (d - 1) mc' ms' (.ref b :: [x0]) g P I (fun v g' P' I' => E Γ mL_law d mc ms QQ rc rs 699 lv (v.toList ++ st) g' P' I')) : E Γ mL_law d mc ms QQ (mc' + rc) (ms' + rs) 696 lv (x0 :: .ref b :: st) g P I := E_callV [x0] rfl dL_law_696 cc_X11_gusts w_823 w_824 w_825 (ci := 11) rfl rfl hc (by omega) hb.1 hb.2.1 hb.2.2 hM
theorem k_L_law_705 {Γ : GE} {d rc rs mc ms mc' ms' : Nat} {QQ : List Frame → Array Value → State → State → Prop} {lv : List (Option Value)} {st : List Value} {g : Sh} {P : HP} {I : HI} {b : Nat} {x0 : Value} (hd : 1 ≤ d) (hc : catS st ≤ 8) (hb : Cel g b 12) (hM : MM Γ mX12_gusts (d - 1) mc' ms' (.ref b :: [x0]) g P I (fun v g' P' I' => E Γ mL_law d mc ms QQ rc rs 708 lv (v.toList ++ st) g' P' I')) : E Γ mL_law d mc ms QQ (mc' + rc) (ms' + rs) 705 lv (x0 :: .ref b :: st) g P I := E_callV [x0] rfl dL_law_705 cc_X12_gusts w_1409 w_1410 w_1411 (ci := 12) rfl rfl hc (by omega) hb.1 hb.2.1 hb.2.2 hM
theorem k_L_law_729 {Γ : GE} {d rc rs mc ms mc' ms' : Nat} {QQ : List Frame → Array Value → State → State → Prop} {lv : List (Option Value)} {st : List Value} {g : Sh} {P : HP} {I : HI} {b : Nat} {x0 x1 x2 : Value} (hd : 1 ≤ d) (hc : catS st ≤ 8) (hb : Cel g b 11) (hM : MM Γ mX11_then (d - 1) mc' ms' (.ref b :: [x0, x1, x2]) g P I (fun v g' P' I' => E Γ mL_law d mc ms QQ rc rs 732 lv (v.toList ++ st) g' P' I')) : E Γ mL_law d mc ms QQ (mc' + rc) (ms' + rs) 729 lv (x2 :: x1 :: x0 :: .ref b :: st) g P I := E_callV [x0, x1, x2] rfl dL_law_729 cc_X11_then w_832 w_833 w_834 (ci := 11) rfl rfl hc (by omega) hb.1 hb.2.1 hb.2.2 hM
theorem k_L_law_748 {Γ : GE} {d rc rs mc ms mc' ms' : Nat} {QQ : List Frame → Array Value → State → State → Prop} {lv : List (Option Value)} {st : List Value} {g : Sh} {P : HP} {I : HI} {b : Nat} {x0 x1 x2 : Value} (hd : 1 ≤ d) (hc : catS st ≤ 8) (hb : Cel g b 12) (hM : MM Γ mX12_then (d - 1) mc' ms' (.ref b :: [x0, x1, x2]) g P I (fun v g' P' I' => E Γ mL_law d mc ms QQ rc rs 751 lv (v.toList ++ st) g' P' I')) : E Γ mL_law d mc ms QQ (mc' + rc) (ms' + rs) 748 lv (x2 :: x1 :: x0 :: .ref b :: st) g P I := E_callV [x0, x1, x2] rfl dL_law_748 cc_X12_then w_1418 w_1419 w_1420 (ci := 12) rfl rfl hc (by omega) hb.1 hb.2.1 hb.2.2 hM
theorem k_L_law_762 {Γ : GE} {d rc rs mc ms mc' ms' : Nat} {QQ : List Frame → Array Value → State → State → Prop} {lv : List (Option Value)} {st : List Value} {g : Sh} {P : HP} {I : HI} {b : Nat} {x0 : Value} (hd : 1 ≤ d) (hc : catS st ≤ 8) (hb : Cel g b 11) (hM : MM Γ mX11_strands (d - 1) mc' ms' (.ref b :: [x0]) g P I (fun v g' P' I' => E Γ mL_law d mc ms QQ rc rs 765 lv (v.toList ++ st) g' P' I')) : E Γ mL_law d mc ms QQ (mc' + rc) (ms' + rs) 762 lv (x0 :: .ref b :: st) g P I := E_callV [x0] rfl dL_law_762 cc_X11_strands w_854 w_855 w_856 (ci := 11) rfl rfl hc (by omega) hb.1 hb.2.1 hb.2.2 hM
theorem k_L_law_771 {Γ : GE} {d rc rs mc ms mc' ms' : Nat} {QQ : List Frame → Array Value → State → State → Prop} {lv : List (Option Value)} {st : List Value} {g : Sh} {P : HP} {I : HI} {b : Nat} {x0 : Value} (hd : 1 ≤ d) (hc : catS st ≤ 8) (hb : Cel g b 12) (hM : MM Γ mX12_strands (d - 1) mc' ms' (.ref b :: [x0]) g P I (fun v g' P' I' => E Γ mL_law d mc ms QQ rc rs 774 lv (v.toList ++ st) g' P' I')) : E Γ mL_law d mc ms QQ (mc' + rc) (ms' + rs) 771 lv (x0 :: .ref b :: st) g P I := E_callV [x0] rfl dL_law_771 cc_X12_strands w_1432 w_1433 w_1434 (ci := 12) rfl rfl hc (by omega) hb.1 hb.2.1 hb.2.2 hM
theorem k_L_law_785 {Γ : GE} {d rc rs mc ms mc' ms' : Nat} {QQ : List Frame → Array Value → State → State → Prop} {lv : List (Option Value)} {st : List Value} {g : Sh} {P : HP} {I : HI} {b : Nat} {x0 : Value} (hd : 1 ≤ d) (hc : catS st ≤ 8) (hb : Cel g b 11) (hM : MM Γ mX11_stands (d - 1) mc' ms' (.ref b :: [x0]) g P I (fun v g' P' I' => E Γ mL_law d mc ms QQ rc rs 788 lv (v.toList ++ st) g' P' I')) : E Γ mL_law d mc ms QQ (mc' + rc) (ms' + rs) 785 lv (x0 :: .ref b :: st) g P I := E_callV [x0] rfl dL_law_785 cc_X11_stands w_858 w_859 w_860 (ci := 11) rfl rfl hc (by omega) hb.1 hb.2.1 hb.2.2 hM
theorem k_L_law_794 {Γ : GE} {d rc rs mc ms mc' ms' : Nat} {QQ : List Frame → Array Value → State → State → Prop} {lv : List (Option Value)} {st : List Value} {g : Sh} {P : HP} {I : HI} {b : Nat} {x0 : Value} (hd : 1 ≤ d) (hc : catS st ≤ 8) (hb : Cel g b 12) (hM : MM Γ mX12_stands (d - 1) mc' ms' (.ref b :: [x0]) g P I (fun v g' P' I' => E Γ mL_law d mc ms QQ rc rs 797 lv (v.toList ++ st) g' P' I')) : E Γ mL_law d mc ms QQ (mc' + rc) (ms' + rs) 794 lv (x0 :: .ref b :: st) g P I := E_callV [x0] rfl dL_law_794 cc_X12_stands w_1436 w_1437 w_1438 (ci := 12) rfl rfl hc (by omega) hb.1 hb.2.1 hb.2.2 hM
theorem k_L_law_808 {Γ : GE} {d rc rs mc ms mc' ms' : Nat} {QQ : List Frame → Array Value → State → State → Prop} {lv : List (Option Value)} {st : List Value} {g : Sh} {P : HP} {I : HI} {b : Nat} {x0 : Value} (hd : 1 ≤ d) (hc : catS st ≤ 8) (hb : Cel g b 11) (hM : MM Γ mX11_comes (d - 1) mc' ms' (.ref b :: [x0]) g P I (fun v g' P' I' => E Γ mL_law d mc ms QQ rc rs 811 lv (v.toList ++ st) g' P' I')) : E Γ mL_law d mc ms QQ (mc' + rc) (ms' + rs) 808 lv (x0 :: .ref b :: st) g P I := E_callV [x0] rfl dL_law_808 cc_X11_comes w_863 w_864 w_865 (ci := 11) rfl rfl hc (by omega) hb.1 hb.2.1 hb.2.2 hM
theorem k_L_law_817 {Γ : GE} {d rc rs mc ms mc' ms' : Nat} {QQ : List Frame → Array Value → State → State → Prop} {lv : List (Option Value)} {st : List Value} {g : Sh} {P : HP} {I : HI} {b : Nat} {x0 : Value} (hd : 1 ≤ d) (hc : catS st ≤ 8) (hb : Cel g b 12) (hM : MM Γ mX12_comes (d - 1) mc' ms' (.ref b :: [x0]) g P I (fun v g' P' I' => E Γ mL_law d mc ms QQ rc rs 820 lv (v.toList ++ st) g' P' I')) : E Γ mL_law d mc ms QQ (mc' + rc) (ms' + rs) 817 lv (x0 :: .ref b :: st) g P I := E_callV [x0] rfl dL_law_817 cc_X12_comes w_1440 w_1441 w_1442 (ci := 12) rfl rfl hc (by omega) hb.1 hb.2.1 hb.2.2 hM
theorem k_L_law_841 {Γ : GE} {d rc rs mc ms mc' ms' : Nat} {QQ : List Frame → Array Value → State → State → Prop} {lv : List (Option Value)} {st : List Value} {g : Sh} {P : HP} {I : HI} {b : Nat} {x0 x1 x2 : Value} (hd : 1 ≤ d) (hc : catS st ≤ 8) (hb : Cel g b 11) (hM : MM Γ mX11_snug (d - 1) mc' ms' (.ref b :: [x0, x1, x2]) g P I (fun v g' P' I' => E Γ mL_law d mc ms QQ rc rs 844 lv (v.toList ++ st) g' P' I')) : E Γ mL_law d mc ms QQ (mc' + rc) (ms' + rs) 841 lv (x2 :: x1 :: x0 :: .ref b :: st) g P I := E_callV [x0, x1, x2] rfl dL_law_841 cc_X11_snug w_871 w_872 w_873 (ci := 11) rfl rfl hc (by omega) hb.1 hb.2.1 hb.2.2 hM
theorem k_L_law_860 {Γ : GE} {d rc rs mc ms mc' ms' : Nat} {QQ : List Frame → Array Value → State → State → Prop} {lv : List (Option Value)} {st : List Value} {g : Sh} {P : HP} {I : HI} {b : Nat} {x0 x1 x2 : Value} (hd : 1 ≤ d) (hc : catS st ≤ 8) (hb : Cel g b 12) (hM : MM Γ mX12_snug (d - 1) mc' ms' (.ref b :: [x0, x1, x2]) g P I (fun v g' P' I' => E Γ mL_law d mc ms QQ rc rs 863 lv (v.toList ++ st) g' P' I')) : E Γ mL_law d mc ms QQ (mc' + rc) (ms' + rs) 860 lv (x2 :: x1 :: x0 :: .ref b :: st) g P I := E_callV [x0, x1, x2] rfl dL_law_860 cc_X12_snug w_1448 w_1449 w_1450 (ci := 12) rfl rfl hc (by omega) hb.1 hb.2.1 hb.2.2 hM
theorem k_L_law_879 {Γ : GE} {d rc rs mc ms mc' ms' : Nat} {QQ : List Frame → Array Value → State → State → Prop} {lv : List (Option Value)} {st : List Value} {g : Sh} {P : HP} {I : HI} {b : Nat} {x0 x1 : Value} (hd : 1 ≤ d) (hc : catS st ≤ 8) (hb : Cel g b 11) (hM : MM Γ mX11_lower (d - 1) mc' ms' (.ref b :: [x0, x1]) g P I (fun v g' P' I' => E Γ mL_law d mc ms QQ rc rs 882 lv (v.toList ++ st) g' P' I')) : E Γ mL_law d mc ms QQ (mc' + rc) (ms' + rs) 879 lv (x1 :: x0 :: .ref b :: st) g P I := E_callV [x0, x1] rfl dL_law_879 cc_X11_lower w_880 w_881 w_882 (ci := 11) rfl rfl hc (by omega) hb.1 hb.2.1 hb.2.2 hM
theorem k_L_law_893 {Γ : GE} {d rc rs mc ms mc' ms' : Nat} {QQ : List Frame → Array Value → State → State → Prop} {lv : List (Option Value)} {st : List Value} {g : Sh} {P : HP} {I : HI} {b : Nat} {x0 x1 : Value} (hd : 1 ≤ d) (hc : catS st ≤ 8) (hb : Cel g b 12) (hM : MM Γ mX12_lower (d - 1) mc' ms' (.ref b :: [x0, x1]) g P I (fun v g' P' I' => E Γ mL_law d mc ms QQ rc rs 896 lv (v.toList ++ st) g' P' I')) : E Γ mL_law d mc ms QQ (mc' + rc) (ms' + rs) 893 lv (x1 :: x0 :: .ref b :: st) g P I := E_callV [x0, x1] rfl dL_law_893 cc_X12_lower w_1456 w_1457 w_1458 (ci := 12) rfl rfl hc (by omega) hb.1 hb.2.1 hb.2.2 hM
theorem k_L_law_912 {Γ : GE} {d rc rs mc ms mc' ms' : Nat} {QQ : List Frame → Array Value → State → State → Prop} {lv : List (Option Value)} {st : List Value} {g : Sh} {P : HP} {I : HI} {b : Nat} {x0 x1 : Value} (hd : 1 ≤ d) (hc : catS st ≤ 8) (hb : Cel g b 11) (hM : MM Γ mX11_line (d - 1) mc' ms' (.ref b :: [x0, x1]) g P I (fun v g' P' I' => E Γ mL_law d mc ms QQ rc rs 915 lv (v.toList ++ st) g' P' I')) : E Γ mL_law d mc ms QQ (mc' + rc) (ms' + rs) 912 lv (x1 :: x0 :: .ref b :: st) g P I := E_callV [x0, x1] rfl dL_law_912 cc_X11_line w_884 w_885 w_886 (ci := 11) rfl rfl hc (by omega) hb.1 hb.2.1 hb.2.2 hM
theorem k_L_law_926 {Γ : GE} {d rc rs mc ms mc' ms' : Nat} {QQ : List Frame → Array Value → State → State → Prop} {lv : List (Option Value)} {st : List Value} {g : Sh} {P : HP} {I : HI} {b : Nat} {x0 x1 : Value} (hd : 1 ≤ d) (hc : catS st ≤ 8) (hb : Cel g b 12) (hM : MM Γ mX12_line (d - 1) mc' ms' (.ref b :: [x0, x1]) g P I (fun v g' P' I' => E Γ mL_law d mc ms QQ rc rs 929 lv (v.toList ++ st) g' P' I')) : E Γ mL_law d mc ms QQ (mc' + rc) (ms' + rs) 926 lv (x1 :: x0 :: .ref b :: st) g P I := E_callV [x0, x1] rfl dL_law_926 cc_X12_line w_1460 w_1461 w_1462 (ci := 12) rfl rfl hc (by omega) hb.1 hb.2.1 hb.2.2 hM
theorem k_L_law_940 {Γ : GE} {d rc rs mc ms mc' ms' : Nat} {QQ : List Frame → Array Value → State → State → Prop} {lv : List (Option Value)} {st : List Value} {g : Sh} {P : HP} {I : HI} {b : Nat} {x0 : Value} (hd : 1 ≤ d) (hc : catS st ≤ 8) (hb : Cel g b 11) (hM : MM Γ mX11_lines (d - 1) mc' ms' (.ref b :: [x0]) g P I (fun v g' P' I' => E Γ mL_law d mc ms QQ rc rs 943 lv (v.toList ++ st) g' P' I')) : E Γ mL_law d mc ms QQ (mc' + rc) (ms' + rs) 940 lv (x0 :: .ref b :: st) g P I := E_callV [x0] rfl dL_law_940 cc_X11_lines w_899 w_900 w_901 (ci := 11) rfl rfl hc (by omega) hb.1 hb.2.1 hb.2.2 hM
theorem k_L_law_949 {Γ : GE} {d rc rs mc ms mc' ms' : Nat} {QQ : List Frame → Array Value → State → State → Prop} {lv : List (Option Value)} {st : List Value} {g : Sh} {P : HP} {I : HI} {b : Nat} {x0 : Value} (hd : 1 ≤ d) (hc : catS st ≤ 8) (hb : Cel g b 12) (hM : MM Γ mX12_lines (d - 1) mc' ms' (.ref b :: [x0]) g P I (fun v g' P' I' => E Γ mL_law d mc ms QQ rc rs 952 lv (v.toList ++ st) g' P' I')) : E Γ mL_law d mc ms QQ (mc' + rc) (ms' + rs) 949 lv (x0 :: .ref b :: st) g P I := E_callV [x0] rfl dL_law_949 cc_X12_lines w_1471 w_1472 w_1473 (ci := 12) rfl rfl hc (by omega) hb.1 hb.2.1 hb.2.2 hM
theorem k_L_law_968 {Γ : GE} {d rc rs mc ms mc' ms' : Nat} {QQ : List Frame → Array Value → State → State → Prop} {lv : List (Option Value)} {st : List Value} {g : Sh} {P : HP} {I : HI} {b : Nat} {x0 x1 : Value} (hd : 1 ≤ d) (hc : catS st ≤ 8) (hb : Cel g b 11) (hM : MM Γ mX11_over (d - 1) mc' ms' (.ref b :: [x0, x1]) g P I (fun v g' P' I' => E Γ mL_law d mc ms QQ rc rs 971 lv (v.toList ++ st) g' P' I')) : E Γ mL_law d mc ms QQ (mc' + rc) (ms' + rs) 968 lv (x1 :: x0 :: .ref b :: st) g P I := E_callV [x0, x1] rfl dL_law_968 cc_X11_over w_908 w_909 w_910 (ci := 11) rfl rfl hc (by omega) hb.1 hb.2.1 hb.2.2 hM
theorem k_L_law_982 {Γ : GE} {d rc rs mc ms mc' ms' : Nat} {QQ : List Frame → Array Value → State → State → Prop} {lv : List (Option Value)} {st : List Value} {g : Sh} {P : HP} {I : HI} {b : Nat} {x0 x1 : Value} (hd : 1 ≤ d) (hc : catS st ≤ 8) (hb : Cel g b 12) (hM : MM Γ mX12_over (d - 1) mc' ms' (.ref b :: [x0, x1]) g P I (fun v g' P' I' => E Γ mL_law d mc ms QQ rc rs 985 lv (v.toList ++ st) g' P' I')) : E Γ mL_law d mc ms QQ (mc' + rc) (ms' + rs) 982 lv (x1 :: x0 :: .ref b :: st) g P I := E_callV [x0, x1] rfl dL_law_982 cc_X12_over w_1478 w_1479 w_1480 (ci := 12) rfl rfl hc (by omega) hb.1 hb.2.1 hb.2.2 hM
theorem k_L_law_1001 {Γ : GE} {d rc rs mc ms mc' ms' : Nat} {QQ : List Frame → Array Value → State → State → Prop} {lv : List (Option Value)} {st : List Value} {g : Sh} {P : HP} {I : HI} {b : Nat} {x0 x1 : Value} (hd : 1 ≤ d) (hc : catS st ≤ 8) (hb : Cel g b 11) (hM : MM Γ mX11_load (d - 1) mc' ms' (.ref b :: [x0, x1]) g P I (fun v g' P' I' => E Γ mL_law d mc ms QQ rc rs 1004 lv (v.toList ++ st) g' P' I')) : E Γ mL_law d mc ms QQ (mc' + rc) (ms' + rs) 1001 lv (x1 :: x0 :: .ref b :: st) g P I := E_callV [x0, x1] rfl dL_law_1001 cc_X11_load w_928 w_929 w_930 (ci := 11) rfl rfl hc (by omega) hb.1 hb.2.1 hb.2.2 hM
theorem k_L_law_1015 {Γ : GE} {d rc rs mc ms mc' ms' : Nat} {QQ : List Frame → Array Value → State → State → Prop} {lv : List (Option Value)} {st : List Value} {g : Sh} {P : HP} {I : HI} {b : Nat} {x0 x1 : Value} (hd : 1 ≤ d) (hc : catS st ≤ 8) (hb : Cel g b 12) (hM : MM Γ mX12_load (d - 1) mc' ms' (.ref b :: [x0, x1]) g P I (fun v g' P' I' => E Γ mL_law d mc ms QQ rc rs 1018 lv (v.toList ++ st) g' P' I')) : E Γ mL_law d mc ms QQ (mc' + rc) (ms' + rs) 1015 lv (x1 :: x0 :: .ref b :: st) g P I := E_callV [x0, x1] rfl dL_law_1015 cc_X12_load w_1490 w_1491 w_1492 (ci := 12) rfl rfl hc (by omega) hb.1 hb.2.1 hb.2.2 hM
theorem k_L_law_1024 {Γ : GE} {d rc rs mc ms mc' ms' : Nat} {QQ : List Frame → Array Value → State → State → Prop} {lv : List (Option Value)} {st : List Value} {g : Sh} {P : HP} {I : HI} {b : Nat} (hd : 1 ≤ d) (hc : catS st ≤ 8) (hb : Cel g b 11) (hM : MM Γ mX11_unload (d - 1) mc' ms' (.ref b :: []) g P I (fun v g' P' I' => E Γ mL_law d mc ms QQ rc rs 1027 lv (v.toList ++ st) g' P' I')) : E Γ mL_law d mc ms QQ (mc' + rc) (ms' + rs) 1024 lv (.ref b :: st) g P I := E_callV [] rfl dL_law_1024 cc_X11_unload w_932 w_933 w_934 (ci := 11) rfl rfl hc (by omega) hb.1 hb.2.1 hb.2.2 hM
theorem k_L_law_1028 {Γ : GE} {d rc rs mc ms mc' ms' : Nat} {QQ : List Frame → Array Value → State → State → Prop} {lv : List (Option Value)} {st : List Value} {g : Sh} {P : HP} {I : HI} {b : Nat} (hd : 1 ≤ d) (hc : catS st ≤ 8) (hb : Cel g b 12) (hM : MM Γ mX12_unload (d - 1) mc' ms' (.ref b :: []) g P I (fun v g' P' I' => E Γ mL_law d mc ms QQ rc rs 1031 lv (v.toList ++ st) g' P' I')) : E Γ mL_law d mc ms QQ (mc' + rc) (ms' + rs) 1028 lv (.ref b :: st) g P I := E_callV [] rfl dL_law_1028 cc_X12_unload w_1494 w_1495 w_1496 (ci := 12) rfl rfl hc (by omega) hb.1 hb.2.1 hb.2.2 hM
theorem k_L_law_1042 {Γ : GE} {d rc rs mc ms mc' ms' : Nat} {QQ : List Frame → Array Value → State → State → Prop} {lv : List (Option Value)} {st : List Value} {g : Sh} {P : HP} {I : HI} {b : Nat} {x0 : Value} (hd : 1 ≤ d) (hc : catS st ≤ 8) (hb : Cel g b 11) (hM : MM Γ mX11_order (d - 1) mc' ms' (.ref b :: [x0]) g P I (fun v g' P' I' => E Γ mL_law d mc ms QQ rc rs 1045 lv (v.toList ++ st) g' P' I')) : E Γ mL_law d mc ms QQ (mc' + rc) (ms' + rs) 1042 lv (x0 :: .ref b :: st) g P I := E_callV [x0] rfl dL_law_1042 cc_X11_order w_936 w_937 w_938 (ci := 11) rfl rfl hc (by omega) hb.1 hb.2.1 hb.2.2 hM
theorem k_L_law_1051 {Γ : GE} {d rc rs mc ms mc' ms' : Nat} {QQ : List Frame → Array Value → State → State → Prop} {lv : List (Option Value)} {st : List Value} {g : Sh} {P : HP} {I : HI} {b : Nat} {x0 : Value} (hd : 1 ≤ d) (hc : catS st ≤ 8) (hb : Cel g b 12) (hM : MM Γ mX12_order (d - 1) mc' ms' (.ref b :: [x0]) g P I (fun v g' P' I' => E Γ mL_law d mc ms QQ rc rs 1054 lv (v.toList ++ st) g' P' I')) : E Γ mL_law d mc ms QQ (mc' + rc) (ms' + rs) 1051 lv (x0 :: .ref b :: st) g P I := E_callV [x0] rfl dL_law_1051 cc_X12_order w_1498 w_1499 w_1500 (ci := 12) rfl rfl hc (by omega) hb.1 hb.2.1 hb.2.2 hM
theorem k_L_law_1070 {Γ : GE} {d rc rs mc ms mc' ms' : Nat} {QQ : List Frame → Array Value → State → State → Prop} {lv : List (Option Value)} {st : List Value} {g : Sh} {P : HP} {I : HI} {b : Nat} {x0 x1 : Value} (hd : 1 ≤ d) (hc : catS st ≤ 8) (hb : Cel g b 11) (hM : MM Γ mX11_bridge (d - 1) mc' ms' (.ref b :: [x0, x1]) g P I (fun v g' P' I' => E Γ mL_law d mc ms QQ rc rs 1073 lv (v.toList ++ st) g' P' I')) : E Γ mL_law d mc ms QQ (mc' + rc) (ms' + rs) 1070 lv (x1 :: x0 :: .ref b :: st) g P I := E_callV [x0, x1] rfl dL_law_1070 cc_X11_bridge w_946 w_947 w_948 (ci := 11) rfl rfl hc (by omega) hb.1 hb.2.1 hb.2.2 hM
theorem k_L_law_1084 {Γ : GE} {d rc rs mc ms mc' ms' : Nat} {QQ : List Frame → Array Value → State → State → Prop} {lv : List (Option Value)} {st : List Value} {g : Sh} {P : HP} {I : HI} {b : Nat} {x0 x1 : Value} (hd : 1 ≤ d) (hc : catS st ≤ 8) (hb : Cel g b 12) (hM : MM Γ mX12_bridge (d - 1) mc' ms' (.ref b :: [x0, x1]) g P I (fun v g' P' I' => E Γ mL_law d mc ms QQ rc rs 1087 lv (v.toList ++ st) g' P' I')) : E Γ mL_law d mc ms QQ (mc' + rc) (ms' + rs) 1084 lv (x1 :: x0 :: .ref b :: st) g P I := E_callV [x0, x1] rfl dL_law_1084 cc_X12_bridge w_1506 w_1507 w_1508 (ci := 12) rfl rfl hc (by omega) hb.1 hb.2.1 hb.2.2 hM
theorem k_L_law_1098 {Γ : GE} {d rc rs mc ms mc' ms' : Nat} {QQ : List Frame → Array Value → State → State → Prop} {lv : List (Option Value)} {st : List Value} {g : Sh} {P : HP} {I : HI} {b : Nat} {x0 : Value} (hd : 1 ≤ d) (hc : catS st ≤ 8) (hb : Cel g b 11) (hM : MM Γ mX11_seed (d - 1) mc' ms' (.ref b :: [x0]) g P I (fun v g' P' I' => E Γ mL_law d mc ms QQ rc rs 1101 lv (v.toList ++ st) g' P' I')) : E Γ mL_law d mc ms QQ (mc' + rc) (ms' + rs) 1098 lv (x0 :: .ref b :: st) g P I := E_callV [x0] rfl dL_law_1098 cc_X11_seed w_950 w_951 w_952 (ci := 11) rfl rfl hc (by omega) hb.1 hb.2.1 hb.2.2 hM
theorem k_L_law_1107 {Γ : GE} {d rc rs mc ms mc' ms' : Nat} {QQ : List Frame → Array Value → State → State → Prop} {lv : List (Option Value)} {st : List Value} {g : Sh} {P : HP} {I : HI} {b : Nat} {x0 : Value} (hd : 1 ≤ d) (hc : catS st ≤ 8) (hb : Cel g b 12) (hM : MM Γ mX12_seed (d - 1) mc' ms' (.ref b :: [x0]) g P I (fun v g' P' I' => E Γ mL_law d mc ms QQ rc rs 1110 lv (v.toList ++ st) g' P' I')) : E Γ mL_law d mc ms QQ (mc' + rc) (ms' + rs) 1107 lv (x0 :: .ref b :: st) g P I := E_callV [x0] rfl dL_law_1107 cc_X12_seed w_1510 w_1511 w_1512 (ci := 12) rfl rfl hc (by omega) hb.1 hb.2.1 hb.2.2 hM
theorem k_L_law_1131 {Γ : GE} {d rc rs mc ms mc' ms' : Nat} {QQ : List Frame → Array Value → State → State → Prop} {lv : List (Option Value)} {st : List Value} {g : Sh} {P : HP} {I : HI} {b : Nat} {x0 x1 x2 : Value} (hd : 1 ≤ d) (hc : catS st ≤ 8) (hb : Cel g b 11) (hM : MM Γ mX11_voice (d - 1) mc' ms' (.ref b :: [x0, x1, x2]) g P I (fun v g' P' I' => E Γ mL_law d mc ms QQ rc rs 1134 lv (v.toList ++ st) g' P' I')) : E Γ mL_law d mc ms QQ (mc' + rc) (ms' + rs) 1131 lv (x2 :: x1 :: x0 :: .ref b :: st) g P I := E_callV [x0, x1, x2] rfl dL_law_1131 cc_X11_voice w_954 w_955 w_956 (ci := 11) rfl rfl hc (by omega) hb.1 hb.2.1 hb.2.2 hM
theorem k_L_law_1150 {Γ : GE} {d rc rs mc ms mc' ms' : Nat} {QQ : List Frame → Array Value → State → State → Prop} {lv : List (Option Value)} {st : List Value} {g : Sh} {P : HP} {I : HI} {b : Nat} {x0 x1 x2 : Value} (hd : 1 ≤ d) (hc : catS st ≤ 8) (hb : Cel g b 12) (hM : MM Γ mX12_voice (d - 1) mc' ms' (.ref b :: [x0, x1, x2]) g P I (fun v g' P' I' => E Γ mL_law d mc ms QQ rc rs 1153 lv (v.toList ++ st) g' P' I')) : E Γ mL_law d mc ms QQ (mc' + rc) (ms' + rs) 1150 lv (x2 :: x1 :: x0 :: .ref b :: st) g P I := E_callV [x0, x1, x2] rfl dL_law_1150 cc_X12_voice w_1514 w_1515 w_1516 (ci := 12) rfl rfl hc (by omega) hb.1 hb.2.1 hb.2.2 hM
theorem k_L_law_1164 {Γ : GE} {d rc rs mc ms mc' ms' : Nat} {QQ : List Frame → Array Value → State → State → Prop} {lv : List (Option Value)} {st : List Value} {g : Sh} {P : HP} {I : HI} {b : Nat} {x0 : Value} (hd : 1 ≤ d) (hc : catS st ≤ 8) (hb : Cel g b 11) (hM : MM Γ mX11_trace (d - 1) mc' ms' (.ref b :: [x0]) g P I (fun v g' P' I' => E Γ mL_law d mc ms QQ rc rs 1167 lv (v.toList ++ st) g' P' I')) : E Γ mL_law d mc ms QQ (mc' + rc) (ms' + rs) 1164 lv (x0 :: .ref b :: st) g P I := E_callV [x0] rfl dL_law_1164 cc_X11_trace w_1043 w_1044 w_1045 (ci := 11) rfl rfl hc (by omega) hb.1 hb.2.1 hb.2.2 hM
theorem k_L_law_1173 {Γ : GE} {d rc rs mc ms mc' ms' : Nat} {QQ : List Frame → Array Value → State → State → Prop} {lv : List (Option Value)} {st : List Value} {g : Sh} {P : HP} {I : HI} {b : Nat} {x0 : Value} (hd : 1 ≤ d) (hc : catS st ≤ 8) (hb : Cel g b 12) (hM : MM Γ mX12_trace (d - 1) mc' ms' (.ref b :: [x0]) g P I (fun v g' P' I' => E Γ mL_law d mc ms QQ rc rs 1176 lv (v.toList ++ st) g' P' I')) : E Γ mL_law d mc ms QQ (mc' + rc) (ms' + rs) 1173 lv (x0 :: .ref b :: st) g P I := E_callV [x0] rfl dL_law_1173 cc_X12_trace w_1537 w_1538 w_1539 (ci := 12) rfl rfl hc (by omega) hb.1 hb.2.1 hb.2.2 hM
theorem k_L_law_1197 {Γ : GE} {d rc rs mc ms mc' ms' : Nat} {QQ : List Frame → Array Value → State → State → Prop} {lv : List (Option Value)} {st : List Value} {g : Sh} {P : HP} {I : HI} {b : Nat} {x0 x1 x2 : Value} (hd : 1 ≤ d) (hc : catS st ≤ 8) (hb : Cel g b 11) (hM : MM Γ mX11_sheet (d - 1) mc' ms' (.ref b :: [x0, x1, x2]) g P I (fun v g' P' I' => E Γ mL_law d mc ms QQ rc rs 1200 lv (v.toList ++ st) g' P' I')) : E Γ mL_law d mc ms QQ (mc' + rc) (ms' + rs) 1197 lv (x2 :: x1 :: x0 :: .ref b :: st) g P I := E_callV [x0, x1, x2] rfl dL_law_1197 cc_X11_sheet w_1047 w_1048 w_1049 (ci := 11) rfl rfl hc (by omega) hb.1 hb.2.1 hb.2.2 hM
theorem k_L_law_1216 {Γ : GE} {d rc rs mc ms mc' ms' : Nat} {QQ : List Frame → Array Value → State → State → Prop} {lv : List (Option Value)} {st : List Value} {g : Sh} {P : HP} {I : HI} {b : Nat} {x0 x1 x2 : Value} (hd : 1 ≤ d) (hc : catS st ≤ 8) (hb : Cel g b 12) (hM : MM Γ mX12_sheet (d - 1) mc' ms' (.ref b :: [x0, x1, x2]) g P I (fun v g' P' I' => E Γ mL_law d mc ms QQ rc rs 1219 lv (v.toList ++ st) g' P' I')) : E Γ mL_law d mc ms QQ (mc' + rc) (ms' + rs) 1216 lv (x2 :: x1 :: x0 :: .ref b :: st) g P I := E_callV [x0, x1, x2] rfl dL_law_1216 cc_X12_sheet w_1541 w_1542 w_1543 (ci := 12) rfl rfl hc (by omega) hb.1 hb.2.1 hb.2.2 hM
theorem k_L_law_1240 {Γ : GE} {d rc rs mc ms mc' ms' : Nat} {QQ : List Frame → Array Value → State → State → Prop} {lv : List (Option Value)} {st : List Value} {g : Sh} {P : HP} {I : HI} {b : Nat} {x0 x1 x2 : Value} (hd : 1 ≤ d) (hc : catS st ≤ 8) (hb : Cel g b 11) (hM : MM Γ mX11_put (d - 1) mc' ms' (.ref b :: [x0, x1, x2]) g P I (fun v g' P' I' => E Γ mL_law d mc ms QQ rc rs 1243 lv (v.toList ++ st) g' P' I')) : E Γ mL_law d mc ms QQ (mc' + rc) (ms' + rs) 1240 lv (x2 :: x1 :: x0 :: .ref b :: st) g P I := E_callV [x0, x1, x2] rfl dL_law_1240 cc_X11_put w_1056 w_1057 w_1058 (ci := 11) rfl rfl hc (by omega) hb.1 hb.2.1 hb.2.2 hM
theorem k_L_law_1259 {Γ : GE} {d rc rs mc ms mc' ms' : Nat} {QQ : List Frame → Array Value → State → State → Prop} {lv : List (Option Value)} {st : List Value} {g : Sh} {P : HP} {I : HI} {b : Nat} {x0 x1 x2 : Value} (hd : 1 ≤ d) (hc : catS st ≤ 8) (hb : Cel g b 12) (hM : MM Γ mX12_put (d - 1) mc' ms' (.ref b :: [x0, x1, x2]) g P I (fun v g' P' I' => E Γ mL_law d mc ms QQ rc rs 1262 lv (v.toList ++ st) g' P' I')) : E Γ mL_law d mc ms QQ (mc' + rc) (ms' + rs) 1259 lv (x2 :: x1 :: x0 :: .ref b :: st) g P I := E_callV [x0, x1, x2] rfl dL_law_1259 cc_X12_put w_1545 w_1546 w_1547 (ci := 12) rfl rfl hc (by omega) hb.1 hb.2.1 hb.2.2 hM
theorem k_L_law_1293 {Γ : GE} {d rc rs mc ms mc' ms' : Nat} {QQ : List Frame → Array Value → State → State → Prop} {lv : List (Option Value)} {st : List Value} {g : Sh} {P : HP} {I : HI} {b : Nat} {x0 x1 x2 x3 x4 : Value} (hd : 1 ≤ d) (hc : catS st ≤ 8) (hb : Cel g b 11) (hM : MM Γ mX11_move (d - 1) mc' ms' (.ref b :: [x0, x1, x2, x3, x4]) g P I (fun v g' P' I' => E Γ mL_law d mc ms QQ rc rs 1296 lv (v.toList ++ st) g' P' I')) : E Γ mL_law d mc ms QQ (mc' + rc) (ms' + rs) 1293 lv (x4 :: x3 :: x2 :: x1 :: x0 :: .ref b :: st) g P I := E_callV [x0, x1, x2, x3, x4] rfl dL_law_1293 cc_X11_move w_1067 w_1068 w_1069 (ci := 11) rfl rfl hc (by omega) hb.1 hb.2.1 hb.2.2 hM
theorem k_L_law_1322 {Γ : GE} {d rc rs mc ms mc' ms' : Nat} {QQ : List Frame → Array Value → State → State → Prop} {lv : List (Option Value)} {st : List Value} {g : Sh} {P : HP} {I : HI} {b : Nat} {x0 x1 x2 x3 x4 : Value} (hd : 1 ≤ d) (hc : catS st ≤ 8) (hb : Cel g b 12) (hM : MM Γ mX12_move (d - 1) mc' ms' (.ref b :: [x0, x1, x2, x3, x4]) g P I (fun v g' P' I' => E Γ mL_law d mc ms QQ rc rs 1325 lv (v.toList ++ st) g' P' I')) : E Γ mL_law d mc ms QQ (mc' + rc) (ms' + rs) 1322 lv (x4 :: x3 :: x2 :: x1 :: x0 :: .ref b :: st) g P I := E_callV [x0, x1, x2, x3, x4] rfl dL_law_1322 cc_X12_move w_1549 w_1550 w_1551 (ci := 12) rfl rfl hc (by omega) hb.1 hb.2.1 hb.2.2 hM
theorem k_L_law_1331 {Γ : GE} {d rc rs mc ms mc' ms' : Nat} {QQ : List Frame → Array Value → State → State → Prop} {lv : List (Option Value)} {st : List Value} {g : Sh} {P : HP} {I : HI} {b : Nat} (hd : 1 ≤ d) (hc : catS st ≤ 8) (hb : Cel g b 11) (hM : MM Γ mX11_image (d - 1) mc' ms' (.ref b :: []) g P I (fun v g' P' I' => E Γ mL_law d mc ms QQ rc rs 1334 lv (v.toList ++ st) g' P' I')) : E Γ mL_law d mc ms QQ (mc' + rc) (ms' + rs) 1331 lv (.ref b :: st) g P I := E_callV [] rfl dL_law_1331 cc_X11_image w_1075 w_1076 w_1077 (ci := 11) rfl rfl hc (by omega) hb.1 hb.2.1 hb.2.2 hM
theorem k_L_law_1335 {Γ : GE} {d rc rs mc ms mc' ms' : Nat} {QQ : List Frame → Array Value → State → State → Prop} {lv : List (Option Value)} {st : List Value} {g : Sh} {P : HP} {I : HI} {b : Nat} (hd : 1 ≤ d) (hc : catS st ≤ 8) (hb : Cel g b 12) (hM : MM Γ mX12_image (d - 1) mc' ms' (.ref b :: []) g P I (fun v g' P' I' => E Γ mL_law d mc ms QQ rc rs 1338 lv (v.toList ++ st) g' P' I')) : E Γ mL_law d mc ms QQ (mc' + rc) (ms' + rs) 1335 lv (.ref b :: st) g P I := E_callV [] rfl dL_law_1335 cc_X12_image w_1553 w_1554 w_1555 (ci := 12) rfl rfl hc (by omega) hb.1 hb.2.1 hb.2.2 hM
theorem k_L_law_1344 {Γ : GE} {d rc rs mc ms mc' ms' : Nat} {QQ : List Frame → Array Value → State → State → Prop} {lv : List (Option Value)} {st : List Value} {g : Sh} {P : HP} {I : HI} {b : Nat} (hd : 1 ≤ d) (hc : catS st ≤ 8) (hb : Cel g b 11) (hM : MM Γ mX11_restore (d - 1) mc' ms' (.ref b :: []) g P I (fun v g' P' I' => E Γ mL_law d mc ms QQ rc rs 1347 lv (v.toList ++ st) g' P' I')) : E Γ mL_law d mc ms QQ (mc' + rc) (ms' + rs) 1344 lv (.ref b :: st) g P I := E_callV [] rfl dL_law_1344 cc_X11_restore w_1079 w_1080 w_1081 (ci := 11) rfl rfl hc (by omega) hb.1 hb.2.1 hb.2.2 hM
theorem k_L_law_1348 {Γ : GE} {d rc rs mc ms mc' ms' : Nat} {QQ : List Frame → Array Value → State → State → Prop} {lv : List (Option Value)} {st : List Value} {g : Sh} {P : HP} {I : HI} {b : Nat} (hd : 1 ≤ d) (hc : catS st ≤ 8) (hb : Cel g b 12) (hM : MM Γ mX12_restore (d - 1) mc' ms' (.ref b :: []) g P I (fun v g' P' I' => E Γ mL_law d mc ms QQ rc rs 1351 lv (v.toList ++ st) g' P' I')) : E Γ mL_law d mc ms QQ (mc' + rc) (ms' + rs) 1348 lv (.ref b :: st) g P I := E_callV [] rfl dL_law_1348 cc_X12_restore w_1557 w_1558 w_1559 (ci := 12) rfl rfl hc (by omega) hb.1 hb.2.1 hb.2.2 hM
theorem k_L_law_1362 {Γ : GE} {d rc rs mc ms mc' ms' : Nat} {QQ : List Frame → Array Value → State → State → Prop} {lv : List (Option Value)} {st : List Value} {g : Sh} {P : HP} {I : HI} {b : Nat} {x0 : Value} (hd : 1 ≤ d) (hc : catS st ≤ 8) (hb : Cel g b 11) (hM : MM Γ mX11_tell (d - 1) mc' ms' (.ref b :: [x0]) g P I (fun v g' P' I' => E Γ mL_law d mc ms QQ rc rs 1365 lv (v.toList ++ st) g' P' I')) : E Γ mL_law d mc ms QQ (mc' + rc) (ms' + rs) 1362 lv (x0 :: .ref b :: st) g P I := E_callV [x0] rfl dL_law_1362 cc_X11_tell w_1083 w_1084 w_1085 (ci := 11) rfl rfl hc (by omega) hb.1 hb.2.1 hb.2.2 hM
theorem k_L_law_1371 {Γ : GE} {d rc rs mc ms mc' ms' : Nat} {QQ : List Frame → Array Value → State → State → Prop} {lv : List (Option Value)} {st : List Value} {g : Sh} {P : HP} {I : HI} {b : Nat} {x0 : Value} (hd : 1 ≤ d) (hc : catS st ≤ 8) (hb : Cel g b 12) (hM : MM Γ mX12_tell (d - 1) mc' ms' (.ref b :: [x0]) g P I (fun v g' P' I' => E Γ mL_law d mc ms QQ rc rs 1374 lv (v.toList ++ st) g' P' I')) : E Γ mL_law d mc ms QQ (mc' + rc) (ms' + rs) 1371 lv (x0 :: .ref b :: st) g P I := E_callV [x0] rfl dL_law_1371 cc_X12_tell w_1561 w_1562 w_1563 (ci := 12) rfl rfl hc (by omega) hb.1 hb.2.1 hb.2.2 hM
theorem k_L_law_1385 {Γ : GE} {d rc rs mc ms mc' ms' : Nat} {QQ : List Frame → Array Value → State → State → Prop} {lv : List (Option Value)} {st : List Value} {g : Sh} {P : HP} {I : HI} {b : Nat} {x0 : Value} (hd : 1 ≤ d) (hc : catS st ≤ 8) (hb : Cel g b 11) (hM : MM Γ mX11_check (d - 1) mc' ms' (.ref b :: [x0]) g P I (fun v g' P' I' => E Γ mL_law d mc ms QQ rc rs 1388 lv (v.toList ++ st) g' P' I')) : E Γ mL_law d mc ms QQ (mc' + rc) (ms' + rs) 1385 lv (x0 :: .ref b :: st) g P I := E_callV [x0] rfl dL_law_1385 cc_X11_check w_1087 w_1088 w_1089 (ci := 11) rfl rfl hc (by omega) hb.1 hb.2.1 hb.2.2 hM
theorem k_L_law_1394 {Γ : GE} {d rc rs mc ms mc' ms' : Nat} {QQ : List Frame → Array Value → State → State → Prop} {lv : List (Option Value)} {st : List Value} {g : Sh} {P : HP} {I : HI} {b : Nat} {x0 : Value} (hd : 1 ≤ d) (hc : catS st ≤ 8) (hb : Cel g b 12) (hM : MM Γ mX12_check (d - 1) mc' ms' (.ref b :: [x0]) g P I (fun v g' P' I' => E Γ mL_law d mc ms QQ rc rs 1397 lv (v.toList ++ st) g' P' I')) : E Γ mL_law d mc ms QQ (mc' + rc) (ms' + rs) 1394 lv (x0 :: .ref b :: st) g P I := E_callV [x0] rfl dL_law_1394 cc_X12_check w_1565 w_1566 w_1567 (ci := 12) rfl rfl hc (by omega) hb.1 hb.2.1 hb.2.2 hM
theorem k_L_law_1408 {Γ : GE} {d rc rs mc ms mc' ms' : Nat} {QQ : List Frame → Array Value → State → State → Prop} {lv : List (Option Value)} {st : List Value} {g : Sh} {P : HP} {I : HI} {b : Nat} {x0 : Value} (hd : 1 ≤ d) (hc : catS st ≤ 8) (hb : Cel g b 11) (hM : MM Γ mX11_count (d - 1) mc' ms' (.ref b :: [x0]) g P I (fun v g' P' I' => E Γ mL_law d mc ms QQ rc rs 1411 lv (v.toList ++ st) g' P' I')) : E Γ mL_law d mc ms QQ (mc' + rc) (ms' + rs) 1408 lv (x0 :: .ref b :: st) g P I := E_callV [x0] rfl dL_law_1408 cc_X11_count w_1091 w_1092 w_1093 (ci := 11) rfl rfl hc (by omega) hb.1 hb.2.1 hb.2.2 hM
theorem k_L_law_1417 {Γ : GE} {d rc rs mc ms mc' ms' : Nat} {QQ : List Frame → Array Value → State → State → Prop} {lv : List (Option Value)} {st : List Value} {g : Sh} {P : HP} {I : HI} {b : Nat} {x0 : Value} (hd : 1 ≤ d) (hc : catS st ≤ 8) (hb : Cel g b 12) (hM : MM Γ mX12_count (d - 1) mc' ms' (.ref b :: [x0]) g P I (fun v g' P' I' => E Γ mL_law d mc ms QQ rc rs 1420 lv (v.toList ++ st) g' P' I')) : E Γ mL_law d mc ms QQ (mc' + rc) (ms' + rs) 1417 lv (x0 :: .ref b :: st) g P I := E_callV [x0] rfl dL_law_1417 cc_X12_count w_1569 w_1570 w_1571 (ci := 12) rfl rfl hc (by omega) hb.1 hb.2.1 hb.2.2 hM
theorem k_L_law_1431 {Γ : GE} {d rc rs mc ms mc' ms' : Nat} {QQ : List Frame → Array Value → State → State → Prop} {lv : List (Option Value)} {st : List Value} {g : Sh} {P : HP} {I : HI} {b : Nat} {x0 : Value} (hd : 1 ≤ d) (hc : catS st ≤ 8) (hb : Cel g b 11) (hM : MM Γ mX11_told (d - 1) mc' ms' (.ref b :: [x0]) g P I (fun v g' P' I' => E Γ mL_law d mc ms QQ rc rs 1434 lv (v.toList ++ st) g' P' I')) : E Γ mL_law d mc ms QQ (mc' + rc) (ms' + rs) 1431 lv (x0 :: .ref b :: st) g P I := E_callV [x0] rfl dL_law_1431 cc_X11_told w_1099 w_1100 w_1101 (ci := 11) rfl rfl hc (by omega) hb.1 hb.2.1 hb.2.2 hM
theorem k_L_law_1440 {Γ : GE} {d rc rs mc ms mc' ms' : Nat} {QQ : List Frame → Array Value → State → State → Prop} {lv : List (Option Value)} {st : List Value} {g : Sh} {P : HP} {I : HI} {b : Nat} {x0 : Value} (hd : 1 ≤ d) (hc : catS st ≤ 8) (hb : Cel g b 12) (hM : MM Γ mX12_told (d - 1) mc' ms' (.ref b :: [x0]) g P I (fun v g' P' I' => E Γ mL_law d mc ms QQ rc rs 1443 lv (v.toList ++ st) g' P' I')) : E Γ mL_law d mc ms QQ (mc' + rc) (ms' + rs) 1440 lv (x0 :: .ref b :: st) g P I := E_callV [x0] rfl dL_law_1440 cc_X12_told w_1573 w_1574 w_1575 (ci := 12) rfl rfl hc (by omega) hb.1 hb.2.1 hb.2.2 hM
