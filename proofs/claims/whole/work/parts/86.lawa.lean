/-! the law itself: its words, rows and call sites -/
theorem w_91 : (Jvm.Cond.classLink "GorgeWireLaw" (7 : Nat) "GorgeWire") ∈ gtb := gt1 21 rfl rfl
theorem w_93 : (Jvm.Cond.methodLink "GorgeWireLaw" (9 : Nat) ({ cls := "GorgeWire", name := "<init>", desc := "()V" } : Jvm.MethodName)) ∈ gtb := gt1 23 rfl rfl
theorem w_94 : (Jvm.Cond.instanceMethod ({ cls := "GorgeWire", name := "<init>", desc := "()V" } : Jvm.MethodName)) ∈ gtb := gt1 24 rfl rfl
theorem w_344 : (Jvm.Cond.methodLink "GorgeWireLaw" (13 : Nat) ({ cls := "GorgeWire", name := "wire", desc := "(II)I" } : Jvm.MethodName)) ∈ gtb := gt2 34 rfl rfl
theorem w_345 : (Jvm.Cond.instanceMethod ({ cls := "GorgeWire", name := "wire", desc := "(II)I" } : Jvm.MethodName)) ∈ gtb := gt2 35 rfl rfl
theorem w_346 : (Jvm.Cond.selects "GorgeWire" ({ cls := "GorgeWire", name := "wire", desc := "(II)I" } : Jvm.MethodName) ({ cls := "GorgeWire", name := "wire", desc := "(II)I" } : Jvm.MethodName)) ∈ gtb := gt2 36 rfl rfl
theorem w_383 : (Jvm.Cond.methodLink "GorgeWireLaw" (18 : Nat) ({ cls := "GorgeWire", name := "depth", desc := "(II)I" } : Jvm.MethodName)) ∈ gtb := gt2 73 rfl rfl
theorem w_384 : (Jvm.Cond.instanceMethod ({ cls := "GorgeWire", name := "depth", desc := "(II)I" } : Jvm.MethodName)) ∈ gtb := gt2 74 rfl rfl
theorem w_385 : (Jvm.Cond.selects "GorgeWire" ({ cls := "GorgeWire", name := "depth", desc := "(II)I" } : Jvm.MethodName) ({ cls := "GorgeWire", name := "depth", desc := "(II)I" } : Jvm.MethodName)) ∈ gtb := gt2 75 rfl rfl
theorem w_406 : (Jvm.Cond.methodLink "GorgeWireLaw" (22 : Nat) ({ cls := "GorgeWire", name := "steep", desc := "(II)I" } : Jvm.MethodName)) ∈ gtb := gt2 96 rfl rfl
theorem w_407 : (Jvm.Cond.instanceMethod ({ cls := "GorgeWire", name := "steep", desc := "(II)I" } : Jvm.MethodName)) ∈ gtb := gt2 97 rfl rfl
theorem w_408 : (Jvm.Cond.selects "GorgeWire" ({ cls := "GorgeWire", name := "steep", desc := "(II)I" } : Jvm.MethodName) ({ cls := "GorgeWire", name := "steep", desc := "(II)I" } : Jvm.MethodName)) ∈ gtb := gt2 98 rfl rfl
theorem w_416 : (Jvm.Cond.methodLink "GorgeWireLaw" (26 : Nat) ({ cls := "GorgeWire", name := "pulled", desc := "(II)I" } : Jvm.MethodName)) ∈ gtb := gt2 106 rfl rfl
theorem w_417 : (Jvm.Cond.instanceMethod ({ cls := "GorgeWire", name := "pulled", desc := "(II)I" } : Jvm.MethodName)) ∈ gtb := gt2 107 rfl rfl
theorem w_418 : (Jvm.Cond.selects "GorgeWire" ({ cls := "GorgeWire", name := "pulled", desc := "(II)I" } : Jvm.MethodName) ({ cls := "GorgeWire", name := "pulled", desc := "(II)I" } : Jvm.MethodName)) ∈ gtb := gt2 108 rfl rfl
theorem w_424 : (Jvm.Cond.methodLink "GorgeWireLaw" (30 : Nat) ({ cls := "GorgeWire", name := "most", desc := "()I" } : Jvm.MethodName)) ∈ gtb := gt2 114 rfl rfl
theorem w_425 : (Jvm.Cond.instanceMethod ({ cls := "GorgeWire", name := "most", desc := "()I" } : Jvm.MethodName)) ∈ gtb := gt2 115 rfl rfl
theorem w_426 : (Jvm.Cond.selects "GorgeWire" ({ cls := "GorgeWire", name := "most", desc := "()I" } : Jvm.MethodName) ({ cls := "GorgeWire", name := "most", desc := "()I" } : Jvm.MethodName)) ∈ gtb := gt2 116 rfl rfl
theorem w_428 : (Jvm.Cond.methodLink "GorgeWireLaw" (35 : Nat) ({ cls := "GorgeWire", name := "tight", desc := "()I" } : Jvm.MethodName)) ∈ gtb := gt2 118 rfl rfl
theorem w_429 : (Jvm.Cond.instanceMethod ({ cls := "GorgeWire", name := "tight", desc := "()I" } : Jvm.MethodName)) ∈ gtb := gt2 119 rfl rfl
theorem w_430 : (Jvm.Cond.selects "GorgeWire" ({ cls := "GorgeWire", name := "tight", desc := "()I" } : Jvm.MethodName) ({ cls := "GorgeWire", name := "tight", desc := "()I" } : Jvm.MethodName)) ∈ gtb := gt2 120 rfl rfl
theorem w_433 : (Jvm.Cond.methodLink "GorgeWireLaw" (39 : Nat) ({ cls := "GorgeWire", name := "ride", desc := "(III)I" } : Jvm.MethodName)) ∈ gtb := gt2 123 rfl rfl
theorem w_434 : (Jvm.Cond.instanceMethod ({ cls := "GorgeWire", name := "ride", desc := "(III)I" } : Jvm.MethodName)) ∈ gtb := gt2 124 rfl rfl
theorem w_435 : (Jvm.Cond.selects "GorgeWire" ({ cls := "GorgeWire", name := "ride", desc := "(III)I" } : Jvm.MethodName) ({ cls := "GorgeWire", name := "ride", desc := "(III)I" } : Jvm.MethodName)) ∈ gtb := gt2 125 rfl rfl
theorem w_683 : (Jvm.Cond.methodLink "GorgeWireLaw" (44 : Nat) ({ cls := "GorgeWire", name := "ofRide", desc := "(II)I" } : Jvm.MethodName)) ∈ gtb := gt3 133 rfl rfl
theorem w_684 : (Jvm.Cond.instanceMethod ({ cls := "GorgeWire", name := "ofRide", desc := "(II)I" } : Jvm.MethodName)) ∈ gtb := gt3 134 rfl rfl
theorem w_685 : (Jvm.Cond.selects "GorgeWire" ({ cls := "GorgeWire", name := "ofRide", desc := "(II)I" } : Jvm.MethodName) ({ cls := "GorgeWire", name := "ofRide", desc := "(II)I" } : Jvm.MethodName)) ∈ gtb := gt3 135 rfl rfl
theorem w_757 : (Jvm.Cond.methodLink "GorgeWireLaw" (48 : Nat) ({ cls := "GorgeWire", name := "as", desc := "(II)I" } : Jvm.MethodName)) ∈ gtb := gt3 207 rfl rfl
theorem w_758 : (Jvm.Cond.instanceMethod ({ cls := "GorgeWire", name := "as", desc := "(II)I" } : Jvm.MethodName)) ∈ gtb := gt3 208 rfl rfl
theorem w_759 : (Jvm.Cond.selects "GorgeWire" ({ cls := "GorgeWire", name := "as", desc := "(II)I" } : Jvm.MethodName) ({ cls := "GorgeWire", name := "as", desc := "(II)I" } : Jvm.MethodName)) ∈ gtb := gt3 209 rfl rfl
theorem w_764 : (Jvm.Cond.methodLink "GorgeWireLaw" (52 : Nat) ({ cls := "GorgeWire", name := "start", desc := "(III)I" } : Jvm.MethodName)) ∈ gtb := gt3 214 rfl rfl
theorem w_765 : (Jvm.Cond.instanceMethod ({ cls := "GorgeWire", name := "start", desc := "(III)I" } : Jvm.MethodName)) ∈ gtb := gt3 215 rfl rfl
theorem w_766 : (Jvm.Cond.selects "GorgeWire" ({ cls := "GorgeWire", name := "start", desc := "(III)I" } : Jvm.MethodName) ({ cls := "GorgeWire", name := "start", desc := "(III)I" } : Jvm.MethodName)) ∈ gtb := gt3 216 rfl rfl
theorem w_769 : (Jvm.Cond.methodLink "GorgeWireLaw" (58 : Nat) ({ cls := "GorgeWire", name := "feed", desc := "(JI)I" } : Jvm.MethodName)) ∈ gtb := gt3 219 rfl rfl
theorem w_770 : (Jvm.Cond.instanceMethod ({ cls := "GorgeWire", name := "feed", desc := "(JI)I" } : Jvm.MethodName)) ∈ gtb := gt3 220 rfl rfl
theorem w_771 : (Jvm.Cond.selects "GorgeWire" ({ cls := "GorgeWire", name := "feed", desc := "(JI)I" } : Jvm.MethodName) ({ cls := "GorgeWire", name := "feed", desc := "(JI)I" } : Jvm.MethodName)) ∈ gtb := gt3 221 rfl rfl
theorem w_774 : (Jvm.Cond.methodLink "GorgeWireLaw" (63 : Nat) ({ cls := "GorgeWire", name := "text", desc := "(I)I" } : Jvm.MethodName)) ∈ gtb := gt3 224 rfl rfl
theorem w_775 : (Jvm.Cond.instanceMethod ({ cls := "GorgeWire", name := "text", desc := "(I)I" } : Jvm.MethodName)) ∈ gtb := gt3 225 rfl rfl
theorem w_776 : (Jvm.Cond.selects "GorgeWire" ({ cls := "GorgeWire", name := "text", desc := "(I)I" } : Jvm.MethodName) ({ cls := "GorgeWire", name := "text", desc := "(I)I" } : Jvm.MethodName)) ∈ gtb := gt3 226 rfl rfl
theorem w_795 : (Jvm.Cond.methodLink "GorgeWireLaw" (68 : Nat) ({ cls := "GorgeWire", name := "law", desc := "(IIIII)I" } : Jvm.MethodName)) ∈ gtb := gt4 5 rfl rfl
theorem w_796 : (Jvm.Cond.instanceMethod ({ cls := "GorgeWire", name := "law", desc := "(IIIII)I" } : Jvm.MethodName)) ∈ gtb := gt4 6 rfl rfl
theorem w_797 : (Jvm.Cond.selects "GorgeWire" ({ cls := "GorgeWire", name := "law", desc := "(IIIII)I" } : Jvm.MethodName) ({ cls := "GorgeWire", name := "law", desc := "(IIIII)I" } : Jvm.MethodName)) ∈ gtb := gt4 7 rfl rfl
theorem w_799 : (Jvm.Cond.methodLink "GorgeWireLaw" (73 : Nat) ({ cls := "GorgeWire", name := "ticks", desc := "(I)I" } : Jvm.MethodName)) ∈ gtb := gt4 9 rfl rfl
theorem w_800 : (Jvm.Cond.instanceMethod ({ cls := "GorgeWire", name := "ticks", desc := "(I)I" } : Jvm.MethodName)) ∈ gtb := gt4 10 rfl rfl
theorem w_801 : (Jvm.Cond.selects "GorgeWire" ({ cls := "GorgeWire", name := "ticks", desc := "(I)I" } : Jvm.MethodName) ({ cls := "GorgeWire", name := "ticks", desc := "(I)I" } : Jvm.MethodName)) ∈ gtb := gt4 11 rfl rfl
theorem w_828 : (Jvm.Cond.methodLink "GorgeWireLaw" (77 : Nat) ({ cls := "GorgeWire", name := "gusts", desc := "(I)I" } : Jvm.MethodName)) ∈ gtb := gt4 38 rfl rfl
theorem w_829 : (Jvm.Cond.instanceMethod ({ cls := "GorgeWire", name := "gusts", desc := "(I)I" } : Jvm.MethodName)) ∈ gtb := gt4 39 rfl rfl
theorem w_830 : (Jvm.Cond.selects "GorgeWire" ({ cls := "GorgeWire", name := "gusts", desc := "(I)I" } : Jvm.MethodName) ({ cls := "GorgeWire", name := "gusts", desc := "(I)I" } : Jvm.MethodName)) ∈ gtb := gt4 40 rfl rfl
theorem w_837 : (Jvm.Cond.methodLink "GorgeWireLaw" (81 : Nat) ({ cls := "GorgeWire", name := "then", desc := "(III)I" } : Jvm.MethodName)) ∈ gtb := gt4 47 rfl rfl
theorem w_838 : (Jvm.Cond.instanceMethod ({ cls := "GorgeWire", name := "then", desc := "(III)I" } : Jvm.MethodName)) ∈ gtb := gt4 48 rfl rfl
theorem w_839 : (Jvm.Cond.selects "GorgeWire" ({ cls := "GorgeWire", name := "then", desc := "(III)I" } : Jvm.MethodName) ({ cls := "GorgeWire", name := "then", desc := "(III)I" } : Jvm.MethodName)) ∈ gtb := gt4 49 rfl rfl
theorem w_859 : (Jvm.Cond.methodLink "GorgeWireLaw" (85 : Nat) ({ cls := "GorgeWire", name := "strands", desc := "(I)I" } : Jvm.MethodName)) ∈ gtb := gt4 69 rfl rfl
theorem w_860 : (Jvm.Cond.instanceMethod ({ cls := "GorgeWire", name := "strands", desc := "(I)I" } : Jvm.MethodName)) ∈ gtb := gt4 70 rfl rfl
theorem w_861 : (Jvm.Cond.selects "GorgeWire" ({ cls := "GorgeWire", name := "strands", desc := "(I)I" } : Jvm.MethodName) ({ cls := "GorgeWire", name := "strands", desc := "(I)I" } : Jvm.MethodName)) ∈ gtb := gt4 71 rfl rfl
theorem w_863 : (Jvm.Cond.methodLink "GorgeWireLaw" (89 : Nat) ({ cls := "GorgeWire", name := "stands", desc := "(I)I" } : Jvm.MethodName)) ∈ gtb := gt4 73 rfl rfl
theorem w_864 : (Jvm.Cond.instanceMethod ({ cls := "GorgeWire", name := "stands", desc := "(I)I" } : Jvm.MethodName)) ∈ gtb := gt4 74 rfl rfl
theorem w_865 : (Jvm.Cond.selects "GorgeWire" ({ cls := "GorgeWire", name := "stands", desc := "(I)I" } : Jvm.MethodName) ({ cls := "GorgeWire", name := "stands", desc := "(I)I" } : Jvm.MethodName)) ∈ gtb := gt4 75 rfl rfl
theorem w_868 : (Jvm.Cond.methodLink "GorgeWireLaw" (93 : Nat) ({ cls := "GorgeWire", name := "comes", desc := "(I)I" } : Jvm.MethodName)) ∈ gtb := gt4 78 rfl rfl
theorem w_869 : (Jvm.Cond.instanceMethod ({ cls := "GorgeWire", name := "comes", desc := "(I)I" } : Jvm.MethodName)) ∈ gtb := gt4 79 rfl rfl
theorem w_870 : (Jvm.Cond.selects "GorgeWire" ({ cls := "GorgeWire", name := "comes", desc := "(I)I" } : Jvm.MethodName) ({ cls := "GorgeWire", name := "comes", desc := "(I)I" } : Jvm.MethodName)) ∈ gtb := gt4 80 rfl rfl
theorem w_876 : (Jvm.Cond.methodLink "GorgeWireLaw" (97 : Nat) ({ cls := "GorgeWire", name := "snug", desc := "(III)I" } : Jvm.MethodName)) ∈ gtb := gt4 86 rfl rfl
theorem w_877 : (Jvm.Cond.instanceMethod ({ cls := "GorgeWire", name := "snug", desc := "(III)I" } : Jvm.MethodName)) ∈ gtb := gt4 87 rfl rfl
theorem w_878 : (Jvm.Cond.selects "GorgeWire" ({ cls := "GorgeWire", name := "snug", desc := "(III)I" } : Jvm.MethodName) ({ cls := "GorgeWire", name := "snug", desc := "(III)I" } : Jvm.MethodName)) ∈ gtb := gt4 88 rfl rfl
theorem w_885 : (Jvm.Cond.methodLink "GorgeWireLaw" (101 : Nat) ({ cls := "GorgeWire", name := "lower", desc := "(II)I" } : Jvm.MethodName)) ∈ gtb := gt4 95 rfl rfl
theorem w_886 : (Jvm.Cond.instanceMethod ({ cls := "GorgeWire", name := "lower", desc := "(II)I" } : Jvm.MethodName)) ∈ gtb := gt4 96 rfl rfl
theorem w_887 : (Jvm.Cond.selects "GorgeWire" ({ cls := "GorgeWire", name := "lower", desc := "(II)I" } : Jvm.MethodName) ({ cls := "GorgeWire", name := "lower", desc := "(II)I" } : Jvm.MethodName)) ∈ gtb := gt4 97 rfl rfl
theorem w_889 : (Jvm.Cond.methodLink "GorgeWireLaw" (105 : Nat) ({ cls := "GorgeWire", name := "line", desc := "(II)I" } : Jvm.MethodName)) ∈ gtb := gt4 99 rfl rfl
theorem w_890 : (Jvm.Cond.instanceMethod ({ cls := "GorgeWire", name := "line", desc := "(II)I" } : Jvm.MethodName)) ∈ gtb := gt4 100 rfl rfl
theorem w_891 : (Jvm.Cond.selects "GorgeWire" ({ cls := "GorgeWire", name := "line", desc := "(II)I" } : Jvm.MethodName) ({ cls := "GorgeWire", name := "line", desc := "(II)I" } : Jvm.MethodName)) ∈ gtb := gt4 101 rfl rfl
theorem w_904 : (Jvm.Cond.methodLink "GorgeWireLaw" (109 : Nat) ({ cls := "GorgeWire", name := "lines", desc := "(I)I" } : Jvm.MethodName)) ∈ gtb := gt4 114 rfl rfl
theorem w_905 : (Jvm.Cond.instanceMethod ({ cls := "GorgeWire", name := "lines", desc := "(I)I" } : Jvm.MethodName)) ∈ gtb := gt4 115 rfl rfl
theorem w_906 : (Jvm.Cond.selects "GorgeWire" ({ cls := "GorgeWire", name := "lines", desc := "(I)I" } : Jvm.MethodName) ({ cls := "GorgeWire", name := "lines", desc := "(I)I" } : Jvm.MethodName)) ∈ gtb := gt4 116 rfl rfl
theorem w_913 : (Jvm.Cond.methodLink "GorgeWireLaw" (113 : Nat) ({ cls := "GorgeWire", name := "over", desc := "(II)I" } : Jvm.MethodName)) ∈ gtb := gt4 123 rfl rfl
theorem w_914 : (Jvm.Cond.instanceMethod ({ cls := "GorgeWire", name := "over", desc := "(II)I" } : Jvm.MethodName)) ∈ gtb := gt4 124 rfl rfl
theorem w_915 : (Jvm.Cond.selects "GorgeWire" ({ cls := "GorgeWire", name := "over", desc := "(II)I" } : Jvm.MethodName) ({ cls := "GorgeWire", name := "over", desc := "(II)I" } : Jvm.MethodName)) ∈ gtb := gt4 125 rfl rfl
theorem w_933 : (Jvm.Cond.methodLink "GorgeWireLaw" (117 : Nat) ({ cls := "GorgeWire", name := "load", desc := "(II)I" } : Jvm.MethodName)) ∈ gtb := gt4 143 rfl rfl
theorem w_934 : (Jvm.Cond.instanceMethod ({ cls := "GorgeWire", name := "load", desc := "(II)I" } : Jvm.MethodName)) ∈ gtb := gt4 144 rfl rfl
theorem w_935 : (Jvm.Cond.selects "GorgeWire" ({ cls := "GorgeWire", name := "load", desc := "(II)I" } : Jvm.MethodName) ({ cls := "GorgeWire", name := "load", desc := "(II)I" } : Jvm.MethodName)) ∈ gtb := gt4 145 rfl rfl
theorem w_937 : (Jvm.Cond.methodLink "GorgeWireLaw" (121 : Nat) ({ cls := "GorgeWire", name := "unload", desc := "()I" } : Jvm.MethodName)) ∈ gtb := gt4 147 rfl rfl
theorem w_938 : (Jvm.Cond.instanceMethod ({ cls := "GorgeWire", name := "unload", desc := "()I" } : Jvm.MethodName)) ∈ gtb := gt4 148 rfl rfl
theorem w_939 : (Jvm.Cond.selects "GorgeWire" ({ cls := "GorgeWire", name := "unload", desc := "()I" } : Jvm.MethodName) ({ cls := "GorgeWire", name := "unload", desc := "()I" } : Jvm.MethodName)) ∈ gtb := gt4 149 rfl rfl
theorem w_941 : (Jvm.Cond.methodLink "GorgeWireLaw" (125 : Nat) ({ cls := "GorgeWire", name := "order", desc := "(I)I" } : Jvm.MethodName)) ∈ gtb := gt4 151 rfl rfl
theorem w_942 : (Jvm.Cond.instanceMethod ({ cls := "GorgeWire", name := "order", desc := "(I)I" } : Jvm.MethodName)) ∈ gtb := gt4 152 rfl rfl
theorem w_943 : (Jvm.Cond.selects "GorgeWire" ({ cls := "GorgeWire", name := "order", desc := "(I)I" } : Jvm.MethodName) ({ cls := "GorgeWire", name := "order", desc := "(I)I" } : Jvm.MethodName)) ∈ gtb := gt4 153 rfl rfl
theorem w_951 : (Jvm.Cond.methodLink "GorgeWireLaw" (129 : Nat) ({ cls := "GorgeWire", name := "bridge", desc := "(II)I" } : Jvm.MethodName)) ∈ gtb := gt4 161 rfl rfl
theorem w_952 : (Jvm.Cond.instanceMethod ({ cls := "GorgeWire", name := "bridge", desc := "(II)I" } : Jvm.MethodName)) ∈ gtb := gt4 162 rfl rfl
theorem w_953 : (Jvm.Cond.selects "GorgeWire" ({ cls := "GorgeWire", name := "bridge", desc := "(II)I" } : Jvm.MethodName) ({ cls := "GorgeWire", name := "bridge", desc := "(II)I" } : Jvm.MethodName)) ∈ gtb := gt4 163 rfl rfl
theorem w_955 : (Jvm.Cond.methodLink "GorgeWireLaw" (133 : Nat) ({ cls := "GorgeWire", name := "seed", desc := "(I)I" } : Jvm.MethodName)) ∈ gtb := gt4 165 rfl rfl
theorem w_956 : (Jvm.Cond.instanceMethod ({ cls := "GorgeWire", name := "seed", desc := "(I)I" } : Jvm.MethodName)) ∈ gtb := gt4 166 rfl rfl
theorem w_957 : (Jvm.Cond.selects "GorgeWire" ({ cls := "GorgeWire", name := "seed", desc := "(I)I" } : Jvm.MethodName) ({ cls := "GorgeWire", name := "seed", desc := "(I)I" } : Jvm.MethodName)) ∈ gtb := gt4 167 rfl rfl
theorem w_959 : (Jvm.Cond.methodLink "GorgeWireLaw" (137 : Nat) ({ cls := "GorgeWire", name := "voice", desc := "(III)I" } : Jvm.MethodName)) ∈ gtb := gt4 169 rfl rfl
theorem w_960 : (Jvm.Cond.instanceMethod ({ cls := "GorgeWire", name := "voice", desc := "(III)I" } : Jvm.MethodName)) ∈ gtb := gt4 170 rfl rfl
theorem w_961 : (Jvm.Cond.selects "GorgeWire" ({ cls := "GorgeWire", name := "voice", desc := "(III)I" } : Jvm.MethodName) ({ cls := "GorgeWire", name := "voice", desc := "(III)I" } : Jvm.MethodName)) ∈ gtb := gt4 171 rfl rfl
theorem w_1048 : (Jvm.Cond.methodLink "GorgeWireLaw" (141 : Nat) ({ cls := "GorgeWire", name := "trace", desc := "(I)I" } : Jvm.MethodName)) ∈ gtb := gt5 18 rfl rfl
theorem w_1049 : (Jvm.Cond.instanceMethod ({ cls := "GorgeWire", name := "trace", desc := "(I)I" } : Jvm.MethodName)) ∈ gtb := gt5 19 rfl rfl
theorem w_1050 : (Jvm.Cond.selects "GorgeWire" ({ cls := "GorgeWire", name := "trace", desc := "(I)I" } : Jvm.MethodName) ({ cls := "GorgeWire", name := "trace", desc := "(I)I" } : Jvm.MethodName)) ∈ gtb := gt5 20 rfl rfl
theorem w_1052 : (Jvm.Cond.methodLink "GorgeWireLaw" (145 : Nat) ({ cls := "GorgeWire", name := "sheet", desc := "(III)I" } : Jvm.MethodName)) ∈ gtb := gt5 22 rfl rfl
theorem w_1053 : (Jvm.Cond.instanceMethod ({ cls := "GorgeWire", name := "sheet", desc := "(III)I" } : Jvm.MethodName)) ∈ gtb := gt5 23 rfl rfl
theorem w_1054 : (Jvm.Cond.selects "GorgeWire" ({ cls := "GorgeWire", name := "sheet", desc := "(III)I" } : Jvm.MethodName) ({ cls := "GorgeWire", name := "sheet", desc := "(III)I" } : Jvm.MethodName)) ∈ gtb := gt5 24 rfl rfl
theorem w_1061 : (Jvm.Cond.methodLink "GorgeWireLaw" (149 : Nat) ({ cls := "GorgeWire", name := "put", desc := "(III)I" } : Jvm.MethodName)) ∈ gtb := gt5 31 rfl rfl
theorem w_1062 : (Jvm.Cond.instanceMethod ({ cls := "GorgeWire", name := "put", desc := "(III)I" } : Jvm.MethodName)) ∈ gtb := gt5 32 rfl rfl
theorem w_1063 : (Jvm.Cond.selects "GorgeWire" ({ cls := "GorgeWire", name := "put", desc := "(III)I" } : Jvm.MethodName) ({ cls := "GorgeWire", name := "put", desc := "(III)I" } : Jvm.MethodName)) ∈ gtb := gt5 33 rfl rfl
theorem w_1072 : (Jvm.Cond.methodLink "GorgeWireLaw" (153 : Nat) ({ cls := "GorgeWire", name := "move", desc := "(IIIII)I" } : Jvm.MethodName)) ∈ gtb := gt5 42 rfl rfl
theorem w_1073 : (Jvm.Cond.instanceMethod ({ cls := "GorgeWire", name := "move", desc := "(IIIII)I" } : Jvm.MethodName)) ∈ gtb := gt5 43 rfl rfl
theorem w_1074 : (Jvm.Cond.selects "GorgeWire" ({ cls := "GorgeWire", name := "move", desc := "(IIIII)I" } : Jvm.MethodName) ({ cls := "GorgeWire", name := "move", desc := "(IIIII)I" } : Jvm.MethodName)) ∈ gtb := gt5 44 rfl rfl
theorem w_1080 : (Jvm.Cond.methodLink "GorgeWireLaw" (157 : Nat) ({ cls := "GorgeWire", name := "image", desc := "()I" } : Jvm.MethodName)) ∈ gtb := gt5 50 rfl rfl
theorem w_1081 : (Jvm.Cond.instanceMethod ({ cls := "GorgeWire", name := "image", desc := "()I" } : Jvm.MethodName)) ∈ gtb := gt5 51 rfl rfl
theorem w_1082 : (Jvm.Cond.selects "GorgeWire" ({ cls := "GorgeWire", name := "image", desc := "()I" } : Jvm.MethodName) ({ cls := "GorgeWire", name := "image", desc := "()I" } : Jvm.MethodName)) ∈ gtb := gt5 52 rfl rfl
theorem w_1084 : (Jvm.Cond.methodLink "GorgeWireLaw" (161 : Nat) ({ cls := "GorgeWire", name := "restore", desc := "()I" } : Jvm.MethodName)) ∈ gtb := gt5 54 rfl rfl
theorem w_1085 : (Jvm.Cond.instanceMethod ({ cls := "GorgeWire", name := "restore", desc := "()I" } : Jvm.MethodName)) ∈ gtb := gt5 55 rfl rfl
theorem w_1086 : (Jvm.Cond.selects "GorgeWire" ({ cls := "GorgeWire", name := "restore", desc := "()I" } : Jvm.MethodName) ({ cls := "GorgeWire", name := "restore", desc := "()I" } : Jvm.MethodName)) ∈ gtb := gt5 56 rfl rfl
theorem w_1088 : (Jvm.Cond.methodLink "GorgeWireLaw" (165 : Nat) ({ cls := "GorgeWire", name := "tell", desc := "(I)I" } : Jvm.MethodName)) ∈ gtb := gt5 58 rfl rfl
theorem w_1089 : (Jvm.Cond.instanceMethod ({ cls := "GorgeWire", name := "tell", desc := "(I)I" } : Jvm.MethodName)) ∈ gtb := gt5 59 rfl rfl
theorem w_1090 : (Jvm.Cond.selects "GorgeWire" ({ cls := "GorgeWire", name := "tell", desc := "(I)I" } : Jvm.MethodName) ({ cls := "GorgeWire", name := "tell", desc := "(I)I" } : Jvm.MethodName)) ∈ gtb := gt5 60 rfl rfl
theorem w_1092 : (Jvm.Cond.methodLink "GorgeWireLaw" (169 : Nat) ({ cls := "GorgeWire", name := "check", desc := "(I)I" } : Jvm.MethodName)) ∈ gtb := gt5 62 rfl rfl
theorem w_1093 : (Jvm.Cond.instanceMethod ({ cls := "GorgeWire", name := "check", desc := "(I)I" } : Jvm.MethodName)) ∈ gtb := gt5 63 rfl rfl
theorem w_1094 : (Jvm.Cond.selects "GorgeWire" ({ cls := "GorgeWire", name := "check", desc := "(I)I" } : Jvm.MethodName) ({ cls := "GorgeWire", name := "check", desc := "(I)I" } : Jvm.MethodName)) ∈ gtb := gt5 64 rfl rfl
theorem w_1096 : (Jvm.Cond.methodLink "GorgeWireLaw" (173 : Nat) ({ cls := "GorgeWire", name := "count", desc := "(I)I" } : Jvm.MethodName)) ∈ gtb := gt5 66 rfl rfl
theorem w_1097 : (Jvm.Cond.instanceMethod ({ cls := "GorgeWire", name := "count", desc := "(I)I" } : Jvm.MethodName)) ∈ gtb := gt5 67 rfl rfl
theorem w_1098 : (Jvm.Cond.selects "GorgeWire" ({ cls := "GorgeWire", name := "count", desc := "(I)I" } : Jvm.MethodName) ({ cls := "GorgeWire", name := "count", desc := "(I)I" } : Jvm.MethodName)) ∈ gtb := gt5 68 rfl rfl
theorem w_1104 : (Jvm.Cond.methodLink "GorgeWireLaw" (177 : Nat) ({ cls := "GorgeWire", name := "told", desc := "(I)I" } : Jvm.MethodName)) ∈ gtb := gt5 74 rfl rfl
theorem w_1105 : (Jvm.Cond.instanceMethod ({ cls := "GorgeWire", name := "told", desc := "(I)I" } : Jvm.MethodName)) ∈ gtb := gt5 75 rfl rfl
theorem w_1106 : (Jvm.Cond.selects "GorgeWire" ({ cls := "GorgeWire", name := "told", desc := "(I)I" } : Jvm.MethodName) ({ cls := "GorgeWire", name := "told", desc := "(I)I" } : Jvm.MethodName)) ∈ gtb := gt5 76 rfl rfl
theorem w_1108 : (Jvm.Cond.classLink "GorgeWireLaw" (10 : Nat) "GorgeWireModel") ∈ gtb := gt5 78 rfl rfl
theorem w_1110 : (Jvm.Cond.methodLink "GorgeWireLaw" (12 : Nat) ({ cls := "GorgeWireModel", name := "<init>", desc := "()V" } : Jvm.MethodName)) ∈ gtb := gt5 80 rfl rfl
theorem w_1111 : (Jvm.Cond.instanceMethod ({ cls := "GorgeWireModel", name := "<init>", desc := "()V" } : Jvm.MethodName)) ∈ gtb := gt5 81 rfl rfl
theorem w_1201 : (Jvm.Cond.methodLink "GorgeWireLaw" (17 : Nat) ({ cls := "GorgeWireModel", name := "wire", desc := "(II)I" } : Jvm.MethodName)) ∈ gtb := gt5 171 rfl rfl
theorem w_1202 : (Jvm.Cond.instanceMethod ({ cls := "GorgeWireModel", name := "wire", desc := "(II)I" } : Jvm.MethodName)) ∈ gtb := gt5 172 rfl rfl
theorem w_1203 : (Jvm.Cond.selects "GorgeWireModel" ({ cls := "GorgeWireModel", name := "wire", desc := "(II)I" } : Jvm.MethodName) ({ cls := "GorgeWireModel", name := "wire", desc := "(II)I" } : Jvm.MethodName)) ∈ gtb := gt5 173 rfl rfl
theorem w_1227 : (Jvm.Cond.methodLink "GorgeWireLaw" (38 : Nat) ({ cls := "GorgeWireModel", name := "tight", desc := "()I" } : Jvm.MethodName)) ∈ gtb := gt5 197 rfl rfl
theorem w_1228 : (Jvm.Cond.instanceMethod ({ cls := "GorgeWireModel", name := "tight", desc := "()I" } : Jvm.MethodName)) ∈ gtb := gt5 198 rfl rfl
theorem w_1229 : (Jvm.Cond.selects "GorgeWireModel" ({ cls := "GorgeWireModel", name := "tight", desc := "()I" } : Jvm.MethodName) ({ cls := "GorgeWireModel", name := "tight", desc := "()I" } : Jvm.MethodName)) ∈ gtb := gt5 199 rfl rfl
theorem w_1236 : (Jvm.Cond.methodLink "GorgeWireLaw" (21 : Nat) ({ cls := "GorgeWireModel", name := "depth", desc := "(II)I" } : Jvm.MethodName)) ∈ gtb := gt5 206 rfl rfl
theorem w_1237 : (Jvm.Cond.instanceMethod ({ cls := "GorgeWireModel", name := "depth", desc := "(II)I" } : Jvm.MethodName)) ∈ gtb := gt5 207 rfl rfl
theorem w_1238 : (Jvm.Cond.selects "GorgeWireModel" ({ cls := "GorgeWireModel", name := "depth", desc := "(II)I" } : Jvm.MethodName) ({ cls := "GorgeWireModel", name := "depth", desc := "(II)I" } : Jvm.MethodName)) ∈ gtb := gt5 208 rfl rfl
theorem w_1250 : (Jvm.Cond.methodLink "GorgeWireLaw" (25 : Nat) ({ cls := "GorgeWireModel", name := "steep", desc := "(II)I" } : Jvm.MethodName)) ∈ gtb := gt5 220 rfl rfl
theorem w_1251 : (Jvm.Cond.instanceMethod ({ cls := "GorgeWireModel", name := "steep", desc := "(II)I" } : Jvm.MethodName)) ∈ gtb := gt5 221 rfl rfl
theorem w_1252 : (Jvm.Cond.selects "GorgeWireModel" ({ cls := "GorgeWireModel", name := "steep", desc := "(II)I" } : Jvm.MethodName) ({ cls := "GorgeWireModel", name := "steep", desc := "(II)I" } : Jvm.MethodName)) ∈ gtb := gt5 222 rfl rfl
theorem w_1258 : (Jvm.Cond.methodLink "GorgeWireLaw" (29 : Nat) ({ cls := "GorgeWireModel", name := "pulled", desc := "(II)I" } : Jvm.MethodName)) ∈ gtb := gt5 228 rfl rfl
theorem w_1259 : (Jvm.Cond.instanceMethod ({ cls := "GorgeWireModel", name := "pulled", desc := "(II)I" } : Jvm.MethodName)) ∈ gtb := gt5 229 rfl rfl
theorem w_1260 : (Jvm.Cond.selects "GorgeWireModel" ({ cls := "GorgeWireModel", name := "pulled", desc := "(II)I" } : Jvm.MethodName) ({ cls := "GorgeWireModel", name := "pulled", desc := "(II)I" } : Jvm.MethodName)) ∈ gtb := gt5 230 rfl rfl
theorem w_1267 : (Jvm.Cond.methodLink "GorgeWireLaw" (34 : Nat) ({ cls := "GorgeWireModel", name := "most", desc := "()I" } : Jvm.MethodName)) ∈ gtb := gt5 237 rfl rfl
theorem w_1268 : (Jvm.Cond.instanceMethod ({ cls := "GorgeWireModel", name := "most", desc := "()I" } : Jvm.MethodName)) ∈ gtb := gt5 238 rfl rfl
theorem w_1269 : (Jvm.Cond.selects "GorgeWireModel" ({ cls := "GorgeWireModel", name := "most", desc := "()I" } : Jvm.MethodName) ({ cls := "GorgeWireModel", name := "most", desc := "()I" } : Jvm.MethodName)) ∈ gtb := gt5 239 rfl rfl
theorem w_1276 : (Jvm.Cond.methodLink "GorgeWireLaw" (43 : Nat) ({ cls := "GorgeWireModel", name := "ride", desc := "(III)I" } : Jvm.MethodName)) ∈ gtb := gt6 6 rfl rfl
theorem w_1277 : (Jvm.Cond.instanceMethod ({ cls := "GorgeWireModel", name := "ride", desc := "(III)I" } : Jvm.MethodName)) ∈ gtb := gt6 7 rfl rfl
theorem w_1278 : (Jvm.Cond.selects "GorgeWireModel" ({ cls := "GorgeWireModel", name := "ride", desc := "(III)I" } : Jvm.MethodName) ({ cls := "GorgeWireModel", name := "ride", desc := "(III)I" } : Jvm.MethodName)) ∈ gtb := gt6 8 rfl rfl
theorem w_1296 : (Jvm.Cond.methodLink "GorgeWireLaw" (47 : Nat) ({ cls := "GorgeWireModel", name := "ofRide", desc := "(II)I" } : Jvm.MethodName)) ∈ gtb := gt6 26 rfl rfl
theorem w_1297 : (Jvm.Cond.instanceMethod ({ cls := "GorgeWireModel", name := "ofRide", desc := "(II)I" } : Jvm.MethodName)) ∈ gtb := gt6 27 rfl rfl
theorem w_1298 : (Jvm.Cond.selects "GorgeWireModel" ({ cls := "GorgeWireModel", name := "ofRide", desc := "(II)I" } : Jvm.MethodName) ({ cls := "GorgeWireModel", name := "ofRide", desc := "(II)I" } : Jvm.MethodName)) ∈ gtb := gt6 28 rfl rfl
theorem w_1320 : (Jvm.Cond.methodLink "GorgeWireLaw" (51 : Nat) ({ cls := "GorgeWireModel", name := "as", desc := "(II)I" } : Jvm.MethodName)) ∈ gtb := gt6 50 rfl rfl
theorem w_1321 : (Jvm.Cond.instanceMethod ({ cls := "GorgeWireModel", name := "as", desc := "(II)I" } : Jvm.MethodName)) ∈ gtb := gt6 51 rfl rfl
theorem w_1322 : (Jvm.Cond.selects "GorgeWireModel" ({ cls := "GorgeWireModel", name := "as", desc := "(II)I" } : Jvm.MethodName) ({ cls := "GorgeWireModel", name := "as", desc := "(II)I" } : Jvm.MethodName)) ∈ gtb := gt6 52 rfl rfl
theorem w_1328 : (Jvm.Cond.methodLink "GorgeWireLaw" (55 : Nat) ({ cls := "GorgeWireModel", name := "start", desc := "(III)I" } : Jvm.MethodName)) ∈ gtb := gt6 58 rfl rfl
theorem w_1329 : (Jvm.Cond.instanceMethod ({ cls := "GorgeWireModel", name := "start", desc := "(III)I" } : Jvm.MethodName)) ∈ gtb := gt6 59 rfl rfl
theorem w_1330 : (Jvm.Cond.selects "GorgeWireModel" ({ cls := "GorgeWireModel", name := "start", desc := "(III)I" } : Jvm.MethodName) ({ cls := "GorgeWireModel", name := "start", desc := "(III)I" } : Jvm.MethodName)) ∈ gtb := gt6 60 rfl rfl
theorem w_1332 : (Jvm.Cond.methodLink "GorgeWireLaw" (62 : Nat) ({ cls := "GorgeWireModel", name := "feed", desc := "(JI)I" } : Jvm.MethodName)) ∈ gtb := gt6 62 rfl rfl
theorem w_1333 : (Jvm.Cond.instanceMethod ({ cls := "GorgeWireModel", name := "feed", desc := "(JI)I" } : Jvm.MethodName)) ∈ gtb := gt6 63 rfl rfl
theorem w_1334 : (Jvm.Cond.selects "GorgeWireModel" ({ cls := "GorgeWireModel", name := "feed", desc := "(JI)I" } : Jvm.MethodName) ({ cls := "GorgeWireModel", name := "feed", desc := "(JI)I" } : Jvm.MethodName)) ∈ gtb := gt6 64 rfl rfl
theorem w_1337 : (Jvm.Cond.methodLink "GorgeWireLaw" (67 : Nat) ({ cls := "GorgeWireModel", name := "text", desc := "(I)I" } : Jvm.MethodName)) ∈ gtb := gt6 67 rfl rfl
theorem w_1338 : (Jvm.Cond.instanceMethod ({ cls := "GorgeWireModel", name := "text", desc := "(I)I" } : Jvm.MethodName)) ∈ gtb := gt6 68 rfl rfl
theorem w_1339 : (Jvm.Cond.selects "GorgeWireModel" ({ cls := "GorgeWireModel", name := "text", desc := "(I)I" } : Jvm.MethodName) ({ cls := "GorgeWireModel", name := "text", desc := "(I)I" } : Jvm.MethodName)) ∈ gtb := gt6 69 rfl rfl
theorem w_1383 : (Jvm.Cond.methodLink "GorgeWireLaw" (72 : Nat) ({ cls := "GorgeWireModel", name := "law", desc := "(IIIII)I" } : Jvm.MethodName)) ∈ gtb := gt6 113 rfl rfl
theorem w_1384 : (Jvm.Cond.instanceMethod ({ cls := "GorgeWireModel", name := "law", desc := "(IIIII)I" } : Jvm.MethodName)) ∈ gtb := gt6 114 rfl rfl
theorem w_1385 : (Jvm.Cond.selects "GorgeWireModel" ({ cls := "GorgeWireModel", name := "law", desc := "(IIIII)I" } : Jvm.MethodName) ({ cls := "GorgeWireModel", name := "law", desc := "(IIIII)I" } : Jvm.MethodName)) ∈ gtb := gt6 115 rfl rfl
theorem w_1387 : (Jvm.Cond.methodLink "GorgeWireLaw" (76 : Nat) ({ cls := "GorgeWireModel", name := "ticks", desc := "(I)I" } : Jvm.MethodName)) ∈ gtb := gt6 117 rfl rfl
theorem w_1388 : (Jvm.Cond.instanceMethod ({ cls := "GorgeWireModel", name := "ticks", desc := "(I)I" } : Jvm.MethodName)) ∈ gtb := gt6 118 rfl rfl
theorem w_1389 : (Jvm.Cond.selects "GorgeWireModel" ({ cls := "GorgeWireModel", name := "ticks", desc := "(I)I" } : Jvm.MethodName) ({ cls := "GorgeWireModel", name := "ticks", desc := "(I)I" } : Jvm.MethodName)) ∈ gtb := gt6 119 rfl rfl
theorem w_1414 : (Jvm.Cond.methodLink "GorgeWireLaw" (80 : Nat) ({ cls := "GorgeWireModel", name := "gusts", desc := "(I)I" } : Jvm.MethodName)) ∈ gtb := gt6 144 rfl rfl
theorem w_1415 : (Jvm.Cond.instanceMethod ({ cls := "GorgeWireModel", name := "gusts", desc := "(I)I" } : Jvm.MethodName)) ∈ gtb := gt6 145 rfl rfl
theorem w_1416 : (Jvm.Cond.selects "GorgeWireModel" ({ cls := "GorgeWireModel", name := "gusts", desc := "(I)I" } : Jvm.MethodName) ({ cls := "GorgeWireModel", name := "gusts", desc := "(I)I" } : Jvm.MethodName)) ∈ gtb := gt6 146 rfl rfl
theorem w_1423 : (Jvm.Cond.methodLink "GorgeWireLaw" (84 : Nat) ({ cls := "GorgeWireModel", name := "then", desc := "(III)I" } : Jvm.MethodName)) ∈ gtb := gt6 153 rfl rfl
theorem w_1424 : (Jvm.Cond.instanceMethod ({ cls := "GorgeWireModel", name := "then", desc := "(III)I" } : Jvm.MethodName)) ∈ gtb := gt6 154 rfl rfl
theorem w_1425 : (Jvm.Cond.selects "GorgeWireModel" ({ cls := "GorgeWireModel", name := "then", desc := "(III)I" } : Jvm.MethodName) ({ cls := "GorgeWireModel", name := "then", desc := "(III)I" } : Jvm.MethodName)) ∈ gtb := gt6 155 rfl rfl
theorem w_1437 : (Jvm.Cond.methodLink "GorgeWireLaw" (88 : Nat) ({ cls := "GorgeWireModel", name := "strands", desc := "(I)I" } : Jvm.MethodName)) ∈ gtb := gt6 167 rfl rfl
theorem w_1438 : (Jvm.Cond.instanceMethod ({ cls := "GorgeWireModel", name := "strands", desc := "(I)I" } : Jvm.MethodName)) ∈ gtb := gt6 168 rfl rfl
theorem w_1439 : (Jvm.Cond.selects "GorgeWireModel" ({ cls := "GorgeWireModel", name := "strands", desc := "(I)I" } : Jvm.MethodName) ({ cls := "GorgeWireModel", name := "strands", desc := "(I)I" } : Jvm.MethodName)) ∈ gtb := gt6 169 rfl rfl
theorem w_1441 : (Jvm.Cond.methodLink "GorgeWireLaw" (92 : Nat) ({ cls := "GorgeWireModel", name := "stands", desc := "(I)I" } : Jvm.MethodName)) ∈ gtb := gt6 171 rfl rfl
theorem w_1442 : (Jvm.Cond.instanceMethod ({ cls := "GorgeWireModel", name := "stands", desc := "(I)I" } : Jvm.MethodName)) ∈ gtb := gt6 172 rfl rfl
theorem w_1443 : (Jvm.Cond.selects "GorgeWireModel" ({ cls := "GorgeWireModel", name := "stands", desc := "(I)I" } : Jvm.MethodName) ({ cls := "GorgeWireModel", name := "stands", desc := "(I)I" } : Jvm.MethodName)) ∈ gtb := gt6 173 rfl rfl
theorem w_1445 : (Jvm.Cond.methodLink "GorgeWireLaw" (96 : Nat) ({ cls := "GorgeWireModel", name := "comes", desc := "(I)I" } : Jvm.MethodName)) ∈ gtb := gt6 175 rfl rfl
theorem w_1446 : (Jvm.Cond.instanceMethod ({ cls := "GorgeWireModel", name := "comes", desc := "(I)I" } : Jvm.MethodName)) ∈ gtb := gt6 176 rfl rfl
theorem w_1447 : (Jvm.Cond.selects "GorgeWireModel" ({ cls := "GorgeWireModel", name := "comes", desc := "(I)I" } : Jvm.MethodName) ({ cls := "GorgeWireModel", name := "comes", desc := "(I)I" } : Jvm.MethodName)) ∈ gtb := gt6 177 rfl rfl
theorem w_1453 : (Jvm.Cond.methodLink "GorgeWireLaw" (100 : Nat) ({ cls := "GorgeWireModel", name := "snug", desc := "(III)I" } : Jvm.MethodName)) ∈ gtb := gt6 183 rfl rfl
theorem w_1454 : (Jvm.Cond.instanceMethod ({ cls := "GorgeWireModel", name := "snug", desc := "(III)I" } : Jvm.MethodName)) ∈ gtb := gt6 184 rfl rfl
theorem w_1455 : (Jvm.Cond.selects "GorgeWireModel" ({ cls := "GorgeWireModel", name := "snug", desc := "(III)I" } : Jvm.MethodName) ({ cls := "GorgeWireModel", name := "snug", desc := "(III)I" } : Jvm.MethodName)) ∈ gtb := gt6 185 rfl rfl
theorem w_1461 : (Jvm.Cond.methodLink "GorgeWireLaw" (104 : Nat) ({ cls := "GorgeWireModel", name := "lower", desc := "(II)I" } : Jvm.MethodName)) ∈ gtb := gt6 191 rfl rfl
theorem w_1462 : (Jvm.Cond.instanceMethod ({ cls := "GorgeWireModel", name := "lower", desc := "(II)I" } : Jvm.MethodName)) ∈ gtb := gt6 192 rfl rfl
theorem w_1463 : (Jvm.Cond.selects "GorgeWireModel" ({ cls := "GorgeWireModel", name := "lower", desc := "(II)I" } : Jvm.MethodName) ({ cls := "GorgeWireModel", name := "lower", desc := "(II)I" } : Jvm.MethodName)) ∈ gtb := gt6 193 rfl rfl
theorem w_1465 : (Jvm.Cond.methodLink "GorgeWireLaw" (108 : Nat) ({ cls := "GorgeWireModel", name := "line", desc := "(II)I" } : Jvm.MethodName)) ∈ gtb := gt6 195 rfl rfl
theorem w_1466 : (Jvm.Cond.instanceMethod ({ cls := "GorgeWireModel", name := "line", desc := "(II)I" } : Jvm.MethodName)) ∈ gtb := gt6 196 rfl rfl
theorem w_1467 : (Jvm.Cond.selects "GorgeWireModel" ({ cls := "GorgeWireModel", name := "line", desc := "(II)I" } : Jvm.MethodName) ({ cls := "GorgeWireModel", name := "line", desc := "(II)I" } : Jvm.MethodName)) ∈ gtb := gt6 197 rfl rfl
theorem w_1476 : (Jvm.Cond.methodLink "GorgeWireLaw" (112 : Nat) ({ cls := "GorgeWireModel", name := "lines", desc := "(I)I" } : Jvm.MethodName)) ∈ gtb := gt6 206 rfl rfl
theorem w_1477 : (Jvm.Cond.instanceMethod ({ cls := "GorgeWireModel", name := "lines", desc := "(I)I" } : Jvm.MethodName)) ∈ gtb := gt6 207 rfl rfl
theorem w_1478 : (Jvm.Cond.selects "GorgeWireModel" ({ cls := "GorgeWireModel", name := "lines", desc := "(I)I" } : Jvm.MethodName) ({ cls := "GorgeWireModel", name := "lines", desc := "(I)I" } : Jvm.MethodName)) ∈ gtb := gt6 208 rfl rfl
theorem w_1483 : (Jvm.Cond.methodLink "GorgeWireLaw" (116 : Nat) ({ cls := "GorgeWireModel", name := "over", desc := "(II)I" } : Jvm.MethodName)) ∈ gtb := gt6 213 rfl rfl
theorem w_1484 : (Jvm.Cond.instanceMethod ({ cls := "GorgeWireModel", name := "over", desc := "(II)I" } : Jvm.MethodName)) ∈ gtb := gt6 214 rfl rfl
theorem w_1485 : (Jvm.Cond.selects "GorgeWireModel" ({ cls := "GorgeWireModel", name := "over", desc := "(II)I" } : Jvm.MethodName) ({ cls := "GorgeWireModel", name := "over", desc := "(II)I" } : Jvm.MethodName)) ∈ gtb := gt6 215 rfl rfl
theorem w_1495 : (Jvm.Cond.methodLink "GorgeWireLaw" (120 : Nat) ({ cls := "GorgeWireModel", name := "load", desc := "(II)I" } : Jvm.MethodName)) ∈ gtb := gt6 225 rfl rfl
theorem w_1496 : (Jvm.Cond.instanceMethod ({ cls := "GorgeWireModel", name := "load", desc := "(II)I" } : Jvm.MethodName)) ∈ gtb := gt6 226 rfl rfl
theorem w_1497 : (Jvm.Cond.selects "GorgeWireModel" ({ cls := "GorgeWireModel", name := "load", desc := "(II)I" } : Jvm.MethodName) ({ cls := "GorgeWireModel", name := "load", desc := "(II)I" } : Jvm.MethodName)) ∈ gtb := gt6 227 rfl rfl
theorem w_1499 : (Jvm.Cond.methodLink "GorgeWireLaw" (124 : Nat) ({ cls := "GorgeWireModel", name := "unload", desc := "()I" } : Jvm.MethodName)) ∈ gtb := gt6 229 rfl rfl
theorem w_1500 : (Jvm.Cond.instanceMethod ({ cls := "GorgeWireModel", name := "unload", desc := "()I" } : Jvm.MethodName)) ∈ gtb := gt6 230 rfl rfl
theorem w_1501 : (Jvm.Cond.selects "GorgeWireModel" ({ cls := "GorgeWireModel", name := "unload", desc := "()I" } : Jvm.MethodName) ({ cls := "GorgeWireModel", name := "unload", desc := "()I" } : Jvm.MethodName)) ∈ gtb := gt6 231 rfl rfl
theorem w_1503 : (Jvm.Cond.methodLink "GorgeWireLaw" (128 : Nat) ({ cls := "GorgeWireModel", name := "order", desc := "(I)I" } : Jvm.MethodName)) ∈ gtb := gt6 233 rfl rfl
theorem w_1504 : (Jvm.Cond.instanceMethod ({ cls := "GorgeWireModel", name := "order", desc := "(I)I" } : Jvm.MethodName)) ∈ gtb := gt6 234 rfl rfl
theorem w_1505 : (Jvm.Cond.selects "GorgeWireModel" ({ cls := "GorgeWireModel", name := "order", desc := "(I)I" } : Jvm.MethodName) ({ cls := "GorgeWireModel", name := "order", desc := "(I)I" } : Jvm.MethodName)) ∈ gtb := gt6 235 rfl rfl
theorem w_1511 : (Jvm.Cond.methodLink "GorgeWireLaw" (132 : Nat) ({ cls := "GorgeWireModel", name := "bridge", desc := "(II)I" } : Jvm.MethodName)) ∈ gtb := gt7 1 rfl rfl
theorem w_1512 : (Jvm.Cond.instanceMethod ({ cls := "GorgeWireModel", name := "bridge", desc := "(II)I" } : Jvm.MethodName)) ∈ gtb := gt7 2 rfl rfl
theorem w_1513 : (Jvm.Cond.selects "GorgeWireModel" ({ cls := "GorgeWireModel", name := "bridge", desc := "(II)I" } : Jvm.MethodName) ({ cls := "GorgeWireModel", name := "bridge", desc := "(II)I" } : Jvm.MethodName)) ∈ gtb := gt7 3 rfl rfl
theorem w_1515 : (Jvm.Cond.methodLink "GorgeWireLaw" (136 : Nat) ({ cls := "GorgeWireModel", name := "seed", desc := "(I)I" } : Jvm.MethodName)) ∈ gtb := gt7 5 rfl rfl
theorem w_1516 : (Jvm.Cond.instanceMethod ({ cls := "GorgeWireModel", name := "seed", desc := "(I)I" } : Jvm.MethodName)) ∈ gtb := gt7 6 rfl rfl
theorem w_1517 : (Jvm.Cond.selects "GorgeWireModel" ({ cls := "GorgeWireModel", name := "seed", desc := "(I)I" } : Jvm.MethodName) ({ cls := "GorgeWireModel", name := "seed", desc := "(I)I" } : Jvm.MethodName)) ∈ gtb := gt7 7 rfl rfl
theorem w_1519 : (Jvm.Cond.methodLink "GorgeWireLaw" (140 : Nat) ({ cls := "GorgeWireModel", name := "voice", desc := "(III)I" } : Jvm.MethodName)) ∈ gtb := gt7 9 rfl rfl
theorem w_1520 : (Jvm.Cond.instanceMethod ({ cls := "GorgeWireModel", name := "voice", desc := "(III)I" } : Jvm.MethodName)) ∈ gtb := gt7 10 rfl rfl
theorem w_1521 : (Jvm.Cond.selects "GorgeWireModel" ({ cls := "GorgeWireModel", name := "voice", desc := "(III)I" } : Jvm.MethodName) ({ cls := "GorgeWireModel", name := "voice", desc := "(III)I" } : Jvm.MethodName)) ∈ gtb := gt7 11 rfl rfl
theorem w_1542 : (Jvm.Cond.methodLink "GorgeWireLaw" (144 : Nat) ({ cls := "GorgeWireModel", name := "trace", desc := "(I)I" } : Jvm.MethodName)) ∈ gtb := gt7 32 rfl rfl
theorem w_1543 : (Jvm.Cond.instanceMethod ({ cls := "GorgeWireModel", name := "trace", desc := "(I)I" } : Jvm.MethodName)) ∈ gtb := gt7 33 rfl rfl
theorem w_1544 : (Jvm.Cond.selects "GorgeWireModel" ({ cls := "GorgeWireModel", name := "trace", desc := "(I)I" } : Jvm.MethodName) ({ cls := "GorgeWireModel", name := "trace", desc := "(I)I" } : Jvm.MethodName)) ∈ gtb := gt7 34 rfl rfl
theorem w_1546 : (Jvm.Cond.methodLink "GorgeWireLaw" (148 : Nat) ({ cls := "GorgeWireModel", name := "sheet", desc := "(III)I" } : Jvm.MethodName)) ∈ gtb := gt7 36 rfl rfl
theorem w_1547 : (Jvm.Cond.instanceMethod ({ cls := "GorgeWireModel", name := "sheet", desc := "(III)I" } : Jvm.MethodName)) ∈ gtb := gt7 37 rfl rfl
theorem w_1548 : (Jvm.Cond.selects "GorgeWireModel" ({ cls := "GorgeWireModel", name := "sheet", desc := "(III)I" } : Jvm.MethodName) ({ cls := "GorgeWireModel", name := "sheet", desc := "(III)I" } : Jvm.MethodName)) ∈ gtb := gt7 38 rfl rfl
theorem w_1550 : (Jvm.Cond.methodLink "GorgeWireLaw" (152 : Nat) ({ cls := "GorgeWireModel", name := "put", desc := "(III)I" } : Jvm.MethodName)) ∈ gtb := gt7 40 rfl rfl
theorem w_1551 : (Jvm.Cond.instanceMethod ({ cls := "GorgeWireModel", name := "put", desc := "(III)I" } : Jvm.MethodName)) ∈ gtb := gt7 41 rfl rfl
theorem w_1552 : (Jvm.Cond.selects "GorgeWireModel" ({ cls := "GorgeWireModel", name := "put", desc := "(III)I" } : Jvm.MethodName) ({ cls := "GorgeWireModel", name := "put", desc := "(III)I" } : Jvm.MethodName)) ∈ gtb := gt7 42 rfl rfl
theorem w_1554 : (Jvm.Cond.methodLink "GorgeWireLaw" (156 : Nat) ({ cls := "GorgeWireModel", name := "move", desc := "(IIIII)I" } : Jvm.MethodName)) ∈ gtb := gt7 44 rfl rfl
theorem w_1555 : (Jvm.Cond.instanceMethod ({ cls := "GorgeWireModel", name := "move", desc := "(IIIII)I" } : Jvm.MethodName)) ∈ gtb := gt7 45 rfl rfl
theorem w_1556 : (Jvm.Cond.selects "GorgeWireModel" ({ cls := "GorgeWireModel", name := "move", desc := "(IIIII)I" } : Jvm.MethodName) ({ cls := "GorgeWireModel", name := "move", desc := "(IIIII)I" } : Jvm.MethodName)) ∈ gtb := gt7 46 rfl rfl
theorem w_1558 : (Jvm.Cond.methodLink "GorgeWireLaw" (160 : Nat) ({ cls := "GorgeWireModel", name := "image", desc := "()I" } : Jvm.MethodName)) ∈ gtb := gt7 48 rfl rfl
theorem w_1559 : (Jvm.Cond.instanceMethod ({ cls := "GorgeWireModel", name := "image", desc := "()I" } : Jvm.MethodName)) ∈ gtb := gt7 49 rfl rfl
theorem w_1560 : (Jvm.Cond.selects "GorgeWireModel" ({ cls := "GorgeWireModel", name := "image", desc := "()I" } : Jvm.MethodName) ({ cls := "GorgeWireModel", name := "image", desc := "()I" } : Jvm.MethodName)) ∈ gtb := gt7 50 rfl rfl
theorem w_1562 : (Jvm.Cond.methodLink "GorgeWireLaw" (164 : Nat) ({ cls := "GorgeWireModel", name := "restore", desc := "()I" } : Jvm.MethodName)) ∈ gtb := gt7 52 rfl rfl
theorem w_1563 : (Jvm.Cond.instanceMethod ({ cls := "GorgeWireModel", name := "restore", desc := "()I" } : Jvm.MethodName)) ∈ gtb := gt7 53 rfl rfl
theorem w_1564 : (Jvm.Cond.selects "GorgeWireModel" ({ cls := "GorgeWireModel", name := "restore", desc := "()I" } : Jvm.MethodName) ({ cls := "GorgeWireModel", name := "restore", desc := "()I" } : Jvm.MethodName)) ∈ gtb := gt7 54 rfl rfl
theorem w_1566 : (Jvm.Cond.methodLink "GorgeWireLaw" (168 : Nat) ({ cls := "GorgeWireModel", name := "tell", desc := "(I)I" } : Jvm.MethodName)) ∈ gtb := gt7 56 rfl rfl
theorem w_1567 : (Jvm.Cond.instanceMethod ({ cls := "GorgeWireModel", name := "tell", desc := "(I)I" } : Jvm.MethodName)) ∈ gtb := gt7 57 rfl rfl
theorem w_1568 : (Jvm.Cond.selects "GorgeWireModel" ({ cls := "GorgeWireModel", name := "tell", desc := "(I)I" } : Jvm.MethodName) ({ cls := "GorgeWireModel", name := "tell", desc := "(I)I" } : Jvm.MethodName)) ∈ gtb := gt7 58 rfl rfl
theorem w_1570 : (Jvm.Cond.methodLink "GorgeWireLaw" (172 : Nat) ({ cls := "GorgeWireModel", name := "check", desc := "(I)I" } : Jvm.MethodName)) ∈ gtb := gt7 60 rfl rfl
theorem w_1571 : (Jvm.Cond.instanceMethod ({ cls := "GorgeWireModel", name := "check", desc := "(I)I" } : Jvm.MethodName)) ∈ gtb := gt7 61 rfl rfl
theorem w_1572 : (Jvm.Cond.selects "GorgeWireModel" ({ cls := "GorgeWireModel", name := "check", desc := "(I)I" } : Jvm.MethodName) ({ cls := "GorgeWireModel", name := "check", desc := "(I)I" } : Jvm.MethodName)) ∈ gtb := gt7 62 rfl rfl
theorem w_1574 : (Jvm.Cond.methodLink "GorgeWireLaw" (176 : Nat) ({ cls := "GorgeWireModel", name := "count", desc := "(I)I" } : Jvm.MethodName)) ∈ gtb := gt7 64 rfl rfl
theorem w_1575 : (Jvm.Cond.instanceMethod ({ cls := "GorgeWireModel", name := "count", desc := "(I)I" } : Jvm.MethodName)) ∈ gtb := gt7 65 rfl rfl
theorem w_1576 : (Jvm.Cond.selects "GorgeWireModel" ({ cls := "GorgeWireModel", name := "count", desc := "(I)I" } : Jvm.MethodName) ({ cls := "GorgeWireModel", name := "count", desc := "(I)I" } : Jvm.MethodName)) ∈ gtb := gt7 66 rfl rfl
theorem w_1578 : (Jvm.Cond.methodLink "GorgeWireLaw" (180 : Nat) ({ cls := "GorgeWireModel", name := "told", desc := "(I)I" } : Jvm.MethodName)) ∈ gtb := gt7 68 rfl rfl
theorem w_1579 : (Jvm.Cond.instanceMethod ({ cls := "GorgeWireModel", name := "told", desc := "(I)I" } : Jvm.MethodName)) ∈ gtb := gt7 69 rfl rfl
theorem w_1580 : (Jvm.Cond.selects "GorgeWireModel" ({ cls := "GorgeWireModel", name := "told", desc := "(I)I" } : Jvm.MethodName) ({ cls := "GorgeWireModel", name := "told", desc := "(I)I" } : Jvm.MethodName)) ∈ gtb := gt7 70 rfl rfl
theorem w_1582 : (Jvm.Cond.constantLong "GorgeWireLaw" (56 : Nat) (4294967295 : Int64)) ∈ gtb := gt7 72 rfl rfl
abbrev mL_law : MD := (x, code, 4, ret)
theorem dL_law_0 : decode code 0 = .ok (.new 7, 3) := by decide +kernel
theorem dL_law_3 : decode code 3 = .ok (.dup, 1) := by decide +kernel
theorem dL_law_4 : decode code 4 = .ok (.invokespecial 9, 3) := by decide +kernel
theorem dL_law_7 : decode code 7 = .ok (.astore_n 1, 1) := by decide +kernel
theorem dL_law_8 : decode code 8 = .ok (.new 10, 3) := by decide +kernel
theorem dL_law_11 : decode code 11 = .ok (.dup, 1) := by decide +kernel
theorem dL_law_12 : decode code 12 = .ok (.invokespecial 12, 3) := by decide +kernel
theorem dL_law_15 : decode code 15 = .ok (.astore_n 2, 1) := by decide +kernel
theorem dL_law_16 : decode code 16 = .ok (.iconst 0, 1) := by decide +kernel
theorem dL_law_17 : decode code 17 = .ok (.istore_n 3, 1) := by decide +kernel
theorem dL_law_18 : decode code 18 = .ok (.iload_n 3, 1) := by decide +kernel
theorem dL_law_19 : decode code 19 = .ok (.aload_n 0, 1) := by decide +kernel
theorem dL_law_20 : decode code 20 = .ok (.arraylength, 1) := by decide +kernel
theorem dL_law_21 : decode code 21 = .ok (.bipush 6, 2) := by decide +kernel
theorem dL_law_23 : decode code 23 = .ok (.isub, 1) := by decide +kernel
theorem dL_law_24 : decode code 24 = .ok (.if_icmp .gt 1430, 3) := by decide +kernel
theorem dL_law_27 : decode code 27 = .ok (.aload_n 0, 1) := by decide +kernel
theorem dL_law_28 : decode code 28 = .ok (.iload_n 3, 1) := by decide +kernel
theorem dL_law_29 : decode code 29 = .ok (.iaload, 1) := by decide +kernel
theorem dL_law_30 : decode code 30 = .ok (.bipush 63, 2) := by decide +kernel
theorem dL_law_32 : decode code 32 = .ok (.iand, 1) := by decide +kernel
theorem dL_law_33 : decode code 33 = .ok (.tableswitch 1415 0 39 #[175, 208, 241, 274, 307, 320, 333, 376, 409, 442, 485, 548, 571, 634, 657, 680, 723, 746, 769, 792, 835, 868, 901, 924, 957, 990, 1003, 1026, 1059, 1082, 1125, 1148, 1191, 1234, 1297, 1310, 1323, 1346, 1369, 1392], 175) := by decide +kernel
theorem dL_law_208 : decode code 208 = .ok (.aload_n 1, 1) := by decide +kernel
theorem dL_law_209 : decode code 209 = .ok (.aload_n 0, 1) := by decide +kernel
theorem dL_law_210 : decode code 210 = .ok (.iload_n 3, 1) := by decide +kernel
theorem dL_law_211 : decode code 211 = .ok (.iconst 1, 1) := by decide +kernel
theorem dL_law_212 : decode code 212 = .ok (.iadd, 1) := by decide +kernel
theorem dL_law_213 : decode code 213 = .ok (.iaload, 1) := by decide +kernel
theorem dL_law_214 : decode code 214 = .ok (.aload_n 0, 1) := by decide +kernel
theorem dL_law_215 : decode code 215 = .ok (.iload_n 3, 1) := by decide +kernel
theorem dL_law_216 : decode code 216 = .ok (.iconst 2, 1) := by decide +kernel
theorem dL_law_217 : decode code 217 = .ok (.iadd, 1) := by decide +kernel
theorem dL_law_218 : decode code 218 = .ok (.iaload, 1) := by decide +kernel
theorem dL_law_219 : decode code 219 = .ok (.invokevirtual 13, 3) := by decide +kernel
theorem dL_law_222 : decode code 222 = .ok (.aload_n 2, 1) := by decide +kernel
theorem dL_law_223 : decode code 223 = .ok (.aload_n 0, 1) := by decide +kernel
theorem dL_law_224 : decode code 224 = .ok (.iload_n 3, 1) := by decide +kernel
theorem dL_law_225 : decode code 225 = .ok (.iconst 1, 1) := by decide +kernel
theorem dL_law_226 : decode code 226 = .ok (.iadd, 1) := by decide +kernel
theorem dL_law_227 : decode code 227 = .ok (.iaload, 1) := by decide +kernel
theorem dL_law_228 : decode code 228 = .ok (.aload_n 0, 1) := by decide +kernel
theorem dL_law_229 : decode code 229 = .ok (.iload_n 3, 1) := by decide +kernel
theorem dL_law_230 : decode code 230 = .ok (.iconst 2, 1) := by decide +kernel
theorem dL_law_231 : decode code 231 = .ok (.iadd, 1) := by decide +kernel
theorem dL_law_232 : decode code 232 = .ok (.iaload, 1) := by decide +kernel
theorem dL_law_233 : decode code 233 = .ok (.invokevirtual 17, 3) := by decide +kernel
theorem dL_law_236 : decode code 236 = .ok (.if_icmp .eq 1212, 3) := by decide +kernel
theorem dL_law_239 : decode code 239 = .ok (.iconst 0, 1) := by decide +kernel
theorem dL_law_240 : decode code 240 = .ok (.ireturn, 1) := by decide +kernel
theorem dL_law_241 : decode code 241 = .ok (.aload_n 1, 1) := by decide +kernel
theorem dL_law_242 : decode code 242 = .ok (.aload_n 0, 1) := by decide +kernel
theorem dL_law_243 : decode code 243 = .ok (.iload_n 3, 1) := by decide +kernel
theorem dL_law_244 : decode code 244 = .ok (.iconst 1, 1) := by decide +kernel
theorem dL_law_245 : decode code 245 = .ok (.iadd, 1) := by decide +kernel
theorem dL_law_246 : decode code 246 = .ok (.iaload, 1) := by decide +kernel
theorem dL_law_247 : decode code 247 = .ok (.aload_n 0, 1) := by decide +kernel
theorem dL_law_248 : decode code 248 = .ok (.iload_n 3, 1) := by decide +kernel
theorem dL_law_249 : decode code 249 = .ok (.iconst 2, 1) := by decide +kernel
theorem dL_law_250 : decode code 250 = .ok (.iadd, 1) := by decide +kernel
theorem dL_law_251 : decode code 251 = .ok (.iaload, 1) := by decide +kernel
theorem dL_law_252 : decode code 252 = .ok (.invokevirtual 18, 3) := by decide +kernel
theorem dL_law_255 : decode code 255 = .ok (.aload_n 2, 1) := by decide +kernel
theorem dL_law_256 : decode code 256 = .ok (.aload_n 0, 1) := by decide +kernel
theorem dL_law_257 : decode code 257 = .ok (.iload_n 3, 1) := by decide +kernel
theorem dL_law_258 : decode code 258 = .ok (.iconst 1, 1) := by decide +kernel
theorem dL_law_259 : decode code 259 = .ok (.iadd, 1) := by decide +kernel
theorem dL_law_260 : decode code 260 = .ok (.iaload, 1) := by decide +kernel
theorem dL_law_261 : decode code 261 = .ok (.aload_n 0, 1) := by decide +kernel
theorem dL_law_262 : decode code 262 = .ok (.iload_n 3, 1) := by decide +kernel
theorem dL_law_263 : decode code 263 = .ok (.iconst 2, 1) := by decide +kernel
theorem dL_law_264 : decode code 264 = .ok (.iadd, 1) := by decide +kernel
theorem dL_law_265 : decode code 265 = .ok (.iaload, 1) := by decide +kernel
theorem dL_law_266 : decode code 266 = .ok (.invokevirtual 21, 3) := by decide +kernel
theorem dL_law_269 : decode code 269 = .ok (.if_icmp .eq 1179, 3) := by decide +kernel
theorem dL_law_272 : decode code 272 = .ok (.iconst 0, 1) := by decide +kernel
theorem dL_law_273 : decode code 273 = .ok (.ireturn, 1) := by decide +kernel
theorem dL_law_274 : decode code 274 = .ok (.aload_n 1, 1) := by decide +kernel
theorem dL_law_275 : decode code 275 = .ok (.aload_n 0, 1) := by decide +kernel
theorem dL_law_276 : decode code 276 = .ok (.iload_n 3, 1) := by decide +kernel
theorem dL_law_277 : decode code 277 = .ok (.iconst 1, 1) := by decide +kernel
theorem dL_law_278 : decode code 278 = .ok (.iadd, 1) := by decide +kernel
theorem dL_law_279 : decode code 279 = .ok (.iaload, 1) := by decide +kernel
theorem dL_law_280 : decode code 280 = .ok (.aload_n 0, 1) := by decide +kernel
theorem dL_law_281 : decode code 281 = .ok (.iload_n 3, 1) := by decide +kernel
theorem dL_law_282 : decode code 282 = .ok (.iconst 2, 1) := by decide +kernel
theorem dL_law_283 : decode code 283 = .ok (.iadd, 1) := by decide +kernel
theorem dL_law_284 : decode code 284 = .ok (.iaload, 1) := by decide +kernel
theorem dL_law_285 : decode code 285 = .ok (.invokevirtual 22, 3) := by decide +kernel
theorem dL_law_288 : decode code 288 = .ok (.aload_n 2, 1) := by decide +kernel
theorem dL_law_289 : decode code 289 = .ok (.aload_n 0, 1) := by decide +kernel
theorem dL_law_290 : decode code 290 = .ok (.iload_n 3, 1) := by decide +kernel
theorem dL_law_291 : decode code 291 = .ok (.iconst 1, 1) := by decide +kernel
theorem dL_law_292 : decode code 292 = .ok (.iadd, 1) := by decide +kernel
theorem dL_law_293 : decode code 293 = .ok (.iaload, 1) := by decide +kernel
theorem dL_law_294 : decode code 294 = .ok (.aload_n 0, 1) := by decide +kernel
theorem dL_law_295 : decode code 295 = .ok (.iload_n 3, 1) := by decide +kernel
theorem dL_law_296 : decode code 296 = .ok (.iconst 2, 1) := by decide +kernel
theorem dL_law_297 : decode code 297 = .ok (.iadd, 1) := by decide +kernel
theorem dL_law_298 : decode code 298 = .ok (.iaload, 1) := by decide +kernel
theorem dL_law_299 : decode code 299 = .ok (.invokevirtual 25, 3) := by decide +kernel
theorem dL_law_302 : decode code 302 = .ok (.if_icmp .eq 1146, 3) := by decide +kernel
theorem dL_law_305 : decode code 305 = .ok (.iconst 0, 1) := by decide +kernel
theorem dL_law_306 : decode code 306 = .ok (.ireturn, 1) := by decide +kernel
theorem dL_law_307 : decode code 307 = .ok (.aload_n 1, 1) := by decide +kernel
theorem dL_law_308 : decode code 308 = .ok (.aload_n 0, 1) := by decide +kernel
theorem dL_law_309 : decode code 309 = .ok (.iload_n 3, 1) := by decide +kernel
theorem dL_law_310 : decode code 310 = .ok (.iconst 1, 1) := by decide +kernel
theorem dL_law_311 : decode code 311 = .ok (.iadd, 1) := by decide +kernel
theorem dL_law_312 : decode code 312 = .ok (.iaload, 1) := by decide +kernel
theorem dL_law_313 : decode code 313 = .ok (.aload_n 0, 1) := by decide +kernel
theorem dL_law_314 : decode code 314 = .ok (.iload_n 3, 1) := by decide +kernel
theorem dL_law_315 : decode code 315 = .ok (.iconst 2, 1) := by decide +kernel
theorem dL_law_316 : decode code 316 = .ok (.iadd, 1) := by decide +kernel
theorem dL_law_317 : decode code 317 = .ok (.iaload, 1) := by decide +kernel
theorem dL_law_318 : decode code 318 = .ok (.invokevirtual 26, 3) := by decide +kernel
theorem dL_law_321 : decode code 321 = .ok (.aload_n 2, 1) := by decide +kernel
theorem dL_law_322 : decode code 322 = .ok (.aload_n 0, 1) := by decide +kernel
theorem dL_law_323 : decode code 323 = .ok (.iload_n 3, 1) := by decide +kernel
theorem dL_law_324 : decode code 324 = .ok (.iconst 1, 1) := by decide +kernel
theorem dL_law_325 : decode code 325 = .ok (.iadd, 1) := by decide +kernel
theorem dL_law_326 : decode code 326 = .ok (.iaload, 1) := by decide +kernel
theorem dL_law_327 : decode code 327 = .ok (.aload_n 0, 1) := by decide +kernel
theorem dL_law_328 : decode code 328 = .ok (.iload_n 3, 1) := by decide +kernel
theorem dL_law_329 : decode code 329 = .ok (.iconst 2, 1) := by decide +kernel
theorem dL_law_330 : decode code 330 = .ok (.iadd, 1) := by decide +kernel
theorem dL_law_331 : decode code 331 = .ok (.iaload, 1) := by decide +kernel
theorem dL_law_332 : decode code 332 = .ok (.invokevirtual 29, 3) := by decide +kernel
theorem dL_law_335 : decode code 335 = .ok (.if_icmp .eq 1113, 3) := by decide +kernel
theorem dL_law_338 : decode code 338 = .ok (.iconst 0, 1) := by decide +kernel
theorem dL_law_339 : decode code 339 = .ok (.ireturn, 1) := by decide +kernel
theorem dL_law_340 : decode code 340 = .ok (.aload_n 1, 1) := by decide +kernel
theorem dL_law_341 : decode code 341 = .ok (.invokevirtual 30, 3) := by decide +kernel
theorem dL_law_344 : decode code 344 = .ok (.aload_n 2, 1) := by decide +kernel
theorem dL_law_345 : decode code 345 = .ok (.invokevirtual 34, 3) := by decide +kernel
theorem dL_law_348 : decode code 348 = .ok (.if_icmp .eq 1100, 3) := by decide +kernel
theorem dL_law_351 : decode code 351 = .ok (.iconst 0, 1) := by decide +kernel
theorem dL_law_352 : decode code 352 = .ok (.ireturn, 1) := by decide +kernel
theorem dL_law_353 : decode code 353 = .ok (.aload_n 1, 1) := by decide +kernel
theorem dL_law_354 : decode code 354 = .ok (.invokevirtual 35, 3) := by decide +kernel
theorem dL_law_357 : decode code 357 = .ok (.aload_n 2, 1) := by decide +kernel
theorem dL_law_358 : decode code 358 = .ok (.invokevirtual 38, 3) := by decide +kernel
theorem dL_law_361 : decode code 361 = .ok (.if_icmp .eq 1087, 3) := by decide +kernel
theorem dL_law_364 : decode code 364 = .ok (.iconst 0, 1) := by decide +kernel
theorem dL_law_365 : decode code 365 = .ok (.ireturn, 1) := by decide +kernel
theorem dL_law_366 : decode code 366 = .ok (.aload_n 1, 1) := by decide +kernel
theorem dL_law_367 : decode code 367 = .ok (.aload_n 0, 1) := by decide +kernel
theorem dL_law_368 : decode code 368 = .ok (.iload_n 3, 1) := by decide +kernel
theorem dL_law_369 : decode code 369 = .ok (.iconst 1, 1) := by decide +kernel
theorem dL_law_370 : decode code 370 = .ok (.iadd, 1) := by decide +kernel
theorem dL_law_371 : decode code 371 = .ok (.iaload, 1) := by decide +kernel
theorem dL_law_372 : decode code 372 = .ok (.aload_n 0, 1) := by decide +kernel
theorem dL_law_373 : decode code 373 = .ok (.iload_n 3, 1) := by decide +kernel
theorem dL_law_374 : decode code 374 = .ok (.iconst 2, 1) := by decide +kernel
theorem dL_law_375 : decode code 375 = .ok (.iadd, 1) := by decide +kernel
theorem dL_law_376 : decode code 376 = .ok (.iaload, 1) := by decide +kernel
theorem dL_law_377 : decode code 377 = .ok (.aload_n 0, 1) := by decide +kernel
theorem dL_law_378 : decode code 378 = .ok (.iload_n 3, 1) := by decide +kernel
theorem dL_law_379 : decode code 379 = .ok (.iconst 3, 1) := by decide +kernel
theorem dL_law_380 : decode code 380 = .ok (.iadd, 1) := by decide +kernel
theorem dL_law_381 : decode code 381 = .ok (.iaload, 1) := by decide +kernel
theorem dL_law_382 : decode code 382 = .ok (.invokevirtual 39, 3) := by decide +kernel
theorem dL_law_385 : decode code 385 = .ok (.aload_n 2, 1) := by decide +kernel
theorem dL_law_386 : decode code 386 = .ok (.aload_n 0, 1) := by decide +kernel
theorem dL_law_387 : decode code 387 = .ok (.iload_n 3, 1) := by decide +kernel
theorem dL_law_388 : decode code 388 = .ok (.iconst 1, 1) := by decide +kernel
theorem dL_law_389 : decode code 389 = .ok (.iadd, 1) := by decide +kernel
theorem dL_law_390 : decode code 390 = .ok (.iaload, 1) := by decide +kernel
theorem dL_law_391 : decode code 391 = .ok (.aload_n 0, 1) := by decide +kernel
theorem dL_law_392 : decode code 392 = .ok (.iload_n 3, 1) := by decide +kernel
theorem dL_law_393 : decode code 393 = .ok (.iconst 2, 1) := by decide +kernel
theorem dL_law_394 : decode code 394 = .ok (.iadd, 1) := by decide +kernel
theorem dL_law_395 : decode code 395 = .ok (.iaload, 1) := by decide +kernel
theorem dL_law_396 : decode code 396 = .ok (.aload_n 0, 1) := by decide +kernel
theorem dL_law_397 : decode code 397 = .ok (.iload_n 3, 1) := by decide +kernel
theorem dL_law_398 : decode code 398 = .ok (.iconst 3, 1) := by decide +kernel
theorem dL_law_399 : decode code 399 = .ok (.iadd, 1) := by decide +kernel
theorem dL_law_400 : decode code 400 = .ok (.iaload, 1) := by decide +kernel
theorem dL_law_401 : decode code 401 = .ok (.invokevirtual 43, 3) := by decide +kernel
theorem dL_law_404 : decode code 404 = .ok (.if_icmp .eq 1044, 3) := by decide +kernel
theorem dL_law_407 : decode code 407 = .ok (.iconst 0, 1) := by decide +kernel
theorem dL_law_408 : decode code 408 = .ok (.ireturn, 1) := by decide +kernel
theorem dL_law_409 : decode code 409 = .ok (.aload_n 1, 1) := by decide +kernel
theorem dL_law_410 : decode code 410 = .ok (.aload_n 0, 1) := by decide +kernel
theorem dL_law_411 : decode code 411 = .ok (.iload_n 3, 1) := by decide +kernel
theorem dL_law_412 : decode code 412 = .ok (.iconst 1, 1) := by decide +kernel
theorem dL_law_413 : decode code 413 = .ok (.iadd, 1) := by decide +kernel
theorem dL_law_414 : decode code 414 = .ok (.iaload, 1) := by decide +kernel
theorem dL_law_415 : decode code 415 = .ok (.aload_n 0, 1) := by decide +kernel
theorem dL_law_416 : decode code 416 = .ok (.iload_n 3, 1) := by decide +kernel
theorem dL_law_417 : decode code 417 = .ok (.iconst 2, 1) := by decide +kernel
theorem dL_law_418 : decode code 418 = .ok (.iadd, 1) := by decide +kernel
theorem dL_law_419 : decode code 419 = .ok (.iaload, 1) := by decide +kernel
theorem dL_law_420 : decode code 420 = .ok (.invokevirtual 44, 3) := by decide +kernel
theorem dL_law_423 : decode code 423 = .ok (.aload_n 2, 1) := by decide +kernel
theorem dL_law_424 : decode code 424 = .ok (.aload_n 0, 1) := by decide +kernel
theorem dL_law_425 : decode code 425 = .ok (.iload_n 3, 1) := by decide +kernel
theorem dL_law_426 : decode code 426 = .ok (.iconst 1, 1) := by decide +kernel
theorem dL_law_427 : decode code 427 = .ok (.iadd, 1) := by decide +kernel
theorem dL_law_428 : decode code 428 = .ok (.iaload, 1) := by decide +kernel
theorem dL_law_429 : decode code 429 = .ok (.aload_n 0, 1) := by decide +kernel
theorem dL_law_430 : decode code 430 = .ok (.iload_n 3, 1) := by decide +kernel
theorem dL_law_431 : decode code 431 = .ok (.iconst 2, 1) := by decide +kernel
theorem dL_law_432 : decode code 432 = .ok (.iadd, 1) := by decide +kernel
theorem dL_law_433 : decode code 433 = .ok (.iaload, 1) := by decide +kernel
theorem dL_law_434 : decode code 434 = .ok (.invokevirtual 47, 3) := by decide +kernel
theorem dL_law_437 : decode code 437 = .ok (.if_icmp .eq 1011, 3) := by decide +kernel
theorem dL_law_440 : decode code 440 = .ok (.iconst 0, 1) := by decide +kernel
theorem dL_law_441 : decode code 441 = .ok (.ireturn, 1) := by decide +kernel
theorem dL_law_442 : decode code 442 = .ok (.aload_n 1, 1) := by decide +kernel
theorem dL_law_443 : decode code 443 = .ok (.aload_n 0, 1) := by decide +kernel
theorem dL_law_444 : decode code 444 = .ok (.iload_n 3, 1) := by decide +kernel
theorem dL_law_445 : decode code 445 = .ok (.iconst 1, 1) := by decide +kernel
theorem dL_law_446 : decode code 446 = .ok (.iadd, 1) := by decide +kernel
theorem dL_law_447 : decode code 447 = .ok (.iaload, 1) := by decide +kernel
theorem dL_law_448 : decode code 448 = .ok (.aload_n 0, 1) := by decide +kernel
theorem dL_law_449 : decode code 449 = .ok (.iload_n 3, 1) := by decide +kernel
theorem dL_law_450 : decode code 450 = .ok (.iconst 2, 1) := by decide +kernel
theorem dL_law_451 : decode code 451 = .ok (.iadd, 1) := by decide +kernel
theorem dL_law_452 : decode code 452 = .ok (.iaload, 1) := by decide +kernel
theorem dL_law_453 : decode code 453 = .ok (.invokevirtual 48, 3) := by decide +kernel
theorem dL_law_456 : decode code 456 = .ok (.aload_n 2, 1) := by decide +kernel
theorem dL_law_457 : decode code 457 = .ok (.aload_n 0, 1) := by decide +kernel
theorem dL_law_458 : decode code 458 = .ok (.iload_n 3, 1) := by decide +kernel
theorem dL_law_459 : decode code 459 = .ok (.iconst 1, 1) := by decide +kernel
theorem dL_law_460 : decode code 460 = .ok (.iadd, 1) := by decide +kernel
theorem dL_law_461 : decode code 461 = .ok (.iaload, 1) := by decide +kernel
theorem dL_law_462 : decode code 462 = .ok (.aload_n 0, 1) := by decide +kernel
theorem dL_law_463 : decode code 463 = .ok (.iload_n 3, 1) := by decide +kernel
theorem dL_law_464 : decode code 464 = .ok (.iconst 2, 1) := by decide +kernel
theorem dL_law_465 : decode code 465 = .ok (.iadd, 1) := by decide +kernel
theorem dL_law_466 : decode code 466 = .ok (.iaload, 1) := by decide +kernel
theorem dL_law_467 : decode code 467 = .ok (.invokevirtual 51, 3) := by decide +kernel
theorem dL_law_470 : decode code 470 = .ok (.if_icmp .eq 978, 3) := by decide +kernel
theorem dL_law_473 : decode code 473 = .ok (.iconst 0, 1) := by decide +kernel
theorem dL_law_474 : decode code 474 = .ok (.ireturn, 1) := by decide +kernel
theorem dL_law_475 : decode code 475 = .ok (.aload_n 1, 1) := by decide +kernel
theorem dL_law_476 : decode code 476 = .ok (.aload_n 0, 1) := by decide +kernel
theorem dL_law_477 : decode code 477 = .ok (.iload_n 3, 1) := by decide +kernel
theorem dL_law_478 : decode code 478 = .ok (.iconst 1, 1) := by decide +kernel
theorem dL_law_479 : decode code 479 = .ok (.iadd, 1) := by decide +kernel
theorem dL_law_480 : decode code 480 = .ok (.iaload, 1) := by decide +kernel
theorem dL_law_481 : decode code 481 = .ok (.aload_n 0, 1) := by decide +kernel
theorem dL_law_482 : decode code 482 = .ok (.iload_n 3, 1) := by decide +kernel
theorem dL_law_483 : decode code 483 = .ok (.iconst 2, 1) := by decide +kernel
theorem dL_law_484 : decode code 484 = .ok (.iadd, 1) := by decide +kernel
theorem dL_law_485 : decode code 485 = .ok (.iaload, 1) := by decide +kernel
theorem dL_law_486 : decode code 486 = .ok (.aload_n 0, 1) := by decide +kernel
theorem dL_law_487 : decode code 487 = .ok (.iload_n 3, 1) := by decide +kernel
theorem dL_law_488 : decode code 488 = .ok (.iconst 3, 1) := by decide +kernel
theorem dL_law_489 : decode code 489 = .ok (.iadd, 1) := by decide +kernel
theorem dL_law_490 : decode code 490 = .ok (.iaload, 1) := by decide +kernel
theorem dL_law_491 : decode code 491 = .ok (.invokevirtual 52, 3) := by decide +kernel
theorem dL_law_494 : decode code 494 = .ok (.aload_n 2, 1) := by decide +kernel
theorem dL_law_495 : decode code 495 = .ok (.aload_n 0, 1) := by decide +kernel
theorem dL_law_496 : decode code 496 = .ok (.iload_n 3, 1) := by decide +kernel
theorem dL_law_497 : decode code 497 = .ok (.iconst 1, 1) := by decide +kernel
theorem dL_law_498 : decode code 498 = .ok (.iadd, 1) := by decide +kernel
theorem dL_law_499 : decode code 499 = .ok (.iaload, 1) := by decide +kernel
theorem dL_law_500 : decode code 500 = .ok (.aload_n 0, 1) := by decide +kernel
theorem dL_law_501 : decode code 501 = .ok (.iload_n 3, 1) := by decide +kernel
theorem dL_law_502 : decode code 502 = .ok (.iconst 2, 1) := by decide +kernel
theorem dL_law_503 : decode code 503 = .ok (.iadd, 1) := by decide +kernel
theorem dL_law_504 : decode code 504 = .ok (.iaload, 1) := by decide +kernel
theorem dL_law_505 : decode code 505 = .ok (.aload_n 0, 1) := by decide +kernel
theorem dL_law_506 : decode code 506 = .ok (.iload_n 3, 1) := by decide +kernel
theorem dL_law_507 : decode code 507 = .ok (.iconst 3, 1) := by decide +kernel
theorem dL_law_508 : decode code 508 = .ok (.iadd, 1) := by decide +kernel
theorem dL_law_509 : decode code 509 = .ok (.iaload, 1) := by decide +kernel
theorem dL_law_510 : decode code 510 = .ok (.invokevirtual 55, 3) := by decide +kernel
theorem dL_law_513 : decode code 513 = .ok (.if_icmp .eq 935, 3) := by decide +kernel
theorem dL_law_516 : decode code 516 = .ok (.iconst 0, 1) := by decide +kernel
theorem dL_law_517 : decode code 517 = .ok (.ireturn, 1) := by decide +kernel
theorem dL_law_518 : decode code 518 = .ok (.aload_n 1, 1) := by decide +kernel
theorem dL_law_519 : decode code 519 = .ok (.aload_n 0, 1) := by decide +kernel
theorem dL_law_520 : decode code 520 = .ok (.iload_n 3, 1) := by decide +kernel
theorem dL_law_521 : decode code 521 = .ok (.iconst 1, 1) := by decide +kernel
theorem dL_law_522 : decode code 522 = .ok (.iadd, 1) := by decide +kernel
theorem dL_law_523 : decode code 523 = .ok (.iaload, 1) := by decide +kernel
theorem dL_law_524 : decode code 524 = .ok (.i2l, 1) := by decide +kernel
theorem dL_law_525 : decode code 525 = .ok (.bipush 32, 2) := by decide +kernel
theorem dL_law_527 : decode code 527 = .ok (.lshl, 1) := by decide +kernel
theorem dL_law_528 : decode code 528 = .ok (.aload_n 0, 1) := by decide +kernel
theorem dL_law_529 : decode code 529 = .ok (.iload_n 3, 1) := by decide +kernel
theorem dL_law_530 : decode code 530 = .ok (.iconst 2, 1) := by decide +kernel
theorem dL_law_531 : decode code 531 = .ok (.iadd, 1) := by decide +kernel
theorem dL_law_532 : decode code 532 = .ok (.iaload, 1) := by decide +kernel
theorem dL_law_533 : decode code 533 = .ok (.i2l, 1) := by decide +kernel
theorem dL_law_534 : decode code 534 = .ok (.ldc2_w 56, 3) := by decide +kernel
theorem dL_law_537 : decode code 537 = .ok (.land, 1) := by decide +kernel
theorem dL_law_538 : decode code 538 = .ok (.lor, 1) := by decide +kernel
theorem dL_law_539 : decode code 539 = .ok (.aload_n 0, 1) := by decide +kernel
theorem dL_law_540 : decode code 540 = .ok (.iload_n 3, 1) := by decide +kernel
theorem dL_law_541 : decode code 541 = .ok (.iconst 3, 1) := by decide +kernel
theorem dL_law_542 : decode code 542 = .ok (.iadd, 1) := by decide +kernel
theorem dL_law_543 : decode code 543 = .ok (.iaload, 1) := by decide +kernel
theorem dL_law_544 : decode code 544 = .ok (.invokevirtual 58, 3) := by decide +kernel
theorem dL_law_547 : decode code 547 = .ok (.aload_n 2, 1) := by decide +kernel
theorem dL_law_548 : decode code 548 = .ok (.aload_n 0, 1) := by decide +kernel
theorem dL_law_549 : decode code 549 = .ok (.iload_n 3, 1) := by decide +kernel
theorem dL_law_550 : decode code 550 = .ok (.iconst 1, 1) := by decide +kernel
theorem dL_law_551 : decode code 551 = .ok (.iadd, 1) := by decide +kernel
theorem dL_law_552 : decode code 552 = .ok (.iaload, 1) := by decide +kernel
theorem dL_law_553 : decode code 553 = .ok (.i2l, 1) := by decide +kernel
theorem dL_law_554 : decode code 554 = .ok (.bipush 32, 2) := by decide +kernel
theorem dL_law_556 : decode code 556 = .ok (.lshl, 1) := by decide +kernel
theorem dL_law_557 : decode code 557 = .ok (.aload_n 0, 1) := by decide +kernel
theorem dL_law_558 : decode code 558 = .ok (.iload_n 3, 1) := by decide +kernel
theorem dL_law_559 : decode code 559 = .ok (.iconst 2, 1) := by decide +kernel
theorem dL_law_560 : decode code 560 = .ok (.iadd, 1) := by decide +kernel
theorem dL_law_561 : decode code 561 = .ok (.iaload, 1) := by decide +kernel
theorem dL_law_562 : decode code 562 = .ok (.i2l, 1) := by decide +kernel
theorem dL_law_563 : decode code 563 = .ok (.ldc2_w 56, 3) := by decide +kernel
theorem dL_law_566 : decode code 566 = .ok (.land, 1) := by decide +kernel
theorem dL_law_567 : decode code 567 = .ok (.lor, 1) := by decide +kernel
theorem dL_law_568 : decode code 568 = .ok (.aload_n 0, 1) := by decide +kernel
theorem dL_law_569 : decode code 569 = .ok (.iload_n 3, 1) := by decide +kernel
theorem dL_law_570 : decode code 570 = .ok (.iconst 3, 1) := by decide +kernel
theorem dL_law_571 : decode code 571 = .ok (.iadd, 1) := by decide +kernel
theorem dL_law_572 : decode code 572 = .ok (.iaload, 1) := by decide +kernel
theorem dL_law_573 : decode code 573 = .ok (.invokevirtual 62, 3) := by decide +kernel
theorem dL_law_576 : decode code 576 = .ok (.if_icmp .eq 872, 3) := by decide +kernel
theorem dL_law_579 : decode code 579 = .ok (.iconst 0, 1) := by decide +kernel
theorem dL_law_580 : decode code 580 = .ok (.ireturn, 1) := by decide +kernel
theorem dL_law_581 : decode code 581 = .ok (.aload_n 1, 1) := by decide +kernel
theorem dL_law_582 : decode code 582 = .ok (.aload_n 0, 1) := by decide +kernel
theorem dL_law_583 : decode code 583 = .ok (.iload_n 3, 1) := by decide +kernel
theorem dL_law_584 : decode code 584 = .ok (.iconst 1, 1) := by decide +kernel
theorem dL_law_585 : decode code 585 = .ok (.iadd, 1) := by decide +kernel
theorem dL_law_586 : decode code 586 = .ok (.iaload, 1) := by decide +kernel
theorem dL_law_587 : decode code 587 = .ok (.invokevirtual 63, 3) := by decide +kernel
theorem dL_law_590 : decode code 590 = .ok (.aload_n 2, 1) := by decide +kernel
theorem dL_law_591 : decode code 591 = .ok (.aload_n 0, 1) := by decide +kernel
theorem dL_law_592 : decode code 592 = .ok (.iload_n 3, 1) := by decide +kernel
theorem dL_law_593 : decode code 593 = .ok (.iconst 1, 1) := by decide +kernel
theorem dL_law_594 : decode code 594 = .ok (.iadd, 1) := by decide +kernel
theorem dL_law_595 : decode code 595 = .ok (.iaload, 1) := by decide +kernel
theorem dL_law_596 : decode code 596 = .ok (.invokevirtual 67, 3) := by decide +kernel
theorem dL_law_599 : decode code 599 = .ok (.if_icmp .eq 849, 3) := by decide +kernel
theorem dL_law_602 : decode code 602 = .ok (.iconst 0, 1) := by decide +kernel
theorem dL_law_603 : decode code 603 = .ok (.ireturn, 1) := by decide +kernel
