/-- the words of the tables that go with every state of one launch -/
def zWS : List Cond := lw_tbl.filter goodWord
theorem zws_m (i : Nat) {w : Cond} (h : lw_tbl[i]? = some w) (hg : goodWord w = true) : w ∈ zWS := List.mem_filter.mpr ⟨List.mem_of_getElem? h, hg⟩
theorem m_1 : Cond.selects "ScrimshawKernel$Flood" ⟨"ScrimshawKernel$Flood", "countParts", "(Z)I"⟩ ⟨"ScrimshawKernel$Flood", "countParts", "(Z)I"⟩ ∈ zWS := zws_m 1 (by decide +kernel) rfl
theorem m_3 : Cond.selects "ScrimshawKernel$Flood" ⟨"ScrimshawKernel$Flood", "spread", "(Z)V"⟩ ⟨"ScrimshawKernel$Flood", "spread", "(Z)V"⟩ ∈ zWS := zws_m 3 (by decide +kernel) rfl
theorem m_4 : Cond.selects "ScrimshawKernel$Flood" ⟨"ScrimshawKernel$Flood", "spreadInto", "(IZ)Z"⟩ ⟨"ScrimshawKernel$Flood", "spreadInto", "(IZ)Z"⟩ ∈ zWS := zws_m 4 (by decide +kernel) rfl
theorem m_5 : Cond.selects "ScrimshawKernel$Flood" ⟨"ScrimshawKernel$Flood", "removeFound", "()V"⟩ ⟨"ScrimshawKernel$Flood", "removeFound", "()V"⟩ ∈ zWS := zws_m 5 (by decide +kernel) rfl
theorem m_6 : Cond.selects "ScrimshawKernel$Flood" ⟨"ScrimshawKernel$Flood", "findHoles", "(LScrimshawKernel$Fields;)V"⟩ ⟨"ScrimshawKernel$Flood", "findHoles", "(LScrimshawKernel$Fields;)V"⟩ ∈ zWS := zws_m 6 (by decide +kernel) rfl
theorem m_7 : Cond.selects "ScrimshawKernel$Fields" ⟨"ScrimshawKernel$Fields", "columns", "()J"⟩ ⟨"ScrimshawKernel$Fields", "columns", "()J"⟩ ∈ zWS := zws_m 7 (by decide +kernel) rfl
theorem m_13 : Cond.selects "ScrimshawKernel" ⟨"ScrimshawKernel", "digestOfContours", "(JLScrimshawKernel$Fields;)J"⟩ ⟨"ScrimshawKernel", "digestOfContours", "(JLScrimshawKernel$Fields;)J"⟩ ∈ zWS := zws_m 13 (by decide +kernel) rfl
theorem m_16 : Cond.selects "ScrimshawKernel" ⟨"ScrimshawKernel", "digestOfStrips", "(JLScrimshawKernel$Fields;)J"⟩ ⟨"ScrimshawKernel", "digestOfStrips", "(JLScrimshawKernel$Fields;)J"⟩ ∈ zWS := zws_m 16 (by decide +kernel) rfl
theorem m_27 : Cond.selects "ScrimshawKernelModel" ⟨"ScrimshawKernelModel", "edgesNow", "(I)I"⟩ ⟨"ScrimshawKernelModel", "edgesNow", "(I)I"⟩ ∈ zWS := zws_m 27 (by decide +kernel) rfl
theorem m_28 : Cond.selects "ScrimshawKernelModel" ⟨"ScrimshawKernelModel", "holesNow", "(I)I"⟩ ⟨"ScrimshawKernelModel", "holesNow", "(I)I"⟩ ∈ zWS := zws_m 28 (by decide +kernel) rfl
theorem m_29 : Cond.selects "ScrimshawKernelModel" ⟨"ScrimshawKernelModel", "boundNow", "(II)I"⟩ ⟨"ScrimshawKernelModel", "boundNow", "(II)I"⟩ ∈ zWS := zws_m 29 (by decide +kernel) rfl
theorem m_30 : Cond.selects "ScrimshawKernelModel" ⟨"ScrimshawKernelModel", "contoursNow", "(I)[I"⟩ ⟨"ScrimshawKernelModel", "contoursNow", "(I)[I"⟩ ∈ zWS := zws_m 30 (by decide +kernel) rfl
theorem m_33 : Cond.selects "ScrimshawKernelModel" ⟨"ScrimshawKernelModel", "stripsNow", "(I)[I"⟩ ⟨"ScrimshawKernelModel", "stripsNow", "(I)[I"⟩ ∈ zWS := zws_m 33 (by decide +kernel) rfl
theorem m_36 : Cond.initialized "ScrimshawKernel" ∈ zWS := zws_m 36 (by decide +kernel) rfl
theorem m_37 : Cond.initialized "ScrimshawKernel$Fields" ∈ zWS := zws_m 37 (by decide +kernel) rfl
theorem m_38 : Cond.initialized "ScrimshawKernel$Pen" ∈ zWS := zws_m 38 (by decide +kernel) rfl
theorem m_39 : Cond.initialized "ScrimshawKernel$History" ∈ zWS := zws_m 39 (by decide +kernel) rfl
theorem m_40 : Cond.initialized "ScrimshawKernel$Flood" ∈ zWS := zws_m 40 (by decide +kernel) rfl
theorem m_41 : Cond.initialized "ScrimshawKernel$Outline" ∈ zWS := zws_m 41 (by decide +kernel) rfl
theorem m_42 : Cond.initialized "ScrimshawKernel$StripWalk" ∈ zWS := zws_m 42 (by decide +kernel) rfl
theorem m_43 : Cond.initialized "ScrimshawKernelModel" ∈ zWS := zws_m 43 (by decide +kernel) rfl
theorem m_44 : Cond.initialized "java/lang/Throwable" ∈ zWS := zws_m 44 (by decide +kernel) rfl
theorem m_47 : Cond.initialized "java/lang/IllegalArgumentException" ∈ zWS := zws_m 47 (by decide +kernel) rfl
theorem m_48 : Cond.initialized "java/lang/IllegalStateException" ∈ zWS := zws_m 48 (by decide +kernel) rfl
theorem m_49 : Cond.initialized "java/lang/IndexOutOfBoundsException" ∈ zWS := zws_m 49 (by decide +kernel) rfl
theorem m_50 : Cond.initialized "java/lang/Math" ∈ zWS := zws_m 50 (by decide +kernel) rfl
theorem m_51 : Cond.initialized "java/util/Arrays" ∈ zWS := zws_m 51 (by decide +kernel) rfl
theorem m_52 : Cond.initialized "java/lang/Long" ∈ zWS := zws_m 52 (by decide +kernel) rfl
theorem m_54 : Cond.classLink "ScrimshawKernelLaw" (8 : Nat) "ScrimshawKernel" ∈ zWS := zws_m 54 (by decide +kernel) rfl
theorem m_55 : Cond.instantiable "ScrimshawKernel" (7 : Nat) ∈ zWS := zws_m 55 (by decide +kernel) rfl
theorem m_56 : Cond.methodLink "ScrimshawKernelLaw" (119 : Nat) ({ cls := "ScrimshawKernel", name := "<init>", desc := "()V" } : MethodName) ∈ zWS := zws_m 56 (by decide +kernel) rfl
theorem m_57 : Cond.instanceMethod ({ cls := "ScrimshawKernel", name := "<init>", desc := "()V" } : MethodName) ∈ zWS := zws_m 57 (by decide +kernel) rfl
theorem m_58 : Cond.code ({ cls := "ScrimshawKernel", name := "<init>", desc := "()V" } : MethodName) prog_1_method_1_code (2 : Nat) (Option.none : Option FieldType) ∈ zWS := zws_m 58 (by decide +kernel) rfl
theorem m_59 : Cond.methodLink "ScrimshawKernel" (3 : Nat) ({ cls := "java/lang/Object", name := "<init>", desc := "()V" } : MethodName) ∈ zWS := zws_m 59 (by decide +kernel) rfl
theorem m_60 : Cond.instanceMethod ({ cls := "java/lang/Object", name := "<init>", desc := "()V" } : MethodName) ∈ zWS := zws_m 60 (by decide +kernel) rfl
theorem m_61 : Cond.code ({ cls := "java/lang/Object", name := "<init>", desc := "()V" } : MethodName) object_method_1_code (1 : Nat) (Option.none : Option FieldType) ∈ zWS := zws_m 61 (by decide +kernel) rfl
theorem m_62 : Cond.classLink "ScrimshawKernel" (9 : Nat) "ScrimshawKernel$Fields" ∈ zWS := zws_m 62 (by decide +kernel) rfl
theorem m_63 : lw_tbl[63]? = some (Cond.arrayOver (FieldType.object "ScrimshawKernel$Fields")) := by decide +kernel
theorem m_64 : Cond.instantiable "ScrimshawKernel$Fields" (1 : Nat) ∈ zWS := zws_m 64 (by decide +kernel) rfl
theorem m_65 : lw_tbl[65]? = some (Cond.methodLinkNest "ScrimshawKernel" (15 : Nat) ({ cls := "ScrimshawKernel$Fields", name := "<init>", desc := "()V" } : MethodName) "ScrimshawKernel") := by decide +kernel
theorem m_66 : Cond.instanceMethod ({ cls := "ScrimshawKernel$Fields", name := "<init>", desc := "()V" } : MethodName) ∈ zWS := zws_m 66 (by decide +kernel) rfl
theorem m_67 : Cond.code ({ cls := "ScrimshawKernel$Fields", name := "<init>", desc := "()V" } : MethodName) prog_2_method_1_code (1 : Nat) (Option.none : Option FieldType) ∈ zWS := zws_m 67 (by decide +kernel) rfl
theorem m_68 : Cond.methodLink "ScrimshawKernel$Fields" (3 : Nat) ({ cls := "java/lang/Object", name := "<init>", desc := "()V" } : MethodName) ∈ zWS := zws_m 68 (by decide +kernel) rfl
theorem m_69 : Cond.fieldLink "ScrimshawKernel$Fields" (9 : Nat) "ScrimshawKernel$Fields" "rows" "[J" ∈ zWS := zws_m 69 (by decide +kernel) rfl
theorem m_70 : Cond.laysFinal "ScrimshawKernel$Fields" "ScrimshawKernel$Fields" "rows" "[J" ∈ zWS := zws_m 70 (by decide +kernel) rfl
theorem m_73 : Cond.arrayClass FieldType.long ∈ zWS := zws_m 73 (by decide +kernel) rfl
theorem m_74 : Cond.classLink "ScrimshawKernel" (20 : Nat) "ScrimshawKernel$Pen" ∈ zWS := zws_m 74 (by decide +kernel) rfl
theorem m_75 : Cond.instantiable "ScrimshawKernel$Pen" (8 : Nat) ∈ zWS := zws_m 75 (by decide +kernel) rfl
theorem m_76 : lw_tbl[76]? = some (Cond.methodLinkNest "ScrimshawKernel" (22 : Nat) ({ cls := "ScrimshawKernel$Pen", name := "<init>", desc := "()V" } : MethodName) "ScrimshawKernel") := by decide +kernel
theorem m_77 : Cond.instanceMethod ({ cls := "ScrimshawKernel$Pen", name := "<init>", desc := "()V" } : MethodName) ∈ zWS := zws_m 77 (by decide +kernel) rfl
theorem m_78 : Cond.code ({ cls := "ScrimshawKernel$Pen", name := "<init>", desc := "()V" } : MethodName) prog_6_method_1_code (1 : Nat) (Option.none : Option FieldType) ∈ zWS := zws_m 78 (by decide +kernel) rfl
theorem m_79 : Cond.methodLink "ScrimshawKernel$Pen" (3 : Nat) ({ cls := "java/lang/Object", name := "<init>", desc := "()V" } : MethodName) ∈ zWS := zws_m 79 (by decide +kernel) rfl
theorem m_80 : Cond.fieldLink "ScrimshawKernel$Pen" (9 : Nat) "ScrimshawKernel$Pen" "xs" "[I" ∈ zWS := zws_m 80 (by decide +kernel) rfl
theorem m_81 : Cond.fieldLink "ScrimshawKernel$Pen" (15 : Nat) "ScrimshawKernel$Pen" "ys" "[I" ∈ zWS := zws_m 81 (by decide +kernel) rfl
theorem m_82 : Cond.fieldLink "ScrimshawKernel$Pen" (18 : Nat) "ScrimshawKernel$Pen" "length" "I" ∈ zWS := zws_m 82 (by decide +kernel) rfl
theorem m_87 : Cond.fieldLink "ScrimshawKernel$Pen" (22 : Nat) "ScrimshawKernel$Pen" "crossings" "[I" ∈ zWS := zws_m 87 (by decide +kernel) rfl
theorem m_88 : Cond.laysFinal "ScrimshawKernel$Pen" "ScrimshawKernel$Pen" "xs" "[I" ∈ zWS := zws_m 88 (by decide +kernel) rfl
theorem m_90 : Cond.laysFinal "ScrimshawKernel$Pen" "ScrimshawKernel$Pen" "ys" "[I" ∈ zWS := zws_m 90 (by decide +kernel) rfl
theorem m_92 : Cond.lays "ScrimshawKernel$Pen" "ScrimshawKernel$Pen" "length" "I" ∈ zWS := zws_m 92 (by decide +kernel) rfl
theorem m_94 : Cond.lays "ScrimshawKernel$Pen" "ScrimshawKernel$Pen" "firstX" "I" ∈ zWS := zws_m 94 (by decide +kernel) rfl
theorem m_96 : Cond.lays "ScrimshawKernel$Pen" "ScrimshawKernel$Pen" "firstY" "I" ∈ zWS := zws_m 96 (by decide +kernel) rfl
theorem m_98 : Cond.lays "ScrimshawKernel$Pen" "ScrimshawKernel$Pen" "atX" "I" ∈ zWS := zws_m 98 (by decide +kernel) rfl
theorem m_100 : Cond.lays "ScrimshawKernel$Pen" "ScrimshawKernel$Pen" "atY" "I" ∈ zWS := zws_m 100 (by decide +kernel) rfl
theorem m_102 : Cond.laysFinal "ScrimshawKernel$Pen" "ScrimshawKernel$Pen" "crossings" "[I" ∈ zWS := zws_m 102 (by decide +kernel) rfl
theorem m_105 : Cond.arrayClass FieldType.int ∈ zWS := zws_m 105 (by decide +kernel) rfl
theorem m_106 : Cond.classLink "ScrimshawKernel" (27 : Nat) "ScrimshawKernel$History" ∈ zWS := zws_m 106 (by decide +kernel) rfl
theorem m_107 : Cond.instantiable "ScrimshawKernel$History" (4 : Nat) ∈ zWS := zws_m 107 (by decide +kernel) rfl
theorem m_108 : Cond.methodLink "ScrimshawKernel" (29 : Nat) ({ cls := "ScrimshawKernel$History", name := "<init>", desc := "()V" } : MethodName) ∈ zWS := zws_m 108 (by decide +kernel) rfl
theorem m_109 : Cond.instanceMethod ({ cls := "ScrimshawKernel$History", name := "<init>", desc := "()V" } : MethodName) ∈ zWS := zws_m 109 (by decide +kernel) rfl
theorem m_110 : Cond.code ({ cls := "ScrimshawKernel$History", name := "<init>", desc := "()V" } : MethodName) prog_4_method_1_code (2 : Nat) (Option.none : Option FieldType) ∈ zWS := zws_m 110 (by decide +kernel) rfl
theorem m_111 : Cond.methodLink "ScrimshawKernel$History" (3 : Nat) ({ cls := "java/lang/Object", name := "<init>", desc := "()V" } : MethodName) ∈ zWS := zws_m 111 (by decide +kernel) rfl
theorem m_112 : Cond.classLink "ScrimshawKernel$History" (9 : Nat) "ScrimshawKernel$Fields" ∈ zWS := zws_m 112 (by decide +kernel) rfl
theorem m_113 : lw_tbl[113]? = some (Cond.methodLinkNest "ScrimshawKernel$History" (21 : Nat) ({ cls := "ScrimshawKernel$Fields", name := "<init>", desc := "()V" } : MethodName) "ScrimshawKernel") := by decide +kernel
theorem m_114 : Cond.fieldLink "ScrimshawKernel$History" (11 : Nat) "ScrimshawKernel$History" "kept" "[LScrimshawKernel$Fields;" ∈ zWS := zws_m 114 (by decide +kernel) rfl
theorem m_115 : Cond.fieldLink "ScrimshawKernel$History" (17 : Nat) "ScrimshawKernel$History" "keptRegions" "[I" ∈ zWS := zws_m 115 (by decide +kernel) rfl
theorem m_117 : Cond.fieldLink "ScrimshawKernel$History" (22 : Nat) "ScrimshawKernel$History" "count" "I" ∈ zWS := zws_m 117 (by decide +kernel) rfl
theorem m_118 : Cond.laysFinal "ScrimshawKernel$History" "ScrimshawKernel$History" "kept" "[LScrimshawKernel$Fields;" ∈ zWS := zws_m 118 (by decide +kernel) rfl
theorem m_120 : Cond.laysFinal "ScrimshawKernel$History" "ScrimshawKernel$History" "keptRegions" "[I" ∈ zWS := zws_m 120 (by decide +kernel) rfl
theorem m_122 : Cond.lays "ScrimshawKernel$History" "ScrimshawKernel$History" "latest" "I" ∈ zWS := zws_m 122 (by decide +kernel) rfl
theorem m_124 : Cond.lays "ScrimshawKernel$History" "ScrimshawKernel$History" "count" "I" ∈ zWS := zws_m 124 (by decide +kernel) rfl
theorem m_127 : Cond.classLink "ScrimshawKernel" (34 : Nat) "ScrimshawKernel$Flood" ∈ zWS := zws_m 127 (by decide +kernel) rfl
theorem m_128 : Cond.instantiable "ScrimshawKernel$Flood" (4 : Nat) ∈ zWS := zws_m 128 (by decide +kernel) rfl
theorem m_129 : lw_tbl[129]? = some (Cond.methodLinkNest "ScrimshawKernel" (36 : Nat) ({ cls := "ScrimshawKernel$Flood", name := "<init>", desc := "()V" } : MethodName) "ScrimshawKernel") := by decide +kernel
theorem m_130 : Cond.instanceMethod ({ cls := "ScrimshawKernel$Flood", name := "<init>", desc := "()V" } : MethodName) ∈ zWS := zws_m 130 (by decide +kernel) rfl
theorem m_131 : Cond.code ({ cls := "ScrimshawKernel$Flood", name := "<init>", desc := "()V" } : MethodName) prog_3_method_1_code (1 : Nat) (Option.none : Option FieldType) ∈ zWS := zws_m 131 (by decide +kernel) rfl
theorem m_132 : Cond.methodLink "ScrimshawKernel$Flood" (3 : Nat) ({ cls := "java/lang/Object", name := "<init>", desc := "()V" } : MethodName) ∈ zWS := zws_m 132 (by decide +kernel) rfl
theorem m_133 : Cond.classLink "ScrimshawKernel$Flood" (9 : Nat) "ScrimshawKernel$Fields" ∈ zWS := zws_m 133 (by decide +kernel) rfl
theorem m_134 : lw_tbl[134]? = some (Cond.methodLinkNest "ScrimshawKernel$Flood" (11 : Nat) ({ cls := "ScrimshawKernel$Fields", name := "<init>", desc := "()V" } : MethodName) "ScrimshawKernel") := by decide +kernel
theorem m_135 : Cond.fieldLink "ScrimshawKernel$Flood" (12 : Nat) "ScrimshawKernel$Flood" "rest" "LScrimshawKernel$Fields;" ∈ zWS := zws_m 135 (by decide +kernel) rfl
theorem m_136 : Cond.fieldLink "ScrimshawKernel$Flood" (18 : Nat) "ScrimshawKernel$Flood" "found" "LScrimshawKernel$Fields;" ∈ zWS := zws_m 136 (by decide +kernel) rfl
theorem m_137 : Cond.fieldLink "ScrimshawKernel$Flood" (59 : Nat) "ScrimshawKernel$Flood" "low" "I" ∈ zWS := zws_m 137 (by decide +kernel) rfl
theorem m_138 : Cond.fieldLink "ScrimshawKernel$Flood" (63 : Nat) "ScrimshawKernel$Flood" "high" "I" ∈ zWS := zws_m 138 (by decide +kernel) rfl
theorem m_139 : Cond.laysFinal "ScrimshawKernel$Flood" "ScrimshawKernel$Flood" "rest" "LScrimshawKernel$Fields;" ∈ zWS := zws_m 139 (by decide +kernel) rfl
theorem m_141 : Cond.laysFinal "ScrimshawKernel$Flood" "ScrimshawKernel$Flood" "found" "LScrimshawKernel$Fields;" ∈ zWS := zws_m 141 (by decide +kernel) rfl
theorem m_143 : Cond.lays "ScrimshawKernel$Flood" "ScrimshawKernel$Flood" "low" "I" ∈ zWS := zws_m 143 (by decide +kernel) rfl
theorem m_145 : Cond.lays "ScrimshawKernel$Flood" "ScrimshawKernel$Flood" "high" "I" ∈ zWS := zws_m 145 (by decide +kernel) rfl
theorem m_148 : Cond.classLink "ScrimshawKernel" (41 : Nat) "ScrimshawKernel$Outline" ∈ zWS := zws_m 148 (by decide +kernel) rfl
theorem m_149 : Cond.instantiable "ScrimshawKernel$Outline" (12 : Nat) ∈ zWS := zws_m 149 (by decide +kernel) rfl
theorem m_150 : lw_tbl[150]? = some (Cond.methodLinkNest "ScrimshawKernel" (43 : Nat) ({ cls := "ScrimshawKernel$Outline", name := "<init>", desc := "()V" } : MethodName) "ScrimshawKernel") := by decide +kernel
theorem m_151 : Cond.instanceMethod ({ cls := "ScrimshawKernel$Outline", name := "<init>", desc := "()V" } : MethodName) ∈ zWS := zws_m 151 (by decide +kernel) rfl
theorem m_152 : Cond.code ({ cls := "ScrimshawKernel$Outline", name := "<init>", desc := "()V" } : MethodName) prog_5_method_1_code (1 : Nat) (Option.none : Option FieldType) ∈ zWS := zws_m 152 (by decide +kernel) rfl
theorem m_153 : Cond.methodLink "ScrimshawKernel$Outline" (3 : Nat) ({ cls := "java/lang/Object", name := "<init>", desc := "()V" } : MethodName) ∈ zWS := zws_m 153 (by decide +kernel) rfl
theorem m_154 : Cond.classLink "ScrimshawKernel$Outline" (9 : Nat) "ScrimshawKernel$Fields" ∈ zWS := zws_m 154 (by decide +kernel) rfl
theorem m_155 : lw_tbl[155]? = some (Cond.methodLinkNest "ScrimshawKernel$Outline" (11 : Nat) ({ cls := "ScrimshawKernel$Fields", name := "<init>", desc := "()V" } : MethodName) "ScrimshawKernel") := by decide +kernel
theorem m_156 : Cond.fieldLink "ScrimshawKernel$Outline" (12 : Nat) "ScrimshawKernel$Outline" "region" "LScrimshawKernel$Fields;" ∈ zWS := zws_m 156 (by decide +kernel) rfl
theorem m_157 : Cond.fieldLink "ScrimshawKernel$Outline" (18 : Nat) "ScrimshawKernel$Outline" "walkedRight" "LScrimshawKernel$Fields;" ∈ zWS := zws_m 157 (by decide +kernel) rfl
theorem m_158 : Cond.fieldLink "ScrimshawKernel$Outline" (21 : Nat) "ScrimshawKernel$Outline" "walkedUp" "LScrimshawKernel$Fields;" ∈ zWS := zws_m 158 (by decide +kernel) rfl
theorem m_159 : Cond.fieldLink "ScrimshawKernel$Outline" (51 : Nat) "ScrimshawKernel$Outline" "fromY" "I" ∈ zWS := zws_m 159 (by decide +kernel) rfl
theorem m_165 : Cond.fieldLink "ScrimshawKernel$Outline" (54 : Nat) "ScrimshawKernel$Outline" "wanted" "I" ∈ zWS := zws_m 165 (by decide +kernel) rfl
theorem m_168 : Cond.laysFinal "ScrimshawKernel$Outline" "ScrimshawKernel$Outline" "region" "LScrimshawKernel$Fields;" ∈ zWS := zws_m 168 (by decide +kernel) rfl
theorem m_170 : Cond.laysFinal "ScrimshawKernel$Outline" "ScrimshawKernel$Outline" "walkedRight" "LScrimshawKernel$Fields;" ∈ zWS := zws_m 170 (by decide +kernel) rfl
theorem m_172 : Cond.laysFinal "ScrimshawKernel$Outline" "ScrimshawKernel$Outline" "walkedUp" "LScrimshawKernel$Fields;" ∈ zWS := zws_m 172 (by decide +kernel) rfl
theorem m_174 : Cond.lays "ScrimshawKernel$Outline" "ScrimshawKernel$Outline" "fromY" "I" ∈ zWS := zws_m 174 (by decide +kernel) rfl
theorem m_176 : Cond.lays "ScrimshawKernel$Outline" "ScrimshawKernel$Outline" "x" "I" ∈ zWS := zws_m 176 (by decide +kernel) rfl
theorem m_178 : Cond.lays "ScrimshawKernel$Outline" "ScrimshawKernel$Outline" "y" "I" ∈ zWS := zws_m 178 (by decide +kernel) rfl
theorem m_180 : Cond.lays "ScrimshawKernel$Outline" "ScrimshawKernel$Outline" "way" "I" ∈ zWS := zws_m 180 (by decide +kernel) rfl
theorem m_182 : Cond.lays "ScrimshawKernel$Outline" "ScrimshawKernel$Outline" "cornerCount" "I" ∈ zWS := zws_m 182 (by decide +kernel) rfl
theorem m_184 : Cond.lays "ScrimshawKernel$Outline" "ScrimshawKernel$Outline" "areaAround" "I" ∈ zWS := zws_m 184 (by decide +kernel) rfl
theorem m_186 : Cond.lays "ScrimshawKernel$Outline" "ScrimshawKernel$Outline" "wanted" "I" ∈ zWS := zws_m 186 (by decide +kernel) rfl
theorem m_188 : Cond.lays "ScrimshawKernel$Outline" "ScrimshawKernel$Outline" "wantedX" "I" ∈ zWS := zws_m 188 (by decide +kernel) rfl
theorem m_190 : Cond.lays "ScrimshawKernel$Outline" "ScrimshawKernel$Outline" "wantedY" "I" ∈ zWS := zws_m 190 (by decide +kernel) rfl
theorem m_193 : Cond.classLink "ScrimshawKernel" (48 : Nat) "ScrimshawKernel$StripWalk" ∈ zWS := zws_m 193 (by decide +kernel) rfl
theorem m_194 : Cond.instantiable "ScrimshawKernel$StripWalk" (7 : Nat) ∈ zWS := zws_m 194 (by decide +kernel) rfl
theorem m_195 : lw_tbl[195]? = some (Cond.methodLinkNest "ScrimshawKernel" (50 : Nat) ({ cls := "ScrimshawKernel$StripWalk", name := "<init>", desc := "()V" } : MethodName) "ScrimshawKernel") := by decide +kernel
theorem m_196 : Cond.instanceMethod ({ cls := "ScrimshawKernel$StripWalk", name := "<init>", desc := "()V" } : MethodName) ∈ zWS := zws_m 196 (by decide +kernel) rfl
theorem m_197 : Cond.code ({ cls := "ScrimshawKernel$StripWalk", name := "<init>", desc := "()V" } : MethodName) prog_7_method_1_code (1 : Nat) (Option.none : Option FieldType) ∈ zWS := zws_m 197 (by decide +kernel) rfl
theorem m_198 : Cond.methodLink "ScrimshawKernel$StripWalk" (3 : Nat) ({ cls := "java/lang/Object", name := "<init>", desc := "()V" } : MethodName) ∈ zWS := zws_m 198 (by decide +kernel) rfl
theorem m_199 : Cond.classLink "ScrimshawKernel$StripWalk" (9 : Nat) "ScrimshawKernel$Fields" ∈ zWS := zws_m 199 (by decide +kernel) rfl
theorem m_200 : lw_tbl[200]? = some (Cond.methodLinkNest "ScrimshawKernel$StripWalk" (11 : Nat) ({ cls := "ScrimshawKernel$Fields", name := "<init>", desc := "()V" } : MethodName) "ScrimshawKernel") := by decide +kernel
theorem m_201 : Cond.fieldLink "ScrimshawKernel$StripWalk" (12 : Nat) "ScrimshawKernel$StripWalk" "region" "LScrimshawKernel$Fields;" ∈ zWS := zws_m 201 (by decide +kernel) rfl
theorem m_202 : Cond.fieldLink "ScrimshawKernel$StripWalk" (42 : Nat) "ScrimshawKernel$StripWalk" "fromY" "I" ∈ zWS := zws_m 202 (by decide +kernel) rfl
theorem m_203 : Cond.fieldLink "ScrimshawKernel$StripWalk" (49 : Nat) "ScrimshawKernel$StripWalk" "toCome" "J" ∈ zWS := zws_m 203 (by decide +kernel) rfl
theorem m_208 : Cond.laysFinal "ScrimshawKernel$StripWalk" "ScrimshawKernel$StripWalk" "region" "LScrimshawKernel$Fields;" ∈ zWS := zws_m 208 (by decide +kernel) rfl
theorem m_210 : Cond.lays "ScrimshawKernel$StripWalk" "ScrimshawKernel$StripWalk" "fromY" "I" ∈ zWS := zws_m 210 (by decide +kernel) rfl
theorem m_212 : Cond.lays "ScrimshawKernel$StripWalk" "ScrimshawKernel$StripWalk" "toCome" "J" ∈ zWS := zws_m 212 (by decide +kernel) rfl
theorem m_214 : Cond.lays "ScrimshawKernel$StripWalk" "ScrimshawKernel$StripWalk" "x" "I" ∈ zWS := zws_m 214 (by decide +kernel) rfl
theorem m_216 : Cond.lays "ScrimshawKernel$StripWalk" "ScrimshawKernel$StripWalk" "y" "I" ∈ zWS := zws_m 216 (by decide +kernel) rfl
theorem m_218 : Cond.lays "ScrimshawKernel$StripWalk" "ScrimshawKernel$StripWalk" "width" "I" ∈ zWS := zws_m 218 (by decide +kernel) rfl
theorem m_220 : Cond.lays "ScrimshawKernel$StripWalk" "ScrimshawKernel$StripWalk" "height" "I" ∈ zWS := zws_m 220 (by decide +kernel) rfl
theorem m_223 : Cond.fieldLink "ScrimshawKernel" (11 : Nat) "ScrimshawKernel" "regions" "[LScrimshawKernel$Fields;" ∈ zWS := zws_m 223 (by decide +kernel) rfl
theorem m_224 : Cond.fieldLink "ScrimshawKernel" (16 : Nat) "ScrimshawKernel" "spare" "LScrimshawKernel$Fields;" ∈ zWS := zws_m 224 (by decide +kernel) rfl
theorem m_225 : Cond.fieldLink "ScrimshawKernel" (23 : Nat) "ScrimshawKernel" "pen" "LScrimshawKernel$Pen;" ∈ zWS := zws_m 225 (by decide +kernel) rfl
theorem m_226 : Cond.fieldLink "ScrimshawKernel" (30 : Nat) "ScrimshawKernel" "history" "LScrimshawKernel$History;" ∈ zWS := zws_m 226 (by decide +kernel) rfl
theorem m_227 : Cond.fieldLink "ScrimshawKernel" (37 : Nat) "ScrimshawKernel" "flood" "LScrimshawKernel$Flood;" ∈ zWS := zws_m 227 (by decide +kernel) rfl
theorem m_228 : Cond.fieldLink "ScrimshawKernel" (44 : Nat) "ScrimshawKernel" "outline" "LScrimshawKernel$Outline;" ∈ zWS := zws_m 228 (by decide +kernel) rfl
theorem m_229 : Cond.fieldLink "ScrimshawKernel" (51 : Nat) "ScrimshawKernel" "stripWalk" "LScrimshawKernel$StripWalk;" ∈ zWS := zws_m 229 (by decide +kernel) rfl
theorem m_230 : Cond.laysFinal "ScrimshawKernel" "ScrimshawKernel" "regions" "[LScrimshawKernel$Fields;" ∈ zWS := zws_m 230 (by decide +kernel) rfl
theorem m_232 : Cond.laysFinal "ScrimshawKernel" "ScrimshawKernel" "spare" "LScrimshawKernel$Fields;" ∈ zWS := zws_m 232 (by decide +kernel) rfl
theorem m_234 : Cond.laysFinal "ScrimshawKernel" "ScrimshawKernel" "pen" "LScrimshawKernel$Pen;" ∈ zWS := zws_m 234 (by decide +kernel) rfl
theorem m_236 : Cond.laysFinal "ScrimshawKernel" "ScrimshawKernel" "history" "LScrimshawKernel$History;" ∈ zWS := zws_m 236 (by decide +kernel) rfl
theorem m_238 : Cond.laysFinal "ScrimshawKernel" "ScrimshawKernel" "flood" "LScrimshawKernel$Flood;" ∈ zWS := zws_m 238 (by decide +kernel) rfl
theorem m_240 : Cond.laysFinal "ScrimshawKernel" "ScrimshawKernel" "outline" "LScrimshawKernel$Outline;" ∈ zWS := zws_m 240 (by decide +kernel) rfl
theorem m_242 : Cond.laysFinal "ScrimshawKernel" "ScrimshawKernel" "stripWalk" "LScrimshawKernel$StripWalk;" ∈ zWS := zws_m 242 (by decide +kernel) rfl
theorem m_249 : Cond.methodLink "ScrimshawKernel" (66 : Nat) ({ cls := "ScrimshawKernel$Pen", name := "length", desc := "()I" } : MethodName) ∈ zWS := zws_m 249 (by decide +kernel) rfl
theorem m_250 : Cond.instanceMethod ({ cls := "ScrimshawKernel$Pen", name := "length", desc := "()I" } : MethodName) ∈ zWS := zws_m 250 (by decide +kernel) rfl
theorem m_251 : Cond.selects "ScrimshawKernel$Pen" ({ cls := "ScrimshawKernel$Pen", name := "length", desc := "()I" } : MethodName) ({ cls := "ScrimshawKernel$Pen", name := "length", desc := "()I" } : MethodName) ∈ zWS := zws_m 251 (by decide +kernel) rfl
theorem m_252 : Cond.code ({ cls := "ScrimshawKernel$Pen", name := "length", desc := "()I" } : MethodName) prog_6_method_2_code (1 : Nat) (Option.some FieldType.int) ∈ zWS := zws_m 252 (by decide +kernel) rfl
theorem m_270 : Cond.instanceMethod ({ cls := "ScrimshawKernel$Fields", name := "copy", desc := "(LScrimshawKernel$Fields;)V" } : MethodName) ∈ zWS := zws_m 270 (by decide +kernel) rfl
theorem m_271 : Cond.selects "ScrimshawKernel$Fields" ({ cls := "ScrimshawKernel$Fields", name := "copy", desc := "(LScrimshawKernel$Fields;)V" } : MethodName) ({ cls := "ScrimshawKernel$Fields", name := "copy", desc := "(LScrimshawKernel$Fields;)V" } : MethodName) ∈ zWS := zws_m 271 (by decide +kernel) rfl
theorem m_272 : Cond.code ({ cls := "ScrimshawKernel$Fields", name := "copy", desc := "(LScrimshawKernel$Fields;)V" } : MethodName) prog_2_method_8_code (3 : Nat) (Option.none : Option FieldType) ∈ zWS := zws_m 272 (by decide +kernel) rfl
theorem m_273 : Cond.methodLink "ScrimshawKernel$Fields" (25 : Nat) ({ cls := "ScrimshawKernel$Fields", name := "row", desc := "(I)J" } : MethodName) ∈ zWS := zws_m 273 (by decide +kernel) rfl
theorem m_274 : Cond.instanceMethod ({ cls := "ScrimshawKernel$Fields", name := "row", desc := "(I)J" } : MethodName) ∈ zWS := zws_m 274 (by decide +kernel) rfl
theorem m_275 : Cond.selects "ScrimshawKernel$Fields" ({ cls := "ScrimshawKernel$Fields", name := "row", desc := "(I)J" } : MethodName) ({ cls := "ScrimshawKernel$Fields", name := "row", desc := "(I)J" } : MethodName) ∈ zWS := zws_m 275 (by decide +kernel) rfl
theorem m_276 : Cond.code ({ cls := "ScrimshawKernel$Fields", name := "row", desc := "(I)J" } : MethodName) prog_2_method_2_code (3 : Nat) (Option.some FieldType.long) ∈ zWS := zws_m 276 (by decide +kernel) rfl
theorem m_277 : Cond.methodLink "ScrimshawKernel$Fields" (29 : Nat) ({ cls := "ScrimshawKernel$Fields", name := "putRow", desc := "(IJ)V" } : MethodName) ∈ zWS := zws_m 277 (by decide +kernel) rfl
theorem m_278 : Cond.instanceMethod ({ cls := "ScrimshawKernel$Fields", name := "putRow", desc := "(IJ)V" } : MethodName) ∈ zWS := zws_m 278 (by decide +kernel) rfl
theorem m_279 : Cond.selects "ScrimshawKernel$Fields" ({ cls := "ScrimshawKernel$Fields", name := "putRow", desc := "(IJ)V" } : MethodName) ({ cls := "ScrimshawKernel$Fields", name := "putRow", desc := "(IJ)V" } : MethodName) ∈ zWS := zws_m 279 (by decide +kernel) rfl
theorem m_280 : Cond.code ({ cls := "ScrimshawKernel$Fields", name := "putRow", desc := "(IJ)V" } : MethodName) prog_2_method_3_code (5 : Nat) (Option.none : Option FieldType) ∈ zWS := zws_m 280 (by decide +kernel) rfl
theorem m_281 : Cond.methodLink "ScrimshawKernelLaw" (239 : Nat) ({ cls := "ScrimshawKernel", name := "digest", desc := "()J" } : MethodName) ∈ zWS := zws_m 281 (by decide +kernel) rfl
theorem m_282 : Cond.instanceMethod ({ cls := "ScrimshawKernel", name := "digest", desc := "()J" } : MethodName) ∈ zWS := zws_m 282 (by decide +kernel) rfl
theorem m_283 : Cond.selects "ScrimshawKernel" ({ cls := "ScrimshawKernel", name := "digest", desc := "()J" } : MethodName) ({ cls := "ScrimshawKernel", name := "digest", desc := "()J" } : MethodName) ∈ zWS := zws_m 283 (by decide +kernel) rfl
theorem m_284 : Cond.code ({ cls := "ScrimshawKernel", name := "digest", desc := "()J" } : MethodName) prog_1_method_36_code (6 : Nat) (Option.some FieldType.long) ∈ zWS := zws_m 284 (by decide +kernel) rfl
theorem m_285 : Cond.constantLong "ScrimshawKernel" (276 : Nat) (2543 : Int64) ∈ zWS := zws_m 285 (by decide +kernel) rfl
theorem m_286 : Cond.methodLink "ScrimshawKernel" (278 : Nat) ({ cls := "ScrimshawKernel", name := "mixed", desc := "(JJ)J" } : MethodName) ∈ zWS := zws_m 286 (by decide +kernel) rfl
theorem m_287 : Cond.static ({ cls := "ScrimshawKernel", name := "mixed", desc := "(JJ)J" } : MethodName) ∈ zWS := zws_m 287 (by decide +kernel) rfl
theorem m_288 : Cond.code ({ cls := "ScrimshawKernel", name := "mixed", desc := "(JJ)J" } : MethodName) prog_1_method_51_code (4 : Nat) (Option.some FieldType.long) ∈ zWS := zws_m 288 (by decide +kernel) rfl
theorem m_289 : Cond.constantLong "ScrimshawKernel" (304 : Nat) (31 : Int64) ∈ zWS := zws_m 289 (by decide +kernel) rfl
theorem m_290 : Cond.methodLink "ScrimshawKernel" (108 : Nat) ({ cls := "ScrimshawKernel$Fields", name := "count", desc := "()I" } : MethodName) ∈ zWS := zws_m 290 (by decide +kernel) rfl
theorem m_291 : Cond.instanceMethod ({ cls := "ScrimshawKernel$Fields", name := "count", desc := "()I" } : MethodName) ∈ zWS := zws_m 291 (by decide +kernel) rfl
theorem m_292 : Cond.selects "ScrimshawKernel$Fields" ({ cls := "ScrimshawKernel$Fields", name := "count", desc := "()I" } : MethodName) ({ cls := "ScrimshawKernel$Fields", name := "count", desc := "()I" } : MethodName) ∈ zWS := zws_m 292 (by decide +kernel) rfl
theorem m_293 : Cond.code ({ cls := "ScrimshawKernel$Fields", name := "count", desc := "()I" } : MethodName) prog_2_method_12_code (3 : Nat) (Option.some FieldType.int) ∈ zWS := zws_m 293 (by decide +kernel) rfl
theorem m_294 : Cond.methodLink "ScrimshawKernel$Fields" (33 : Nat) ({ cls := "java/lang/Long", name := "bitCount", desc := "(J)I" } : MethodName) ∈ zWS := zws_m 294 (by decide +kernel) rfl
theorem m_295 : Cond.static ({ cls := "java/lang/Long", name := "bitCount", desc := "(J)I" } : MethodName) ∈ zWS := zws_m 295 (by decide +kernel) rfl
theorem m_296 : Cond.code ({ cls := "java/lang/Long", name := "bitCount", desc := "(J)I" } : MethodName) prog_14_method_50_code (2 : Nat) (Option.some FieldType.int) ∈ zWS := zws_m 296 (by decide +kernel) rfl
theorem m_297 : Cond.constantLong "java/lang/Long" (314 : Nat) (6148914691236517205 : Int64) ∈ zWS := zws_m 297 (by decide +kernel) rfl
theorem m_298 : Cond.constantLong "java/lang/Long" (316 : Nat) (3689348814741910323 : Int64) ∈ zWS := zws_m 298 (by decide +kernel) rfl
theorem m_299 : Cond.constantLong "java/lang/Long" (318 : Nat) (1085102592571150095 : Int64) ∈ zWS := zws_m 299 (by decide +kernel) rfl
theorem m_300 : Cond.methodLink "ScrimshawKernel" (193 : Nat) ({ cls := "ScrimshawKernel$Fields", name := "countEdges", desc := "()I" } : MethodName) ∈ zWS := zws_m 300 (by decide +kernel) rfl
theorem m_301 : Cond.instanceMethod ({ cls := "ScrimshawKernel$Fields", name := "countEdges", desc := "()I" } : MethodName) ∈ zWS := zws_m 301 (by decide +kernel) rfl
theorem m_302 : Cond.selects "ScrimshawKernel$Fields" ({ cls := "ScrimshawKernel$Fields", name := "countEdges", desc := "()I" } : MethodName) ({ cls := "ScrimshawKernel$Fields", name := "countEdges", desc := "()I" } : MethodName) ∈ zWS := zws_m 302 (by decide +kernel) rfl
theorem m_303 : Cond.code ({ cls := "ScrimshawKernel$Fields", name := "countEdges", desc := "()I" } : MethodName) prog_2_method_13_code (5 : Nat) (Option.some FieldType.int) ∈ zWS := zws_m 303 (by decide +kernel) rfl
theorem m_304 : Cond.constantLong "ScrimshawKernel$Fields" (39 : Nat) (-1 : Int64) ∈ zWS := zws_m 304 (by decide +kernel) rfl
theorem m_305 : Cond.methodLink "ScrimshawKernel" (196 : Nat) ({ cls := "ScrimshawKernel$Flood", name := "countPieces", desc := "(LScrimshawKernel$Fields;)I" } : MethodName) ∈ zWS := zws_m 305 (by decide +kernel) rfl
theorem m_306 : Cond.instanceMethod ({ cls := "ScrimshawKernel$Flood", name := "countPieces", desc := "(LScrimshawKernel$Fields;)I" } : MethodName) ∈ zWS := zws_m 306 (by decide +kernel) rfl
theorem m_307 : Cond.selects "ScrimshawKernel$Flood" ({ cls := "ScrimshawKernel$Flood", name := "countPieces", desc := "(LScrimshawKernel$Fields;)I" } : MethodName) ({ cls := "ScrimshawKernel$Flood", name := "countPieces", desc := "(LScrimshawKernel$Fields;)I" } : MethodName) ∈ zWS := zws_m 307 (by decide +kernel) rfl
theorem m_308 : Cond.code ({ cls := "ScrimshawKernel$Flood", name := "countPieces", desc := "(LScrimshawKernel$Fields;)I" } : MethodName) prog_3_method_2_code (2 : Nat) (Option.some FieldType.int) ∈ zWS := zws_m 308 (by decide +kernel) rfl
theorem m_309 : Cond.methodLink "ScrimshawKernel$Flood" (21 : Nat) ({ cls := "ScrimshawKernel$Fields", name := "copy", desc := "(LScrimshawKernel$Fields;)V" } : MethodName) ∈ zWS := zws_m 309 (by decide +kernel) rfl
theorem m_310 : Cond.methodLink "ScrimshawKernel$Flood" (25 : Nat) ({ cls := "ScrimshawKernel$Flood", name := "countParts", desc := "(Z)I" } : MethodName) ∈ zWS := zws_m 310 (by decide +kernel) rfl
theorem m_312 : Cond.instanceMethod ({ cls := "ScrimshawKernel$Flood", name := "countParts", desc := "(Z)I" } : MethodName) ∈ zWS := zws_m 312 (by decide +kernel) rfl
theorem m_313 : Cond.code ({ cls := "ScrimshawKernel$Flood", name := "countParts", desc := "(Z)I" } : MethodName) prog_3_method_7_code (5 : Nat) (Option.some FieldType.int) ∈ zWS := zws_m 313 (by decide +kernel) rfl
theorem m_314 : Cond.methodLink "ScrimshawKernel$Flood" (52 : Nat) ({ cls := "ScrimshawKernel$Fields", name := "row", desc := "(I)J" } : MethodName) ∈ zWS := zws_m 314 (by decide +kernel) rfl
theorem m_315 : lw_tbl[315]? = some (Cond.methodLinkNest "ScrimshawKernel$Flood" (73 : Nat) ({ cls := "ScrimshawKernel", name := "lowestBit", desc := "(J)I" } : MethodName) "ScrimshawKernel") := by decide +kernel
theorem m_324 : Cond.instanceMethod ({ cls := "ScrimshawKernel$Fields", name := "empty", desc := "()V" } : MethodName) ∈ zWS := zws_m 324 (by decide +kernel) rfl
theorem m_325 : Cond.selects "ScrimshawKernel$Fields" ({ cls := "ScrimshawKernel$Fields", name := "empty", desc := "()V" } : MethodName) ({ cls := "ScrimshawKernel$Fields", name := "empty", desc := "()V" } : MethodName) ∈ zWS := zws_m 325 (by decide +kernel) rfl
theorem m_326 : Cond.code ({ cls := "ScrimshawKernel$Fields", name := "empty", desc := "()V" } : MethodName) prog_2_method_6_code (1 : Nat) (Option.none : Option FieldType) ∈ zWS := zws_m 326 (by decide +kernel) rfl
theorem m_327 : Cond.methodLink "ScrimshawKernel$Fields" (15 : Nat) ({ cls := "java/util/Arrays", name := "fill", desc := "([JJ)V" } : MethodName) ∈ zWS := zws_m 327 (by decide +kernel) rfl
theorem m_328 : Cond.static ({ cls := "java/util/Arrays", name := "fill", desc := "([JJ)V" } : MethodName) ∈ zWS := zws_m 328 (by decide +kernel) rfl
theorem m_329 : Cond.code ({ cls := "java/util/Arrays", name := "fill", desc := "([JJ)V" } : MethodName) prog_20_method_101_code (5 : Nat) (Option.none : Option FieldType) ∈ zWS := zws_m 329 (by decide +kernel) rfl
theorem m_334 : Cond.methodLink "ScrimshawKernel$Flood" (66 : Nat) ({ cls := "ScrimshawKernel$Flood", name := "spread", desc := "(Z)V" } : MethodName) ∈ zWS := zws_m 334 (by decide +kernel) rfl
theorem m_336 : Cond.instanceMethod ({ cls := "ScrimshawKernel$Flood", name := "spread", desc := "(Z)V" } : MethodName) ∈ zWS := zws_m 336 (by decide +kernel) rfl
theorem m_337 : Cond.code ({ cls := "ScrimshawKernel$Flood", name := "spread", desc := "(Z)V" } : MethodName) prog_3_method_10_code (5 : Nat) (Option.none : Option FieldType) ∈ zWS := zws_m 337 (by decide +kernel) rfl
theorem m_338 : Cond.methodLink "ScrimshawKernel$Flood" (81 : Nat) ({ cls := "ScrimshawKernel$Flood", name := "spreadInto", desc := "(IZ)Z" } : MethodName) ∈ zWS := zws_m 338 (by decide +kernel) rfl
theorem m_340 : Cond.instanceMethod ({ cls := "ScrimshawKernel$Flood", name := "spreadInto", desc := "(IZ)Z" } : MethodName) ∈ zWS := zws_m 340 (by decide +kernel) rfl
theorem m_341 : Cond.code ({ cls := "ScrimshawKernel$Flood", name := "spreadInto", desc := "(IZ)Z" } : MethodName) prog_3_method_11_code (11 : Nat) (Option.some FieldType.boolean) ∈ zWS := zws_m 341 (by decide +kernel) rfl
theorem m_342 : Cond.methodLink "ScrimshawKernel$Flood" (85 : Nat) ({ cls := "ScrimshawKernel$Flood", name := "along", desc := "(JJ)J" } : MethodName) ∈ zWS := zws_m 342 (by decide +kernel) rfl
theorem m_343 : Cond.static ({ cls := "ScrimshawKernel$Flood", name := "along", desc := "(JJ)J" } : MethodName) ∈ zWS := zws_m 343 (by decide +kernel) rfl
theorem m_344 : Cond.code ({ cls := "ScrimshawKernel$Flood", name := "along", desc := "(JJ)J" } : MethodName) prog_3_method_12_code (13 : Nat) (Option.some FieldType.long) ∈ zWS := zws_m 344 (by decide +kernel) rfl
theorem m_345 : Cond.methodLink "ScrimshawKernel$Flood" (55 : Nat) ({ cls := "ScrimshawKernel$Fields", name := "putRow", desc := "(IJ)V" } : MethodName) ∈ zWS := zws_m 345 (by decide +kernel) rfl
theorem m_346 : Cond.methodLink "ScrimshawKernel$Flood" (89 : Nat) ({ cls := "java/lang/Math", name := "min", desc := "(II)I" } : MethodName) ∈ zWS := zws_m 346 (by decide +kernel) rfl
theorem m_347 : Cond.static ({ cls := "java/lang/Math", name := "min", desc := "(II)I" } : MethodName) ∈ zWS := zws_m 347 (by decide +kernel) rfl
theorem m_348 : Cond.code ({ cls := "java/lang/Math", name := "min", desc := "(II)I" } : MethodName) prog_15_method_69_code (2 : Nat) (Option.some FieldType.int) ∈ zWS := zws_m 348 (by decide +kernel) rfl
theorem m_349 : Cond.methodLink "ScrimshawKernel$Flood" (95 : Nat) ({ cls := "java/lang/Math", name := "max", desc := "(II)I" } : MethodName) ∈ zWS := zws_m 349 (by decide +kernel) rfl
theorem m_350 : Cond.static ({ cls := "java/lang/Math", name := "max", desc := "(II)I" } : MethodName) ∈ zWS := zws_m 350 (by decide +kernel) rfl
theorem m_351 : Cond.code ({ cls := "java/lang/Math", name := "max", desc := "(II)I" } : MethodName) prog_15_method_65_code (2 : Nat) (Option.some FieldType.int) ∈ zWS := zws_m 351 (by decide +kernel) rfl
theorem m_352 : Cond.methodLink "ScrimshawKernel$Flood" (70 : Nat) ({ cls := "ScrimshawKernel$Flood", name := "removeFound", desc := "()V" } : MethodName) ∈ zWS := zws_m 352 (by decide +kernel) rfl
theorem m_354 : Cond.instanceMethod ({ cls := "ScrimshawKernel$Flood", name := "removeFound", desc := "()V" } : MethodName) ∈ zWS := zws_m 354 (by decide +kernel) rfl
theorem m_355 : Cond.code ({ cls := "ScrimshawKernel$Flood", name := "removeFound", desc := "()V" } : MethodName) prog_3_method_9_code (2 : Nat) (Option.none : Option FieldType) ∈ zWS := zws_m 355 (by decide +kernel) rfl
theorem m_356 : Cond.constantLong "ScrimshawKernel$Flood" (46 : Nat) (-1 : Int64) ∈ zWS := zws_m 356 (by decide +kernel) rfl
theorem m_357 : Cond.methodLink "ScrimshawKernel" (199 : Nat) ({ cls := "ScrimshawKernel$Flood", name := "countHoles", desc := "(LScrimshawKernel$Fields;)I" } : MethodName) ∈ zWS := zws_m 357 (by decide +kernel) rfl
theorem m_358 : Cond.instanceMethod ({ cls := "ScrimshawKernel$Flood", name := "countHoles", desc := "(LScrimshawKernel$Fields;)I" } : MethodName) ∈ zWS := zws_m 358 (by decide +kernel) rfl
theorem m_359 : Cond.selects "ScrimshawKernel$Flood" ({ cls := "ScrimshawKernel$Flood", name := "countHoles", desc := "(LScrimshawKernel$Fields;)I" } : MethodName) ({ cls := "ScrimshawKernel$Flood", name := "countHoles", desc := "(LScrimshawKernel$Fields;)I" } : MethodName) ∈ zWS := zws_m 359 (by decide +kernel) rfl
theorem m_360 : Cond.code ({ cls := "ScrimshawKernel$Flood", name := "countHoles", desc := "(LScrimshawKernel$Fields;)I" } : MethodName) prog_3_method_3_code (2 : Nat) (Option.some FieldType.int) ∈ zWS := zws_m 360 (by decide +kernel) rfl
theorem m_361 : Cond.methodLink "ScrimshawKernel$Flood" (29 : Nat) ({ cls := "ScrimshawKernel$Flood", name := "findHoles", desc := "(LScrimshawKernel$Fields;)V" } : MethodName) ∈ zWS := zws_m 361 (by decide +kernel) rfl
theorem m_363 : Cond.instanceMethod ({ cls := "ScrimshawKernel$Flood", name := "findHoles", desc := "(LScrimshawKernel$Fields;)V" } : MethodName) ∈ zWS := zws_m 363 (by decide +kernel) rfl
theorem m_364 : Cond.code ({ cls := "ScrimshawKernel$Flood", name := "findHoles", desc := "(LScrimshawKernel$Fields;)V" } : MethodName) prog_3_method_6_code (6 : Nat) (Option.none : Option FieldType) ∈ zWS := zws_m 364 (by decide +kernel) rfl
theorem m_365 : lw_tbl[365]? = some (Cond.methodLinkNest "ScrimshawKernel$Flood" (48 : Nat) ({ cls := "ScrimshawKernel", name := "bit", desc := "(I)J" } : MethodName) "ScrimshawKernel") := by decide +kernel
theorem m_366 : Cond.static ({ cls := "ScrimshawKernel", name := "bit", desc := "(I)J" } : MethodName) ∈ zWS := zws_m 366 (by decide +kernel) rfl
theorem m_367 : Cond.code ({ cls := "ScrimshawKernel", name := "bit", desc := "(I)J" } : MethodName) prog_1_method_54_code (1 : Nat) (Option.some FieldType.long) ∈ zWS := zws_m 367 (by decide +kernel) rfl
theorem m_368 : Cond.methodLink "ScrimshawKernel" (208 : Nat) ({ cls := "ScrimshawKernel", name := "boundOf", desc := "(LScrimshawKernel$Fields;I)I" } : MethodName) ∈ zWS := zws_m 368 (by decide +kernel) rfl
theorem m_369 : Cond.static ({ cls := "ScrimshawKernel", name := "boundOf", desc := "(LScrimshawKernel$Fields;I)I" } : MethodName) ∈ zWS := zws_m 369 (by decide +kernel) rfl
theorem m_370 : Cond.code ({ cls := "ScrimshawKernel", name := "boundOf", desc := "(LScrimshawKernel$Fields;I)I" } : MethodName) prog_1_method_45_code (2 : Nat) (Option.some FieldType.int) ∈ zWS := zws_m 370 (by decide +kernel) rfl
theorem m_371 : Cond.methodLink "ScrimshawKernel" (138 : Nat) ({ cls := "ScrimshawKernel$Fields", name := "leastX", desc := "()I" } : MethodName) ∈ zWS := zws_m 371 (by decide +kernel) rfl
theorem m_372 : Cond.instanceMethod ({ cls := "ScrimshawKernel$Fields", name := "leastX", desc := "()I" } : MethodName) ∈ zWS := zws_m 372 (by decide +kernel) rfl
theorem m_373 : Cond.selects "ScrimshawKernel$Fields" ({ cls := "ScrimshawKernel$Fields", name := "leastX", desc := "()I" } : MethodName) ({ cls := "ScrimshawKernel$Fields", name := "leastX", desc := "()I" } : MethodName) ∈ zWS := zws_m 373 (by decide +kernel) rfl
theorem m_374 : Cond.code ({ cls := "ScrimshawKernel$Fields", name := "leastX", desc := "()I" } : MethodName) prog_2_method_16_code (3 : Nat) (Option.some FieldType.int) ∈ zWS := zws_m 374 (by decide +kernel) rfl
theorem m_375 : Cond.methodLink "ScrimshawKernel$Fields" (21 : Nat) ({ cls := "ScrimshawKernel$Fields", name := "columns", desc := "()J" } : MethodName) ∈ zWS := zws_m 375 (by decide +kernel) rfl
theorem m_377 : Cond.instanceMethod ({ cls := "ScrimshawKernel$Fields", name := "columns", desc := "()J" } : MethodName) ∈ zWS := zws_m 377 (by decide +kernel) rfl
theorem m_378 : Cond.code ({ cls := "ScrimshawKernel$Fields", name := "columns", desc := "()J" } : MethodName) prog_2_method_15_code (4 : Nat) (Option.some FieldType.long) ∈ zWS := zws_m 378 (by decide +kernel) rfl
theorem m_379 : lw_tbl[379]? = some (Cond.methodLinkNest "ScrimshawKernel$Fields" (45 : Nat) ({ cls := "ScrimshawKernel", name := "lowestBit", desc := "(J)I" } : MethodName) "ScrimshawKernel") := by decide +kernel
theorem m_380 : Cond.methodLink "ScrimshawKernel" (144 : Nat) ({ cls := "ScrimshawKernel$Fields", name := "leastY", desc := "()I" } : MethodName) ∈ zWS := zws_m 380 (by decide +kernel) rfl
theorem m_381 : Cond.instanceMethod ({ cls := "ScrimshawKernel$Fields", name := "leastY", desc := "()I" } : MethodName) ∈ zWS := zws_m 381 (by decide +kernel) rfl
theorem m_382 : Cond.selects "ScrimshawKernel$Fields" ({ cls := "ScrimshawKernel$Fields", name := "leastY", desc := "()I" } : MethodName) ({ cls := "ScrimshawKernel$Fields", name := "leastY", desc := "()I" } : MethodName) ∈ zWS := zws_m 382 (by decide +kernel) rfl
theorem m_383 : Cond.code ({ cls := "ScrimshawKernel$Fields", name := "leastY", desc := "()I" } : MethodName) prog_2_method_18_code (2 : Nat) (Option.some FieldType.int) ∈ zWS := zws_m 383 (by decide +kernel) rfl
theorem m_384 : Cond.methodLink "ScrimshawKernel" (141 : Nat) ({ cls := "ScrimshawKernel$Fields", name := "greatestX", desc := "()I" } : MethodName) ∈ zWS := zws_m 384 (by decide +kernel) rfl
theorem m_385 : Cond.instanceMethod ({ cls := "ScrimshawKernel$Fields", name := "greatestX", desc := "()I" } : MethodName) ∈ zWS := zws_m 385 (by decide +kernel) rfl
theorem m_386 : Cond.selects "ScrimshawKernel$Fields" ({ cls := "ScrimshawKernel$Fields", name := "greatestX", desc := "()I" } : MethodName) ({ cls := "ScrimshawKernel$Fields", name := "greatestX", desc := "()I" } : MethodName) ∈ zWS := zws_m 386 (by decide +kernel) rfl
theorem m_387 : Cond.code ({ cls := "ScrimshawKernel$Fields", name := "greatestX", desc := "()I" } : MethodName) prog_2_method_17_code (4 : Nat) (Option.some FieldType.int) ∈ zWS := zws_m 387 (by decide +kernel) rfl
theorem m_388 : lw_tbl[388]? = some (Cond.methodLinkNest "ScrimshawKernel$Fields" (48 : Nat) ({ cls := "ScrimshawKernel", name := "bit", desc := "(I)J" } : MethodName) "ScrimshawKernel") := by decide +kernel
theorem m_389 : Cond.methodLink "ScrimshawKernel" (147 : Nat) ({ cls := "ScrimshawKernel$Fields", name := "greatestY", desc := "()I" } : MethodName) ∈ zWS := zws_m 389 (by decide +kernel) rfl
theorem m_390 : Cond.instanceMethod ({ cls := "ScrimshawKernel$Fields", name := "greatestY", desc := "()I" } : MethodName) ∈ zWS := zws_m 390 (by decide +kernel) rfl
theorem m_391 : Cond.selects "ScrimshawKernel$Fields" ({ cls := "ScrimshawKernel$Fields", name := "greatestY", desc := "()I" } : MethodName) ({ cls := "ScrimshawKernel$Fields", name := "greatestY", desc := "()I" } : MethodName) ∈ zWS := zws_m 391 (by decide +kernel) rfl
theorem m_392 : Cond.code ({ cls := "ScrimshawKernel$Fields", name := "greatestY", desc := "()I" } : MethodName) prog_2_method_19_code (2 : Nat) (Option.some FieldType.int) ∈ zWS := zws_m 392 (by decide +kernel) rfl
theorem m_393 : Cond.methodLink "ScrimshawKernel" (212 : Nat) ({ cls := "ScrimshawKernel$Outline", name := "countContours", desc := "(LScrimshawKernel$Fields;)I" } : MethodName) ∈ zWS := zws_m 393 (by decide +kernel) rfl
theorem m_394 : Cond.instanceMethod ({ cls := "ScrimshawKernel$Outline", name := "countContours", desc := "(LScrimshawKernel$Fields;)I" } : MethodName) ∈ zWS := zws_m 394 (by decide +kernel) rfl
theorem m_395 : Cond.selects "ScrimshawKernel$Outline" ({ cls := "ScrimshawKernel$Outline", name := "countContours", desc := "(LScrimshawKernel$Fields;)I" } : MethodName) ({ cls := "ScrimshawKernel$Outline", name := "countContours", desc := "(LScrimshawKernel$Fields;)I" } : MethodName) ∈ zWS := zws_m 395 (by decide +kernel) rfl
theorem m_396 : Cond.code ({ cls := "ScrimshawKernel$Outline", name := "countContours", desc := "(LScrimshawKernel$Fields;)I" } : MethodName) prog_5_method_6_code (3 : Nat) (Option.some FieldType.int) ∈ zWS := zws_m 396 (by decide +kernel) rfl
theorem m_397 : Cond.methodLink "ScrimshawKernel$Outline" (37 : Nat) ({ cls := "ScrimshawKernel$Outline", name := "begin", desc := "(LScrimshawKernel$Fields;)V" } : MethodName) ∈ zWS := zws_m 397 (by decide +kernel) rfl
theorem m_398 : Cond.instanceMethod ({ cls := "ScrimshawKernel$Outline", name := "begin", desc := "(LScrimshawKernel$Fields;)V" } : MethodName) ∈ zWS := zws_m 398 (by decide +kernel) rfl
theorem m_399 : Cond.selects "ScrimshawKernel$Outline" ({ cls := "ScrimshawKernel$Outline", name := "begin", desc := "(LScrimshawKernel$Fields;)V" } : MethodName) ({ cls := "ScrimshawKernel$Outline", name := "begin", desc := "(LScrimshawKernel$Fields;)V" } : MethodName) ∈ zWS := zws_m 399 (by decide +kernel) rfl
theorem m_400 : Cond.code ({ cls := "ScrimshawKernel$Outline", name := "begin", desc := "(LScrimshawKernel$Fields;)V" } : MethodName) prog_5_method_8_code (2 : Nat) (Option.none : Option FieldType) ∈ zWS := zws_m 400 (by decide +kernel) rfl
theorem m_401 : Cond.methodLink "ScrimshawKernel$Outline" (45 : Nat) ({ cls := "ScrimshawKernel$Fields", name := "copy", desc := "(LScrimshawKernel$Fields;)V" } : MethodName) ∈ zWS := zws_m 401 (by decide +kernel) rfl
theorem m_402 : Cond.methodLink "ScrimshawKernel$Outline" (48 : Nat) ({ cls := "ScrimshawKernel$Fields", name := "empty", desc := "()V" } : MethodName) ∈ zWS := zws_m 402 (by decide +kernel) rfl
theorem m_403 : Cond.methodLink "ScrimshawKernel$Outline" (41 : Nat) ({ cls := "ScrimshawKernel$Outline", name := "next", desc := "(I)Z" } : MethodName) ∈ zWS := zws_m 403 (by decide +kernel) rfl
theorem m_404 : Cond.instanceMethod ({ cls := "ScrimshawKernel$Outline", name := "next", desc := "(I)Z" } : MethodName) ∈ zWS := zws_m 404 (by decide +kernel) rfl
theorem m_405 : Cond.selects "ScrimshawKernel$Outline" ({ cls := "ScrimshawKernel$Outline", name := "next", desc := "(I)Z" } : MethodName) ({ cls := "ScrimshawKernel$Outline", name := "next", desc := "(I)Z" } : MethodName) ∈ zWS := zws_m 405 (by decide +kernel) rfl
theorem m_406 : Cond.code ({ cls := "ScrimshawKernel$Outline", name := "next", desc := "(I)Z" } : MethodName) prog_5_method_9_code (8 : Nat) (Option.some FieldType.boolean) ∈ zWS := zws_m 406 (by decide +kernel) rfl
theorem m_407 : Cond.methodLink "ScrimshawKernel$Outline" (57 : Nat) ({ cls := "ScrimshawKernel$Fields", name := "row", desc := "(I)J" } : MethodName) ∈ zWS := zws_m 407 (by decide +kernel) rfl
theorem m_408 : Cond.constantLong "ScrimshawKernel$Outline" (61 : Nat) (-1 : Int64) ∈ zWS := zws_m 408 (by decide +kernel) rfl
theorem m_409 : lw_tbl[409]? = some (Cond.methodLinkNest "ScrimshawKernel$Outline" (63 : Nat) ({ cls := "ScrimshawKernel", name := "lowestBit", desc := "(J)I" } : MethodName) "ScrimshawKernel") := by decide +kernel
theorem m_436 : Cond.methodLink "ScrimshawKernel" (282 : Nat) ({ cls := "ScrimshawKernel", name := "digestOfContours", desc := "(JLScrimshawKernel$Fields;)J" } : MethodName) ∈ zWS := zws_m 436 (by decide +kernel) rfl
theorem m_438 : Cond.instanceMethod ({ cls := "ScrimshawKernel", name := "digestOfContours", desc := "(JLScrimshawKernel$Fields;)J" } : MethodName) ∈ zWS := zws_m 438 (by decide +kernel) rfl
theorem m_439 : Cond.code ({ cls := "ScrimshawKernel", name := "digestOfContours", desc := "(JLScrimshawKernel$Fields;)J" } : MethodName) prog_1_method_52_code (7 : Nat) (Option.some FieldType.long) ∈ zWS := zws_m 439 (by decide +kernel) rfl
theorem m_440 : Cond.methodLink "ScrimshawKernel" (330 : Nat) ({ cls := "ScrimshawKernel$Outline", name := "begin", desc := "(LScrimshawKernel$Fields;)V" } : MethodName) ∈ zWS := zws_m 440 (by decide +kernel) rfl
theorem m_441 : Cond.methodLink "ScrimshawKernel" (332 : Nat) ({ cls := "ScrimshawKernel$Outline", name := "next", desc := "(I)Z" } : MethodName) ∈ zWS := zws_m 441 (by decide +kernel) rfl
theorem m_458 : Cond.methodLink "ScrimshawKernel" (231 : Nat) ({ cls := "ScrimshawKernel$StripWalk", name := "countStrips", desc := "(LScrimshawKernel$Fields;)I" } : MethodName) ∈ zWS := zws_m 458 (by decide +kernel) rfl
theorem m_459 : Cond.instanceMethod ({ cls := "ScrimshawKernel$StripWalk", name := "countStrips", desc := "(LScrimshawKernel$Fields;)I" } : MethodName) ∈ zWS := zws_m 459 (by decide +kernel) rfl
theorem m_460 : Cond.selects "ScrimshawKernel$StripWalk" ({ cls := "ScrimshawKernel$StripWalk", name := "countStrips", desc := "(LScrimshawKernel$Fields;)I" } : MethodName) ({ cls := "ScrimshawKernel$StripWalk", name := "countStrips", desc := "(LScrimshawKernel$Fields;)I" } : MethodName) ∈ zWS := zws_m 460 (by decide +kernel) rfl
theorem m_461 : Cond.code ({ cls := "ScrimshawKernel$StripWalk", name := "countStrips", desc := "(LScrimshawKernel$Fields;)I" } : MethodName) prog_7_method_3_code (3 : Nat) (Option.some FieldType.int) ∈ zWS := zws_m 461 (by decide +kernel) rfl
theorem m_462 : Cond.methodLink "ScrimshawKernel$StripWalk" (31 : Nat) ({ cls := "ScrimshawKernel$StripWalk", name := "begin", desc := "(LScrimshawKernel$Fields;)V" } : MethodName) ∈ zWS := zws_m 462 (by decide +kernel) rfl
theorem m_463 : Cond.instanceMethod ({ cls := "ScrimshawKernel$StripWalk", name := "begin", desc := "(LScrimshawKernel$Fields;)V" } : MethodName) ∈ zWS := zws_m 463 (by decide +kernel) rfl
theorem m_464 : Cond.selects "ScrimshawKernel$StripWalk" ({ cls := "ScrimshawKernel$StripWalk", name := "begin", desc := "(LScrimshawKernel$Fields;)V" } : MethodName) ({ cls := "ScrimshawKernel$StripWalk", name := "begin", desc := "(LScrimshawKernel$Fields;)V" } : MethodName) ∈ zWS := zws_m 464 (by decide +kernel) rfl
theorem m_465 : Cond.code ({ cls := "ScrimshawKernel$StripWalk", name := "begin", desc := "(LScrimshawKernel$Fields;)V" } : MethodName) prog_7_method_5_code (2 : Nat) (Option.none : Option FieldType) ∈ zWS := zws_m 465 (by decide +kernel) rfl
theorem m_466 : Cond.methodLink "ScrimshawKernel$StripWalk" (39 : Nat) ({ cls := "ScrimshawKernel$Fields", name := "copy", desc := "(LScrimshawKernel$Fields;)V" } : MethodName) ∈ zWS := zws_m 466 (by decide +kernel) rfl
theorem m_467 : Cond.methodLink "ScrimshawKernel$StripWalk" (45 : Nat) ({ cls := "ScrimshawKernel$Fields", name := "row", desc := "(I)J" } : MethodName) ∈ zWS := zws_m 467 (by decide +kernel) rfl
theorem m_468 : Cond.methodLink "ScrimshawKernel$StripWalk" (35 : Nat) ({ cls := "ScrimshawKernel$StripWalk", name := "next", desc := "()Z" } : MethodName) ∈ zWS := zws_m 468 (by decide +kernel) rfl
theorem m_469 : Cond.instanceMethod ({ cls := "ScrimshawKernel$StripWalk", name := "next", desc := "()Z" } : MethodName) ∈ zWS := zws_m 469 (by decide +kernel) rfl
theorem m_470 : Cond.selects "ScrimshawKernel$StripWalk" ({ cls := "ScrimshawKernel$StripWalk", name := "next", desc := "()Z" } : MethodName) ({ cls := "ScrimshawKernel$StripWalk", name := "next", desc := "()Z" } : MethodName) ∈ zWS := zws_m 470 (by decide +kernel) rfl
theorem m_471 : Cond.code ({ cls := "ScrimshawKernel$StripWalk", name := "next", desc := "()Z" } : MethodName) prog_7_method_6_code (4 : Nat) (Option.some FieldType.boolean) ∈ zWS := zws_m 471 (by decide +kernel) rfl
theorem m_484 : lw_tbl[484]? = some (Cond.methodLinkNest "ScrimshawKernel$StripWalk" (67 : Nat) ({ cls := "ScrimshawKernel", name := "lowestBit", desc := "(J)I" } : MethodName) "ScrimshawKernel") := by decide +kernel
theorem m_486 : Cond.methodLink "ScrimshawKernel" (286 : Nat) ({ cls := "ScrimshawKernel", name := "digestOfStrips", desc := "(JLScrimshawKernel$Fields;)J" } : MethodName) ∈ zWS := zws_m 486 (by decide +kernel) rfl
theorem m_488 : Cond.instanceMethod ({ cls := "ScrimshawKernel", name := "digestOfStrips", desc := "(JLScrimshawKernel$Fields;)J" } : MethodName) ∈ zWS := zws_m 488 (by decide +kernel) rfl
theorem m_489 : Cond.code ({ cls := "ScrimshawKernel", name := "digestOfStrips", desc := "(JLScrimshawKernel$Fields;)J" } : MethodName) prog_1_method_53_code (8 : Nat) (Option.some FieldType.long) ∈ zWS := zws_m 489 (by decide +kernel) rfl
theorem m_490 : Cond.methodLink "ScrimshawKernel" (336 : Nat) ({ cls := "ScrimshawKernel$StripWalk", name := "begin", desc := "(LScrimshawKernel$Fields;)V" } : MethodName) ∈ zWS := zws_m 490 (by decide +kernel) rfl
theorem m_491 : Cond.methodLink "ScrimshawKernel" (337 : Nat) ({ cls := "ScrimshawKernel$StripWalk", name := "next", desc := "()Z" } : MethodName) ∈ zWS := zws_m 491 (by decide +kernel) rfl
theorem m_496 : Cond.methodLink "ScrimshawKernel" (289 : Nat) ({ cls := "ScrimshawKernel$History", name := "count", desc := "()I" } : MethodName) ∈ zWS := zws_m 496 (by decide +kernel) rfl
theorem m_497 : Cond.instanceMethod ({ cls := "ScrimshawKernel$History", name := "count", desc := "()I" } : MethodName) ∈ zWS := zws_m 497 (by decide +kernel) rfl
theorem m_498 : Cond.selects "ScrimshawKernel$History" ({ cls := "ScrimshawKernel$History", name := "count", desc := "()I" } : MethodName) ({ cls := "ScrimshawKernel$History", name := "count", desc := "()I" } : MethodName) ∈ zWS := zws_m 498 (by decide +kernel) rfl
theorem m_499 : Cond.code ({ cls := "ScrimshawKernel$History", name := "count", desc := "()I" } : MethodName) prog_4_method_2_code (1 : Nat) (Option.some FieldType.int) ∈ zWS := zws_m 499 (by decide +kernel) rfl
theorem m_513 : Cond.classLink "ScrimshawKernel" (59 : Nat) "java/lang/IllegalArgumentException" ∈ zWS := zws_m 513 (by decide +kernel) rfl
theorem m_515 : lw_tbl[515]? = some (Cond.castable "java/lang/IllegalArgumentException" "java/lang/IllegalArgumentException") := by decide +kernel
theorem m_516 : lw_tbl[516]? = some (Cond.declares ({ cls := "java/lang/RuntimeException", name := "<init>", desc := "()V" } : MethodName)) := by decide +kernel
theorem m_517 : lw_tbl[517]? = some (Cond.declares ({ cls := "java/lang/RuntimeException", name := "<init>", desc := "(Ljava/lang/String;)V" } : MethodName)) := by decide +kernel
theorem m_518 : lw_tbl[518]? = some (Cond.declares ({ cls := "java/lang/Exception", name := "<init>", desc := "()V" } : MethodName)) := by decide +kernel
theorem m_519 : lw_tbl[519]? = some (Cond.declares ({ cls := "java/lang/Exception", name := "<init>", desc := "(Ljava/lang/String;)V" } : MethodName)) := by decide +kernel
theorem m_520 : lw_tbl[520]? = some (Cond.declares ({ cls := "java/lang/Throwable", name := "<init>", desc := "()V" } : MethodName)) := by decide +kernel
theorem m_521 : lw_tbl[521]? = some (Cond.declares ({ cls := "java/lang/Throwable", name := "<init>", desc := "(Ljava/lang/String;)V" } : MethodName)) := by decide +kernel
theorem m_540 : lw_tbl[540]? = some (Cond.laysStatic "java/lang/Throwable" "UNASSIGNED_STACK" "[Ljava/lang/StackTraceElement;") := by decide +kernel
theorem m_542 : lw_tbl[542]? = some (Cond.laysStatic "java/lang/Throwable" "SUPPRESSED_SENTINEL" "Ljava/util/List;") := by decide +kernel
theorem m_554 : lw_tbl[554]? = some (Cond.stringRef "ScrimshawKernel" (61 : Nat) "x or y is not -24 to 24") := by decide +kernel
theorem m_605 : lw_tbl[605]? = some (Cond.stringRef "ScrimshawKernel" (292 : Nat) "the pen would not be at -24 to 24") := by decide +kernel
theorem m_610 : Cond.classLink "ScrimshawKernel" (297 : Nat) "java/lang/IllegalStateException" ∈ zWS := zws_m 610 (by decide +kernel) rfl
theorem m_612 : lw_tbl[612]? = some (Cond.castable "java/lang/IllegalStateException" "java/lang/IllegalStateException") := by decide +kernel
theorem m_619 : lw_tbl[619]? = some (Cond.stringRef "ScrimshawKernel" (299 : Nat) "the path has 60 points") := by decide +kernel
theorem m_650 : Cond.classLink "ScrimshawKernel" (238 : Nat) "java/lang/IndexOutOfBoundsException" ∈ zWS := zws_m 650 (by decide +kernel) rfl
theorem m_652 : lw_tbl[652]? = some (Cond.castable "java/lang/IndexOutOfBoundsException" "java/lang/IndexOutOfBoundsException") := by decide +kernel
theorem m_659 : lw_tbl[659]? = some (Cond.stringRef "ScrimshawKernel" (290 : Nat) "no such region") := by decide +kernel
theorem m_669 : lw_tbl[669]? = some (Cond.stringRef "ScrimshawKernel" (95 : Nat) "rule is not 0 or 1") := by decide +kernel
theorem m_707 : lw_tbl[707]? = some (Cond.stringRef "ScrimshawKernel" (111 : Nat) "width or height is not 1 to 64") := by decide +kernel
theorem m_712 : lw_tbl[712]? = some (Cond.stringRef "ScrimshawKernel" (306 : Nat) "a field would have an x or y that is not -32 to 31") := by decide +kernel
theorem m_723 : lw_tbl[723]? = some (Cond.stringRef "ScrimshawKernel" (126 : Nat) "operation is not 0 to 3") := by decide +kernel
theorem m_734 : lw_tbl[734]? = some (Cond.stringRef "ScrimshawKernel" (132 : Nat) "byX or byY is not -64 to 64") := by decide +kernel
theorem m_753 : lw_tbl[753]? = some (Cond.stringRef "ScrimshawKernel" (153 : Nat) "quarters is not 0 to 3") := by decide +kernel
theorem m_780 : lw_tbl[780]? = some (Cond.stringRef "ScrimshawKernel" (308 : Nat) "by is not 0 to 8, or kind is not 0 or 1") := by decide +kernel
theorem m_874 : lw_tbl[874]? = some (Cond.stringRef "ScrimshawKernel" (206 : Nat) "side is not 0 to 3") := by decide +kernel
theorem m_897 : lw_tbl[897]? = some (Cond.stringRef "ScrimshawKernel" (315 : Nat) "no such contour") := by decide +kernel
theorem m_898 : lw_tbl[898]? = some (Cond.stringRef "ScrimshawKernel" (317 : Nat) "no such corner") := by decide +kernel
theorem m_938 : lw_tbl[938]? = some (Cond.stringRef "ScrimshawKernel" (240 : Nat) "no such strip") := by decide +kernel
theorem m_939 : lw_tbl[939]? = some (Cond.stringRef "ScrimshawKernel" (243 : Nat) "what is not 0 to 3") := by decide +kernel
theorem m_950 : lw_tbl[950]? = some (Cond.stringRef "ScrimshawKernel" (310 : Nat) "kind is not 0 to 3, every not 1 to 20, or first not -100 to 100") := by decide +kernel
theorem m_1001 : Cond.classLink "ScrimshawKernelLaw" (120 : Nat) "ScrimshawKernelModel" ∈ zWS := zws_m 1001 (by decide +kernel) rfl
theorem m_1002 : Cond.instantiable "ScrimshawKernelModel" (8 : Nat) ∈ zWS := zws_m 1002 (by decide +kernel) rfl
theorem m_1003 : Cond.methodLink "ScrimshawKernelLaw" (122 : Nat) ({ cls := "ScrimshawKernelModel", name := "<init>", desc := "()V" } : MethodName) ∈ zWS := zws_m 1003 (by decide +kernel) rfl
theorem m_1004 : Cond.instanceMethod ({ cls := "ScrimshawKernelModel", name := "<init>", desc := "()V" } : MethodName) ∈ zWS := zws_m 1004 (by decide +kernel) rfl
theorem m_1005 : Cond.code ({ cls := "ScrimshawKernelModel", name := "<init>", desc := "()V" } : MethodName) prog_9_method_1_code (1 : Nat) (Option.none : Option FieldType) ∈ zWS := zws_m 1005 (by decide +kernel) rfl
theorem m_1006 : Cond.methodLink "ScrimshawKernelModel" (3 : Nat) ({ cls := "java/lang/Object", name := "<init>", desc := "()V" } : MethodName) ∈ zWS := zws_m 1006 (by decide +kernel) rfl
theorem m_1007 : Cond.classLink "ScrimshawKernelModel" (9 : Nat) "[[Z" ∈ zWS := zws_m 1007 (by decide +kernel) rfl
theorem m_1008 : lw_tbl[1008]? = some (Cond.arrayOver (FieldType.array FieldType.boolean)) := by decide +kernel
theorem m_1009 : Cond.classLink "ScrimshawKernelModel" (28 : Nat) "[Z" ∈ zWS := zws_m 1009 (by decide +kernel) rfl
theorem m_1010 : Cond.fieldLink "ScrimshawKernelModel" (33 : Nat) "ScrimshawKernelModel" "thrown" "I" ∈ zWS := zws_m 1010 (by decide +kernel) rfl
theorem m_1011 : Cond.fieldLink "ScrimshawKernelModel" (11 : Nat) "ScrimshawKernelModel" "fields" "[[Z" ∈ zWS := zws_m 1011 (by decide +kernel) rfl
theorem m_1012 : Cond.fieldLink "ScrimshawKernelModel" (14 : Nat) "ScrimshawKernelModel" "pathX" "[I" ∈ zWS := zws_m 1012 (by decide +kernel) rfl
theorem m_1013 : Cond.fieldLink "ScrimshawKernelModel" (18 : Nat) "ScrimshawKernelModel" "pathY" "[I" ∈ zWS := zws_m 1013 (by decide +kernel) rfl
theorem m_1014 : Cond.fieldLink "ScrimshawKernelModel" (21 : Nat) "ScrimshawKernelModel" "points" "I" ∈ zWS := zws_m 1014 (by decide +kernel) rfl
theorem m_1015 : Cond.fieldLink "ScrimshawKernelModel" (54 : Nat) "ScrimshawKernelModel" "kept" "I" ∈ zWS := zws_m 1015 (by decide +kernel) rfl
theorem m_1016 : Cond.fieldLink "ScrimshawKernelModel" (25 : Nat) "ScrimshawKernelModel" "keptRegion" "[I" ∈ zWS := zws_m 1016 (by decide +kernel) rfl
theorem m_1017 : Cond.fieldLink "ScrimshawKernelModel" (30 : Nat) "ScrimshawKernelModel" "keptFields" "[[Z" ∈ zWS := zws_m 1017 (by decide +kernel) rfl
theorem m_1018 : Cond.lays "ScrimshawKernelModel" "ScrimshawKernelModel" "thrown" "I" ∈ zWS := zws_m 1018 (by decide +kernel) rfl
theorem m_1020 : Cond.laysFinal "ScrimshawKernelModel" "ScrimshawKernelModel" "fields" "[[Z" ∈ zWS := zws_m 1020 (by decide +kernel) rfl
theorem m_1022 : Cond.laysFinal "ScrimshawKernelModel" "ScrimshawKernelModel" "pathX" "[I" ∈ zWS := zws_m 1022 (by decide +kernel) rfl
theorem m_1024 : Cond.laysFinal "ScrimshawKernelModel" "ScrimshawKernelModel" "pathY" "[I" ∈ zWS := zws_m 1024 (by decide +kernel) rfl
theorem m_1026 : Cond.lays "ScrimshawKernelModel" "ScrimshawKernelModel" "points" "I" ∈ zWS := zws_m 1026 (by decide +kernel) rfl
theorem m_1028 : Cond.lays "ScrimshawKernelModel" "ScrimshawKernelModel" "kept" "I" ∈ zWS := zws_m 1028 (by decide +kernel) rfl
theorem m_1030 : Cond.laysFinal "ScrimshawKernelModel" "ScrimshawKernelModel" "keptRegion" "[I" ∈ zWS := zws_m 1030 (by decide +kernel) rfl
theorem m_1032 : Cond.laysFinal "ScrimshawKernelModel" "ScrimshawKernelModel" "keptFields" "[[Z" ∈ zWS := zws_m 1032 (by decide +kernel) rfl
theorem m_1035 : Cond.arrayClass FieldType.boolean ∈ zWS := zws_m 1035 (by decide +kernel) rfl
theorem m_1044 : Cond.methodLink "ScrimshawKernelModel" (36 : Nat) ({ cls := "ScrimshawKernelModel", name := "isIn", desc := "(III)Z" } : MethodName) ∈ zWS := zws_m 1044 (by decide +kernel) rfl
theorem m_1045 : Cond.static ({ cls := "ScrimshawKernelModel", name := "isIn", desc := "(III)Z" } : MethodName) ∈ zWS := zws_m 1045 (by decide +kernel) rfl
theorem m_1046 : Cond.code ({ cls := "ScrimshawKernelModel", name := "isIn", desc := "(III)Z" } : MethodName) prog_9_method_4_code (3 : Nat) (Option.some FieldType.boolean) ∈ zWS := zws_m 1046 (by decide +kernel) rfl
theorem m_1074 : Cond.methodLink "ScrimshawKernelModel" (73 : Nat) ({ cls := "java/lang/Math", name := "max", desc := "(II)I" } : MethodName) ∈ zWS := zws_m 1074 (by decide +kernel) rfl
theorem m_1075 : Cond.methodLink "ScrimshawKernelModel" (44 : Nat) ({ cls := "ScrimshawKernelModel", name := "at", desc := "(II)I" } : MethodName) ∈ zWS := zws_m 1075 (by decide +kernel) rfl
theorem m_1076 : Cond.static ({ cls := "ScrimshawKernelModel", name := "at", desc := "(II)I" } : MethodName) ∈ zWS := zws_m 1076 (by decide +kernel) rfl
theorem m_1077 : Cond.code ({ cls := "ScrimshawKernelModel", name := "at", desc := "(II)I" } : MethodName) prog_9_method_7_code (2 : Nat) (Option.some FieldType.int) ∈ zWS := zws_m 1077 (by decide +kernel) rfl
theorem m_1085 : Cond.methodLink "ScrimshawKernelModel" (57 : Nat) ({ cls := "ScrimshawKernelModel", name := "areaOf", desc := "([Z)I" } : MethodName) ∈ zWS := zws_m 1085 (by decide +kernel) rfl
theorem m_1086 : Cond.static ({ cls := "ScrimshawKernelModel", name := "areaOf", desc := "([Z)I" } : MethodName) ∈ zWS := zws_m 1086 (by decide +kernel) rfl
theorem m_1087 : Cond.code ({ cls := "ScrimshawKernelModel", name := "areaOf", desc := "([Z)I" } : MethodName) prog_9_method_9_code (6 : Nat) (Option.some FieldType.int) ∈ zWS := zws_m 1087 (by decide +kernel) rfl
theorem m_1104 : Cond.methodLink "ScrimshawKernelModel" (40 : Nat) ({ cls := "ScrimshawKernelModel", name := "isField", desc := "(II)Z" } : MethodName) ∈ zWS := zws_m 1104 (by decide +kernel) rfl
theorem m_1105 : Cond.static ({ cls := "ScrimshawKernelModel", name := "isField", desc := "(II)Z" } : MethodName) ∈ zWS := zws_m 1105 (by decide +kernel) rfl
theorem m_1106 : Cond.code ({ cls := "ScrimshawKernelModel", name := "isField", desc := "(II)Z" } : MethodName) prog_9_method_6_code (2 : Nat) (Option.some FieldType.boolean) ∈ zWS := zws_m 1106 (by decide +kernel) rfl
theorem m_1129 : Cond.methodLink "ScrimshawKernelModel" (95 : Nat) ({ cls := "ScrimshawKernelModel", name := "has", desc := "([ZII)Z" } : MethodName) ∈ zWS := zws_m 1129 (by decide +kernel) rfl
theorem m_1130 : Cond.static ({ cls := "ScrimshawKernelModel", name := "has", desc := "([ZII)Z" } : MethodName) ∈ zWS := zws_m 1130 (by decide +kernel) rfl
theorem m_1131 : Cond.code ({ cls := "ScrimshawKernelModel", name := "has", desc := "([ZII)Z" } : MethodName) prog_9_method_8_code (3 : Nat) (Option.some FieldType.boolean) ∈ zWS := zws_m 1131 (by decide +kernel) rfl
theorem m_1136 : Cond.methodLink "ScrimshawKernelModel" (99 : Nat) ({ cls := "ScrimshawKernelModel", name := "parts", desc := "([ZZ)[I" } : MethodName) ∈ zWS := zws_m 1136 (by decide +kernel) rfl
theorem m_1137 : Cond.static ({ cls := "ScrimshawKernelModel", name := "parts", desc := "([ZZ)[I" } : MethodName) ∈ zWS := zws_m 1137 (by decide +kernel) rfl
theorem m_1138 : Cond.code ({ cls := "ScrimshawKernelModel", name := "parts", desc := "([ZZ)[I" } : MethodName) prog_9_method_26_code (17 : Nat) (Option.some (FieldType.array FieldType.int)) ∈ zWS := zws_m 1138 (by decide +kernel) rfl
theorem m_1142 : Cond.methodLink "ScrimshawKernelModel" (103 : Nat) ({ cls := "ScrimshawKernelModel", name := "most", desc := "([I)I" } : MethodName) ∈ zWS := zws_m 1142 (by decide +kernel) rfl
theorem m_1143 : Cond.static ({ cls := "ScrimshawKernelModel", name := "most", desc := "([I)I" } : MethodName) ∈ zWS := zws_m 1143 (by decide +kernel) rfl
theorem m_1144 : Cond.code ({ cls := "ScrimshawKernelModel", name := "most", desc := "([I)I" } : MethodName) prog_9_method_27_code (6 : Nat) (Option.some FieldType.int) ∈ zWS := zws_m 1144 (by decide +kernel) rfl
theorem m_1165 : Cond.methodLink "ScrimshawKernelModel" (111 : Nat) ({ cls := "ScrimshawKernelModel", name := "edgesNow", desc := "(I)I" } : MethodName) ∈ zWS := zws_m 1165 (by decide +kernel) rfl
theorem m_1167 : Cond.instanceMethod ({ cls := "ScrimshawKernelModel", name := "edgesNow", desc := "(I)I" } : MethodName) ∈ zWS := zws_m 1167 (by decide +kernel) rfl
theorem m_1168 : Cond.code ({ cls := "ScrimshawKernelModel", name := "edgesNow", desc := "(I)I" } : MethodName) prog_9_method_35_code (5 : Nat) (Option.some FieldType.int) ∈ zWS := zws_m 1168 (by decide +kernel) rfl
theorem m_1177 : Cond.methodLink "ScrimshawKernelModel" (114 : Nat) ({ cls := "ScrimshawKernelModel", name := "holesNow", desc := "(I)I" } : MethodName) ∈ zWS := zws_m 1177 (by decide +kernel) rfl
theorem m_1179 : Cond.instanceMethod ({ cls := "ScrimshawKernelModel", name := "holesNow", desc := "(I)I" } : MethodName) ∈ zWS := zws_m 1179 (by decide +kernel) rfl
theorem m_1180 : Cond.code ({ cls := "ScrimshawKernelModel", name := "holesNow", desc := "(I)I" } : MethodName) prog_9_method_29_code (2 : Nat) (Option.some FieldType.int) ∈ zWS := zws_m 1180 (by decide +kernel) rfl
theorem m_1189 : Cond.methodLink "ScrimshawKernelModel" (117 : Nat) ({ cls := "ScrimshawKernelModel", name := "boundNow", desc := "(II)I" } : MethodName) ∈ zWS := zws_m 1189 (by decide +kernel) rfl
theorem m_1191 : Cond.instanceMethod ({ cls := "ScrimshawKernelModel", name := "boundNow", desc := "(II)I" } : MethodName) ∈ zWS := zws_m 1191 (by decide +kernel) rfl
theorem m_1192 : Cond.code ({ cls := "ScrimshawKernelModel", name := "boundNow", desc := "(II)I" } : MethodName) prog_9_method_40_code (8 : Nat) (Option.some FieldType.int) ∈ zWS := zws_m 1192 (by decide +kernel) rfl
theorem m_1197 : Cond.methodLink "ScrimshawKernelModel" (134 : Nat) ({ cls := "ScrimshawKernelModel", name := "contoursNow", desc := "(I)[I" } : MethodName) ∈ zWS := zws_m 1197 (by decide +kernel) rfl
theorem m_1199 : Cond.instanceMethod ({ cls := "ScrimshawKernelModel", name := "contoursNow", desc := "(I)[I" } : MethodName) ∈ zWS := zws_m 1199 (by decide +kernel) rfl
theorem m_1200 : Cond.code ({ cls := "ScrimshawKernelModel", name := "contoursNow", desc := "(I)[I" } : MethodName) prog_9_method_45_code (21 : Nat) (Option.some (FieldType.array FieldType.int)) ∈ zWS := zws_m 1200 (by decide +kernel) rfl
theorem m_1201 : Cond.methodLink "ScrimshawKernelModel" (120 : Nat) ({ cls := "ScrimshawKernelModel", name := "isEdge", desc := "([ZIII)Z" } : MethodName) ∈ zWS := zws_m 1201 (by decide +kernel) rfl
theorem m_1202 : Cond.static ({ cls := "ScrimshawKernelModel", name := "isEdge", desc := "([ZIII)Z" } : MethodName) ∈ zWS := zws_m 1202 (by decide +kernel) rfl
theorem m_1203 : Cond.code ({ cls := "ScrimshawKernelModel", name := "isEdge", desc := "([ZIII)Z" } : MethodName) prog_9_method_42_code (4 : Nat) (Option.some FieldType.boolean) ∈ zWS := zws_m 1203 (by decide +kernel) rfl
theorem m_1245 : Cond.methodLink "ScrimshawKernelModel" (155 : Nat) ({ cls := "ScrimshawKernelModel", name := "stripsNow", desc := "(I)[I" } : MethodName) ∈ zWS := zws_m 1245 (by decide +kernel) rfl
theorem m_1247 : Cond.instanceMethod ({ cls := "ScrimshawKernelModel", name := "stripsNow", desc := "(I)[I" } : MethodName) ∈ zWS := zws_m 1247 (by decide +kernel) rfl
theorem m_1248 : Cond.code ({ cls := "ScrimshawKernelModel", name := "stripsNow", desc := "(I)[I" } : MethodName) prog_9_method_56_code (9 : Nat) (Option.some (FieldType.array FieldType.int)) ∈ zWS := zws_m 1248 (by decide +kernel) rfl
theorem m_1283 : Cond.methodLink "ScrimshawKernelLaw" (243 : Nat) ({ cls := "ScrimshawKernelModel", name := "digest", desc := "()J" } : MethodName) ∈ zWS := zws_m 1283 (by decide +kernel) rfl
theorem m_1284 : Cond.instanceMethod ({ cls := "ScrimshawKernelModel", name := "digest", desc := "()J" } : MethodName) ∈ zWS := zws_m 1284 (by decide +kernel) rfl
theorem m_1285 : Cond.selects "ScrimshawKernelModel" ({ cls := "ScrimshawKernelModel", name := "digest", desc := "()J" } : MethodName) ({ cls := "ScrimshawKernelModel", name := "digest", desc := "()J" } : MethodName) ∈ zWS := zws_m 1285 (by decide +kernel) rfl
theorem m_1286 : Cond.code ({ cls := "ScrimshawKernelModel", name := "digest", desc := "()J" } : MethodName) prog_9_method_66_code (7 : Nat) (Option.some FieldType.long) ∈ zWS := zws_m 1286 (by decide +kernel) rfl
theorem m_1287 : Cond.constantLong "ScrimshawKernelModel" (166 : Nat) (78833 : Int64) ∈ zWS := zws_m 1287 (by decide +kernel) rfl
theorem m_1288 : Cond.constantLong "ScrimshawKernelModel" (168 : Nat) (31 : Int64) ∈ zWS := zws_m 1288 (by decide +kernel) rfl
theorem m_1289 : Cond.arrayClass FieldType.double ∈ zWS := zws_m 1289 (by decide +kernel) rfl
theorem inz0 : ∀ w ∈ u_ws RX0 TX0 1, w ∈ zWS := by
  intro w hw
  obtain ⟨k, hk, rfl⟩ := List.mem_map.mp hw
  have hk2 := List.mem_range.mp hk
  match k, hk2 with
  | 0, _ => exact m_70
  | k + 1, h => exact absurd h (by omega)
theorem inz1 : ∀ w ∈ u_ws RX1 TX1 4, w ∈ zWS := by
  intro w hw
  obtain ⟨k, hk, rfl⟩ := List.mem_map.mp hw
  have hk2 := List.mem_range.mp hk
  match k, hk2 with
  | 0, _ => exact m_139
  | 1, _ => exact m_141
  | 2, _ => exact m_143
  | 3, _ => exact m_145
  | k + 4, h => exact absurd h (by omega)
theorem inz2 : ∀ w ∈ u_ws RX2 TX2 4, w ∈ zWS := by
  intro w hw
  obtain ⟨k, hk, rfl⟩ := List.mem_map.mp hw
  have hk2 := List.mem_range.mp hk
  match k, hk2 with
  | 0, _ => exact m_118
  | 1, _ => exact m_120
  | 2, _ => exact m_122
  | 3, _ => exact m_124
  | k + 4, h => exact absurd h (by omega)
theorem inz3 : ∀ w ∈ u_ws RX3 TX3 12, w ∈ zWS := by
  intro w hw
  obtain ⟨k, hk, rfl⟩ := List.mem_map.mp hw
  have hk2 := List.mem_range.mp hk
  match k, hk2 with
  | 0, _ => exact m_168
  | 1, _ => exact m_170
  | 2, _ => exact m_172
  | 3, _ => exact m_174
  | 4, _ => exact m_176
  | 5, _ => exact m_178
  | 6, _ => exact m_180
  | 7, _ => exact m_182
  | 8, _ => exact m_184
  | 9, _ => exact m_186
  | 10, _ => exact m_188
  | 11, _ => exact m_190
  | k + 12, h => exact absurd h (by omega)
theorem inz4 : ∀ w ∈ u_ws RX4 TX4 8, w ∈ zWS := by
  intro w hw
  obtain ⟨k, hk, rfl⟩ := List.mem_map.mp hw
  have hk2 := List.mem_range.mp hk
  match k, hk2 with
  | 0, _ => exact m_88
  | 1, _ => exact m_90
  | 2, _ => exact m_92
  | 3, _ => exact m_94
  | 4, _ => exact m_96
  | 5, _ => exact m_98
  | 6, _ => exact m_100
  | 7, _ => exact m_102
  | k + 8, h => exact absurd h (by omega)
theorem inz5 : ∀ w ∈ u_ws RX5 TX5 7, w ∈ zWS := by
  intro w hw
  obtain ⟨k, hk, rfl⟩ := List.mem_map.mp hw
  have hk2 := List.mem_range.mp hk
  match k, hk2 with
  | 0, _ => exact m_208
  | 1, _ => exact m_210
  | 2, _ => exact m_212
  | 3, _ => exact m_214
  | 4, _ => exact m_216
  | 5, _ => exact m_218
  | 6, _ => exact m_220
  | k + 7, h => exact absurd h (by omega)
theorem inz6 : ∀ w ∈ u_ws RX6 TX6 7, w ∈ zWS := by
  intro w hw
  obtain ⟨k, hk, rfl⟩ := List.mem_map.mp hw
  have hk2 := List.mem_range.mp hk
  match k, hk2 with
  | 0, _ => exact m_230
  | 1, _ => exact m_232
  | 2, _ => exact m_234
  | 3, _ => exact m_236
  | 4, _ => exact m_238
  | 5, _ => exact m_240
  | 6, _ => exact m_242
  | k + 7, h => exact absurd h (by omega)
theorem inz7 : ∀ w ∈ u_ws RX7 TX7 8, w ∈ zWS := by
  intro w hw
  obtain ⟨k, hk, rfl⟩ := List.mem_map.mp hw
  have hk2 := List.mem_range.mp hk
  match k, hk2 with
  | 0, _ => exact m_1018
  | 1, _ => exact m_1020
  | 2, _ => exact m_1022
  | 3, _ => exact m_1024
  | 4, _ => exact m_1026
  | 5, _ => exact m_1028
  | 6, _ => exact m_1030
  | 7, _ => exact m_1032
  | k + 8, h => exact absurd h (by omega)
/-- links between nest mates -/
def zNL : List (String × Nat × MethodName × String) := [("ScrimshawKernel", 15, ⟨"ScrimshawKernel$Fields", "<init>", "()V"⟩, "ScrimshawKernel"), ("ScrimshawKernel", 22, ⟨"ScrimshawKernel$Pen", "<init>", "()V"⟩, "ScrimshawKernel"), ("ScrimshawKernel$History", 21, ⟨"ScrimshawKernel$Fields", "<init>", "()V"⟩, "ScrimshawKernel"), ("ScrimshawKernel", 36, ⟨"ScrimshawKernel$Flood", "<init>", "()V"⟩, "ScrimshawKernel"), ("ScrimshawKernel$Flood", 11, ⟨"ScrimshawKernel$Fields", "<init>", "()V"⟩, "ScrimshawKernel"), ("ScrimshawKernel", 43, ⟨"ScrimshawKernel$Outline", "<init>", "()V"⟩, "ScrimshawKernel"), ("ScrimshawKernel$Outline", 11, ⟨"ScrimshawKernel$Fields", "<init>", "()V"⟩, "ScrimshawKernel"), ("ScrimshawKernel", 50, ⟨"ScrimshawKernel$StripWalk", "<init>", "()V"⟩, "ScrimshawKernel"), ("ScrimshawKernel$StripWalk", 11, ⟨"ScrimshawKernel$Fields", "<init>", "()V"⟩, "ScrimshawKernel"), ("ScrimshawKernel$Flood", 73, ⟨"ScrimshawKernel", "lowestBit", "(J)I"⟩, "ScrimshawKernel"), ("ScrimshawKernel$Flood", 48, ⟨"ScrimshawKernel", "bit", "(I)J"⟩, "ScrimshawKernel"), ("ScrimshawKernel$Fields", 45, ⟨"ScrimshawKernel", "lowestBit", "(J)I"⟩, "ScrimshawKernel"), ("ScrimshawKernel$Fields", 48, ⟨"ScrimshawKernel", "bit", "(I)J"⟩, "ScrimshawKernel"), ("ScrimshawKernel$Outline", 63, ⟨"ScrimshawKernel", "lowestBit", "(J)I"⟩, "ScrimshawKernel"), ("ScrimshawKernel$StripWalk", 67, ⟨"ScrimshawKernel", "lowestBit", "(J)I"⟩, "ScrimshawKernel")]
theorem nl_65 : (("ScrimshawKernel", 15, ⟨"ScrimshawKernel$Fields", "<init>", "()V"⟩, "ScrimshawKernel") : String × Nat × MethodName × String) ∈ zNL := List.mem_of_getElem? (i := 0) rfl
theorem nl_76 : (("ScrimshawKernel", 22, ⟨"ScrimshawKernel$Pen", "<init>", "()V"⟩, "ScrimshawKernel") : String × Nat × MethodName × String) ∈ zNL := List.mem_of_getElem? (i := 1) rfl
theorem nl_113 : (("ScrimshawKernel$History", 21, ⟨"ScrimshawKernel$Fields", "<init>", "()V"⟩, "ScrimshawKernel") : String × Nat × MethodName × String) ∈ zNL := List.mem_of_getElem? (i := 2) rfl
theorem nl_129 : (("ScrimshawKernel", 36, ⟨"ScrimshawKernel$Flood", "<init>", "()V"⟩, "ScrimshawKernel") : String × Nat × MethodName × String) ∈ zNL := List.mem_of_getElem? (i := 3) rfl
theorem nl_134 : (("ScrimshawKernel$Flood", 11, ⟨"ScrimshawKernel$Fields", "<init>", "()V"⟩, "ScrimshawKernel") : String × Nat × MethodName × String) ∈ zNL := List.mem_of_getElem? (i := 4) rfl
theorem nl_150 : (("ScrimshawKernel", 43, ⟨"ScrimshawKernel$Outline", "<init>", "()V"⟩, "ScrimshawKernel") : String × Nat × MethodName × String) ∈ zNL := List.mem_of_getElem? (i := 5) rfl
theorem nl_155 : (("ScrimshawKernel$Outline", 11, ⟨"ScrimshawKernel$Fields", "<init>", "()V"⟩, "ScrimshawKernel") : String × Nat × MethodName × String) ∈ zNL := List.mem_of_getElem? (i := 6) rfl
theorem nl_195 : (("ScrimshawKernel", 50, ⟨"ScrimshawKernel$StripWalk", "<init>", "()V"⟩, "ScrimshawKernel") : String × Nat × MethodName × String) ∈ zNL := List.mem_of_getElem? (i := 7) rfl
theorem nl_200 : (("ScrimshawKernel$StripWalk", 11, ⟨"ScrimshawKernel$Fields", "<init>", "()V"⟩, "ScrimshawKernel") : String × Nat × MethodName × String) ∈ zNL := List.mem_of_getElem? (i := 8) rfl
theorem nl_365 : (("ScrimshawKernel$Flood", 48, ⟨"ScrimshawKernel", "bit", "(I)J"⟩, "ScrimshawKernel") : String × Nat × MethodName × String) ∈ zNL := List.mem_of_getElem? (i := 10) rfl
theorem nl_388 : (("ScrimshawKernel$Fields", 48, ⟨"ScrimshawKernel", "bit", "(I)J"⟩, "ScrimshawKernel") : String × Nat × MethodName × String) ∈ zNL := List.mem_of_getElem? (i := 12) rfl
theorem zNL_tbl : ∀ q ∈ zNL, Cond.methodLinkNest q.1 q.2.1 q.2.2.1 q.2.2.2 ∈ lw_tbl := by
  intro q hq
  simp only [zNL, List.mem_cons, List.not_mem_nil, or_false] at hq
  rcases hq with rfl | rfl | rfl | rfl | rfl | rfl | rfl | rfl | rfl | rfl | rfl | rfl | rfl | rfl | rfl
  · exact List.mem_of_getElem? m_65
  · exact List.mem_of_getElem? m_76
  · exact List.mem_of_getElem? m_113
  · exact List.mem_of_getElem? m_129
  · exact List.mem_of_getElem? m_134
  · exact List.mem_of_getElem? m_150
  · exact List.mem_of_getElem? m_155
  · exact List.mem_of_getElem? m_195
  · exact List.mem_of_getElem? m_200
  · exact List.mem_of_getElem? m_315
  · exact List.mem_of_getElem? m_365
  · exact List.mem_of_getElem? m_379
  · exact List.mem_of_getElem? m_388
  · exact List.mem_of_getElem? m_409
  · exact List.mem_of_getElem? m_484
/-- the texts of the exceptions: places of the pool of the class -/
def zST : List (Nat × String) := [(61, "x or y is not -24 to 24"), (292, "the pen would not be at -24 to 24"), (299, "the path has 60 points"), (290, "no such region"), (95, "rule is not 0 or 1"), (111, "width or height is not 1 to 64"), (306, "a field would have an x or y that is not -32 to 31"), (126, "operation is not 0 to 3"), (132, "byX or byY is not -64 to 64"), (153, "quarters is not 0 to 3"), (308, "by is not 0 to 8, or kind is not 0 or 1"), (206, "side is not 0 to 3"), (315, "no such contour"), (317, "no such corner"), (240, "no such strip"), (243, "what is not 0 to 3"), (310, "kind is not 0 to 3, every not 1 to 20, or first not -100 to 100")]
